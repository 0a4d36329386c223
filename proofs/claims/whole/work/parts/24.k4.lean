section
variable {d : Nat} {S : pm_T} {Q : Option Value → pm_T → Prop} {an r0n r1n r2n r3n r4n r5n v0n v1n v2n vn xn yn : Nat} {ki r0i r1i r2i r3i r4i v0i v1i v2i v3i v4i v5i vi xi yi : Int32} {l0 l1 l10 l2 l3 l4 l5 l6 l7 l8 l9 v0v v1v v2v : Value} {r0j r1j v0j v1j v2j v3j vj xj yj : Int64} {st : List Value}
/-! 68: ViewsJoins.hidden(III)I -/
theorem dX6_hidden_0 : decode cX6_hidden 0 = .ok (.aload_n 0, 1) := by decide +kernel
theorem dX6_hidden_1 : decode cX6_hidden 1 = .ok (.iload_n 1, 1) := by decide +kernel
theorem dX6_hidden_2 : decode cX6_hidden 2 = .ok (.invokevirtual 56, 3) := by decide +kernel
theorem dX6_hidden_5 : decode cX6_hidden 5 = .ok (.astore 4, 2) := by decide +kernel
theorem dX6_hidden_7 : decode cX6_hidden 7 = .ok (.aload 4, 2) := by decide +kernel
theorem dX6_hidden_9 : decode cX6_hidden 9 = .ok (.ifnull 21, 3) := by decide +kernel
theorem dX6_hidden_12 : decode cX6_hidden 12 = .ok (.aload 4, 2) := by decide +kernel
theorem dX6_hidden_14 : decode cX6_hidden 14 = .ok (.getfield 60, 3) := by decide +kernel
theorem dX6_hidden_17 : decode cX6_hidden 17 = .ok (.iconst 1, 1) := by decide +kernel
theorem dX6_hidden_18 : decode cX6_hidden 18 = .ok (.if_icmp .ne 12, 3) := by decide +kernel
theorem dX6_hidden_21 : decode cX6_hidden 21 = .ok (.iload_n 3, 1) := by decide +kernel
theorem dX6_hidden_22 : decode cX6_hidden 22 = .ok (.ifCond .lt 8, 3) := by decide +kernel
theorem dX6_hidden_25 : decode cX6_hidden 25 = .ok (.iload_n 3, 1) := by decide +kernel
theorem dX6_hidden_26 : decode cX6_hidden 26 = .ok (.iconst 2, 1) := by decide +kernel
theorem dX6_hidden_27 : decode cX6_hidden 27 = .ok (.if_icmp .le 6, 3) := by decide +kernel
theorem dX6_hidden_30 : decode cX6_hidden 30 = .ok (.ldc 42, 2) := by decide +kernel
theorem dX6_hidden_32 : decode cX6_hidden 32 = .ok (.ireturn, 1) := by decide +kernel
theorem dX6_hidden_33 : decode cX6_hidden 33 = .ok (.aload_n 0, 1) := by decide +kernel
theorem dX6_hidden_34 : decode cX6_hidden 34 = .ok (.aload 4, 2) := by decide +kernel
theorem dX6_hidden_36 : decode cX6_hidden 36 = .ok (.invokevirtual 122, 3) := by decide +kernel
theorem dX6_hidden_39 : decode cX6_hidden 39 = .ok (.ifCond .eq 6, 3) := by decide +kernel
theorem dX6_hidden_42 : decode cX6_hidden 42 = .ok (.ldc 126, 2) := by decide +kernel
theorem dX6_hidden_44 : decode cX6_hidden 44 = .ok (.ireturn, 1) := by decide +kernel
theorem dX6_hidden_45 : decode cX6_hidden 45 = .ok (.aload 4, 2) := by decide +kernel
theorem dX6_hidden_47 : decode cX6_hidden 47 = .ok (.getfield 130, 3) := by decide +kernel
theorem dX6_hidden_50 : decode cX6_hidden 50 = .ok (.astore 5, 2) := by decide +kernel
theorem dX6_hidden_52 : decode cX6_hidden 52 = .ok (.iload_n 2, 1) := by decide +kernel
theorem dX6_hidden_53 : decode cX6_hidden 53 = .ok (.ifCond .lt 12, 3) := by decide +kernel
theorem dX6_hidden_56 : decode cX6_hidden 56 = .ok (.iload_n 2, 1) := by decide +kernel
theorem dX6_hidden_57 : decode cX6_hidden 57 = .ok (.aload 5, 2) := by decide +kernel
theorem dX6_hidden_59 : decode cX6_hidden 59 = .ok (.getfield 134, 3) := by decide +kernel
theorem dX6_hidden_62 : decode cX6_hidden 62 = .ok (.if_icmp .lt 6, 3) := by decide +kernel
theorem dX6_hidden_65 : decode cX6_hidden 65 = .ok (.ldc 152, 2) := by decide +kernel
theorem dX6_hidden_67 : decode cX6_hidden 67 = .ok (.ireturn, 1) := by decide +kernel
theorem dX6_hidden_68 : decode cX6_hidden 68 = .ok (.iload_n 3, 1) := by decide +kernel
theorem dX6_hidden_69 : decode cX6_hidden 69 = .ok (.ifCond .ne 11, 3) := by decide +kernel
theorem dX6_hidden_72 : decode cX6_hidden 72 = .ok (.aload 5, 2) := by decide +kernel
theorem dX6_hidden_74 : decode cX6_hidden 74 = .ok (.getfield 157, 3) := by decide +kernel
theorem dX6_hidden_77 : decode cX6_hidden 77 = .ok (.iload_n 2, 1) := by decide +kernel
theorem dX6_hidden_78 : decode cX6_hidden 78 = .ok (.iaload, 1) := by decide +kernel
theorem dX6_hidden_79 : decode cX6_hidden 79 = .ok (.ireturn, 1) := by decide +kernel
theorem dX6_hidden_80 : decode cX6_hidden 80 = .ok (.iload_n 3, 1) := by decide +kernel
theorem dX6_hidden_81 : decode cX6_hidden 81 = .ok (.iconst 1, 1) := by decide +kernel
theorem dX6_hidden_82 : decode cX6_hidden 82 = .ok (.if_icmp .ne 13, 3) := by decide +kernel
theorem dX6_hidden_85 : decode cX6_hidden 85 = .ok (.aload 5, 2) := by decide +kernel
theorem dX6_hidden_87 : decode cX6_hidden 87 = .ok (.getfield 160, 3) := by decide +kernel
theorem dX6_hidden_90 : decode cX6_hidden 90 = .ok (.iload_n 2, 1) := by decide +kernel
theorem dX6_hidden_91 : decode cX6_hidden 91 = .ok (.iaload, 1) := by decide +kernel
theorem dX6_hidden_92 : decode cX6_hidden 92 = .ok (.goto 10, 3) := by decide +kernel
theorem dX6_hidden_95 : decode cX6_hidden 95 = .ok (.aload 5, 2) := by decide +kernel
theorem dX6_hidden_97 : decode cX6_hidden 97 = .ok (.getfield 163, 3) := by decide +kernel
theorem dX6_hidden_100 : decode cX6_hidden 100 = .ok (.iload_n 2, 1) := by decide +kernel
theorem dX6_hidden_101 : decode cX6_hidden 101 = .ok (.iaload, 1) := by decide +kernel
theorem dX6_hidden_102 : decode cX6_hidden 102 = .ok (.ireturn, 1) := by decide +kernel
theorem q68_0 : pm_V d 68 0 [.ref xn, l1, l2, l3, l4, l5] st S Q = pm_V d 68 1 [.ref xn, l1, l2, l3, l4, l5] (.ref xn :: st) S Q := pv_aload_n (pm_cdi rfl dX6_hidden_0) rfl
theorem q68_1 : pm_V d 68 1 [l0, .int xi, l2, l3, l4, l5] st S Q = pm_V d 68 2 [l0, .int xi, l2, l3, l4, l5] (.int xi :: st) S Q := pv_iload_n (pm_cdi rfl dX6_hidden_1) rfl
theorem q68_2 (hs : pm_sh S an = .inr 6) : pm_V (d + 1) 68 2 [l0, l1, l2, l3, l4, l5] [.int v0i, .ref an] S Q = pm_N d 75 [.ref an, .int v0i] S (fun r S' => pm_V (d + 1) 68 5 [l0, l1, l2, l3, l4, l5] (r.toList ++ []) S' Q) := pv_callV (as := [.int v0i]) (pm_cdi rfl dX6_hidden_2) (Or.inl (by decide +kernel)) (by decide +kernel) (show _ = _ from (by decide +kernel : 1 = pm_np 75)) rfl (Nat.le_of_ble_eq_true rfl) (cl := 6) (by decide +kernel) hs
theorem q68_5 : pm_V d 68 5 [l0, l1, l2, .int yi, l4, l5] (.ref xn :: st) S Q = pm_V d 68 7 [l0, l1, l2, .int yi, .ref xn, l5] st S Q := pv_astore (pm_cdi rfl dX6_hidden_5) rfl
theorem q68_5N : pm_V d 68 5 [l0, l1, l2, .int yi, l4, l5] (.null :: st) S Q = pm_V d 68 7 [l0, l1, l2, .int yi, .null, l5] st S Q := pv_astoreN (pm_cdi rfl dX6_hidden_5) rfl
theorem q68_7 : pm_V d 68 7 [l0, l1, l2, l3, .ref xn, l5] st S Q = pm_V d 68 9 [l0, l1, l2, l3, .ref xn, l5] (.ref xn :: st) S Q := pv_aload (pm_cdi rfl dX6_hidden_7) rfl
theorem q68_7N : pm_V d 68 7 [l0, l1, l2, l3, .null, l5] st S Q = pm_V d 68 9 [l0, l1, l2, l3, .null, l5] (.null :: st) S Q := pv_aloadN (pm_cdi rfl dX6_hidden_7) rfl
theorem q68_9 : pm_V d 68 9 [l0, l1, l2, l3, l4, l5] (.ref xn :: st) S Q = pm_V d 68 12 [l0, l1, l2, l3, l4, l5] st S Q := pv_ifnullA (pm_cdi rfl dX6_hidden_9)
theorem q68_9N : pm_V d 68 9 [l0, l1, l2, l3, l4, l5] (.null :: st) S Q = pm_V d 68 30 [l0, l1, l2, l3, l4, l5] st S Q := pv_ifnullN (pm_cdi rfl dX6_hidden_9) rfl
theorem q68_12 : pm_V d 68 12 [l0, l1, l2, l3, .ref xn, l5] st S Q = pm_V d 68 14 [l0, l1, l2, l3, .ref xn, l5] (.ref xn :: st) S Q := pv_aload (pm_cdi rfl dX6_hidden_12) rfl
theorem q68_12N : pm_V d 68 12 [l0, l1, l2, l3, .null, l5] st S Q = pm_V d 68 14 [l0, l1, l2, l3, .null, l5] (.null :: st) S Q := pv_aloadN (pm_cdi rfl dX6_hidden_12) rfl
theorem q68_14 (hs : pm_sh S an = .inr 0) : pm_V d 68 14 [l0, l1, l2, l3, l4, l5] (.ref an :: st) S Q = pm_V d 68 17 [l0, l1, l2, l3, l4, l5] (.int (pm_gi S an 6) :: st) S Q := pv_getI (pm_cdi rfl dX6_hidden_14) (by decide +kernel) (by decide +kernel) (by decide +kernel) hs
theorem q68_17 : pm_V d 68 17 [l0, l1, l2, l3, l4, l5] st S Q = pm_V d 68 18 [l0, l1, l2, l3, l4, l5] (.int 1 :: st) S Q := pv_iconst (pm_cdi rfl dX6_hidden_17) (by decide +kernel)
theorem q68_18 : pm_V d 68 18 [l0, l1, l2, l3, l4, l5] (.int yi :: .int xi :: st) S Q = if xi = yi then pm_V d 68 21 [l0, l1, l2, l3, l4, l5] st S Q else pm_V d 68 30 [l0, l1, l2, l3, l4, l5] st S Q := pv_icmp_ne (pm_cdi rfl dX6_hidden_18) rfl
theorem q68_21 : pm_V d 68 21 [l0, l1, l2, .int xi, l4, l5] st S Q = pm_V d 68 22 [l0, l1, l2, .int xi, l4, l5] (.int xi :: st) S Q := pv_iload_n (pm_cdi rfl dX6_hidden_21) rfl
theorem q68_22 : pm_V d 68 22 [l0, l1, l2, l3, l4, l5] (.int xi :: st) S Q = if xi < 0 then pm_V d 68 30 [l0, l1, l2, l3, l4, l5] st S Q else pm_V d 68 25 [l0, l1, l2, l3, l4, l5] st S Q := pv_if_lt (pm_cdi rfl dX6_hidden_22) rfl
theorem q68_25 : pm_V d 68 25 [l0, l1, l2, .int xi, l4, l5] st S Q = pm_V d 68 26 [l0, l1, l2, .int xi, l4, l5] (.int xi :: st) S Q := pv_iload_n (pm_cdi rfl dX6_hidden_25) rfl
theorem q68_26 : pm_V d 68 26 [l0, l1, l2, l3, l4, l5] st S Q = pm_V d 68 27 [l0, l1, l2, l3, l4, l5] (.int 2 :: st) S Q := pv_iconst (pm_cdi rfl dX6_hidden_26) (by decide +kernel)
theorem q68_27 : pm_V d 68 27 [l0, l1, l2, l3, l4, l5] (.int yi :: .int xi :: st) S Q = if xi ≤ yi then pm_V d 68 33 [l0, l1, l2, l3, l4, l5] st S Q else pm_V d 68 30 [l0, l1, l2, l3, l4, l5] st S Q := pv_icmp_le (pm_cdi rfl dX6_hidden_27) rfl
theorem q68_30 : pm_V d 68 30 [l0, l1, l2, l3, l4, l5] st S Q = pm_V d 68 32 [l0, l1, l2, l3, l4, l5] (.int (-1000001) :: st) S Q := pv_ldc (pm_cdi rfl dX6_hidden_30) (by decide +kernel)
theorem q68_32 : pm_V d 68 32 [l0, l1, l2, l3, l4, l5] [.int xi] S Q = Q (some (.int xi)) S := pv_rI (pm_cdi rfl dX6_hidden_32) (by decide +kernel)
theorem q68_33 : pm_V d 68 33 [.ref xn, l1, l2, l3, l4, l5] st S Q = pm_V d 68 34 [.ref xn, l1, l2, l3, l4, l5] (.ref xn :: st) S Q := pv_aload_n (pm_cdi rfl dX6_hidden_33) rfl
theorem q68_34 : pm_V d 68 34 [l0, l1, l2, l3, .ref xn, l5] st S Q = pm_V d 68 36 [l0, l1, l2, l3, .ref xn, l5] (.ref xn :: st) S Q := pv_aload (pm_cdi rfl dX6_hidden_34) rfl
theorem q68_34N : pm_V d 68 34 [l0, l1, l2, l3, .null, l5] st S Q = pm_V d 68 36 [l0, l1, l2, l3, .null, l5] (.null :: st) S Q := pv_aloadN (pm_cdi rfl dX6_hidden_34) rfl
theorem q68_36 (hs : pm_sh S an = .inr 6) : pm_V (d + 1) 68 36 [l0, l1, l2, l3, l4, l5] [v0v, .ref an] S Q = pm_N d 84 [.ref an, v0v] S (fun r S' => pm_V (d + 1) 68 39 [l0, l1, l2, l3, l4, l5] (r.toList ++ []) S' Q) := pv_callV (as := [v0v]) (pm_cdi rfl dX6_hidden_36) (Or.inl (by decide +kernel)) (by decide +kernel) (show _ = _ from (by decide +kernel : 1 = pm_np 84)) rfl (Nat.le_of_ble_eq_true rfl) (cl := 6) (by decide +kernel) hs
theorem q68_39 : pm_V d 68 39 [l0, l1, l2, l3, l4, l5] (.int xi :: st) S Q = if xi = 0 then pm_V d 68 45 [l0, l1, l2, l3, l4, l5] st S Q else pm_V d 68 42 [l0, l1, l2, l3, l4, l5] st S Q := pv_if_eq (pm_cdi rfl dX6_hidden_39) rfl
theorem q68_42 : pm_V d 68 42 [l0, l1, l2, l3, l4, l5] st S Q = pm_V d 68 44 [l0, l1, l2, l3, l4, l5] (.int (-1000003) :: st) S Q := pv_ldc (pm_cdi rfl dX6_hidden_42) (by decide +kernel)
theorem q68_44 : pm_V d 68 44 [l0, l1, l2, l3, l4, l5] [.int xi] S Q = Q (some (.int xi)) S := pv_rI (pm_cdi rfl dX6_hidden_44) (by decide +kernel)
theorem q68_45 : pm_V d 68 45 [l0, l1, l2, l3, .ref xn, l5] st S Q = pm_V d 68 47 [l0, l1, l2, l3, .ref xn, l5] (.ref xn :: st) S Q := pv_aload (pm_cdi rfl dX6_hidden_45) rfl
theorem q68_45N : pm_V d 68 45 [l0, l1, l2, l3, .null, l5] st S Q = pm_V d 68 47 [l0, l1, l2, l3, .null, l5] (.null :: st) S Q := pv_aloadN (pm_cdi rfl dX6_hidden_45) rfl
theorem q68_47 (hs : pm_sh S an = .inr 0) : pm_V d 68 47 [l0, l1, l2, l3, l4, l5] (.ref an :: st) S Q = pm_V d 68 50 [l0, l1, l2, l3, l4, l5] (va_rf (pm_gr S an 4) :: st) S Q := pv_getA (pm_cdi rfl dX6_hidden_47) (by decide +kernel) (by decide +kernel) (by decide +kernel) hs
theorem q68_50 : pm_V d 68 50 [l0, l1, l2, l3, .ref yn, l5] (.ref xn :: st) S Q = pm_V d 68 52 [l0, l1, l2, l3, .ref yn, .ref xn] st S Q := pv_astore (pm_cdi rfl dX6_hidden_50) rfl
theorem q68_50N : pm_V d 68 50 [l0, l1, l2, l3, .ref yn, l5] (.null :: st) S Q = pm_V d 68 52 [l0, l1, l2, l3, .ref yn, .null] st S Q := pv_astoreN (pm_cdi rfl dX6_hidden_50) rfl
theorem q68_52 : pm_V d 68 52 [l0, l1, .int xi, l3, l4, l5] st S Q = pm_V d 68 53 [l0, l1, .int xi, l3, l4, l5] (.int xi :: st) S Q := pv_iload_n (pm_cdi rfl dX6_hidden_52) rfl
theorem q68_53 : pm_V d 68 53 [l0, l1, l2, l3, l4, l5] (.int xi :: st) S Q = if xi < 0 then pm_V d 68 65 [l0, l1, l2, l3, l4, l5] st S Q else pm_V d 68 56 [l0, l1, l2, l3, l4, l5] st S Q := pv_if_lt (pm_cdi rfl dX6_hidden_53) rfl
theorem q68_56 : pm_V d 68 56 [l0, l1, .int xi, l3, l4, l5] st S Q = pm_V d 68 57 [l0, l1, .int xi, l3, l4, l5] (.int xi :: st) S Q := pv_iload_n (pm_cdi rfl dX6_hidden_56) rfl
theorem q68_57 : pm_V d 68 57 [l0, l1, l2, l3, l4, .ref xn] st S Q = pm_V d 68 59 [l0, l1, l2, l3, l4, .ref xn] (.ref xn :: st) S Q := pv_aload (pm_cdi rfl dX6_hidden_57) rfl
theorem q68_57N : pm_V d 68 57 [l0, l1, l2, l3, l4, .null] st S Q = pm_V d 68 59 [l0, l1, l2, l3, l4, .null] (.null :: st) S Q := pv_aloadN (pm_cdi rfl dX6_hidden_57) rfl
theorem q68_59 (hs : pm_sh S an = .inr 2) : pm_V d 68 59 [l0, l1, l2, l3, l4, l5] (.ref an :: st) S Q = pm_V d 68 62 [l0, l1, l2, l3, l4, l5] (.int (pm_gi S an 3) :: st) S Q := pv_getI (pm_cdi rfl dX6_hidden_59) (by decide +kernel) (by decide +kernel) (by decide +kernel) hs
theorem q68_62 : pm_V d 68 62 [l0, l1, l2, l3, l4, l5] (.int yi :: .int xi :: st) S Q = if xi < yi then pm_V d 68 68 [l0, l1, l2, l3, l4, l5] st S Q else pm_V d 68 65 [l0, l1, l2, l3, l4, l5] st S Q := pv_icmp_lt (pm_cdi rfl dX6_hidden_62) rfl
theorem q68_65 : pm_V d 68 65 [l0, l1, l2, l3, l4, l5] st S Q = pm_V d 68 67 [l0, l1, l2, l3, l4, l5] (.int (-1000004) :: st) S Q := pv_ldc (pm_cdi rfl dX6_hidden_65) (by decide +kernel)
theorem q68_67 : pm_V d 68 67 [l0, l1, l2, l3, l4, l5] [.int xi] S Q = Q (some (.int xi)) S := pv_rI (pm_cdi rfl dX6_hidden_67) (by decide +kernel)
theorem q68_68 : pm_V d 68 68 [l0, l1, l2, .int xi, l4, l5] st S Q = pm_V d 68 69 [l0, l1, l2, .int xi, l4, l5] (.int xi :: st) S Q := pv_iload_n (pm_cdi rfl dX6_hidden_68) rfl
theorem q68_69 : pm_V d 68 69 [l0, l1, l2, l3, l4, l5] (.int xi :: st) S Q = if xi = 0 then pm_V d 68 72 [l0, l1, l2, l3, l4, l5] st S Q else pm_V d 68 80 [l0, l1, l2, l3, l4, l5] st S Q := pv_if_ne (pm_cdi rfl dX6_hidden_69) rfl
theorem q68_72 : pm_V d 68 72 [l0, l1, l2, l3, l4, .ref xn] st S Q = pm_V d 68 74 [l0, l1, l2, l3, l4, .ref xn] (.ref xn :: st) S Q := pv_aload (pm_cdi rfl dX6_hidden_72) rfl
theorem q68_72N : pm_V d 68 72 [l0, l1, l2, l3, l4, .null] st S Q = pm_V d 68 74 [l0, l1, l2, l3, l4, .null] (.null :: st) S Q := pv_aloadN (pm_cdi rfl dX6_hidden_72) rfl
theorem q68_74 (hs : pm_sh S an = .inr 2) : pm_V d 68 74 [l0, l1, l2, l3, l4, l5] (.ref an :: st) S Q = pm_V d 68 77 [l0, l1, l2, l3, l4, l5] (va_rf (pm_gr S an 0) :: st) S Q := pv_getA (pm_cdi rfl dX6_hidden_74) (by decide +kernel) (by decide +kernel) (by decide +kernel) hs
theorem q68_77 : pm_V d 68 77 [l0, l1, .int xi, l3, l4, l5] st S Q = pm_V d 68 78 [l0, l1, .int xi, l3, l4, l5] (.int xi :: st) S Q := pv_iload_n (pm_cdi rfl dX6_hidden_77) rfl
theorem q68_78 (hs : pm_ar S an 0 xi = true) : pm_V d 68 78 [l0, l1, l2, l3, l4, l5] (.int xi :: .ref an :: st) S Q = pm_V d 68 79 [l0, l1, l2, l3, l4, l5] (.int (pm_zi S an xi.toNatClampNeg) :: st) S Q := pv_iald (pm_cdi rfl dX6_hidden_78) hs
theorem q68_79 : pm_V d 68 79 [l0, l1, l2, l3, l4, l5] [.int xi] S Q = Q (some (.int xi)) S := pv_rI (pm_cdi rfl dX6_hidden_79) (by decide +kernel)
theorem q68_80 : pm_V d 68 80 [l0, l1, l2, .int xi, l4, l5] st S Q = pm_V d 68 81 [l0, l1, l2, .int xi, l4, l5] (.int xi :: st) S Q := pv_iload_n (pm_cdi rfl dX6_hidden_80) rfl
theorem q68_81 : pm_V d 68 81 [l0, l1, l2, l3, l4, l5] st S Q = pm_V d 68 82 [l0, l1, l2, l3, l4, l5] (.int 1 :: st) S Q := pv_iconst (pm_cdi rfl dX6_hidden_81) (by decide +kernel)
theorem q68_82 : pm_V d 68 82 [l0, l1, l2, l3, l4, l5] (.int yi :: .int xi :: st) S Q = if xi = yi then pm_V d 68 85 [l0, l1, l2, l3, l4, l5] st S Q else pm_V d 68 95 [l0, l1, l2, l3, l4, l5] st S Q := pv_icmp_ne (pm_cdi rfl dX6_hidden_82) rfl
theorem q68_85 : pm_V d 68 85 [l0, l1, l2, l3, l4, .ref xn] st S Q = pm_V d 68 87 [l0, l1, l2, l3, l4, .ref xn] (.ref xn :: st) S Q := pv_aload (pm_cdi rfl dX6_hidden_85) rfl
theorem q68_85N : pm_V d 68 85 [l0, l1, l2, l3, l4, .null] st S Q = pm_V d 68 87 [l0, l1, l2, l3, l4, .null] (.null :: st) S Q := pv_aloadN (pm_cdi rfl dX6_hidden_85) rfl
theorem q68_87 (hs : pm_sh S an = .inr 2) : pm_V d 68 87 [l0, l1, l2, l3, l4, l5] (.ref an :: st) S Q = pm_V d 68 90 [l0, l1, l2, l3, l4, l5] (va_rf (pm_gr S an 1) :: st) S Q := pv_getA (pm_cdi rfl dX6_hidden_87) (by decide +kernel) (by decide +kernel) (by decide +kernel) hs
theorem q68_90 : pm_V d 68 90 [l0, l1, .int xi, l3, l4, l5] st S Q = pm_V d 68 91 [l0, l1, .int xi, l3, l4, l5] (.int xi :: st) S Q := pv_iload_n (pm_cdi rfl dX6_hidden_90) rfl
theorem q68_91 (hs : pm_ar S an 0 xi = true) : pm_V d 68 91 [l0, l1, l2, l3, l4, l5] (.int xi :: .ref an :: st) S Q = pm_V d 68 92 [l0, l1, l2, l3, l4, l5] (.int (pm_zi S an xi.toNatClampNeg) :: st) S Q := pv_iald (pm_cdi rfl dX6_hidden_91) hs
theorem q68_92 : pm_V d 68 92 [l0, l1, l2, l3, l4, l5] st S Q = pm_V d 68 102 [l0, l1, l2, l3, l4, l5] st S Q := pv_goto (pm_cdi rfl dX6_hidden_92) rfl
theorem q68_95 : pm_V d 68 95 [l0, l1, l2, l3, l4, .ref xn] st S Q = pm_V d 68 97 [l0, l1, l2, l3, l4, .ref xn] (.ref xn :: st) S Q := pv_aload (pm_cdi rfl dX6_hidden_95) rfl
theorem q68_95N : pm_V d 68 95 [l0, l1, l2, l3, l4, .null] st S Q = pm_V d 68 97 [l0, l1, l2, l3, l4, .null] (.null :: st) S Q := pv_aloadN (pm_cdi rfl dX6_hidden_95) rfl
theorem q68_97 (hs : pm_sh S an = .inr 2) : pm_V d 68 97 [l0, l1, l2, l3, l4, l5] (.ref an :: st) S Q = pm_V d 68 100 [l0, l1, l2, l3, l4, l5] (va_rf (pm_gr S an 2) :: st) S Q := pv_getA (pm_cdi rfl dX6_hidden_97) (by decide +kernel) (by decide +kernel) (by decide +kernel) hs
theorem q68_100 : pm_V d 68 100 [l0, l1, .int xi, l3, l4, l5] st S Q = pm_V d 68 101 [l0, l1, .int xi, l3, l4, l5] (.int xi :: st) S Q := pv_iload_n (pm_cdi rfl dX6_hidden_100) rfl
theorem q68_101 (hs : pm_ar S an 0 xi = true) : pm_V d 68 101 [l0, l1, l2, l3, l4, l5] (.int xi :: .ref an :: st) S Q = pm_V d 68 102 [l0, l1, l2, l3, l4, l5] (.int (pm_zi S an xi.toNatClampNeg) :: st) S Q := pv_iald (pm_cdi rfl dX6_hidden_101) hs
theorem q68_102 : pm_V d 68 102 [l0, l1, l2, l3, l4, l5] [.int xi] S Q = Q (some (.int xi)) S := pv_rI (pm_cdi rfl dX6_hidden_102) (by decide +kernel)
theorem q68_e : pm_N d 68 [.ref an, .int v0i, .int v1i, .int v2i] S Q = pm_V d 68 0 [.ref an, .int v0i, .int v1i, .int v2i, pm_j, pm_j] [] S Q := pv_ent (Nat.le_of_ble_eq_true rfl) rfl
/-! 69: ViewsJoins.same(II)I -/
theorem dX6_same_0 : decode cX6_same 0 = .ok (.aload_n 0, 1) := by decide +kernel
theorem dX6_same_1 : decode cX6_same 1 = .ok (.iload_n 1, 1) := by decide +kernel
theorem dX6_same_2 : decode cX6_same 2 = .ok (.invokevirtual 56, 3) := by decide +kernel
theorem dX6_same_5 : decode cX6_same 5 = .ok (.astore_n 3, 1) := by decide +kernel
theorem dX6_same_6 : decode cX6_same 6 = .ok (.aload_n 0, 1) := by decide +kernel
theorem dX6_same_7 : decode cX6_same 7 = .ok (.iload_n 2, 1) := by decide +kernel
theorem dX6_same_8 : decode cX6_same 8 = .ok (.invokevirtual 56, 3) := by decide +kernel
theorem dX6_same_11 : decode cX6_same 11 = .ok (.astore 4, 2) := by decide +kernel
theorem dX6_same_13 : decode cX6_same 13 = .ok (.aload_n 3, 1) := by decide +kernel
theorem dX6_same_14 : decode cX6_same 14 = .ok (.ifnull 8, 3) := by decide +kernel
theorem dX6_same_17 : decode cX6_same 17 = .ok (.aload 4, 2) := by decide +kernel
theorem dX6_same_19 : decode cX6_same 19 = .ok (.ifnonnull 6, 3) := by decide +kernel
theorem dX6_same_22 : decode cX6_same 22 = .ok (.ldc 42, 2) := by decide +kernel
theorem dX6_same_24 : decode cX6_same 24 = .ok (.ireturn, 1) := by decide +kernel
theorem dX6_same_25 : decode cX6_same 25 = .ok (.aload_n 0, 1) := by decide +kernel
theorem dX6_same_26 : decode cX6_same 26 = .ok (.aload_n 3, 1) := by decide +kernel
theorem dX6_same_27 : decode cX6_same 27 = .ok (.invokevirtual 122, 3) := by decide +kernel
theorem dX6_same_30 : decode cX6_same 30 = .ok (.ifCond .ne 12, 3) := by decide +kernel
theorem dX6_same_33 : decode cX6_same 33 = .ok (.aload_n 0, 1) := by decide +kernel
theorem dX6_same_34 : decode cX6_same 34 = .ok (.aload 4, 2) := by decide +kernel
theorem dX6_same_36 : decode cX6_same 36 = .ok (.invokevirtual 122, 3) := by decide +kernel
theorem dX6_same_39 : decode cX6_same 39 = .ok (.ifCond .eq 6, 3) := by decide +kernel
theorem dX6_same_42 : decode cX6_same 42 = .ok (.ldc 126, 2) := by decide +kernel
theorem dX6_same_44 : decode cX6_same 44 = .ok (.ireturn, 1) := by decide +kernel
theorem dX6_same_45 : decode cX6_same 45 = .ok (.aload_n 3, 1) := by decide +kernel
theorem dX6_same_46 : decode cX6_same 46 = .ok (.aload 4, 2) := by decide +kernel
theorem dX6_same_48 : decode cX6_same 48 = .ok (.invokevirtual 166, 3) := by decide +kernel
theorem dX6_same_51 : decode cX6_same 51 = .ok (.ifCond .eq 7, 3) := by decide +kernel
theorem dX6_same_54 : decode cX6_same 54 = .ok (.iconst 1, 1) := by decide +kernel
theorem dX6_same_55 : decode cX6_same 55 = .ok (.goto 4, 3) := by decide +kernel
theorem dX6_same_58 : decode cX6_same 58 = .ok (.iconst 0, 1) := by decide +kernel
theorem dX6_same_59 : decode cX6_same 59 = .ok (.ireturn, 1) := by decide +kernel
theorem q69_0 : pm_V d 69 0 [.ref xn, l1, l2, l3, l4] st S Q = pm_V d 69 1 [.ref xn, l1, l2, l3, l4] (.ref xn :: st) S Q := pv_aload_n (pm_cdi rfl dX6_same_0) rfl
theorem q69_1 : pm_V d 69 1 [l0, .int xi, l2, l3, l4] st S Q = pm_V d 69 2 [l0, .int xi, l2, l3, l4] (.int xi :: st) S Q := pv_iload_n (pm_cdi rfl dX6_same_1) rfl
theorem q69_2 (hs : pm_sh S an = .inr 6) : pm_V (d + 1) 69 2 [l0, l1, l2, l3, l4] [.int v0i, .ref an] S Q = pm_N d 75 [.ref an, .int v0i] S (fun r S' => pm_V (d + 1) 69 5 [l0, l1, l2, l3, l4] (r.toList ++ []) S' Q) := pv_callV (as := [.int v0i]) (pm_cdi rfl dX6_same_2) (Or.inl (by decide +kernel)) (by decide +kernel) (show _ = _ from (by decide +kernel : 1 = pm_np 75)) rfl (Nat.le_of_ble_eq_true rfl) (cl := 6) (by decide +kernel) hs
theorem q69_5 : pm_V d 69 5 [l0, l1, .int yi, l3, l4] (.ref xn :: st) S Q = pm_V d 69 6 [l0, l1, .int yi, .ref xn, l4] st S Q := pv_astore_n (pm_cdi rfl dX6_same_5) rfl
theorem q69_5N : pm_V d 69 5 [l0, l1, .int yi, l3, l4] (.null :: st) S Q = pm_V d 69 6 [l0, l1, .int yi, .null, l4] st S Q := pv_astore_nN (pm_cdi rfl dX6_same_5) rfl
theorem q69_6 : pm_V d 69 6 [.ref xn, l1, l2, l3, l4] st S Q = pm_V d 69 7 [.ref xn, l1, l2, l3, l4] (.ref xn :: st) S Q := pv_aload_n (pm_cdi rfl dX6_same_6) rfl
theorem q69_7 : pm_V d 69 7 [l0, l1, .int xi, l3, l4] st S Q = pm_V d 69 8 [l0, l1, .int xi, l3, l4] (.int xi :: st) S Q := pv_iload_n (pm_cdi rfl dX6_same_7) rfl
theorem q69_8 (hs : pm_sh S an = .inr 6) : pm_V (d + 1) 69 8 [l0, l1, l2, l3, l4] [.int v0i, .ref an] S Q = pm_N d 75 [.ref an, .int v0i] S (fun r S' => pm_V (d + 1) 69 11 [l0, l1, l2, l3, l4] (r.toList ++ []) S' Q) := pv_callV (as := [.int v0i]) (pm_cdi rfl dX6_same_8) (Or.inl (by decide +kernel)) (by decide +kernel) (show _ = _ from (by decide +kernel : 1 = pm_np 75)) rfl (Nat.le_of_ble_eq_true rfl) (cl := 6) (by decide +kernel) hs
theorem q69_11 : pm_V d 69 11 [l0, l1, l2, .ref yn, l4] (.ref xn :: st) S Q = pm_V d 69 13 [l0, l1, l2, .ref yn, .ref xn] st S Q := pv_astore (pm_cdi rfl dX6_same_11) rfl
theorem q69_11N : pm_V d 69 11 [l0, l1, l2, .ref yn, l4] (.null :: st) S Q = pm_V d 69 13 [l0, l1, l2, .ref yn, .null] st S Q := pv_astoreN (pm_cdi rfl dX6_same_11) rfl
theorem q69_13 : pm_V d 69 13 [l0, l1, l2, .ref xn, l4] st S Q = pm_V d 69 14 [l0, l1, l2, .ref xn, l4] (.ref xn :: st) S Q := pv_aload_n (pm_cdi rfl dX6_same_13) rfl
theorem q69_13N : pm_V d 69 13 [l0, l1, l2, .null, l4] st S Q = pm_V d 69 14 [l0, l1, l2, .null, l4] (.null :: st) S Q := pv_aload_nN (pm_cdi rfl dX6_same_13) rfl
theorem q69_14 : pm_V d 69 14 [l0, l1, l2, l3, l4] (.ref xn :: st) S Q = pm_V d 69 17 [l0, l1, l2, l3, l4] st S Q := pv_ifnullA (pm_cdi rfl dX6_same_14)
theorem q69_14N : pm_V d 69 14 [l0, l1, l2, l3, l4] (.null :: st) S Q = pm_V d 69 22 [l0, l1, l2, l3, l4] st S Q := pv_ifnullN (pm_cdi rfl dX6_same_14) rfl
theorem q69_17 : pm_V d 69 17 [l0, l1, l2, l3, .ref xn] st S Q = pm_V d 69 19 [l0, l1, l2, l3, .ref xn] (.ref xn :: st) S Q := pv_aload (pm_cdi rfl dX6_same_17) rfl
theorem q69_17N : pm_V d 69 17 [l0, l1, l2, l3, .null] st S Q = pm_V d 69 19 [l0, l1, l2, l3, .null] (.null :: st) S Q := pv_aloadN (pm_cdi rfl dX6_same_17) rfl
theorem q69_19 : pm_V d 69 19 [l0, l1, l2, l3, l4] (.ref xn :: st) S Q = pm_V d 69 25 [l0, l1, l2, l3, l4] st S Q := pv_ifnonA (pm_cdi rfl dX6_same_19) rfl
theorem q69_19N : pm_V d 69 19 [l0, l1, l2, l3, l4] (.null :: st) S Q = pm_V d 69 22 [l0, l1, l2, l3, l4] st S Q := pv_ifnonN (pm_cdi rfl dX6_same_19)
theorem q69_22 : pm_V d 69 22 [l0, l1, l2, l3, l4] st S Q = pm_V d 69 24 [l0, l1, l2, l3, l4] (.int (-1000001) :: st) S Q := pv_ldc (pm_cdi rfl dX6_same_22) (by decide +kernel)
theorem q69_24 : pm_V d 69 24 [l0, l1, l2, l3, l4] [.int xi] S Q = Q (some (.int xi)) S := pv_rI (pm_cdi rfl dX6_same_24) (by decide +kernel)
theorem q69_25 : pm_V d 69 25 [.ref xn, l1, l2, l3, l4] st S Q = pm_V d 69 26 [.ref xn, l1, l2, l3, l4] (.ref xn :: st) S Q := pv_aload_n (pm_cdi rfl dX6_same_25) rfl
theorem q69_26 : pm_V d 69 26 [l0, l1, l2, .ref xn, l4] st S Q = pm_V d 69 27 [l0, l1, l2, .ref xn, l4] (.ref xn :: st) S Q := pv_aload_n (pm_cdi rfl dX6_same_26) rfl
theorem q69_26N : pm_V d 69 26 [l0, l1, l2, .null, l4] st S Q = pm_V d 69 27 [l0, l1, l2, .null, l4] (.null :: st) S Q := pv_aload_nN (pm_cdi rfl dX6_same_26) rfl
theorem q69_27 (hs : pm_sh S an = .inr 6) : pm_V (d + 1) 69 27 [l0, l1, l2, l3, l4] [v0v, .ref an] S Q = pm_N d 84 [.ref an, v0v] S (fun r S' => pm_V (d + 1) 69 30 [l0, l1, l2, l3, l4] (r.toList ++ []) S' Q) := pv_callV (as := [v0v]) (pm_cdi rfl dX6_same_27) (Or.inl (by decide +kernel)) (by decide +kernel) (show _ = _ from (by decide +kernel : 1 = pm_np 84)) rfl (Nat.le_of_ble_eq_true rfl) (cl := 6) (by decide +kernel) hs
theorem q69_30 : pm_V d 69 30 [l0, l1, l2, l3, l4] (.int xi :: st) S Q = if xi = 0 then pm_V d 69 33 [l0, l1, l2, l3, l4] st S Q else pm_V d 69 42 [l0, l1, l2, l3, l4] st S Q := pv_if_ne (pm_cdi rfl dX6_same_30) rfl
theorem q69_33 : pm_V d 69 33 [.ref xn, l1, l2, l3, l4] st S Q = pm_V d 69 34 [.ref xn, l1, l2, l3, l4] (.ref xn :: st) S Q := pv_aload_n (pm_cdi rfl dX6_same_33) rfl
theorem q69_34 : pm_V d 69 34 [l0, l1, l2, l3, .ref xn] st S Q = pm_V d 69 36 [l0, l1, l2, l3, .ref xn] (.ref xn :: st) S Q := pv_aload (pm_cdi rfl dX6_same_34) rfl
theorem q69_34N : pm_V d 69 34 [l0, l1, l2, l3, .null] st S Q = pm_V d 69 36 [l0, l1, l2, l3, .null] (.null :: st) S Q := pv_aloadN (pm_cdi rfl dX6_same_34) rfl
theorem q69_36 (hs : pm_sh S an = .inr 6) : pm_V (d + 1) 69 36 [l0, l1, l2, l3, l4] [v0v, .ref an] S Q = pm_N d 84 [.ref an, v0v] S (fun r S' => pm_V (d + 1) 69 39 [l0, l1, l2, l3, l4] (r.toList ++ []) S' Q) := pv_callV (as := [v0v]) (pm_cdi rfl dX6_same_36) (Or.inl (by decide +kernel)) (by decide +kernel) (show _ = _ from (by decide +kernel : 1 = pm_np 84)) rfl (Nat.le_of_ble_eq_true rfl) (cl := 6) (by decide +kernel) hs
theorem q69_39 : pm_V d 69 39 [l0, l1, l2, l3, l4] (.int xi :: st) S Q = if xi = 0 then pm_V d 69 45 [l0, l1, l2, l3, l4] st S Q else pm_V d 69 42 [l0, l1, l2, l3, l4] st S Q := pv_if_eq (pm_cdi rfl dX6_same_39) rfl
theorem q69_42 : pm_V d 69 42 [l0, l1, l2, l3, l4] st S Q = pm_V d 69 44 [l0, l1, l2, l3, l4] (.int (-1000003) :: st) S Q := pv_ldc (pm_cdi rfl dX6_same_42) (by decide +kernel)
theorem q69_44 : pm_V d 69 44 [l0, l1, l2, l3, l4] [.int xi] S Q = Q (some (.int xi)) S := pv_rI (pm_cdi rfl dX6_same_44) (by decide +kernel)
theorem q69_45 : pm_V d 69 45 [l0, l1, l2, .ref xn, l4] st S Q = pm_V d 69 46 [l0, l1, l2, .ref xn, l4] (.ref xn :: st) S Q := pv_aload_n (pm_cdi rfl dX6_same_45) rfl
theorem q69_45N : pm_V d 69 45 [l0, l1, l2, .null, l4] st S Q = pm_V d 69 46 [l0, l1, l2, .null, l4] (.null :: st) S Q := pv_aload_nN (pm_cdi rfl dX6_same_45) rfl
theorem q69_46 : pm_V d 69 46 [l0, l1, l2, l3, .ref xn] st S Q = pm_V d 69 48 [l0, l1, l2, l3, .ref xn] (.ref xn :: st) S Q := pv_aload (pm_cdi rfl dX6_same_46) rfl
theorem q69_46N : pm_V d 69 46 [l0, l1, l2, l3, .null] st S Q = pm_V d 69 48 [l0, l1, l2, l3, .null] (.null :: st) S Q := pv_aloadN (pm_cdi rfl dX6_same_46) rfl
theorem q69_48 (hs : pm_sh S an = .inr 0) : pm_V (d + 1) 69 48 [l0, l1, l2, l3, l4] [v0v, .ref an] S Q = pm_N d 11 [.ref an, v0v] S (fun r S' => pm_V (d + 1) 69 51 [l0, l1, l2, l3, l4] (r.toList ++ []) S' Q) := pv_callV (as := [v0v]) (pm_cdi rfl dX6_same_48) (Or.inl (by decide +kernel)) (by decide +kernel) (show _ = _ from (by decide +kernel : 1 = pm_np 11)) rfl (Nat.le_of_ble_eq_true rfl) (cl := 0) (by decide +kernel) hs
theorem q69_51 : pm_V d 69 51 [l0, l1, l2, l3, l4] (.int xi :: st) S Q = if xi = 0 then pm_V d 69 58 [l0, l1, l2, l3, l4] st S Q else pm_V d 69 54 [l0, l1, l2, l3, l4] st S Q := pv_if_eq (pm_cdi rfl dX6_same_51) rfl
theorem q69_54 : pm_V d 69 54 [l0, l1, l2, l3, l4] st S Q = pm_V d 69 55 [l0, l1, l2, l3, l4] (.int 1 :: st) S Q := pv_iconst (pm_cdi rfl dX6_same_54) (by decide +kernel)
theorem q69_55 : pm_V d 69 55 [l0, l1, l2, l3, l4] st S Q = pm_V d 69 59 [l0, l1, l2, l3, l4] st S Q := pv_goto (pm_cdi rfl dX6_same_55) rfl
theorem q69_58 : pm_V d 69 58 [l0, l1, l2, l3, l4] st S Q = pm_V d 69 59 [l0, l1, l2, l3, l4] (.int 0 :: st) S Q := pv_iconst (pm_cdi rfl dX6_same_58) (by decide +kernel)
theorem q69_59 : pm_V d 69 59 [l0, l1, l2, l3, l4] [.int xi] S Q = Q (some (.int xi)) S := pv_rI (pm_cdi rfl dX6_same_59) (by decide +kernel)
theorem q69_e : pm_N d 69 [.ref an, .int v0i, .int v1i] S Q = pm_V d 69 0 [.ref an, .int v0i, .int v1i, pm_j, pm_j] [] S Q := pv_ent (Nat.le_of_ble_eq_true rfl) rfl
/-! 70: ViewsJoins.reach(II)I -/
theorem dX6_reach_0 : decode cX6_reach 0 = .ok (.aload_n 0, 1) := by decide +kernel
theorem dX6_reach_1 : decode cX6_reach 1 = .ok (.iload_n 1, 1) := by decide +kernel
theorem dX6_reach_2 : decode cX6_reach 2 = .ok (.invokevirtual 56, 3) := by decide +kernel
theorem dX6_reach_5 : decode cX6_reach 5 = .ok (.astore_n 3, 1) := by decide +kernel
theorem dX6_reach_6 : decode cX6_reach 6 = .ok (.aload_n 3, 1) := by decide +kernel
theorem dX6_reach_7 : decode cX6_reach 7 = .ok (.ifnonnull 6, 3) := by decide +kernel
theorem dX6_reach_10 : decode cX6_reach 10 = .ok (.ldc 42, 2) := by decide +kernel
theorem dX6_reach_12 : decode cX6_reach 12 = .ok (.ireturn, 1) := by decide +kernel
theorem dX6_reach_13 : decode cX6_reach 13 = .ok (.aload_n 0, 1) := by decide +kernel
theorem dX6_reach_14 : decode cX6_reach 14 = .ok (.aload_n 3, 1) := by decide +kernel
theorem dX6_reach_15 : decode cX6_reach 15 = .ok (.invokevirtual 122, 3) := by decide +kernel
theorem dX6_reach_18 : decode cX6_reach 18 = .ok (.ifCond .eq 6, 3) := by decide +kernel
theorem dX6_reach_21 : decode cX6_reach 21 = .ok (.ldc 126, 2) := by decide +kernel
theorem dX6_reach_23 : decode cX6_reach 23 = .ok (.ireturn, 1) := by decide +kernel
theorem dX6_reach_24 : decode cX6_reach 24 = .ok (.aload_n 3, 1) := by decide +kernel
theorem dX6_reach_25 : decode cX6_reach 25 = .ok (.getfield 63, 3) := by decide +kernel
theorem dX6_reach_28 : decode cX6_reach 28 = .ok (.iload_n 2, 1) := by decide +kernel
theorem dX6_reach_29 : decode cX6_reach 29 = .ok (.invokevirtual 67, 3) := by decide +kernel
theorem dX6_reach_32 : decode cX6_reach 32 = .ok (.ifCond .eq 11, 3) := by decide +kernel
theorem dX6_reach_35 : decode cX6_reach 35 = .ok (.aload_n 3, 1) := by decide +kernel
theorem dX6_reach_36 : decode cX6_reach 36 = .ok (.iload_n 2, 1) := by decide +kernel
theorem dX6_reach_37 : decode cX6_reach 37 = .ok (.invokevirtual 169, 3) := by decide +kernel
theorem dX6_reach_40 : decode cX6_reach 40 = .ok (.goto 5, 3) := by decide +kernel
theorem dX6_reach_43 : decode cX6_reach 43 = .ok (.ldc 42, 2) := by decide +kernel
theorem dX6_reach_45 : decode cX6_reach 45 = .ok (.ireturn, 1) := by decide +kernel
theorem q70_0 : pm_V d 70 0 [.ref xn, l1, l2, l3] st S Q = pm_V d 70 1 [.ref xn, l1, l2, l3] (.ref xn :: st) S Q := pv_aload_n (pm_cdi rfl dX6_reach_0) rfl
theorem q70_1 : pm_V d 70 1 [l0, .int xi, l2, l3] st S Q = pm_V d 70 2 [l0, .int xi, l2, l3] (.int xi :: st) S Q := pv_iload_n (pm_cdi rfl dX6_reach_1) rfl
theorem q70_2 (hs : pm_sh S an = .inr 6) : pm_V (d + 1) 70 2 [l0, l1, l2, l3] [.int v0i, .ref an] S Q = pm_N d 75 [.ref an, .int v0i] S (fun r S' => pm_V (d + 1) 70 5 [l0, l1, l2, l3] (r.toList ++ []) S' Q) := pv_callV (as := [.int v0i]) (pm_cdi rfl dX6_reach_2) (Or.inl (by decide +kernel)) (by decide +kernel) (show _ = _ from (by decide +kernel : 1 = pm_np 75)) rfl (Nat.le_of_ble_eq_true rfl) (cl := 6) (by decide +kernel) hs
theorem q70_5 : pm_V d 70 5 [l0, l1, .int yi, l3] (.ref xn :: st) S Q = pm_V d 70 6 [l0, l1, .int yi, .ref xn] st S Q := pv_astore_n (pm_cdi rfl dX6_reach_5) rfl
theorem q70_5N : pm_V d 70 5 [l0, l1, .int yi, l3] (.null :: st) S Q = pm_V d 70 6 [l0, l1, .int yi, .null] st S Q := pv_astore_nN (pm_cdi rfl dX6_reach_5) rfl
theorem q70_6 : pm_V d 70 6 [l0, l1, l2, .ref xn] st S Q = pm_V d 70 7 [l0, l1, l2, .ref xn] (.ref xn :: st) S Q := pv_aload_n (pm_cdi rfl dX6_reach_6) rfl
theorem q70_6N : pm_V d 70 6 [l0, l1, l2, .null] st S Q = pm_V d 70 7 [l0, l1, l2, .null] (.null :: st) S Q := pv_aload_nN (pm_cdi rfl dX6_reach_6) rfl
theorem q70_7 : pm_V d 70 7 [l0, l1, l2, l3] (.ref xn :: st) S Q = pm_V d 70 13 [l0, l1, l2, l3] st S Q := pv_ifnonA (pm_cdi rfl dX6_reach_7) rfl
theorem q70_7N : pm_V d 70 7 [l0, l1, l2, l3] (.null :: st) S Q = pm_V d 70 10 [l0, l1, l2, l3] st S Q := pv_ifnonN (pm_cdi rfl dX6_reach_7)
theorem q70_10 : pm_V d 70 10 [l0, l1, l2, l3] st S Q = pm_V d 70 12 [l0, l1, l2, l3] (.int (-1000001) :: st) S Q := pv_ldc (pm_cdi rfl dX6_reach_10) (by decide +kernel)
theorem q70_12 : pm_V d 70 12 [l0, l1, l2, l3] [.int xi] S Q = Q (some (.int xi)) S := pv_rI (pm_cdi rfl dX6_reach_12) (by decide +kernel)
theorem q70_13 : pm_V d 70 13 [.ref xn, l1, l2, l3] st S Q = pm_V d 70 14 [.ref xn, l1, l2, l3] (.ref xn :: st) S Q := pv_aload_n (pm_cdi rfl dX6_reach_13) rfl
theorem q70_14 : pm_V d 70 14 [l0, l1, l2, .ref xn] st S Q = pm_V d 70 15 [l0, l1, l2, .ref xn] (.ref xn :: st) S Q := pv_aload_n (pm_cdi rfl dX6_reach_14) rfl
theorem q70_14N : pm_V d 70 14 [l0, l1, l2, .null] st S Q = pm_V d 70 15 [l0, l1, l2, .null] (.null :: st) S Q := pv_aload_nN (pm_cdi rfl dX6_reach_14) rfl
theorem q70_15 (hs : pm_sh S an = .inr 6) : pm_V (d + 1) 70 15 [l0, l1, l2, l3] [v0v, .ref an] S Q = pm_N d 84 [.ref an, v0v] S (fun r S' => pm_V (d + 1) 70 18 [l0, l1, l2, l3] (r.toList ++ []) S' Q) := pv_callV (as := [v0v]) (pm_cdi rfl dX6_reach_15) (Or.inl (by decide +kernel)) (by decide +kernel) (show _ = _ from (by decide +kernel : 1 = pm_np 84)) rfl (Nat.le_of_ble_eq_true rfl) (cl := 6) (by decide +kernel) hs
theorem q70_18 : pm_V d 70 18 [l0, l1, l2, l3] (.int xi :: st) S Q = if xi = 0 then pm_V d 70 24 [l0, l1, l2, l3] st S Q else pm_V d 70 21 [l0, l1, l2, l3] st S Q := pv_if_eq (pm_cdi rfl dX6_reach_18) rfl
theorem q70_21 : pm_V d 70 21 [l0, l1, l2, l3] st S Q = pm_V d 70 23 [l0, l1, l2, l3] (.int (-1000003) :: st) S Q := pv_ldc (pm_cdi rfl dX6_reach_21) (by decide +kernel)
theorem q70_23 : pm_V d 70 23 [l0, l1, l2, l3] [.int xi] S Q = Q (some (.int xi)) S := pv_rI (pm_cdi rfl dX6_reach_23) (by decide +kernel)
theorem q70_24 : pm_V d 70 24 [l0, l1, l2, .ref xn] st S Q = pm_V d 70 25 [l0, l1, l2, .ref xn] (.ref xn :: st) S Q := pv_aload_n (pm_cdi rfl dX6_reach_24) rfl
theorem q70_24N : pm_V d 70 24 [l0, l1, l2, .null] st S Q = pm_V d 70 25 [l0, l1, l2, .null] (.null :: st) S Q := pv_aload_nN (pm_cdi rfl dX6_reach_24) rfl
theorem q70_25 (hs : pm_sh S an = .inr 0) : pm_V d 70 25 [l0, l1, l2, l3] (.ref an :: st) S Q = pm_V d 70 28 [l0, l1, l2, l3] (va_rf (pm_gr S an 0) :: st) S Q := pv_getA (pm_cdi rfl dX6_reach_25) (by decide +kernel) (by decide +kernel) (by decide +kernel) hs
theorem q70_28 : pm_V d 70 28 [l0, l1, .int xi, l3] st S Q = pm_V d 70 29 [l0, l1, .int xi, l3] (.int xi :: st) S Q := pv_iload_n (pm_cdi rfl dX6_reach_28) rfl
theorem q70_29 (hs : pm_sh S an = .inr 3) : pm_V (d + 1) 70 29 [l0, l1, l2, l3] [.int v0i, .ref an] S Q = pm_N d 20 [.ref an, .int v0i] S (fun r S' => pm_V (d + 1) 70 32 [l0, l1, l2, l3] (r.toList ++ []) S' Q) := pv_callV (as := [.int v0i]) (pm_cdi rfl dX6_reach_29) (Or.inl (by decide +kernel)) (by decide +kernel) (show _ = _ from (by decide +kernel : 1 = pm_np 20)) rfl (Nat.le_of_ble_eq_true rfl) (cl := 3) (by decide +kernel) hs
theorem q70_32 : pm_V d 70 32 [l0, l1, l2, l3] (.int xi :: st) S Q = if xi = 0 then pm_V d 70 43 [l0, l1, l2, l3] st S Q else pm_V d 70 35 [l0, l1, l2, l3] st S Q := pv_if_eq (pm_cdi rfl dX6_reach_32) rfl
theorem q70_35 : pm_V d 70 35 [l0, l1, l2, .ref xn] st S Q = pm_V d 70 36 [l0, l1, l2, .ref xn] (.ref xn :: st) S Q := pv_aload_n (pm_cdi rfl dX6_reach_35) rfl
theorem q70_35N : pm_V d 70 35 [l0, l1, l2, .null] st S Q = pm_V d 70 36 [l0, l1, l2, .null] (.null :: st) S Q := pv_aload_nN (pm_cdi rfl dX6_reach_35) rfl
theorem q70_36 : pm_V d 70 36 [l0, l1, .int xi, l3] st S Q = pm_V d 70 37 [l0, l1, .int xi, l3] (.int xi :: st) S Q := pv_iload_n (pm_cdi rfl dX6_reach_36) rfl
theorem q70_37 (hs : pm_sh S an = .inr 0) : pm_V (d + 1) 70 37 [l0, l1, l2, l3] [.int v0i, .ref an] S Q = pm_N d 10 [.ref an, .int v0i] S (fun r S' => pm_V (d + 1) 70 40 [l0, l1, l2, l3] (r.toList ++ []) S' Q) := pv_callV (as := [.int v0i]) (pm_cdi rfl dX6_reach_37) (Or.inl (by decide +kernel)) (by decide +kernel) (show _ = _ from (by decide +kernel : 1 = pm_np 10)) rfl (Nat.le_of_ble_eq_true rfl) (cl := 0) (by decide +kernel) hs
theorem q70_40 : pm_V d 70 40 [l0, l1, l2, l3] st S Q = pm_V d 70 45 [l0, l1, l2, l3] st S Q := pv_goto (pm_cdi rfl dX6_reach_40) rfl
theorem q70_43 : pm_V d 70 43 [l0, l1, l2, l3] st S Q = pm_V d 70 45 [l0, l1, l2, l3] (.int (-1000001) :: st) S Q := pv_ldc (pm_cdi rfl dX6_reach_43) (by decide +kernel)
theorem q70_45 : pm_V d 70 45 [l0, l1, l2, l3] [.int xi] S Q = Q (some (.int xi)) S := pv_rI (pm_cdi rfl dX6_reach_45) (by decide +kernel)
theorem q70_e : pm_N d 70 [.ref an, .int v0i, .int v1i] S Q = pm_V d 70 0 [.ref an, .int v0i, .int v1i, pm_j] [] S Q := pv_ent (Nat.le_of_ble_eq_true rfl) rfl
/-! 71: ViewsJoins.ask(IIII)I -/
theorem dX6_ask_0 : decode cX6_ask 0 = .ok (.aload_n 0, 1) := by decide +kernel
theorem dX6_ask_1 : decode cX6_ask 1 = .ok (.iload_n 1, 1) := by decide +kernel
theorem dX6_ask_2 : decode cX6_ask 2 = .ok (.invokevirtual 56, 3) := by decide +kernel
theorem dX6_ask_5 : decode cX6_ask 5 = .ok (.astore 5, 2) := by decide +kernel
theorem dX6_ask_7 : decode cX6_ask 7 = .ok (.aload 5, 2) := by decide +kernel
theorem dX6_ask_9 : decode cX6_ask 9 = .ok (.ifnull 22, 3) := by decide +kernel
theorem dX6_ask_12 : decode cX6_ask 12 = .ok (.iload_n 2, 1) := by decide +kernel
theorem dX6_ask_13 : decode cX6_ask 13 = .ok (.invokestatic 83, 3) := by decide +kernel
theorem dX6_ask_16 : decode cX6_ask 16 = .ok (.ifCond .eq 15, 3) := by decide +kernel
theorem dX6_ask_19 : decode cX6_ask 19 = .ok (.aload_n 0, 1) := by decide +kernel
theorem dX6_ask_20 : decode cX6_ask 20 = .ok (.getfield 26, 3) := by decide +kernel
theorem dX6_ask_23 : decode cX6_ask 23 = .ok (.iload 4, 2) := by decide +kernel
theorem dX6_ask_25 : decode cX6_ask 25 = .ok (.invokevirtual 173, 3) := by decide +kernel
theorem dX6_ask_28 : decode cX6_ask 28 = .ok (.ifCond .ne 6, 3) := by decide +kernel
theorem dX6_ask_31 : decode cX6_ask 31 = .ok (.ldc 42, 2) := by decide +kernel
theorem dX6_ask_33 : decode cX6_ask 33 = .ok (.ireturn, 1) := by decide +kernel
theorem dX6_ask_34 : decode cX6_ask 34 = .ok (.aload_n 0, 1) := by decide +kernel
theorem dX6_ask_35 : decode cX6_ask 35 = .ok (.aload 5, 2) := by decide +kernel
theorem dX6_ask_37 : decode cX6_ask 37 = .ok (.invokevirtual 122, 3) := by decide +kernel
theorem dX6_ask_40 : decode cX6_ask 40 = .ok (.ifCond .eq 6, 3) := by decide +kernel
theorem dX6_ask_43 : decode cX6_ask 43 = .ok (.ldc 126, 2) := by decide +kernel
theorem dX6_ask_45 : decode cX6_ask 45 = .ok (.ireturn, 1) := by decide +kernel
theorem dX6_ask_46 : decode cX6_ask 46 = .ok (.aload 5, 2) := by decide +kernel
theorem dX6_ask_48 : decode cX6_ask 48 = .ok (.iload_n 2, 1) := by decide +kernel
theorem dX6_ask_49 : decode cX6_ask 49 = .ok (.invokevirtual 86, 3) := by decide +kernel
theorem dX6_ask_52 : decode cX6_ask 52 = .ok (.iload_n 3, 1) := by decide +kernel
theorem dX6_ask_53 : decode cX6_ask 53 = .ok (.invokevirtual 67, 3) := by decide +kernel
theorem dX6_ask_56 : decode cX6_ask 56 = .ok (.ifCond .ne 6, 3) := by decide +kernel
theorem dX6_ask_59 : decode cX6_ask 59 = .ok (.ldc 42, 2) := by decide +kernel
theorem dX6_ask_61 : decode cX6_ask 61 = .ok (.ireturn, 1) := by decide +kernel
theorem dX6_ask_62 : decode cX6_ask 62 = .ok (.aload_n 0, 1) := by decide +kernel
theorem dX6_ask_63 : decode cX6_ask 63 = .ok (.getfield 26, 3) := by decide +kernel
theorem dX6_ask_66 : decode cX6_ask 66 = .ok (.invokevirtual 174, 3) := by decide +kernel
theorem dX6_ask_69 : decode cX6_ask 69 = .ok (.aload_n 0, 1) := by decide +kernel
theorem dX6_ask_70 : decode cX6_ask 70 = .ok (.getfield 26, 3) := by decide +kernel
theorem dX6_ask_73 : decode cX6_ask 73 = .ok (.aload 5, 2) := by decide +kernel
theorem dX6_ask_75 : decode cX6_ask 75 = .ok (.iload_n 2, 1) := by decide +kernel
theorem dX6_ask_76 : decode cX6_ask 76 = .ok (.iload_n 3, 1) := by decide +kernel
theorem dX6_ask_77 : decode cX6_ask 77 = .ok (.iload 4, 2) := by decide +kernel
theorem dX6_ask_79 : decode cX6_ask 79 = .ok (.iconst 0, 1) := by decide +kernel
theorem dX6_ask_80 : decode cX6_ask 80 = .ok (.invokevirtual 177, 3) := by decide +kernel
theorem dX6_ask_83 : decode cX6_ask 83 = .ok (.istore 6, 2) := by decide +kernel
theorem dX6_ask_85 : decode cX6_ask 85 = .ok (.iload 6, 2) := by decide +kernel
theorem dX6_ask_87 : decode cX6_ask 87 = .ok (.ifCond .ge 11, 3) := by decide +kernel
theorem dX6_ask_90 : decode cX6_ask 90 = .ok (.iload 6, 2) := by decide +kernel
theorem dX6_ask_92 : decode cX6_ask 92 = .ok (.bipush 10, 2) := by decide +kernel
theorem dX6_ask_94 : decode cX6_ask 94 = .ok (.isub, 1) := by decide +kernel
theorem dX6_ask_95 : decode cX6_ask 95 = .ok (.goto 5, 3) := by decide +kernel
theorem dX6_ask_98 : decode cX6_ask 98 = .ok (.iload 6, 2) := by decide +kernel
theorem dX6_ask_100 : decode cX6_ask 100 = .ok (.ireturn, 1) := by decide +kernel
theorem q71_0 : pm_V d 71 0 [.ref xn, l1, l2, l3, l4, l5, l6] st S Q = pm_V d 71 1 [.ref xn, l1, l2, l3, l4, l5, l6] (.ref xn :: st) S Q := pv_aload_n (pm_cdi rfl dX6_ask_0) rfl
theorem q71_1 : pm_V d 71 1 [l0, .int xi, l2, l3, l4, l5, l6] st S Q = pm_V d 71 2 [l0, .int xi, l2, l3, l4, l5, l6] (.int xi :: st) S Q := pv_iload_n (pm_cdi rfl dX6_ask_1) rfl
theorem q71_2 (hs : pm_sh S an = .inr 6) : pm_V (d + 1) 71 2 [l0, l1, l2, l3, l4, l5, l6] [.int v0i, .ref an] S Q = pm_N d 75 [.ref an, .int v0i] S (fun r S' => pm_V (d + 1) 71 5 [l0, l1, l2, l3, l4, l5, l6] (r.toList ++ []) S' Q) := pv_callV (as := [.int v0i]) (pm_cdi rfl dX6_ask_2) (Or.inl (by decide +kernel)) (by decide +kernel) (show _ = _ from (by decide +kernel : 1 = pm_np 75)) rfl (Nat.le_of_ble_eq_true rfl) (cl := 6) (by decide +kernel) hs
theorem q71_5 : pm_V d 71 5 [l0, l1, l2, l3, .int yi, l5, l6] (.ref xn :: st) S Q = pm_V d 71 7 [l0, l1, l2, l3, .int yi, .ref xn, l6] st S Q := pv_astore (pm_cdi rfl dX6_ask_5) rfl
theorem q71_5N : pm_V d 71 5 [l0, l1, l2, l3, .int yi, l5, l6] (.null :: st) S Q = pm_V d 71 7 [l0, l1, l2, l3, .int yi, .null, l6] st S Q := pv_astoreN (pm_cdi rfl dX6_ask_5) rfl
theorem q71_7 : pm_V d 71 7 [l0, l1, l2, l3, l4, .ref xn, l6] st S Q = pm_V d 71 9 [l0, l1, l2, l3, l4, .ref xn, l6] (.ref xn :: st) S Q := pv_aload (pm_cdi rfl dX6_ask_7) rfl
theorem q71_7N : pm_V d 71 7 [l0, l1, l2, l3, l4, .null, l6] st S Q = pm_V d 71 9 [l0, l1, l2, l3, l4, .null, l6] (.null :: st) S Q := pv_aloadN (pm_cdi rfl dX6_ask_7) rfl
theorem q71_9 : pm_V d 71 9 [l0, l1, l2, l3, l4, l5, l6] (.ref xn :: st) S Q = pm_V d 71 12 [l0, l1, l2, l3, l4, l5, l6] st S Q := pv_ifnullA (pm_cdi rfl dX6_ask_9)
theorem q71_9N : pm_V d 71 9 [l0, l1, l2, l3, l4, l5, l6] (.null :: st) S Q = pm_V d 71 31 [l0, l1, l2, l3, l4, l5, l6] st S Q := pv_ifnullN (pm_cdi rfl dX6_ask_9) rfl
theorem q71_12 : pm_V d 71 12 [l0, l1, .int xi, l3, l4, l5, l6] st S Q = pm_V d 71 13 [l0, l1, .int xi, l3, l4, l5, l6] (.int xi :: st) S Q := pv_iload_n (pm_cdi rfl dX6_ask_12) rfl
theorem q71_13 : pm_V (d + 1) 71 13 [l0, l1, l2, l3, l4, l5, l6] [.int v0i] S Q = pm_N d 82 [.int v0i] S (fun r S' => pm_V (d + 1) 71 16 [l0, l1, l2, l3, l4, l5, l6] (r.toList ++ []) S' Q) := pv_callS (as := [.int v0i]) (pm_cdi rfl dX6_ask_13) (by decide +kernel) (by decide +kernel) (show _ = _ from (by decide +kernel : 1 = pm_np 82)) rfl (Nat.le_of_ble_eq_true rfl)
theorem q71_16 : pm_V d 71 16 [l0, l1, l2, l3, l4, l5, l6] (.int xi :: st) S Q = if xi = 0 then pm_V d 71 31 [l0, l1, l2, l3, l4, l5, l6] st S Q else pm_V d 71 19 [l0, l1, l2, l3, l4, l5, l6] st S Q := pv_if_eq (pm_cdi rfl dX6_ask_16) rfl
theorem q71_19 : pm_V d 71 19 [.ref xn, l1, l2, l3, l4, l5, l6] st S Q = pm_V d 71 20 [.ref xn, l1, l2, l3, l4, l5, l6] (.ref xn :: st) S Q := pv_aload_n (pm_cdi rfl dX6_ask_19) rfl
theorem q71_20 (hs : pm_sh S an = .inr 6) : pm_V d 71 20 [l0, l1, l2, l3, l4, l5, l6] (.ref an :: st) S Q = pm_V d 71 23 [l0, l1, l2, l3, l4, l5, l6] (va_rf (pm_gr S an 2) :: st) S Q := pv_getA (pm_cdi rfl dX6_ask_20) (by decide +kernel) (by decide +kernel) (by decide +kernel) hs
theorem q71_23 : pm_V d 71 23 [l0, l1, l2, l3, .int xi, l5, l6] st S Q = pm_V d 71 25 [l0, l1, l2, l3, .int xi, l5, l6] (.int xi :: st) S Q := pv_iload (pm_cdi rfl dX6_ask_23) rfl
theorem q71_25 (hs : pm_sh S an = .inr 5) : pm_V (d + 1) 71 25 [l0, l1, l2, l3, l4, l5, l6] [.int v0i, .ref an] S Q = pm_N d 45 [.ref an, .int v0i] S (fun r S' => pm_V (d + 1) 71 28 [l0, l1, l2, l3, l4, l5, l6] (r.toList ++ []) S' Q) := pv_callV (as := [.int v0i]) (pm_cdi rfl dX6_ask_25) (Or.inl (by decide +kernel)) (by decide +kernel) (show _ = _ from (by decide +kernel : 1 = pm_np 45)) rfl (Nat.le_of_ble_eq_true rfl) (cl := 5) (by decide +kernel) hs
theorem q71_28 : pm_V d 71 28 [l0, l1, l2, l3, l4, l5, l6] (.int xi :: st) S Q = if xi = 0 then pm_V d 71 31 [l0, l1, l2, l3, l4, l5, l6] st S Q else pm_V d 71 34 [l0, l1, l2, l3, l4, l5, l6] st S Q := pv_if_ne (pm_cdi rfl dX6_ask_28) rfl
theorem q71_31 : pm_V d 71 31 [l0, l1, l2, l3, l4, l5, l6] st S Q = pm_V d 71 33 [l0, l1, l2, l3, l4, l5, l6] (.int (-1000001) :: st) S Q := pv_ldc (pm_cdi rfl dX6_ask_31) (by decide +kernel)
theorem q71_33 : pm_V d 71 33 [l0, l1, l2, l3, l4, l5, l6] [.int xi] S Q = Q (some (.int xi)) S := pv_rI (pm_cdi rfl dX6_ask_33) (by decide +kernel)
theorem q71_34 : pm_V d 71 34 [.ref xn, l1, l2, l3, l4, l5, l6] st S Q = pm_V d 71 35 [.ref xn, l1, l2, l3, l4, l5, l6] (.ref xn :: st) S Q := pv_aload_n (pm_cdi rfl dX6_ask_34) rfl
theorem q71_35 : pm_V d 71 35 [l0, l1, l2, l3, l4, .ref xn, l6] st S Q = pm_V d 71 37 [l0, l1, l2, l3, l4, .ref xn, l6] (.ref xn :: st) S Q := pv_aload (pm_cdi rfl dX6_ask_35) rfl
theorem q71_35N : pm_V d 71 35 [l0, l1, l2, l3, l4, .null, l6] st S Q = pm_V d 71 37 [l0, l1, l2, l3, l4, .null, l6] (.null :: st) S Q := pv_aloadN (pm_cdi rfl dX6_ask_35) rfl
theorem q71_37 (hs : pm_sh S an = .inr 6) : pm_V (d + 1) 71 37 [l0, l1, l2, l3, l4, l5, l6] [v0v, .ref an] S Q = pm_N d 84 [.ref an, v0v] S (fun r S' => pm_V (d + 1) 71 40 [l0, l1, l2, l3, l4, l5, l6] (r.toList ++ []) S' Q) := pv_callV (as := [v0v]) (pm_cdi rfl dX6_ask_37) (Or.inl (by decide +kernel)) (by decide +kernel) (show _ = _ from (by decide +kernel : 1 = pm_np 84)) rfl (Nat.le_of_ble_eq_true rfl) (cl := 6) (by decide +kernel) hs
theorem q71_40 : pm_V d 71 40 [l0, l1, l2, l3, l4, l5, l6] (.int xi :: st) S Q = if xi = 0 then pm_V d 71 46 [l0, l1, l2, l3, l4, l5, l6] st S Q else pm_V d 71 43 [l0, l1, l2, l3, l4, l5, l6] st S Q := pv_if_eq (pm_cdi rfl dX6_ask_40) rfl
theorem q71_43 : pm_V d 71 43 [l0, l1, l2, l3, l4, l5, l6] st S Q = pm_V d 71 45 [l0, l1, l2, l3, l4, l5, l6] (.int (-1000003) :: st) S Q := pv_ldc (pm_cdi rfl dX6_ask_43) (by decide +kernel)
theorem q71_45 : pm_V d 71 45 [l0, l1, l2, l3, l4, l5, l6] [.int xi] S Q = Q (some (.int xi)) S := pv_rI (pm_cdi rfl dX6_ask_45) (by decide +kernel)
theorem q71_46 : pm_V d 71 46 [l0, l1, l2, l3, l4, .ref xn, l6] st S Q = pm_V d 71 48 [l0, l1, l2, l3, l4, .ref xn, l6] (.ref xn :: st) S Q := pv_aload (pm_cdi rfl dX6_ask_46) rfl
theorem q71_46N : pm_V d 71 46 [l0, l1, l2, l3, l4, .null, l6] st S Q = pm_V d 71 48 [l0, l1, l2, l3, l4, .null, l6] (.null :: st) S Q := pv_aloadN (pm_cdi rfl dX6_ask_46) rfl
theorem q71_48 : pm_V d 71 48 [l0, l1, .int xi, l3, l4, l5, l6] st S Q = pm_V d 71 49 [l0, l1, .int xi, l3, l4, l5, l6] (.int xi :: st) S Q := pv_iload_n (pm_cdi rfl dX6_ask_48) rfl
theorem q71_49 (hs : pm_sh S an = .inr 0) : pm_V (d + 1) 71 49 [l0, l1, l2, l3, l4, l5, l6] [.int v0i, .ref an] S Q = pm_N d 5 [.ref an, .int v0i] S (fun r S' => pm_V (d + 1) 71 52 [l0, l1, l2, l3, l4, l5, l6] (r.toList ++ []) S' Q) := pv_callV (as := [.int v0i]) (pm_cdi rfl dX6_ask_49) (Or.inl (by decide +kernel)) (by decide +kernel) (show _ = _ from (by decide +kernel : 1 = pm_np 5)) rfl (Nat.le_of_ble_eq_true rfl) (cl := 0) (by decide +kernel) hs
theorem q71_52 : pm_V d 71 52 [l0, l1, l2, .int xi, l4, l5, l6] st S Q = pm_V d 71 53 [l0, l1, l2, .int xi, l4, l5, l6] (.int xi :: st) S Q := pv_iload_n (pm_cdi rfl dX6_ask_52) rfl
theorem q71_53 (hs : pm_sh S an = .inr 3) : pm_V (d + 1) 71 53 [l0, l1, l2, l3, l4, l5, l6] [.int v0i, .ref an] S Q = pm_N d 20 [.ref an, .int v0i] S (fun r S' => pm_V (d + 1) 71 56 [l0, l1, l2, l3, l4, l5, l6] (r.toList ++ []) S' Q) := pv_callV (as := [.int v0i]) (pm_cdi rfl dX6_ask_53) (Or.inl (by decide +kernel)) (by decide +kernel) (show _ = _ from (by decide +kernel : 1 = pm_np 20)) rfl (Nat.le_of_ble_eq_true rfl) (cl := 3) (by decide +kernel) hs
theorem q71_56 : pm_V d 71 56 [l0, l1, l2, l3, l4, l5, l6] (.int xi :: st) S Q = if xi = 0 then pm_V d 71 59 [l0, l1, l2, l3, l4, l5, l6] st S Q else pm_V d 71 62 [l0, l1, l2, l3, l4, l5, l6] st S Q := pv_if_ne (pm_cdi rfl dX6_ask_56) rfl
theorem q71_59 : pm_V d 71 59 [l0, l1, l2, l3, l4, l5, l6] st S Q = pm_V d 71 61 [l0, l1, l2, l3, l4, l5, l6] (.int (-1000001) :: st) S Q := pv_ldc (pm_cdi rfl dX6_ask_59) (by decide +kernel)
theorem q71_61 : pm_V d 71 61 [l0, l1, l2, l3, l4, l5, l6] [.int xi] S Q = Q (some (.int xi)) S := pv_rI (pm_cdi rfl dX6_ask_61) (by decide +kernel)
theorem q71_62 : pm_V d 71 62 [.ref xn, l1, l2, l3, l4, l5, l6] st S Q = pm_V d 71 63 [.ref xn, l1, l2, l3, l4, l5, l6] (.ref xn :: st) S Q := pv_aload_n (pm_cdi rfl dX6_ask_62) rfl
theorem q71_63 (hs : pm_sh S an = .inr 6) : pm_V d 71 63 [l0, l1, l2, l3, l4, l5, l6] (.ref an :: st) S Q = pm_V d 71 66 [l0, l1, l2, l3, l4, l5, l6] (va_rf (pm_gr S an 2) :: st) S Q := pv_getA (pm_cdi rfl dX6_ask_63) (by decide +kernel) (by decide +kernel) (by decide +kernel) hs
theorem q71_66 (hs : pm_sh S an = .inr 5) : pm_V (d + 1) 71 66 [l0, l1, l2, l3, l4, l5, l6] [.ref an] S Q = pm_N d 48 [.ref an] S (fun r S' => pm_V (d + 1) 71 69 [l0, l1, l2, l3, l4, l5, l6] (r.toList ++ []) S' Q) := pv_callV (as := []) (pm_cdi rfl dX6_ask_66) (Or.inl (by decide +kernel)) (by decide +kernel) (show _ = _ from (by decide +kernel : 0 = pm_np 48)) rfl (Nat.le_of_ble_eq_true rfl) (cl := 5) (by decide +kernel) hs
theorem q71_69 : pm_V d 71 69 [.ref xn, l1, l2, l3, l4, l5, l6] st S Q = pm_V d 71 70 [.ref xn, l1, l2, l3, l4, l5, l6] (.ref xn :: st) S Q := pv_aload_n (pm_cdi rfl dX6_ask_69) rfl
theorem q71_70 (hs : pm_sh S an = .inr 6) : pm_V d 71 70 [l0, l1, l2, l3, l4, l5, l6] (.ref an :: st) S Q = pm_V d 71 73 [l0, l1, l2, l3, l4, l5, l6] (va_rf (pm_gr S an 2) :: st) S Q := pv_getA (pm_cdi rfl dX6_ask_70) (by decide +kernel) (by decide +kernel) (by decide +kernel) hs
theorem q71_73 : pm_V d 71 73 [l0, l1, l2, l3, l4, .ref xn, l6] st S Q = pm_V d 71 75 [l0, l1, l2, l3, l4, .ref xn, l6] (.ref xn :: st) S Q := pv_aload (pm_cdi rfl dX6_ask_73) rfl
theorem q71_73N : pm_V d 71 73 [l0, l1, l2, l3, l4, .null, l6] st S Q = pm_V d 71 75 [l0, l1, l2, l3, l4, .null, l6] (.null :: st) S Q := pv_aloadN (pm_cdi rfl dX6_ask_73) rfl
theorem q71_75 : pm_V d 71 75 [l0, l1, .int xi, l3, l4, l5, l6] st S Q = pm_V d 71 76 [l0, l1, .int xi, l3, l4, l5, l6] (.int xi :: st) S Q := pv_iload_n (pm_cdi rfl dX6_ask_75) rfl
theorem q71_76 : pm_V d 71 76 [l0, l1, l2, .int xi, l4, l5, l6] st S Q = pm_V d 71 77 [l0, l1, l2, .int xi, l4, l5, l6] (.int xi :: st) S Q := pv_iload_n (pm_cdi rfl dX6_ask_76) rfl
theorem q71_77 : pm_V d 71 77 [l0, l1, l2, l3, .int xi, l5, l6] st S Q = pm_V d 71 79 [l0, l1, l2, l3, .int xi, l5, l6] (.int xi :: st) S Q := pv_iload (pm_cdi rfl dX6_ask_77) rfl
theorem q71_79 : pm_V d 71 79 [l0, l1, l2, l3, l4, l5, l6] st S Q = pm_V d 71 80 [l0, l1, l2, l3, l4, l5, l6] (.int 0 :: st) S Q := pv_iconst (pm_cdi rfl dX6_ask_79) (by decide +kernel)
theorem q71_80 (hs : pm_sh S an = .inr 5) : pm_V (d + 1) 71 80 [l0, l1, l2, l3, l4, l5, l6] [.int v4i, .int v3i, .int v2i, .int v1i, v0v, .ref an] S Q = pm_N d 49 [.ref an, v0v, .int v1i, .int v2i, .int v3i, .int v4i] S (fun r S' => pm_V (d + 1) 71 83 [l0, l1, l2, l3, l4, l5, l6] (r.toList ++ []) S' Q) := pv_callV (as := [v0v, .int v1i, .int v2i, .int v3i, .int v4i]) (pm_cdi rfl dX6_ask_80) (Or.inr (by decide +kernel)) (by decide +kernel) (show _ = _ from (by decide +kernel : 5 = pm_np 49)) rfl (Nat.le_of_ble_eq_true rfl) (cl := 5) (by decide +kernel) hs
theorem q71_83 : pm_V d 71 83 [l0, l1, l2, l3, l4, .ref yn, l6] (.int xi :: st) S Q = pm_V d 71 85 [l0, l1, l2, l3, l4, .ref yn, .int xi] st S Q := pv_istore (pm_cdi rfl dX6_ask_83) rfl
theorem q71_85 : pm_V d 71 85 [l0, l1, l2, l3, l4, l5, .int xi] st S Q = pm_V d 71 87 [l0, l1, l2, l3, l4, l5, .int xi] (.int xi :: st) S Q := pv_iload (pm_cdi rfl dX6_ask_85) rfl
theorem q71_87 : pm_V d 71 87 [l0, l1, l2, l3, l4, l5, l6] (.int xi :: st) S Q = if xi < 0 then pm_V d 71 90 [l0, l1, l2, l3, l4, l5, l6] st S Q else pm_V d 71 98 [l0, l1, l2, l3, l4, l5, l6] st S Q := pv_if_ge (pm_cdi rfl dX6_ask_87) rfl
theorem q71_90 : pm_V d 71 90 [l0, l1, l2, l3, l4, l5, .int xi] st S Q = pm_V d 71 92 [l0, l1, l2, l3, l4, l5, .int xi] (.int xi :: st) S Q := pv_iload (pm_cdi rfl dX6_ask_90) rfl
theorem q71_92 : pm_V d 71 92 [l0, l1, l2, l3, l4, l5, l6] st S Q = pm_V d 71 94 [l0, l1, l2, l3, l4, l5, l6] (.int 10 :: st) S Q := pv_bipush (pm_cdi rfl dX6_ask_92) (by decide +kernel)
theorem q71_94 : pm_V d 71 94 [l0, l1, l2, l3, l4, l5, l6] (.int yi :: .int xi :: st) S Q = pm_V d 71 95 [l0, l1, l2, l3, l4, l5, l6] (.int (xi - yi) :: st) S Q := pv_isub (pm_cdi rfl dX6_ask_94)
theorem q71_95 : pm_V d 71 95 [l0, l1, l2, l3, l4, l5, l6] st S Q = pm_V d 71 100 [l0, l1, l2, l3, l4, l5, l6] st S Q := pv_goto (pm_cdi rfl dX6_ask_95) rfl
theorem q71_98 : pm_V d 71 98 [l0, l1, l2, l3, l4, l5, .int xi] st S Q = pm_V d 71 100 [l0, l1, l2, l3, l4, l5, .int xi] (.int xi :: st) S Q := pv_iload (pm_cdi rfl dX6_ask_98) rfl
theorem q71_100 : pm_V d 71 100 [l0, l1, l2, l3, l4, l5, l6] [.int xi] S Q = Q (some (.int xi)) S := pv_rI (pm_cdi rfl dX6_ask_100) (by decide +kernel)
theorem q71_e : pm_N d 71 [.ref an, .int v0i, .int v1i, .int v2i, .int v3i] S Q = pm_V d 71 0 [.ref an, .int v0i, .int v1i, .int v2i, .int v3i, pm_j, pm_j] [] S Q := pv_ent (Nat.le_of_ble_eq_true rfl) rfl
/-! 72: ViewsJoins.count(I)I -/
theorem dX6_count_0 : decode cX6_count 0 = .ok (.iload_n 1, 1) := by decide +kernel
theorem dX6_count_1 : decode cX6_count 1 = .ok (.ifCond .ne 8, 3) := by decide +kernel
theorem dX6_count_4 : decode cX6_count 4 = .ok (.aload_n 0, 1) := by decide +kernel
theorem dX6_count_5 : decode cX6_count 5 = .ok (.getfield 32, 3) := by decide +kernel
theorem dX6_count_8 : decode cX6_count 8 = .ok (.ireturn, 1) := by decide +kernel
theorem dX6_count_9 : decode cX6_count 9 = .ok (.iload_n 1, 1) := by decide +kernel
theorem dX6_count_10 : decode cX6_count 10 = .ok (.iconst 1, 1) := by decide +kernel
theorem dX6_count_11 : decode cX6_count 11 = .ok (.if_icmp .ne 11, 3) := by decide +kernel
theorem dX6_count_14 : decode cX6_count 14 = .ok (.aload_n 0, 1) := by decide +kernel
theorem dX6_count_15 : decode cX6_count 15 = .ok (.getfield 26, 3) := by decide +kernel
theorem dX6_count_18 : decode cX6_count 18 = .ok (.getfield 103, 3) := by decide +kernel
theorem dX6_count_21 : decode cX6_count 21 = .ok (.ireturn, 1) := by decide +kernel
theorem dX6_count_22 : decode cX6_count 22 = .ok (.iload_n 1, 1) := by decide +kernel
theorem dX6_count_23 : decode cX6_count 23 = .ok (.iconst 2, 1) := by decide +kernel
theorem dX6_count_24 : decode cX6_count 24 = .ok (.if_icmp .ne 10, 3) := by decide +kernel
theorem dX6_count_27 : decode cX6_count 27 = .ok (.aload_n 0, 1) := by decide +kernel
theorem dX6_count_28 : decode cX6_count 28 = .ok (.invokevirtual 181, 3) := by decide +kernel
theorem dX6_count_31 : decode cX6_count 31 = .ok (.goto 5, 3) := by decide +kernel
theorem dX6_count_34 : decode cX6_count 34 = .ok (.ldc 42, 2) := by decide +kernel
theorem dX6_count_36 : decode cX6_count 36 = .ok (.ireturn, 1) := by decide +kernel
theorem q72_0 : pm_V d 72 0 [l0, .int xi] st S Q = pm_V d 72 1 [l0, .int xi] (.int xi :: st) S Q := pv_iload_n (pm_cdi rfl dX6_count_0) rfl
theorem q72_1 : pm_V d 72 1 [l0, l1] (.int xi :: st) S Q = if xi = 0 then pm_V d 72 4 [l0, l1] st S Q else pm_V d 72 9 [l0, l1] st S Q := pv_if_ne (pm_cdi rfl dX6_count_1) rfl
theorem q72_4 : pm_V d 72 4 [.ref xn, l1] st S Q = pm_V d 72 5 [.ref xn, l1] (.ref xn :: st) S Q := pv_aload_n (pm_cdi rfl dX6_count_4) rfl
theorem q72_5 (hs : pm_sh S an = .inr 6) : pm_V d 72 5 [l0, l1] (.ref an :: st) S Q = pm_V d 72 8 [l0, l1] (.int (pm_gi S an 4) :: st) S Q := pv_getI (pm_cdi rfl dX6_count_5) (by decide +kernel) (by decide +kernel) (by decide +kernel) hs
theorem q72_8 : pm_V d 72 8 [l0, l1] [.int xi] S Q = Q (some (.int xi)) S := pv_rI (pm_cdi rfl dX6_count_8) (by decide +kernel)
theorem q72_9 : pm_V d 72 9 [l0, .int xi] st S Q = pm_V d 72 10 [l0, .int xi] (.int xi :: st) S Q := pv_iload_n (pm_cdi rfl dX6_count_9) rfl
theorem q72_10 : pm_V d 72 10 [l0, l1] st S Q = pm_V d 72 11 [l0, l1] (.int 1 :: st) S Q := pv_iconst (pm_cdi rfl dX6_count_10) (by decide +kernel)
theorem q72_11 : pm_V d 72 11 [l0, l1] (.int yi :: .int xi :: st) S Q = if xi = yi then pm_V d 72 14 [l0, l1] st S Q else pm_V d 72 22 [l0, l1] st S Q := pv_icmp_ne (pm_cdi rfl dX6_count_11) rfl
theorem q72_14 : pm_V d 72 14 [.ref xn, l1] st S Q = pm_V d 72 15 [.ref xn, l1] (.ref xn :: st) S Q := pv_aload_n (pm_cdi rfl dX6_count_14) rfl
theorem q72_15 (hs : pm_sh S an = .inr 6) : pm_V d 72 15 [l0, l1] (.ref an :: st) S Q = pm_V d 72 18 [l0, l1] (va_rf (pm_gr S an 2) :: st) S Q := pv_getA (pm_cdi rfl dX6_count_15) (by decide +kernel) (by decide +kernel) (by decide +kernel) hs
theorem q72_18 (hs : pm_sh S an = .inr 5) : pm_V d 72 18 [l0, l1] (.ref an :: st) S Q = pm_V d 72 21 [l0, l1] (.int (pm_gi S an 4) :: st) S Q := pv_getI (pm_cdi rfl dX6_count_18) (by decide +kernel) (by decide +kernel) (by decide +kernel) hs
theorem q72_21 : pm_V d 72 21 [l0, l1] [.int xi] S Q = Q (some (.int xi)) S := pv_rI (pm_cdi rfl dX6_count_21) (by decide +kernel)
theorem q72_22 : pm_V d 72 22 [l0, .int xi] st S Q = pm_V d 72 23 [l0, .int xi] (.int xi :: st) S Q := pv_iload_n (pm_cdi rfl dX6_count_22) rfl
theorem q72_23 : pm_V d 72 23 [l0, l1] st S Q = pm_V d 72 24 [l0, l1] (.int 2 :: st) S Q := pv_iconst (pm_cdi rfl dX6_count_23) (by decide +kernel)
theorem q72_24 : pm_V d 72 24 [l0, l1] (.int yi :: .int xi :: st) S Q = if xi = yi then pm_V d 72 27 [l0, l1] st S Q else pm_V d 72 34 [l0, l1] st S Q := pv_icmp_ne (pm_cdi rfl dX6_count_24) rfl
theorem q72_27 : pm_V d 72 27 [.ref xn, l1] st S Q = pm_V d 72 28 [.ref xn, l1] (.ref xn :: st) S Q := pv_aload_n (pm_cdi rfl dX6_count_27) rfl
theorem q72_28 (hs : pm_sh S an = .inr 6) : pm_V (d + 1) 72 28 [l0, l1] [.ref an] S Q = pm_N d 77 [.ref an] S (fun r S' => pm_V (d + 1) 72 31 [l0, l1] (r.toList ++ []) S' Q) := pv_callV (as := []) (pm_cdi rfl dX6_count_28) (Or.inl (by decide +kernel)) (by decide +kernel) (show _ = _ from (by decide +kernel : 0 = pm_np 77)) rfl (Nat.le_of_ble_eq_true rfl) (cl := 6) (by decide +kernel) hs
theorem q72_31 : pm_V d 72 31 [l0, l1] st S Q = pm_V d 72 36 [l0, l1] st S Q := pv_goto (pm_cdi rfl dX6_count_31) rfl
theorem q72_34 : pm_V d 72 34 [l0, l1] st S Q = pm_V d 72 36 [l0, l1] (.int (-1000001) :: st) S Q := pv_ldc (pm_cdi rfl dX6_count_34) (by decide +kernel)
theorem q72_36 : pm_V d 72 36 [l0, l1] [.int xi] S Q = Q (some (.int xi)) S := pv_rI (pm_cdi rfl dX6_count_36) (by decide +kernel)
theorem q72_e : pm_N d 72 [.ref an, .int v0i] S Q = pm_V d 72 0 [.ref an, .int v0i] [] S Q := pv_ent (Nat.le_of_ble_eq_true rfl) rfl
/-! 73: ViewsJoins.clear()I -/
theorem dX6_clear_0 : decode cX6_clear 0 = .ok (.aload_n 0, 1) := by decide +kernel
theorem dX6_clear_1 : decode cX6_clear 1 = .ok (.getfield 32, 3) := by decide +kernel
theorem dX6_clear_4 : decode cX6_clear 4 = .ok (.istore_n 1, 1) := by decide +kernel
theorem dX6_clear_5 : decode cX6_clear 5 = .ok (.aload_n 0, 1) := by decide +kernel
theorem dX6_clear_6 : decode cX6_clear 6 = .ok (.iconst 0, 1) := by decide +kernel
theorem dX6_clear_7 : decode cX6_clear 7 = .ok (.putfield 32, 3) := by decide +kernel
theorem dX6_clear_10 : decode cX6_clear 10 = .ok (.aload_n 0, 1) := by decide +kernel
theorem dX6_clear_11 : decode cX6_clear 11 = .ok (.getfield 26, 3) := by decide +kernel
theorem dX6_clear_14 : decode cX6_clear 14 = .ok (.iconst 0, 1) := by decide +kernel
theorem dX6_clear_15 : decode cX6_clear 15 = .ok (.putfield 103, 3) := by decide +kernel
theorem dX6_clear_18 : decode cX6_clear 18 = .ok (.aload_n 0, 1) := by decide +kernel
theorem dX6_clear_19 : decode cX6_clear 19 = .ok (.invokevirtual 39, 3) := by decide +kernel
theorem dX6_clear_22 : decode cX6_clear 22 = .ok (.aload_n 0, 1) := by decide +kernel
theorem dX6_clear_23 : decode cX6_clear 23 = .ok (.dup, 1) := by decide +kernel
theorem dX6_clear_24 : decode cX6_clear 24 = .ok (.getfield 36, 3) := by decide +kernel
theorem dX6_clear_27 : decode cX6_clear 27 = .ok (.iconst 1, 1) := by decide +kernel
theorem dX6_clear_28 : decode cX6_clear 28 = .ok (.iadd, 1) := by decide +kernel
theorem dX6_clear_29 : decode cX6_clear 29 = .ok (.putfield 36, 3) := by decide +kernel
theorem dX6_clear_32 : decode cX6_clear 32 = .ok (.iload_n 1, 1) := by decide +kernel
theorem dX6_clear_33 : decode cX6_clear 33 = .ok (.ireturn, 1) := by decide +kernel
theorem q73_0 : pm_V d 73 0 [.ref xn, l1] st S Q = pm_V d 73 1 [.ref xn, l1] (.ref xn :: st) S Q := pv_aload_n (pm_cdi rfl dX6_clear_0) rfl
theorem q73_1 (hs : pm_sh S an = .inr 6) : pm_V d 73 1 [l0, l1] (.ref an :: st) S Q = pm_V d 73 4 [l0, l1] (.int (pm_gi S an 4) :: st) S Q := pv_getI (pm_cdi rfl dX6_clear_1) (by decide +kernel) (by decide +kernel) (by decide +kernel) hs
theorem q73_4 : pm_V d 73 4 [.ref yn, l1] (.int xi :: st) S Q = pm_V d 73 5 [.ref yn, .int xi] st S Q := pv_istore_n (pm_cdi rfl dX6_clear_4) rfl
theorem q73_5 : pm_V d 73 5 [.ref xn, l1] st S Q = pm_V d 73 6 [.ref xn, l1] (.ref xn :: st) S Q := pv_aload_n (pm_cdi rfl dX6_clear_5) rfl
theorem q73_6 : pm_V d 73 6 [l0, l1] st S Q = pm_V d 73 7 [l0, l1] (.int 0 :: st) S Q := pv_iconst (pm_cdi rfl dX6_clear_6) (by decide +kernel)
theorem q73_7 (hs : pm_sh S an = .inr 6) : pm_V d 73 7 [l0, l1] (.int xi :: .ref an :: st) S Q = pm_V d 73 10 [l0, l1] st (pm_sgi S an 4 xi) Q := pv_putI (pm_cdi rfl dX6_clear_7) (by decide +kernel) (by decide +kernel) (by decide +kernel) hs
theorem q73_10 : pm_V d 73 10 [.ref xn, l1] st S Q = pm_V d 73 11 [.ref xn, l1] (.ref xn :: st) S Q := pv_aload_n (pm_cdi rfl dX6_clear_10) rfl
theorem q73_11 (hs : pm_sh S an = .inr 6) : pm_V d 73 11 [l0, l1] (.ref an :: st) S Q = pm_V d 73 14 [l0, l1] (va_rf (pm_gr S an 2) :: st) S Q := pv_getA (pm_cdi rfl dX6_clear_11) (by decide +kernel) (by decide +kernel) (by decide +kernel) hs
theorem q73_14 : pm_V d 73 14 [l0, l1] st S Q = pm_V d 73 15 [l0, l1] (.int 0 :: st) S Q := pv_iconst (pm_cdi rfl dX6_clear_14) (by decide +kernel)
theorem q73_15 (hs : pm_sh S an = .inr 5) : pm_V d 73 15 [l0, l1] (.int xi :: .ref an :: st) S Q = pm_V d 73 18 [l0, l1] st (pm_sgi S an 4 xi) Q := pv_putI (pm_cdi rfl dX6_clear_15) (by decide +kernel) (by decide +kernel) (by decide +kernel) hs
theorem q73_18 : pm_V d 73 18 [.ref xn, l1] st S Q = pm_V d 73 19 [.ref xn, l1] (.ref xn :: st) S Q := pv_aload_n (pm_cdi rfl dX6_clear_18) rfl
theorem q73_19 (hs : pm_sh S an = .inr 6) : pm_V (d + 1) 73 19 [l0, l1] [.ref an] S Q = pm_N d 74 [.ref an] S (fun r S' => pm_V (d + 1) 73 22 [l0, l1] (r.toList ++ []) S' Q) := pv_callV (as := []) (pm_cdi rfl dX6_clear_19) (Or.inl (by decide +kernel)) (by decide +kernel) (show _ = _ from (by decide +kernel : 0 = pm_np 74)) rfl (Nat.le_of_ble_eq_true rfl) (cl := 6) (by decide +kernel) hs
theorem q73_22 : pm_V d 73 22 [.ref xn, l1] st S Q = pm_V d 73 23 [.ref xn, l1] (.ref xn :: st) S Q := pv_aload_n (pm_cdi rfl dX6_clear_22) rfl
theorem q73_23 : pm_V d 73 23 [l0, l1] (.ref xn :: st) S Q = pm_V d 73 24 [l0, l1] (.ref xn :: .ref xn :: st) S Q := pv_dupA (pm_cdi rfl dX6_clear_23)
theorem q73_24 (hs : pm_sh S an = .inr 6) : pm_V d 73 24 [l0, l1] (.ref an :: st) S Q = pm_V d 73 27 [l0, l1] (.int (pm_gi S an 5) :: st) S Q := pv_getI (pm_cdi rfl dX6_clear_24) (by decide +kernel) (by decide +kernel) (by decide +kernel) hs
theorem q73_27 : pm_V d 73 27 [l0, l1] st S Q = pm_V d 73 28 [l0, l1] (.int 1 :: st) S Q := pv_iconst (pm_cdi rfl dX6_clear_27) (by decide +kernel)
theorem q73_28 : pm_V d 73 28 [l0, l1] (.int yi :: .int xi :: st) S Q = pm_V d 73 29 [l0, l1] (.int (xi + yi) :: st) S Q := pv_iadd (pm_cdi rfl dX6_clear_28)
theorem q73_29 (hs : pm_sh S an = .inr 6) : pm_V d 73 29 [l0, l1] (.int xi :: .ref an :: st) S Q = pm_V d 73 32 [l0, l1] st (pm_sgi S an 5 xi) Q := pv_putI (pm_cdi rfl dX6_clear_29) (by decide +kernel) (by decide +kernel) (by decide +kernel) hs
theorem q73_32 : pm_V d 73 32 [l0, .int xi] st S Q = pm_V d 73 33 [l0, .int xi] (.int xi :: st) S Q := pv_iload_n (pm_cdi rfl dX6_clear_32) rfl
theorem q73_33 : pm_V d 73 33 [l0, l1] [.int xi] S Q = Q (some (.int xi)) S := pv_rI (pm_cdi rfl dX6_clear_33) (by decide +kernel)
theorem q73_e : pm_N d 73 [.ref an] S Q = pm_V d 73 0 [.ref an, pm_j] [] S Q := pv_ent (Nat.le_of_ble_eq_true rfl) rfl
/-! 74: ViewsJoins.removeLabels()V -/
theorem dX6_removeLabels_0 : decode cX6_removeLabels 0 = .ok (.iconst 0, 1) := by decide +kernel
theorem dX6_removeLabels_1 : decode cX6_removeLabels 1 = .ok (.istore_n 1, 1) := by decide +kernel
theorem dX6_removeLabels_2 : decode cX6_removeLabels 2 = .ok (.iload_n 1, 1) := by decide +kernel
theorem dX6_removeLabels_3 : decode cX6_removeLabels 3 = .ok (.iconst 4, 1) := by decide +kernel
theorem dX6_removeLabels_4 : decode cX6_removeLabels 4 = .ok (.if_icmp .ge 32, 3) := by decide +kernel
theorem dX6_removeLabels_7 : decode cX6_removeLabels 7 = .ok (.iconst 0, 1) := by decide +kernel
theorem dX6_removeLabels_8 : decode cX6_removeLabels 8 = .ok (.istore_n 2, 1) := by decide +kernel
theorem dX6_removeLabels_9 : decode cX6_removeLabels 9 = .ok (.iload_n 2, 1) := by decide +kernel
theorem dX6_removeLabels_10 : decode cX6_removeLabels 10 = .ok (.bipush 40, 2) := by decide +kernel
theorem dX6_removeLabels_12 : decode cX6_removeLabels 12 = .ok (.if_icmp .ge 18, 3) := by decide +kernel
theorem dX6_removeLabels_15 : decode cX6_removeLabels 15 = .ok (.aload_n 0, 1) := by decide +kernel
theorem dX6_removeLabels_16 : decode cX6_removeLabels 16 = .ok (.getfield 31, 3) := by decide +kernel
theorem dX6_removeLabels_19 : decode cX6_removeLabels 19 = .ok (.iload_n 1, 1) := by decide +kernel
theorem dX6_removeLabels_20 : decode cX6_removeLabels 20 = .ok (.aaload, 1) := by decide +kernel
theorem dX6_removeLabels_21 : decode cX6_removeLabels 21 = .ok (.iload_n 2, 1) := by decide +kernel
theorem dX6_removeLabels_22 : decode cX6_removeLabels 22 = .ok (.iconst (-1), 1) := by decide +kernel
theorem dX6_removeLabels_23 : decode cX6_removeLabels 23 = .ok (.iastore, 1) := by decide +kernel
theorem dX6_removeLabels_24 : decode cX6_removeLabels 24 = .ok (.iinc 2 1, 3) := by decide +kernel
theorem dX6_removeLabels_27 : decode cX6_removeLabels 27 = .ok (.goto (-18), 3) := by decide +kernel
theorem dX6_removeLabels_30 : decode cX6_removeLabels 30 = .ok (.iinc 1 1, 3) := by decide +kernel
theorem dX6_removeLabels_33 : decode cX6_removeLabels 33 = .ok (.goto (-31), 3) := by decide +kernel
theorem dX6_removeLabels_36 : decode cX6_removeLabels 36 = .ok (.return_, 1) := by decide +kernel
theorem q74_0 : pm_V d 74 0 [l0, l1, l2] st S Q = pm_V d 74 1 [l0, l1, l2] (.int 0 :: st) S Q := pv_iconst (pm_cdi rfl dX6_removeLabels_0) (by decide +kernel)
theorem q74_1 : pm_V d 74 1 [.ref yn, l1, l2] (.int xi :: st) S Q = pm_V d 74 2 [.ref yn, .int xi, l2] st S Q := pv_istore_n (pm_cdi rfl dX6_removeLabels_1) rfl
theorem q74_2 : pm_V d 74 2 [l0, .int xi, l2] st S Q = pm_V d 74 3 [l0, .int xi, l2] (.int xi :: st) S Q := pv_iload_n (pm_cdi rfl dX6_removeLabels_2) rfl
theorem q74_3 : pm_V d 74 3 [l0, l1, l2] st S Q = pm_V d 74 4 [l0, l1, l2] (.int 4 :: st) S Q := pv_iconst (pm_cdi rfl dX6_removeLabels_3) (by decide +kernel)
theorem q74_4 : pm_V d 74 4 [l0, l1, l2] (.int yi :: .int xi :: st) S Q = if xi < yi then pm_V d 74 7 [l0, l1, l2] st S Q else pm_V d 74 36 [l0, l1, l2] st S Q := pv_icmp_ge (pm_cdi rfl dX6_removeLabels_4) rfl
theorem q74_7 : pm_V d 74 7 [l0, l1, l2] st S Q = pm_V d 74 8 [l0, l1, l2] (.int 0 :: st) S Q := pv_iconst (pm_cdi rfl dX6_removeLabels_7) (by decide +kernel)
theorem q74_8 : pm_V d 74 8 [l0, .int yi, l2] (.int xi :: st) S Q = pm_V d 74 9 [l0, .int yi, .int xi] st S Q := pv_istore_n (pm_cdi rfl dX6_removeLabels_8) rfl
theorem q74_9 : pm_V d 74 9 [l0, l1, .int xi] st S Q = pm_V d 74 10 [l0, l1, .int xi] (.int xi :: st) S Q := pv_iload_n (pm_cdi rfl dX6_removeLabels_9) rfl
theorem q74_10 : pm_V d 74 10 [l0, l1, l2] st S Q = pm_V d 74 12 [l0, l1, l2] (.int 40 :: st) S Q := pv_bipush (pm_cdi rfl dX6_removeLabels_10) (by decide +kernel)
theorem q74_12 : pm_V d 74 12 [l0, l1, l2] (.int yi :: .int xi :: st) S Q = if xi < yi then pm_V d 74 15 [l0, l1, l2] st S Q else pm_V d 74 30 [l0, l1, l2] st S Q := pv_icmp_ge (pm_cdi rfl dX6_removeLabels_12) rfl
theorem q74_15 : pm_V d 74 15 [.ref xn, l1, l2] st S Q = pm_V d 74 16 [.ref xn, l1, l2] (.ref xn :: st) S Q := pv_aload_n (pm_cdi rfl dX6_removeLabels_15) rfl
theorem q74_16 (hs : pm_sh S an = .inr 6) : pm_V d 74 16 [l0, l1, l2] (.ref an :: st) S Q = pm_V d 74 19 [l0, l1, l2] (va_rf (pm_gr S an 3) :: st) S Q := pv_getA (pm_cdi rfl dX6_removeLabels_16) (by decide +kernel) (by decide +kernel) (by decide +kernel) hs
theorem q74_19 : pm_V d 74 19 [l0, .int xi, l2] st S Q = pm_V d 74 20 [l0, .int xi, l2] (.int xi :: st) S Q := pv_iload_n (pm_cdi rfl dX6_removeLabels_19) rfl
theorem q74_20 (hs : pm_ar S an 4 xi = true) : pm_V d 74 20 [l0, l1, l2] (.int xi :: .ref an :: st) S Q = pm_V d 74 21 [l0, l1, l2] (va_rf (pm_zr S an xi.toNatClampNeg) :: st) S Q := pv_aaldQ (pm_cdi rfl dX6_removeLabels_20) hs
theorem q74_20r (hs : pm_ar S an 3 xi = true) : pm_V d 74 20 [l0, l1, l2] (.int xi :: .ref an :: st) S Q = pm_V d 74 21 [l0, l1, l2] (va_rf (pm_zr S an xi.toNatClampNeg) :: st) S Q := pv_aaldR (pm_cdi rfl dX6_removeLabels_20) hs
theorem q74_21 : pm_V d 74 21 [l0, l1, .int xi] st S Q = pm_V d 74 22 [l0, l1, .int xi] (.int xi :: st) S Q := pv_iload_n (pm_cdi rfl dX6_removeLabels_21) rfl
theorem q74_22 : pm_V d 74 22 [l0, l1, l2] st S Q = pm_V d 74 23 [l0, l1, l2] (.int (-1) :: st) S Q := pv_iconst (pm_cdi rfl dX6_removeLabels_22) (by decide +kernel)
theorem q74_23 (hs : pm_ar S an 0 xi = true) : pm_V d 74 23 [l0, l1, l2] (.int vi :: .int xi :: .ref an :: st) S Q = pm_V d 74 24 [l0, l1, l2] st (pm_szi S an xi.toNatClampNeg vi) Q := pv_iast (pm_cdi rfl dX6_removeLabels_23) hs
theorem q74_24 : pm_V d 74 24 [l0, .int yi, .int xi] st S Q = pm_V d 74 27 [l0, .int yi, .int (xi + 1)] st S Q := pv_iinc (pm_cdi rfl dX6_removeLabels_24) rfl (by decide +kernel) rfl
theorem q74_27 : pm_V d 74 27 [l0, l1, l2] st S Q = pm_V d 74 9 [l0, l1, l2] st S Q := pv_goto (pm_cdi rfl dX6_removeLabels_27) rfl
theorem q74_30 : pm_V d 74 30 [.ref yn, .int xi, l2] st S Q = pm_V d 74 33 [.ref yn, .int (xi + 1), l2] st S Q := pv_iinc (pm_cdi rfl dX6_removeLabels_30) rfl (by decide +kernel) rfl
theorem q74_33 : pm_V d 74 33 [l0, l1, l2] st S Q = pm_V d 74 2 [l0, l1, l2] st S Q := pv_goto (pm_cdi rfl dX6_removeLabels_33) rfl
theorem q74_36 : pm_V d 74 36 [l0, l1, l2] [] S Q = Q none S := pv_rV (pm_cdi rfl dX6_removeLabels_36) (by decide +kernel)
theorem q74_e : pm_N d 74 [.ref an] S Q = pm_V d 74 0 [.ref an, pm_j, pm_j] [] S Q := pv_ent (Nat.le_of_ble_eq_true rfl) rfl
/-! 75: ViewsJoins.known(I)LViewsJoins$Graph; -/
theorem dX6_known_0 : decode cX6_known 0 = .ok (.iload_n 1, 1) := by decide +kernel
theorem dX6_known_1 : decode cX6_known 1 = .ok (.ifCond .lt 26, 3) := by decide +kernel
theorem dX6_known_4 : decode cX6_known 4 = .ok (.iload_n 1, 1) := by decide +kernel
theorem dX6_known_5 : decode cX6_known 5 = .ok (.aload_n 0, 1) := by decide +kernel
theorem dX6_known_6 : decode cX6_known 6 = .ok (.getfield 32, 3) := by decide +kernel
theorem dX6_known_9 : decode cX6_known 9 = .ok (.if_icmp .ge 18, 3) := by decide +kernel
theorem dX6_known_12 : decode cX6_known 12 = .ok (.iload_n 1, 1) := by decide +kernel
theorem dX6_known_13 : decode cX6_known 13 = .ok (.bipush 24, 2) := by decide +kernel
theorem dX6_known_15 : decode cX6_known 15 = .ok (.if_icmp .ge 12, 3) := by decide +kernel
theorem dX6_known_18 : decode cX6_known 18 = .ok (.aload_n 0, 1) := by decide +kernel
theorem dX6_known_19 : decode cX6_known 19 = .ok (.getfield 11, 3) := by decide +kernel
theorem dX6_known_22 : decode cX6_known 22 = .ok (.iload_n 1, 1) := by decide +kernel
theorem dX6_known_23 : decode cX6_known 23 = .ok (.aaload, 1) := by decide +kernel
theorem dX6_known_24 : decode cX6_known 24 = .ok (.goto 4, 3) := by decide +kernel
theorem dX6_known_27 : decode cX6_known 27 = .ok (.aconst_null, 1) := by decide +kernel
theorem dX6_known_28 : decode cX6_known 28 = .ok (.areturn, 1) := by decide +kernel
theorem q75_0 : pm_V d 75 0 [l0, .int xi] st S Q = pm_V d 75 1 [l0, .int xi] (.int xi :: st) S Q := pv_iload_n (pm_cdi rfl dX6_known_0) rfl
theorem q75_1 : pm_V d 75 1 [l0, l1] (.int xi :: st) S Q = if xi < 0 then pm_V d 75 27 [l0, l1] st S Q else pm_V d 75 4 [l0, l1] st S Q := pv_if_lt (pm_cdi rfl dX6_known_1) rfl
theorem q75_4 : pm_V d 75 4 [l0, .int xi] st S Q = pm_V d 75 5 [l0, .int xi] (.int xi :: st) S Q := pv_iload_n (pm_cdi rfl dX6_known_4) rfl
theorem q75_5 : pm_V d 75 5 [.ref xn, l1] st S Q = pm_V d 75 6 [.ref xn, l1] (.ref xn :: st) S Q := pv_aload_n (pm_cdi rfl dX6_known_5) rfl
theorem q75_6 (hs : pm_sh S an = .inr 6) : pm_V d 75 6 [l0, l1] (.ref an :: st) S Q = pm_V d 75 9 [l0, l1] (.int (pm_gi S an 4) :: st) S Q := pv_getI (pm_cdi rfl dX6_known_6) (by decide +kernel) (by decide +kernel) (by decide +kernel) hs
theorem q75_9 : pm_V d 75 9 [l0, l1] (.int yi :: .int xi :: st) S Q = if xi < yi then pm_V d 75 12 [l0, l1] st S Q else pm_V d 75 27 [l0, l1] st S Q := pv_icmp_ge (pm_cdi rfl dX6_known_9) rfl
theorem q75_12 : pm_V d 75 12 [l0, .int xi] st S Q = pm_V d 75 13 [l0, .int xi] (.int xi :: st) S Q := pv_iload_n (pm_cdi rfl dX6_known_12) rfl
theorem q75_13 : pm_V d 75 13 [l0, l1] st S Q = pm_V d 75 15 [l0, l1] (.int 24 :: st) S Q := pv_bipush (pm_cdi rfl dX6_known_13) (by decide +kernel)
theorem q75_15 : pm_V d 75 15 [l0, l1] (.int yi :: .int xi :: st) S Q = if xi < yi then pm_V d 75 18 [l0, l1] st S Q else pm_V d 75 27 [l0, l1] st S Q := pv_icmp_ge (pm_cdi rfl dX6_known_15) rfl
theorem q75_18 : pm_V d 75 18 [.ref xn, l1] st S Q = pm_V d 75 19 [.ref xn, l1] (.ref xn :: st) S Q := pv_aload_n (pm_cdi rfl dX6_known_18) rfl
theorem q75_19 (hs : pm_sh S an = .inr 6) : pm_V d 75 19 [l0, l1] (.ref an :: st) S Q = pm_V d 75 22 [l0, l1] (va_rf (pm_gr S an 0) :: st) S Q := pv_getA (pm_cdi rfl dX6_known_19) (by decide +kernel) (by decide +kernel) (by decide +kernel) hs
theorem q75_22 : pm_V d 75 22 [l0, .int xi] st S Q = pm_V d 75 23 [l0, .int xi] (.int xi :: st) S Q := pv_iload_n (pm_cdi rfl dX6_known_22) rfl
theorem q75_23 (hs : pm_ar S an 4 xi = true) : pm_V d 75 23 [l0, l1] (.int xi :: .ref an :: st) S Q = pm_V d 75 24 [l0, l1] (va_rf (pm_zr S an xi.toNatClampNeg) :: st) S Q := pv_aaldQ (pm_cdi rfl dX6_known_23) hs
theorem q75_23r (hs : pm_ar S an 3 xi = true) : pm_V d 75 23 [l0, l1] (.int xi :: .ref an :: st) S Q = pm_V d 75 24 [l0, l1] (va_rf (pm_zr S an xi.toNatClampNeg) :: st) S Q := pv_aaldR (pm_cdi rfl dX6_known_23) hs
theorem q75_24 : pm_V d 75 24 [l0, l1] st S Q = pm_V d 75 28 [l0, l1] st S Q := pv_goto (pm_cdi rfl dX6_known_24) rfl
theorem q75_27 : pm_V d 75 27 [l0, l1] st S Q = pm_V d 75 28 [l0, l1] (.null :: st) S Q := pv_null (pm_cdi rfl dX6_known_27)
theorem q75_28 : pm_V d 75 28 [l0, l1] [.ref xn] S Q = Q (some (.ref xn)) S := pv_rA (pm_cdi rfl dX6_known_28) rfl
theorem q75_28N : pm_V d 75 28 [l0, l1] [.null] S Q = Q (some .null) S := pv_rN (pm_cdi rfl dX6_known_28) rfl
theorem q75_e : pm_N d 75 [.ref an, .int v0i] S Q = pm_V d 75 0 [.ref an, .int v0i] [] S Q := pv_ent (Nat.le_of_ble_eq_true rfl) rfl
/-! 76: ViewsJoins.nextGraph()LViewsJoins$Graph; -/
theorem dX6_nextGraph_0 : decode cX6_nextGraph 0 = .ok (.aload_n 0, 1) := by decide +kernel
theorem dX6_nextGraph_1 : decode cX6_nextGraph 1 = .ok (.getfield 32, 3) := by decide +kernel
theorem dX6_nextGraph_4 : decode cX6_nextGraph 4 = .ok (.bipush 24, 2) := by decide +kernel
theorem dX6_nextGraph_6 : decode cX6_nextGraph 6 = .ok (.if_icmp .lt 5, 3) := by decide +kernel
theorem dX6_nextGraph_9 : decode cX6_nextGraph 9 = .ok (.aconst_null, 1) := by decide +kernel
theorem dX6_nextGraph_10 : decode cX6_nextGraph 10 = .ok (.areturn, 1) := by decide +kernel
theorem dX6_nextGraph_11 : decode cX6_nextGraph 11 = .ok (.aload_n 0, 1) := by decide +kernel
theorem dX6_nextGraph_12 : decode cX6_nextGraph 12 = .ok (.getfield 11, 3) := by decide +kernel
theorem dX6_nextGraph_15 : decode cX6_nextGraph 15 = .ok (.aload_n 0, 1) := by decide +kernel
theorem dX6_nextGraph_16 : decode cX6_nextGraph 16 = .ok (.getfield 32, 3) := by decide +kernel
theorem dX6_nextGraph_19 : decode cX6_nextGraph 19 = .ok (.aaload, 1) := by decide +kernel
theorem dX6_nextGraph_20 : decode cX6_nextGraph 20 = .ok (.ifnonnull 19, 3) := by decide +kernel
theorem dX6_nextGraph_23 : decode cX6_nextGraph 23 = .ok (.aload_n 0, 1) := by decide +kernel
theorem dX6_nextGraph_24 : decode cX6_nextGraph 24 = .ok (.getfield 11, 3) := by decide +kernel
theorem dX6_nextGraph_27 : decode cX6_nextGraph 27 = .ok (.aload_n 0, 1) := by decide +kernel
theorem dX6_nextGraph_28 : decode cX6_nextGraph 28 = .ok (.getfield 32, 3) := by decide +kernel
theorem dX6_nextGraph_31 : decode cX6_nextGraph 31 = .ok (.new 9, 3) := by decide +kernel
theorem dX6_nextGraph_34 : decode cX6_nextGraph 34 = .ok (.dup, 1) := by decide +kernel
theorem dX6_nextGraph_35 : decode cX6_nextGraph 35 = .ok (.invokespecial 185, 3) := by decide +kernel
theorem dX6_nextGraph_38 : decode cX6_nextGraph 38 = .ok (.aastore, 1) := by decide +kernel
theorem dX6_nextGraph_39 : decode cX6_nextGraph 39 = .ok (.aload_n 0, 1) := by decide +kernel
theorem dX6_nextGraph_40 : decode cX6_nextGraph 40 = .ok (.dup, 1) := by decide +kernel
theorem dX6_nextGraph_41 : decode cX6_nextGraph 41 = .ok (.getfield 32, 3) := by decide +kernel
theorem dX6_nextGraph_44 : decode cX6_nextGraph 44 = .ok (.iconst 1, 1) := by decide +kernel
theorem dX6_nextGraph_45 : decode cX6_nextGraph 45 = .ok (.iadd, 1) := by decide +kernel
theorem dX6_nextGraph_46 : decode cX6_nextGraph 46 = .ok (.putfield 32, 3) := by decide +kernel
theorem dX6_nextGraph_49 : decode cX6_nextGraph 49 = .ok (.aload_n 0, 1) := by decide +kernel
theorem dX6_nextGraph_50 : decode cX6_nextGraph 50 = .ok (.getfield 11, 3) := by decide +kernel
theorem dX6_nextGraph_53 : decode cX6_nextGraph 53 = .ok (.aload_n 0, 1) := by decide +kernel
theorem dX6_nextGraph_54 : decode cX6_nextGraph 54 = .ok (.getfield 32, 3) := by decide +kernel
theorem dX6_nextGraph_57 : decode cX6_nextGraph 57 = .ok (.iconst 1, 1) := by decide +kernel
theorem dX6_nextGraph_58 : decode cX6_nextGraph 58 = .ok (.isub, 1) := by decide +kernel
theorem dX6_nextGraph_59 : decode cX6_nextGraph 59 = .ok (.aaload, 1) := by decide +kernel
theorem dX6_nextGraph_60 : decode cX6_nextGraph 60 = .ok (.areturn, 1) := by decide +kernel
theorem q76_0 : pm_V d 76 0 [.ref xn] st S Q = pm_V d 76 1 [.ref xn] (.ref xn :: st) S Q := pv_aload_n (pm_cdi rfl dX6_nextGraph_0) rfl
theorem q76_1 (hs : pm_sh S an = .inr 6) : pm_V d 76 1 [l0] (.ref an :: st) S Q = pm_V d 76 4 [l0] (.int (pm_gi S an 4) :: st) S Q := pv_getI (pm_cdi rfl dX6_nextGraph_1) (by decide +kernel) (by decide +kernel) (by decide +kernel) hs
theorem q76_4 : pm_V d 76 4 [l0] st S Q = pm_V d 76 6 [l0] (.int 24 :: st) S Q := pv_bipush (pm_cdi rfl dX6_nextGraph_4) (by decide +kernel)
theorem q76_6 : pm_V d 76 6 [l0] (.int yi :: .int xi :: st) S Q = if xi < yi then pm_V d 76 11 [l0] st S Q else pm_V d 76 9 [l0] st S Q := pv_icmp_lt (pm_cdi rfl dX6_nextGraph_6) rfl
theorem q76_9 : pm_V d 76 9 [l0] st S Q = pm_V d 76 10 [l0] (.null :: st) S Q := pv_null (pm_cdi rfl dX6_nextGraph_9)
theorem q76_10 : pm_V d 76 10 [l0] [.ref xn] S Q = Q (some (.ref xn)) S := pv_rA (pm_cdi rfl dX6_nextGraph_10) rfl
theorem q76_10N : pm_V d 76 10 [l0] [.null] S Q = Q (some .null) S := pv_rN (pm_cdi rfl dX6_nextGraph_10) rfl
theorem q76_11 : pm_V d 76 11 [.ref xn] st S Q = pm_V d 76 12 [.ref xn] (.ref xn :: st) S Q := pv_aload_n (pm_cdi rfl dX6_nextGraph_11) rfl
theorem q76_12 (hs : pm_sh S an = .inr 6) : pm_V d 76 12 [l0] (.ref an :: st) S Q = pm_V d 76 15 [l0] (va_rf (pm_gr S an 0) :: st) S Q := pv_getA (pm_cdi rfl dX6_nextGraph_12) (by decide +kernel) (by decide +kernel) (by decide +kernel) hs
theorem q76_15 : pm_V d 76 15 [.ref xn] st S Q = pm_V d 76 16 [.ref xn] (.ref xn :: st) S Q := pv_aload_n (pm_cdi rfl dX6_nextGraph_15) rfl
theorem q76_16 (hs : pm_sh S an = .inr 6) : pm_V d 76 16 [l0] (.ref an :: st) S Q = pm_V d 76 19 [l0] (.int (pm_gi S an 4) :: st) S Q := pv_getI (pm_cdi rfl dX6_nextGraph_16) (by decide +kernel) (by decide +kernel) (by decide +kernel) hs
theorem q76_19 (hs : pm_ar S an 4 xi = true) : pm_V d 76 19 [l0] (.int xi :: .ref an :: st) S Q = pm_V d 76 20 [l0] (va_rf (pm_zr S an xi.toNatClampNeg) :: st) S Q := pv_aaldQ (pm_cdi rfl dX6_nextGraph_19) hs
theorem q76_19r (hs : pm_ar S an 3 xi = true) : pm_V d 76 19 [l0] (.int xi :: .ref an :: st) S Q = pm_V d 76 20 [l0] (va_rf (pm_zr S an xi.toNatClampNeg) :: st) S Q := pv_aaldR (pm_cdi rfl dX6_nextGraph_19) hs
theorem q76_20 : pm_V d 76 20 [l0] (.ref xn :: st) S Q = pm_V d 76 39 [l0] st S Q := pv_ifnonA (pm_cdi rfl dX6_nextGraph_20) rfl
theorem q76_20N : pm_V d 76 20 [l0] (.null :: st) S Q = pm_V d 76 23 [l0] st S Q := pv_ifnonN (pm_cdi rfl dX6_nextGraph_20)
theorem q76_23 : pm_V d 76 23 [.ref xn] st S Q = pm_V d 76 24 [.ref xn] (.ref xn :: st) S Q := pv_aload_n (pm_cdi rfl dX6_nextGraph_23) rfl
theorem q76_24 (hs : pm_sh S an = .inr 6) : pm_V d 76 24 [l0] (.ref an :: st) S Q = pm_V d 76 27 [l0] (va_rf (pm_gr S an 0) :: st) S Q := pv_getA (pm_cdi rfl dX6_nextGraph_24) (by decide +kernel) (by decide +kernel) (by decide +kernel) hs
theorem q76_27 : pm_V d 76 27 [.ref xn] st S Q = pm_V d 76 28 [.ref xn] (.ref xn :: st) S Q := pv_aload_n (pm_cdi rfl dX6_nextGraph_27) rfl
theorem q76_28 (hs : pm_sh S an = .inr 6) : pm_V d 76 28 [l0] (.ref an :: st) S Q = pm_V d 76 31 [l0] (.int (pm_gi S an 4) :: st) S Q := pv_getI (pm_cdi rfl dX6_nextGraph_28) (by decide +kernel) (by decide +kernel) (by decide +kernel) hs
theorem q76_31 : pm_V d 76 31 [l0] st S Q = pm_V d 76 34 [l0] (.ref (pm_nx S) :: st) (pm_mk S 0) Q := pv_new (pm_cdi rfl dX6_nextGraph_31) (by decide +kernel) (by decide +kernel)
theorem q76_34 : pm_V d 76 34 [l0] (.ref xn :: st) S Q = pm_V d 76 35 [l0] (.ref xn :: .ref xn :: st) S Q := pv_dupA (pm_cdi rfl dX6_nextGraph_34)
theorem q76_35 : pm_V (d + 1) 76 35 [l0] [.ref an, .ref r0n, .int r1i, .ref r2n] S Q = pm_N d 0 [.ref an] S (fun r S' => pm_V (d + 1) 76 38 [l0] (r.toList ++ [.ref r0n, .int r1i, .ref r2n]) S' Q) := pv_callI (as := []) (pm_cdi rfl dX6_nextGraph_35) (Or.inr (by decide +kernel)) (by decide +kernel) (show _ = _ from (by decide +kernel : 0 = pm_np 0)) rfl (Nat.le_of_ble_eq_true rfl)
theorem q76_38 (hs : pm_ar S an 4 xi = true) (hv : pm_sh S vn = .inr 0) : pm_V d 76 38 [l0] (.ref vn :: .int xi :: .ref an :: st) S Q = pm_V d 76 39 [l0] st (pm_szr S an xi.toNatClampNeg (some vn)) Q := pv_aast (pm_cdi rfl dX6_nextGraph_38) hs hv
theorem q76_39 : pm_V d 76 39 [.ref xn] st S Q = pm_V d 76 40 [.ref xn] (.ref xn :: st) S Q := pv_aload_n (pm_cdi rfl dX6_nextGraph_39) rfl
theorem q76_40 : pm_V d 76 40 [l0] (.ref xn :: st) S Q = pm_V d 76 41 [l0] (.ref xn :: .ref xn :: st) S Q := pv_dupA (pm_cdi rfl dX6_nextGraph_40)
theorem q76_41 (hs : pm_sh S an = .inr 6) : pm_V d 76 41 [l0] (.ref an :: st) S Q = pm_V d 76 44 [l0] (.int (pm_gi S an 4) :: st) S Q := pv_getI (pm_cdi rfl dX6_nextGraph_41) (by decide +kernel) (by decide +kernel) (by decide +kernel) hs
theorem q76_44 : pm_V d 76 44 [l0] st S Q = pm_V d 76 45 [l0] (.int 1 :: st) S Q := pv_iconst (pm_cdi rfl dX6_nextGraph_44) (by decide +kernel)
theorem q76_45 : pm_V d 76 45 [l0] (.int yi :: .int xi :: st) S Q = pm_V d 76 46 [l0] (.int (xi + yi) :: st) S Q := pv_iadd (pm_cdi rfl dX6_nextGraph_45)
theorem q76_46 (hs : pm_sh S an = .inr 6) : pm_V d 76 46 [l0] (.int xi :: .ref an :: st) S Q = pm_V d 76 49 [l0] st (pm_sgi S an 4 xi) Q := pv_putI (pm_cdi rfl dX6_nextGraph_46) (by decide +kernel) (by decide +kernel) (by decide +kernel) hs
theorem q76_49 : pm_V d 76 49 [.ref xn] st S Q = pm_V d 76 50 [.ref xn] (.ref xn :: st) S Q := pv_aload_n (pm_cdi rfl dX6_nextGraph_49) rfl
theorem q76_50 (hs : pm_sh S an = .inr 6) : pm_V d 76 50 [l0] (.ref an :: st) S Q = pm_V d 76 53 [l0] (va_rf (pm_gr S an 0) :: st) S Q := pv_getA (pm_cdi rfl dX6_nextGraph_50) (by decide +kernel) (by decide +kernel) (by decide +kernel) hs
theorem q76_53 : pm_V d 76 53 [.ref xn] st S Q = pm_V d 76 54 [.ref xn] (.ref xn :: st) S Q := pv_aload_n (pm_cdi rfl dX6_nextGraph_53) rfl
theorem q76_54 (hs : pm_sh S an = .inr 6) : pm_V d 76 54 [l0] (.ref an :: st) S Q = pm_V d 76 57 [l0] (.int (pm_gi S an 4) :: st) S Q := pv_getI (pm_cdi rfl dX6_nextGraph_54) (by decide +kernel) (by decide +kernel) (by decide +kernel) hs
theorem q76_57 : pm_V d 76 57 [l0] st S Q = pm_V d 76 58 [l0] (.int 1 :: st) S Q := pv_iconst (pm_cdi rfl dX6_nextGraph_57) (by decide +kernel)
theorem q76_58 : pm_V d 76 58 [l0] (.int yi :: .int xi :: st) S Q = pm_V d 76 59 [l0] (.int (xi - yi) :: st) S Q := pv_isub (pm_cdi rfl dX6_nextGraph_58)
theorem q76_59 (hs : pm_ar S an 4 xi = true) : pm_V d 76 59 [l0] (.int xi :: .ref an :: st) S Q = pm_V d 76 60 [l0] (va_rf (pm_zr S an xi.toNatClampNeg) :: st) S Q := pv_aaldQ (pm_cdi rfl dX6_nextGraph_59) hs
theorem q76_59r (hs : pm_ar S an 3 xi = true) : pm_V d 76 59 [l0] (.int xi :: .ref an :: st) S Q = pm_V d 76 60 [l0] (va_rf (pm_zr S an xi.toNatClampNeg) :: st) S Q := pv_aaldR (pm_cdi rfl dX6_nextGraph_59) hs
theorem q76_60 : pm_V d 76 60 [l0] [.ref xn] S Q = Q (some (.ref xn)) S := pv_rA (pm_cdi rfl dX6_nextGraph_60) rfl
theorem q76_60N : pm_V d 76 60 [l0] [.null] S Q = Q (some .null) S := pv_rN (pm_cdi rfl dX6_nextGraph_60) rfl
theorem q76_e : pm_N d 76 [.ref an] S Q = pm_V d 76 0 [.ref an] [] S Q := pv_ent (Nat.le_of_ble_eq_true rfl) rfl
/-! 77: ViewsJoins.countFixed()I -/
theorem dX6_countFixed_0 : decode cX6_countFixed 0 = .ok (.iconst 0, 1) := by decide +kernel
theorem dX6_countFixed_1 : decode cX6_countFixed 1 = .ok (.istore_n 1, 1) := by decide +kernel
theorem dX6_countFixed_2 : decode cX6_countFixed 2 = .ok (.iconst 0, 1) := by decide +kernel
theorem dX6_countFixed_3 : decode cX6_countFixed 3 = .ok (.istore_n 2, 1) := by decide +kernel
theorem dX6_countFixed_4 : decode cX6_countFixed 4 = .ok (.iload_n 2, 1) := by decide +kernel
theorem dX6_countFixed_5 : decode cX6_countFixed 5 = .ok (.aload_n 0, 1) := by decide +kernel
theorem dX6_countFixed_6 : decode cX6_countFixed 6 = .ok (.getfield 32, 3) := by decide +kernel
theorem dX6_countFixed_9 : decode cX6_countFixed 9 = .ok (.if_icmp .ge 36, 3) := by decide +kernel
theorem dX6_countFixed_12 : decode cX6_countFixed 12 = .ok (.iload_n 2, 1) := by decide +kernel
theorem dX6_countFixed_13 : decode cX6_countFixed 13 = .ok (.bipush 24, 2) := by decide +kernel
theorem dX6_countFixed_15 : decode cX6_countFixed 15 = .ok (.if_icmp .ge 30, 3) := by decide +kernel
theorem dX6_countFixed_18 : decode cX6_countFixed 18 = .ok (.aload_n 0, 1) := by decide +kernel
theorem dX6_countFixed_19 : decode cX6_countFixed 19 = .ok (.getfield 11, 3) := by decide +kernel
theorem dX6_countFixed_22 : decode cX6_countFixed 22 = .ok (.iload_n 2, 1) := by decide +kernel
theorem dX6_countFixed_23 : decode cX6_countFixed 23 = .ok (.aaload, 1) := by decide +kernel
theorem dX6_countFixed_24 : decode cX6_countFixed 24 = .ok (.astore_n 3, 1) := by decide +kernel
theorem dX6_countFixed_25 : decode cX6_countFixed 25 = .ok (.aload_n 3, 1) := by decide +kernel
theorem dX6_countFixed_26 : decode cX6_countFixed 26 = .ok (.ifnull 13, 3) := by decide +kernel
theorem dX6_countFixed_29 : decode cX6_countFixed 29 = .ok (.aload_n 3, 1) := by decide +kernel
theorem dX6_countFixed_30 : decode cX6_countFixed 30 = .ok (.getfield 118, 3) := by decide +kernel
theorem dX6_countFixed_33 : decode cX6_countFixed 33 = .ok (.ifCond .eq 6, 3) := by decide +kernel
theorem dX6_countFixed_36 : decode cX6_countFixed 36 = .ok (.iinc 1 1, 3) := by decide +kernel
theorem dX6_countFixed_39 : decode cX6_countFixed 39 = .ok (.iinc 2 1, 3) := by decide +kernel
theorem dX6_countFixed_42 : decode cX6_countFixed 42 = .ok (.goto (-38), 3) := by decide +kernel
theorem dX6_countFixed_45 : decode cX6_countFixed 45 = .ok (.iload_n 1, 1) := by decide +kernel
theorem dX6_countFixed_46 : decode cX6_countFixed 46 = .ok (.ireturn, 1) := by decide +kernel
theorem q77_0 : pm_V d 77 0 [l0, l1, l2, l3] st S Q = pm_V d 77 1 [l0, l1, l2, l3] (.int 0 :: st) S Q := pv_iconst (pm_cdi rfl dX6_countFixed_0) (by decide +kernel)
theorem q77_1 : pm_V d 77 1 [.ref yn, l1, l2, l3] (.int xi :: st) S Q = pm_V d 77 2 [.ref yn, .int xi, l2, l3] st S Q := pv_istore_n (pm_cdi rfl dX6_countFixed_1) rfl
theorem q77_2 : pm_V d 77 2 [l0, l1, l2, l3] st S Q = pm_V d 77 3 [l0, l1, l2, l3] (.int 0 :: st) S Q := pv_iconst (pm_cdi rfl dX6_countFixed_2) (by decide +kernel)
theorem q77_3 : pm_V d 77 3 [l0, .int yi, l2, l3] (.int xi :: st) S Q = pm_V d 77 4 [l0, .int yi, .int xi, l3] st S Q := pv_istore_n (pm_cdi rfl dX6_countFixed_3) rfl
theorem q77_4 : pm_V d 77 4 [l0, l1, .int xi, l3] st S Q = pm_V d 77 5 [l0, l1, .int xi, l3] (.int xi :: st) S Q := pv_iload_n (pm_cdi rfl dX6_countFixed_4) rfl
theorem q77_5 : pm_V d 77 5 [.ref xn, l1, l2, l3] st S Q = pm_V d 77 6 [.ref xn, l1, l2, l3] (.ref xn :: st) S Q := pv_aload_n (pm_cdi rfl dX6_countFixed_5) rfl
theorem q77_6 (hs : pm_sh S an = .inr 6) : pm_V d 77 6 [l0, l1, l2, l3] (.ref an :: st) S Q = pm_V d 77 9 [l0, l1, l2, l3] (.int (pm_gi S an 4) :: st) S Q := pv_getI (pm_cdi rfl dX6_countFixed_6) (by decide +kernel) (by decide +kernel) (by decide +kernel) hs
theorem q77_9 : pm_V d 77 9 [l0, l1, l2, l3] (.int yi :: .int xi :: st) S Q = if xi < yi then pm_V d 77 12 [l0, l1, l2, l3] st S Q else pm_V d 77 45 [l0, l1, l2, l3] st S Q := pv_icmp_ge (pm_cdi rfl dX6_countFixed_9) rfl
theorem q77_12 : pm_V d 77 12 [l0, l1, .int xi, l3] st S Q = pm_V d 77 13 [l0, l1, .int xi, l3] (.int xi :: st) S Q := pv_iload_n (pm_cdi rfl dX6_countFixed_12) rfl
theorem q77_13 : pm_V d 77 13 [l0, l1, l2, l3] st S Q = pm_V d 77 15 [l0, l1, l2, l3] (.int 24 :: st) S Q := pv_bipush (pm_cdi rfl dX6_countFixed_13) (by decide +kernel)
theorem q77_15 : pm_V d 77 15 [l0, l1, l2, l3] (.int yi :: .int xi :: st) S Q = if xi < yi then pm_V d 77 18 [l0, l1, l2, l3] st S Q else pm_V d 77 45 [l0, l1, l2, l3] st S Q := pv_icmp_ge (pm_cdi rfl dX6_countFixed_15) rfl
theorem q77_18 : pm_V d 77 18 [.ref xn, l1, l2, l3] st S Q = pm_V d 77 19 [.ref xn, l1, l2, l3] (.ref xn :: st) S Q := pv_aload_n (pm_cdi rfl dX6_countFixed_18) rfl
theorem q77_19 (hs : pm_sh S an = .inr 6) : pm_V d 77 19 [l0, l1, l2, l3] (.ref an :: st) S Q = pm_V d 77 22 [l0, l1, l2, l3] (va_rf (pm_gr S an 0) :: st) S Q := pv_getA (pm_cdi rfl dX6_countFixed_19) (by decide +kernel) (by decide +kernel) (by decide +kernel) hs
theorem q77_22 : pm_V d 77 22 [l0, l1, .int xi, l3] st S Q = pm_V d 77 23 [l0, l1, .int xi, l3] (.int xi :: st) S Q := pv_iload_n (pm_cdi rfl dX6_countFixed_22) rfl
theorem q77_23 (hs : pm_ar S an 4 xi = true) : pm_V d 77 23 [l0, l1, l2, l3] (.int xi :: .ref an :: st) S Q = pm_V d 77 24 [l0, l1, l2, l3] (va_rf (pm_zr S an xi.toNatClampNeg) :: st) S Q := pv_aaldQ (pm_cdi rfl dX6_countFixed_23) hs
theorem q77_23r (hs : pm_ar S an 3 xi = true) : pm_V d 77 23 [l0, l1, l2, l3] (.int xi :: .ref an :: st) S Q = pm_V d 77 24 [l0, l1, l2, l3] (va_rf (pm_zr S an xi.toNatClampNeg) :: st) S Q := pv_aaldR (pm_cdi rfl dX6_countFixed_23) hs
theorem q77_24 : pm_V d 77 24 [l0, l1, .int yi, l3] (.ref xn :: st) S Q = pm_V d 77 25 [l0, l1, .int yi, .ref xn] st S Q := pv_astore_n (pm_cdi rfl dX6_countFixed_24) rfl
theorem q77_24N : pm_V d 77 24 [l0, l1, .int yi, l3] (.null :: st) S Q = pm_V d 77 25 [l0, l1, .int yi, .null] st S Q := pv_astore_nN (pm_cdi rfl dX6_countFixed_24) rfl
theorem q77_25 : pm_V d 77 25 [l0, l1, l2, .ref xn] st S Q = pm_V d 77 26 [l0, l1, l2, .ref xn] (.ref xn :: st) S Q := pv_aload_n (pm_cdi rfl dX6_countFixed_25) rfl
theorem q77_25N : pm_V d 77 25 [l0, l1, l2, .null] st S Q = pm_V d 77 26 [l0, l1, l2, .null] (.null :: st) S Q := pv_aload_nN (pm_cdi rfl dX6_countFixed_25) rfl
theorem q77_26 : pm_V d 77 26 [l0, l1, l2, l3] (.ref xn :: st) S Q = pm_V d 77 29 [l0, l1, l2, l3] st S Q := pv_ifnullA (pm_cdi rfl dX6_countFixed_26)
theorem q77_26N : pm_V d 77 26 [l0, l1, l2, l3] (.null :: st) S Q = pm_V d 77 39 [l0, l1, l2, l3] st S Q := pv_ifnullN (pm_cdi rfl dX6_countFixed_26) rfl
theorem q77_29 : pm_V d 77 29 [l0, l1, l2, .ref xn] st S Q = pm_V d 77 30 [l0, l1, l2, .ref xn] (.ref xn :: st) S Q := pv_aload_n (pm_cdi rfl dX6_countFixed_29) rfl
theorem q77_29N : pm_V d 77 29 [l0, l1, l2, .null] st S Q = pm_V d 77 30 [l0, l1, l2, .null] (.null :: st) S Q := pv_aload_nN (pm_cdi rfl dX6_countFixed_29) rfl
theorem q77_30 (hs : pm_sh S an = .inr 0) : pm_V d 77 30 [l0, l1, l2, l3] (.ref an :: st) S Q = pm_V d 77 33 [l0, l1, l2, l3] (.int (pm_gi S an 12) :: st) S Q := pv_getI (pm_cdi rfl dX6_countFixed_30) (by decide +kernel) (by decide +kernel) (by decide +kernel) hs
theorem q77_33 : pm_V d 77 33 [l0, l1, l2, l3] (.int xi :: st) S Q = if xi = 0 then pm_V d 77 39 [l0, l1, l2, l3] st S Q else pm_V d 77 36 [l0, l1, l2, l3] st S Q := pv_if_eq (pm_cdi rfl dX6_countFixed_33) rfl
theorem q77_36 : pm_V d 77 36 [.ref yn, .int xi, l2, l3] st S Q = pm_V d 77 39 [.ref yn, .int (xi + 1), l2, l3] st S Q := pv_iinc (pm_cdi rfl dX6_countFixed_36) rfl (by decide +kernel) rfl
theorem q77_39 : pm_V d 77 39 [l0, .int yi, .int xi, l3] st S Q = pm_V d 77 42 [l0, .int yi, .int (xi + 1), l3] st S Q := pv_iinc (pm_cdi rfl dX6_countFixed_39) rfl (by decide +kernel) rfl
theorem q77_42 : pm_V d 77 42 [l0, l1, l2, l3] st S Q = pm_V d 77 4 [l0, l1, l2, l3] st S Q := pv_goto (pm_cdi rfl dX6_countFixed_42) rfl
theorem q77_45 : pm_V d 77 45 [l0, .int xi, l2, l3] st S Q = pm_V d 77 46 [l0, .int xi, l2, l3] (.int xi :: st) S Q := pv_iload_n (pm_cdi rfl dX6_countFixed_45) rfl
theorem q77_46 : pm_V d 77 46 [l0, l1, l2, l3] [.int xi] S Q = Q (some (.int xi)) S := pv_rI (pm_cdi rfl dX6_countFixed_46) (by decide +kernel)
theorem q77_e : pm_N d 77 [.ref an] S Q = pm_V d 77 0 [.ref an, pm_j, pm_j, pm_j] [] S Q := pv_ent (Nat.le_of_ble_eq_true rfl) rfl
/-! 78: ViewsJoins.fits(IIII)Z -/
theorem dX6_fits_0 : decode cX6_fits 0 = .ok (.iload_n 1, 1) := by decide +kernel
theorem dX6_fits_1 : decode cX6_fits 1 = .ok (.tableswitch 130 1 7 #[43, 73, 75, 75, 89, 73, 110], 43) := by decide +kernel
theorem dX6_fits_44 : decode cX6_fits 44 = .ok (.aload_n 0, 1) := by decide +kernel
theorem dX6_fits_45 : decode cX6_fits 45 = .ok (.iload_n 2, 1) := by decide +kernel
theorem dX6_fits_46 : decode cX6_fits 46 = .ok (.invokevirtual 186, 3) := by decide +kernel
theorem dX6_fits_49 : decode cX6_fits 49 = .ok (.ifCond .eq 23, 3) := by decide +kernel
theorem dX6_fits_52 : decode cX6_fits 52 = .ok (.aload_n 0, 1) := by decide +kernel
theorem dX6_fits_53 : decode cX6_fits 53 = .ok (.iload_n 3, 1) := by decide +kernel
theorem dX6_fits_54 : decode cX6_fits 54 = .ok (.invokevirtual 186, 3) := by decide +kernel
theorem dX6_fits_57 : decode cX6_fits 57 = .ok (.ifCond .eq 15, 3) := by decide +kernel
theorem dX6_fits_60 : decode cX6_fits 60 = .ok (.iload 4, 2) := by decide +kernel
theorem dX6_fits_62 : decode cX6_fits 62 = .ok (.invokestatic 83, 3) := by decide +kernel
theorem dX6_fits_65 : decode cX6_fits 65 = .ok (.ifCond .eq 7, 3) := by decide +kernel
theorem dX6_fits_68 : decode cX6_fits 68 = .ok (.iconst 1, 1) := by decide +kernel
theorem dX6_fits_69 : decode cX6_fits 69 = .ok (.goto 4, 3) := by decide +kernel
theorem dX6_fits_72 : decode cX6_fits 72 = .ok (.iconst 0, 1) := by decide +kernel
theorem dX6_fits_73 : decode cX6_fits 73 = .ok (.ireturn, 1) := by decide +kernel
theorem dX6_fits_74 : decode cX6_fits 74 = .ok (.iconst 1, 1) := by decide +kernel
theorem dX6_fits_75 : decode cX6_fits 75 = .ok (.ireturn, 1) := by decide +kernel
theorem dX6_fits_76 : decode cX6_fits 76 = .ok (.aload_n 0, 1) := by decide +kernel
theorem dX6_fits_77 : decode cX6_fits 77 = .ok (.iload_n 2, 1) := by decide +kernel
theorem dX6_fits_78 : decode cX6_fits 78 = .ok (.invokevirtual 56, 3) := by decide +kernel
theorem dX6_fits_81 : decode cX6_fits 81 = .ok (.ifnull 7, 3) := by decide +kernel
theorem dX6_fits_84 : decode cX6_fits 84 = .ok (.iconst 1, 1) := by decide +kernel
theorem dX6_fits_85 : decode cX6_fits 85 = .ok (.goto 4, 3) := by decide +kernel
theorem dX6_fits_88 : decode cX6_fits 88 = .ok (.iconst 0, 1) := by decide +kernel
theorem dX6_fits_89 : decode cX6_fits 89 = .ok (.ireturn, 1) := by decide +kernel
theorem dX6_fits_90 : decode cX6_fits 90 = .ok (.aload_n 0, 1) := by decide +kernel
theorem dX6_fits_91 : decode cX6_fits 91 = .ok (.iload_n 2, 1) := by decide +kernel
theorem dX6_fits_92 : decode cX6_fits 92 = .ok (.invokevirtual 56, 3) := by decide +kernel
theorem dX6_fits_95 : decode cX6_fits 95 = .ok (.ifnull 14, 3) := by decide +kernel
theorem dX6_fits_98 : decode cX6_fits 98 = .ok (.iload_n 3, 1) := by decide +kernel
theorem dX6_fits_99 : decode cX6_fits 99 = .ok (.invokestatic 189, 3) := by decide +kernel
theorem dX6_fits_102 : decode cX6_fits 102 = .ok (.ifCond .eq 7, 3) := by decide +kernel
theorem dX6_fits_105 : decode cX6_fits 105 = .ok (.iconst 1, 1) := by decide +kernel
theorem dX6_fits_106 : decode cX6_fits 106 = .ok (.goto 4, 3) := by decide +kernel
theorem dX6_fits_109 : decode cX6_fits 109 = .ok (.iconst 0, 1) := by decide +kernel
theorem dX6_fits_110 : decode cX6_fits 110 = .ok (.ireturn, 1) := by decide +kernel
theorem dX6_fits_111 : decode cX6_fits 111 = .ok (.iload_n 2, 1) := by decide +kernel
theorem dX6_fits_112 : decode cX6_fits 112 = .ok (.invokestatic 94, 3) := by decide +kernel
theorem dX6_fits_115 : decode cX6_fits 115 = .ok (.ifCond .eq 14, 3) := by decide +kernel
theorem dX6_fits_118 : decode cX6_fits 118 = .ok (.iload_n 3, 1) := by decide +kernel
theorem dX6_fits_119 : decode cX6_fits 119 = .ok (.invokestatic 189, 3) := by decide +kernel
theorem dX6_fits_122 : decode cX6_fits 122 = .ok (.ifCond .eq 7, 3) := by decide +kernel
theorem dX6_fits_125 : decode cX6_fits 125 = .ok (.iconst 1, 1) := by decide +kernel
theorem dX6_fits_126 : decode cX6_fits 126 = .ok (.goto 4, 3) := by decide +kernel
theorem dX6_fits_129 : decode cX6_fits 129 = .ok (.iconst 0, 1) := by decide +kernel
theorem dX6_fits_130 : decode cX6_fits 130 = .ok (.ireturn, 1) := by decide +kernel
theorem dX6_fits_131 : decode cX6_fits 131 = .ok (.iconst 0, 1) := by decide +kernel
theorem dX6_fits_132 : decode cX6_fits 132 = .ok (.ireturn, 1) := by decide +kernel
theorem q78_0 : pm_V d 78 0 [l0, .int xi, l2, l3, l4] st S Q = pm_V d 78 1 [l0, .int xi, l2, l3, l4] (.int xi :: st) S Q := pv_iload_n (pm_cdi rfl dX6_fits_0) rfl
theorem q78_1 : pm_V d 78 1 [l0, l1, l2, l3, l4] (.int xi :: st) S Q = pm_V d 78 (pm_tsw xi 1 [44, 74, 76, 76, 90, 74, 111] 131) [l0, l1, l2, l3, l4] st S Q := pv_tsw (pm_cdi rfl dX6_fits_1) (by decide +kernel) rfl (by decide +kernel)
theorem q78_44 : pm_V d 78 44 [.ref xn, l1, l2, l3, l4] st S Q = pm_V d 78 45 [.ref xn, l1, l2, l3, l4] (.ref xn :: st) S Q := pv_aload_n (pm_cdi rfl dX6_fits_44) rfl
theorem q78_45 : pm_V d 78 45 [l0, l1, .int xi, l3, l4] st S Q = pm_V d 78 46 [l0, l1, .int xi, l3, l4] (.int xi :: st) S Q := pv_iload_n (pm_cdi rfl dX6_fits_45) rfl
theorem q78_46 (hs : pm_sh S an = .inr 6) : pm_V (d + 1) 78 46 [l0, l1, l2, l3, l4] [.int v0i, .ref an] S Q = pm_N d 79 [.ref an, .int v0i] S (fun r S' => pm_V (d + 1) 78 49 [l0, l1, l2, l3, l4] (r.toList ++ []) S' Q) := pv_callV (as := [.int v0i]) (pm_cdi rfl dX6_fits_46) (Or.inl (by decide +kernel)) (by decide +kernel) (show _ = _ from (by decide +kernel : 1 = pm_np 79)) rfl (Nat.le_of_ble_eq_true rfl) (cl := 6) (by decide +kernel) hs
theorem q78_49 : pm_V d 78 49 [l0, l1, l2, l3, l4] (.int xi :: st) S Q = if xi = 0 then pm_V d 78 72 [l0, l1, l2, l3, l4] st S Q else pm_V d 78 52 [l0, l1, l2, l3, l4] st S Q := pv_if_eq (pm_cdi rfl dX6_fits_49) rfl
theorem q78_52 : pm_V d 78 52 [.ref xn, l1, l2, l3, l4] st S Q = pm_V d 78 53 [.ref xn, l1, l2, l3, l4] (.ref xn :: st) S Q := pv_aload_n (pm_cdi rfl dX6_fits_52) rfl
theorem q78_53 : pm_V d 78 53 [l0, l1, l2, .int xi, l4] st S Q = pm_V d 78 54 [l0, l1, l2, .int xi, l4] (.int xi :: st) S Q := pv_iload_n (pm_cdi rfl dX6_fits_53) rfl
theorem q78_54 (hs : pm_sh S an = .inr 6) : pm_V (d + 1) 78 54 [l0, l1, l2, l3, l4] [.int v0i, .ref an] S Q = pm_N d 79 [.ref an, .int v0i] S (fun r S' => pm_V (d + 1) 78 57 [l0, l1, l2, l3, l4] (r.toList ++ []) S' Q) := pv_callV (as := [.int v0i]) (pm_cdi rfl dX6_fits_54) (Or.inl (by decide +kernel)) (by decide +kernel) (show _ = _ from (by decide +kernel : 1 = pm_np 79)) rfl (Nat.le_of_ble_eq_true rfl) (cl := 6) (by decide +kernel) hs
theorem q78_57 : pm_V d 78 57 [l0, l1, l2, l3, l4] (.int xi :: st) S Q = if xi = 0 then pm_V d 78 72 [l0, l1, l2, l3, l4] st S Q else pm_V d 78 60 [l0, l1, l2, l3, l4] st S Q := pv_if_eq (pm_cdi rfl dX6_fits_57) rfl
theorem q78_60 : pm_V d 78 60 [l0, l1, l2, l3, .int xi] st S Q = pm_V d 78 62 [l0, l1, l2, l3, .int xi] (.int xi :: st) S Q := pv_iload (pm_cdi rfl dX6_fits_60) rfl
theorem q78_62 : pm_V (d + 1) 78 62 [l0, l1, l2, l3, l4] [.int v0i] S Q = pm_N d 82 [.int v0i] S (fun r S' => pm_V (d + 1) 78 65 [l0, l1, l2, l3, l4] (r.toList ++ []) S' Q) := pv_callS (as := [.int v0i]) (pm_cdi rfl dX6_fits_62) (by decide +kernel) (by decide +kernel) (show _ = _ from (by decide +kernel : 1 = pm_np 82)) rfl (Nat.le_of_ble_eq_true rfl)
theorem q78_65 : pm_V d 78 65 [l0, l1, l2, l3, l4] (.int xi :: st) S Q = if xi = 0 then pm_V d 78 72 [l0, l1, l2, l3, l4] st S Q else pm_V d 78 68 [l0, l1, l2, l3, l4] st S Q := pv_if_eq (pm_cdi rfl dX6_fits_65) rfl
theorem q78_68 : pm_V d 78 68 [l0, l1, l2, l3, l4] st S Q = pm_V d 78 69 [l0, l1, l2, l3, l4] (.int 1 :: st) S Q := pv_iconst (pm_cdi rfl dX6_fits_68) (by decide +kernel)
theorem q78_69 : pm_V d 78 69 [l0, l1, l2, l3, l4] st S Q = pm_V d 78 73 [l0, l1, l2, l3, l4] st S Q := pv_goto (pm_cdi rfl dX6_fits_69) rfl
theorem q78_72 : pm_V d 78 72 [l0, l1, l2, l3, l4] st S Q = pm_V d 78 73 [l0, l1, l2, l3, l4] (.int 0 :: st) S Q := pv_iconst (pm_cdi rfl dX6_fits_72) (by decide +kernel)
theorem q78_73 (hx : xi = 0 ∨ xi = 1) : pm_V d 78 73 [l0, l1, l2, l3, l4] [.int xi] S Q = Q (some (.int xi)) S := pv_rZ (pm_cdi rfl dX6_fits_73) (by decide +kernel) hx
theorem q78_74 : pm_V d 78 74 [l0, l1, l2, l3, l4] st S Q = pm_V d 78 75 [l0, l1, l2, l3, l4] (.int 1 :: st) S Q := pv_iconst (pm_cdi rfl dX6_fits_74) (by decide +kernel)
theorem q78_75 (hx : xi = 0 ∨ xi = 1) : pm_V d 78 75 [l0, l1, l2, l3, l4] [.int xi] S Q = Q (some (.int xi)) S := pv_rZ (pm_cdi rfl dX6_fits_75) (by decide +kernel) hx
theorem q78_76 : pm_V d 78 76 [.ref xn, l1, l2, l3, l4] st S Q = pm_V d 78 77 [.ref xn, l1, l2, l3, l4] (.ref xn :: st) S Q := pv_aload_n (pm_cdi rfl dX6_fits_76) rfl
theorem q78_77 : pm_V d 78 77 [l0, l1, .int xi, l3, l4] st S Q = pm_V d 78 78 [l0, l1, .int xi, l3, l4] (.int xi :: st) S Q := pv_iload_n (pm_cdi rfl dX6_fits_77) rfl
theorem q78_78 (hs : pm_sh S an = .inr 6) : pm_V (d + 1) 78 78 [l0, l1, l2, l3, l4] [.int v0i, .ref an] S Q = pm_N d 75 [.ref an, .int v0i] S (fun r S' => pm_V (d + 1) 78 81 [l0, l1, l2, l3, l4] (r.toList ++ []) S' Q) := pv_callV (as := [.int v0i]) (pm_cdi rfl dX6_fits_78) (Or.inl (by decide +kernel)) (by decide +kernel) (show _ = _ from (by decide +kernel : 1 = pm_np 75)) rfl (Nat.le_of_ble_eq_true rfl) (cl := 6) (by decide +kernel) hs
theorem q78_81 : pm_V d 78 81 [l0, l1, l2, l3, l4] (.ref xn :: st) S Q = pm_V d 78 84 [l0, l1, l2, l3, l4] st S Q := pv_ifnullA (pm_cdi rfl dX6_fits_81)
theorem q78_81N : pm_V d 78 81 [l0, l1, l2, l3, l4] (.null :: st) S Q = pm_V d 78 88 [l0, l1, l2, l3, l4] st S Q := pv_ifnullN (pm_cdi rfl dX6_fits_81) rfl
theorem q78_84 : pm_V d 78 84 [l0, l1, l2, l3, l4] st S Q = pm_V d 78 85 [l0, l1, l2, l3, l4] (.int 1 :: st) S Q := pv_iconst (pm_cdi rfl dX6_fits_84) (by decide +kernel)
theorem q78_85 : pm_V d 78 85 [l0, l1, l2, l3, l4] st S Q = pm_V d 78 89 [l0, l1, l2, l3, l4] st S Q := pv_goto (pm_cdi rfl dX6_fits_85) rfl
theorem q78_88 : pm_V d 78 88 [l0, l1, l2, l3, l4] st S Q = pm_V d 78 89 [l0, l1, l2, l3, l4] (.int 0 :: st) S Q := pv_iconst (pm_cdi rfl dX6_fits_88) (by decide +kernel)
theorem q78_89 (hx : xi = 0 ∨ xi = 1) : pm_V d 78 89 [l0, l1, l2, l3, l4] [.int xi] S Q = Q (some (.int xi)) S := pv_rZ (pm_cdi rfl dX6_fits_89) (by decide +kernel) hx
theorem q78_90 : pm_V d 78 90 [.ref xn, l1, l2, l3, l4] st S Q = pm_V d 78 91 [.ref xn, l1, l2, l3, l4] (.ref xn :: st) S Q := pv_aload_n (pm_cdi rfl dX6_fits_90) rfl
theorem q78_91 : pm_V d 78 91 [l0, l1, .int xi, l3, l4] st S Q = pm_V d 78 92 [l0, l1, .int xi, l3, l4] (.int xi :: st) S Q := pv_iload_n (pm_cdi rfl dX6_fits_91) rfl
theorem q78_92 (hs : pm_sh S an = .inr 6) : pm_V (d + 1) 78 92 [l0, l1, l2, l3, l4] [.int v0i, .ref an] S Q = pm_N d 75 [.ref an, .int v0i] S (fun r S' => pm_V (d + 1) 78 95 [l0, l1, l2, l3, l4] (r.toList ++ []) S' Q) := pv_callV (as := [.int v0i]) (pm_cdi rfl dX6_fits_92) (Or.inl (by decide +kernel)) (by decide +kernel) (show _ = _ from (by decide +kernel : 1 = pm_np 75)) rfl (Nat.le_of_ble_eq_true rfl) (cl := 6) (by decide +kernel) hs
theorem q78_95 : pm_V d 78 95 [l0, l1, l2, l3, l4] (.ref xn :: st) S Q = pm_V d 78 98 [l0, l1, l2, l3, l4] st S Q := pv_ifnullA (pm_cdi rfl dX6_fits_95)
theorem q78_95N : pm_V d 78 95 [l0, l1, l2, l3, l4] (.null :: st) S Q = pm_V d 78 109 [l0, l1, l2, l3, l4] st S Q := pv_ifnullN (pm_cdi rfl dX6_fits_95) rfl
theorem q78_98 : pm_V d 78 98 [l0, l1, l2, .int xi, l4] st S Q = pm_V d 78 99 [l0, l1, l2, .int xi, l4] (.int xi :: st) S Q := pv_iload_n (pm_cdi rfl dX6_fits_98) rfl
theorem q78_99 : pm_V (d + 1) 78 99 [l0, l1, l2, l3, l4] [.int v0i] S Q = pm_N d 83 [.int v0i] S (fun r S' => pm_V (d + 1) 78 102 [l0, l1, l2, l3, l4] (r.toList ++ []) S' Q) := pv_callS (as := [.int v0i]) (pm_cdi rfl dX6_fits_99) (by decide +kernel) (by decide +kernel) (show _ = _ from (by decide +kernel : 1 = pm_np 83)) rfl (Nat.le_of_ble_eq_true rfl)
theorem q78_102 : pm_V d 78 102 [l0, l1, l2, l3, l4] (.int xi :: st) S Q = if xi = 0 then pm_V d 78 109 [l0, l1, l2, l3, l4] st S Q else pm_V d 78 105 [l0, l1, l2, l3, l4] st S Q := pv_if_eq (pm_cdi rfl dX6_fits_102) rfl
theorem q78_105 : pm_V d 78 105 [l0, l1, l2, l3, l4] st S Q = pm_V d 78 106 [l0, l1, l2, l3, l4] (.int 1 :: st) S Q := pv_iconst (pm_cdi rfl dX6_fits_105) (by decide +kernel)
theorem q78_106 : pm_V d 78 106 [l0, l1, l2, l3, l4] st S Q = pm_V d 78 110 [l0, l1, l2, l3, l4] st S Q := pv_goto (pm_cdi rfl dX6_fits_106) rfl
theorem q78_109 : pm_V d 78 109 [l0, l1, l2, l3, l4] st S Q = pm_V d 78 110 [l0, l1, l2, l3, l4] (.int 0 :: st) S Q := pv_iconst (pm_cdi rfl dX6_fits_109) (by decide +kernel)
theorem q78_110 (hx : xi = 0 ∨ xi = 1) : pm_V d 78 110 [l0, l1, l2, l3, l4] [.int xi] S Q = Q (some (.int xi)) S := pv_rZ (pm_cdi rfl dX6_fits_110) (by decide +kernel) hx
theorem q78_111 : pm_V d 78 111 [l0, l1, .int xi, l3, l4] st S Q = pm_V d 78 112 [l0, l1, .int xi, l3, l4] (.int xi :: st) S Q := pv_iload_n (pm_cdi rfl dX6_fits_111) rfl
theorem q78_112 : pm_V (d + 1) 78 112 [l0, l1, l2, l3, l4] [.int v0i] S Q = pm_N d 81 [.int v0i] S (fun r S' => pm_V (d + 1) 78 115 [l0, l1, l2, l3, l4] (r.toList ++ []) S' Q) := pv_callS (as := [.int v0i]) (pm_cdi rfl dX6_fits_112) (by decide +kernel) (by decide +kernel) (show _ = _ from (by decide +kernel : 1 = pm_np 81)) rfl (Nat.le_of_ble_eq_true rfl)
theorem q78_115 : pm_V d 78 115 [l0, l1, l2, l3, l4] (.int xi :: st) S Q = if xi = 0 then pm_V d 78 129 [l0, l1, l2, l3, l4] st S Q else pm_V d 78 118 [l0, l1, l2, l3, l4] st S Q := pv_if_eq (pm_cdi rfl dX6_fits_115) rfl
theorem q78_118 : pm_V d 78 118 [l0, l1, l2, .int xi, l4] st S Q = pm_V d 78 119 [l0, l1, l2, .int xi, l4] (.int xi :: st) S Q := pv_iload_n (pm_cdi rfl dX6_fits_118) rfl
theorem q78_119 : pm_V (d + 1) 78 119 [l0, l1, l2, l3, l4] [.int v0i] S Q = pm_N d 83 [.int v0i] S (fun r S' => pm_V (d + 1) 78 122 [l0, l1, l2, l3, l4] (r.toList ++ []) S' Q) := pv_callS (as := [.int v0i]) (pm_cdi rfl dX6_fits_119) (by decide +kernel) (by decide +kernel) (show _ = _ from (by decide +kernel : 1 = pm_np 83)) rfl (Nat.le_of_ble_eq_true rfl)
theorem q78_122 : pm_V d 78 122 [l0, l1, l2, l3, l4] (.int xi :: st) S Q = if xi = 0 then pm_V d 78 129 [l0, l1, l2, l3, l4] st S Q else pm_V d 78 125 [l0, l1, l2, l3, l4] st S Q := pv_if_eq (pm_cdi rfl dX6_fits_122) rfl
theorem q78_125 : pm_V d 78 125 [l0, l1, l2, l3, l4] st S Q = pm_V d 78 126 [l0, l1, l2, l3, l4] (.int 1 :: st) S Q := pv_iconst (pm_cdi rfl dX6_fits_125) (by decide +kernel)
theorem q78_126 : pm_V d 78 126 [l0, l1, l2, l3, l4] st S Q = pm_V d 78 130 [l0, l1, l2, l3, l4] st S Q := pv_goto (pm_cdi rfl dX6_fits_126) rfl
theorem q78_129 : pm_V d 78 129 [l0, l1, l2, l3, l4] st S Q = pm_V d 78 130 [l0, l1, l2, l3, l4] (.int 0 :: st) S Q := pv_iconst (pm_cdi rfl dX6_fits_129) (by decide +kernel)
theorem q78_130 (hx : xi = 0 ∨ xi = 1) : pm_V d 78 130 [l0, l1, l2, l3, l4] [.int xi] S Q = Q (some (.int xi)) S := pv_rZ (pm_cdi rfl dX6_fits_130) (by decide +kernel) hx
theorem q78_131 : pm_V d 78 131 [l0, l1, l2, l3, l4] st S Q = pm_V d 78 132 [l0, l1, l2, l3, l4] (.int 0 :: st) S Q := pv_iconst (pm_cdi rfl dX6_fits_131) (by decide +kernel)
theorem q78_132 (hx : xi = 0 ∨ xi = 1) : pm_V d 78 132 [l0, l1, l2, l3, l4] [.int xi] S Q = Q (some (.int xi)) S := pv_rZ (pm_cdi rfl dX6_fits_132) (by decide +kernel) hx
theorem q78_e : pm_N d 78 [.ref an, .int v0i, .int v1i, .int v2i, .int v3i] S Q = pm_V d 78 0 [.ref an, .int v0i, .int v1i, .int v2i, .int v3i] [] S Q := pv_ent (Nat.le_of_ble_eq_true rfl) rfl
/-! 79: ViewsJoins.isTestOrAll(I)Z -/
theorem dX6_isTestOrAll_0 : decode cX6_isTestOrAll 0 = .ok (.iload_n 1, 1) := by decide +kernel
theorem dX6_isTestOrAll_1 : decode cX6_isTestOrAll 1 = .ok (.iconst (-1), 1) := by decide +kernel
theorem dX6_isTestOrAll_2 : decode cX6_isTestOrAll 2 = .ok (.if_icmp .eq 14, 3) := by decide +kernel
theorem dX6_isTestOrAll_5 : decode cX6_isTestOrAll 5 = .ok (.aload_n 0, 1) := by decide +kernel
theorem dX6_isTestOrAll_6 : decode cX6_isTestOrAll 6 = .ok (.getfield 26, 3) := by decide +kernel
theorem dX6_isTestOrAll_9 : decode cX6_isTestOrAll 9 = .ok (.iload_n 1, 1) := by decide +kernel
theorem dX6_isTestOrAll_10 : decode cX6_isTestOrAll 10 = .ok (.invokevirtual 173, 3) := by decide +kernel
theorem dX6_isTestOrAll_13 : decode cX6_isTestOrAll 13 = .ok (.ifCond .eq 7, 3) := by decide +kernel
theorem dX6_isTestOrAll_16 : decode cX6_isTestOrAll 16 = .ok (.iconst 1, 1) := by decide +kernel
theorem dX6_isTestOrAll_17 : decode cX6_isTestOrAll 17 = .ok (.goto 4, 3) := by decide +kernel
theorem dX6_isTestOrAll_20 : decode cX6_isTestOrAll 20 = .ok (.iconst 0, 1) := by decide +kernel
theorem dX6_isTestOrAll_21 : decode cX6_isTestOrAll 21 = .ok (.ireturn, 1) := by decide +kernel
theorem q79_0 : pm_V d 79 0 [l0, .int xi] st S Q = pm_V d 79 1 [l0, .int xi] (.int xi :: st) S Q := pv_iload_n (pm_cdi rfl dX6_isTestOrAll_0) rfl
theorem q79_1 : pm_V d 79 1 [l0, l1] st S Q = pm_V d 79 2 [l0, l1] (.int (-1) :: st) S Q := pv_iconst (pm_cdi rfl dX6_isTestOrAll_1) (by decide +kernel)
theorem q79_2 : pm_V d 79 2 [l0, l1] (.int yi :: .int xi :: st) S Q = if xi = yi then pm_V d 79 16 [l0, l1] st S Q else pm_V d 79 5 [l0, l1] st S Q := pv_icmp_eq (pm_cdi rfl dX6_isTestOrAll_2) rfl
theorem q79_5 : pm_V d 79 5 [.ref xn, l1] st S Q = pm_V d 79 6 [.ref xn, l1] (.ref xn :: st) S Q := pv_aload_n (pm_cdi rfl dX6_isTestOrAll_5) rfl
theorem q79_6 (hs : pm_sh S an = .inr 6) : pm_V d 79 6 [l0, l1] (.ref an :: st) S Q = pm_V d 79 9 [l0, l1] (va_rf (pm_gr S an 2) :: st) S Q := pv_getA (pm_cdi rfl dX6_isTestOrAll_6) (by decide +kernel) (by decide +kernel) (by decide +kernel) hs
theorem q79_9 : pm_V d 79 9 [l0, .int xi] st S Q = pm_V d 79 10 [l0, .int xi] (.int xi :: st) S Q := pv_iload_n (pm_cdi rfl dX6_isTestOrAll_9) rfl
theorem q79_10 (hs : pm_sh S an = .inr 5) : pm_V (d + 1) 79 10 [l0, l1] [.int v0i, .ref an] S Q = pm_N d 45 [.ref an, .int v0i] S (fun r S' => pm_V (d + 1) 79 13 [l0, l1] (r.toList ++ []) S' Q) := pv_callV (as := [.int v0i]) (pm_cdi rfl dX6_isTestOrAll_10) (Or.inl (by decide +kernel)) (by decide +kernel) (show _ = _ from (by decide +kernel : 1 = pm_np 45)) rfl (Nat.le_of_ble_eq_true rfl) (cl := 5) (by decide +kernel) hs
theorem q79_13 : pm_V d 79 13 [l0, l1] (.int xi :: st) S Q = if xi = 0 then pm_V d 79 20 [l0, l1] st S Q else pm_V d 79 16 [l0, l1] st S Q := pv_if_eq (pm_cdi rfl dX6_isTestOrAll_13) rfl
theorem q79_16 : pm_V d 79 16 [l0, l1] st S Q = pm_V d 79 17 [l0, l1] (.int 1 :: st) S Q := pv_iconst (pm_cdi rfl dX6_isTestOrAll_16) (by decide +kernel)
theorem q79_17 : pm_V d 79 17 [l0, l1] st S Q = pm_V d 79 21 [l0, l1] st S Q := pv_goto (pm_cdi rfl dX6_isTestOrAll_17) rfl
theorem q79_20 : pm_V d 79 20 [l0, l1] st S Q = pm_V d 79 21 [l0, l1] (.int 0 :: st) S Q := pv_iconst (pm_cdi rfl dX6_isTestOrAll_20) (by decide +kernel)
theorem q79_21 (hx : xi = 0 ∨ xi = 1) : pm_V d 79 21 [l0, l1] [.int xi] S Q = Q (some (.int xi)) S := pv_rZ (pm_cdi rfl dX6_isTestOrAll_21) (by decide +kernel) hx
theorem q79_e : pm_N d 79 [.ref an, .int v0i] S Q = pm_V d 79 0 [.ref an, .int v0i] [] S Q := pv_ent (Nat.le_of_ble_eq_true rfl) rfl
/-! 80: ViewsJoins.isOfTwo(I)Z -/
theorem dX6_isOfTwo_0 : decode cX6_isOfTwo 0 = .ok (.iload_n 0, 1) := by decide +kernel
theorem dX6_isOfTwo_1 : decode cX6_isOfTwo 1 = .ok (.iconst 3, 1) := by decide +kernel
theorem dX6_isOfTwo_2 : decode cX6_isOfTwo 2 = .ok (.if_icmp .eq 13, 3) := by decide +kernel
theorem dX6_isOfTwo_5 : decode cX6_isOfTwo 5 = .ok (.iload_n 0, 1) := by decide +kernel
theorem dX6_isOfTwo_6 : decode cX6_isOfTwo 6 = .ok (.iconst 4, 1) := by decide +kernel
theorem dX6_isOfTwo_7 : decode cX6_isOfTwo 7 = .ok (.if_icmp .eq 8, 3) := by decide +kernel
theorem dX6_isOfTwo_10 : decode cX6_isOfTwo 10 = .ok (.iload_n 0, 1) := by decide +kernel
theorem dX6_isOfTwo_11 : decode cX6_isOfTwo 11 = .ok (.iconst 5, 1) := by decide +kernel
theorem dX6_isOfTwo_12 : decode cX6_isOfTwo 12 = .ok (.if_icmp .ne 7, 3) := by decide +kernel
theorem dX6_isOfTwo_15 : decode cX6_isOfTwo 15 = .ok (.iconst 1, 1) := by decide +kernel
theorem dX6_isOfTwo_16 : decode cX6_isOfTwo 16 = .ok (.goto 4, 3) := by decide +kernel
theorem dX6_isOfTwo_19 : decode cX6_isOfTwo 19 = .ok (.iconst 0, 1) := by decide +kernel
theorem dX6_isOfTwo_20 : decode cX6_isOfTwo 20 = .ok (.ireturn, 1) := by decide +kernel
theorem q80_0 : pm_V d 80 0 [.int xi] st S Q = pm_V d 80 1 [.int xi] (.int xi :: st) S Q := pv_iload_n (pm_cdi rfl dX6_isOfTwo_0) rfl
theorem q80_1 : pm_V d 80 1 [l0] st S Q = pm_V d 80 2 [l0] (.int 3 :: st) S Q := pv_iconst (pm_cdi rfl dX6_isOfTwo_1) (by decide +kernel)
theorem q80_2 : pm_V d 80 2 [l0] (.int yi :: .int xi :: st) S Q = if xi = yi then pm_V d 80 15 [l0] st S Q else pm_V d 80 5 [l0] st S Q := pv_icmp_eq (pm_cdi rfl dX6_isOfTwo_2) rfl
theorem q80_5 : pm_V d 80 5 [.int xi] st S Q = pm_V d 80 6 [.int xi] (.int xi :: st) S Q := pv_iload_n (pm_cdi rfl dX6_isOfTwo_5) rfl
theorem q80_6 : pm_V d 80 6 [l0] st S Q = pm_V d 80 7 [l0] (.int 4 :: st) S Q := pv_iconst (pm_cdi rfl dX6_isOfTwo_6) (by decide +kernel)
theorem q80_7 : pm_V d 80 7 [l0] (.int yi :: .int xi :: st) S Q = if xi = yi then pm_V d 80 15 [l0] st S Q else pm_V d 80 10 [l0] st S Q := pv_icmp_eq (pm_cdi rfl dX6_isOfTwo_7) rfl
theorem q80_10 : pm_V d 80 10 [.int xi] st S Q = pm_V d 80 11 [.int xi] (.int xi :: st) S Q := pv_iload_n (pm_cdi rfl dX6_isOfTwo_10) rfl
theorem q80_11 : pm_V d 80 11 [l0] st S Q = pm_V d 80 12 [l0] (.int 5 :: st) S Q := pv_iconst (pm_cdi rfl dX6_isOfTwo_11) (by decide +kernel)
theorem q80_12 : pm_V d 80 12 [l0] (.int yi :: .int xi :: st) S Q = if xi = yi then pm_V d 80 15 [l0] st S Q else pm_V d 80 19 [l0] st S Q := pv_icmp_ne (pm_cdi rfl dX6_isOfTwo_12) rfl
theorem q80_15 : pm_V d 80 15 [l0] st S Q = pm_V d 80 16 [l0] (.int 1 :: st) S Q := pv_iconst (pm_cdi rfl dX6_isOfTwo_15) (by decide +kernel)
theorem q80_16 : pm_V d 80 16 [l0] st S Q = pm_V d 80 20 [l0] st S Q := pv_goto (pm_cdi rfl dX6_isOfTwo_16) rfl
theorem q80_19 : pm_V d 80 19 [l0] st S Q = pm_V d 80 20 [l0] (.int 0 :: st) S Q := pv_iconst (pm_cdi rfl dX6_isOfTwo_19) (by decide +kernel)
theorem q80_20 (hx : xi = 0 ∨ xi = 1) : pm_V d 80 20 [l0] [.int xi] S Q = Q (some (.int xi)) S := pv_rZ (pm_cdi rfl dX6_isOfTwo_20) (by decide +kernel) hx
theorem q80_e : pm_N d 80 [.int v0i] S Q = pm_V d 80 0 [.int v0i] [] S Q := pv_ent (Nat.le_of_ble_eq_true rfl) rfl
/-! 81: ViewsJoins.isTable(I)Z -/
theorem dX6_isTable_0 : decode cX6_isTable 0 = .ok (.iload_n 0, 1) := by decide +kernel
theorem dX6_isTable_1 : decode cX6_isTable 1 = .ok (.ifCond .lt 12, 3) := by decide +kernel
theorem dX6_isTable_4 : decode cX6_isTable 4 = .ok (.iload_n 0, 1) := by decide +kernel
theorem dX6_isTable_5 : decode cX6_isTable 5 = .ok (.iconst 4, 1) := by decide +kernel
theorem dX6_isTable_6 : decode cX6_isTable 6 = .ok (.if_icmp .ge 7, 3) := by decide +kernel
theorem dX6_isTable_9 : decode cX6_isTable 9 = .ok (.iconst 1, 1) := by decide +kernel
theorem dX6_isTable_10 : decode cX6_isTable 10 = .ok (.goto 4, 3) := by decide +kernel
theorem dX6_isTable_13 : decode cX6_isTable 13 = .ok (.iconst 0, 1) := by decide +kernel
theorem dX6_isTable_14 : decode cX6_isTable 14 = .ok (.ireturn, 1) := by decide +kernel
theorem q81_0 : pm_V d 81 0 [.int xi] st S Q = pm_V d 81 1 [.int xi] (.int xi :: st) S Q := pv_iload_n (pm_cdi rfl dX6_isTable_0) rfl
theorem q81_1 : pm_V d 81 1 [l0] (.int xi :: st) S Q = if xi < 0 then pm_V d 81 13 [l0] st S Q else pm_V d 81 4 [l0] st S Q := pv_if_lt (pm_cdi rfl dX6_isTable_1) rfl
theorem q81_4 : pm_V d 81 4 [.int xi] st S Q = pm_V d 81 5 [.int xi] (.int xi :: st) S Q := pv_iload_n (pm_cdi rfl dX6_isTable_4) rfl
theorem q81_5 : pm_V d 81 5 [l0] st S Q = pm_V d 81 6 [l0] (.int 4 :: st) S Q := pv_iconst (pm_cdi rfl dX6_isTable_5) (by decide +kernel)
theorem q81_6 : pm_V d 81 6 [l0] (.int yi :: .int xi :: st) S Q = if xi < yi then pm_V d 81 9 [l0] st S Q else pm_V d 81 13 [l0] st S Q := pv_icmp_ge (pm_cdi rfl dX6_isTable_6) rfl
theorem q81_9 : pm_V d 81 9 [l0] st S Q = pm_V d 81 10 [l0] (.int 1 :: st) S Q := pv_iconst (pm_cdi rfl dX6_isTable_9) (by decide +kernel)
theorem q81_10 : pm_V d 81 10 [l0] st S Q = pm_V d 81 14 [l0] st S Q := pv_goto (pm_cdi rfl dX6_isTable_10) rfl
theorem q81_13 : pm_V d 81 13 [l0] st S Q = pm_V d 81 14 [l0] (.int 0 :: st) S Q := pv_iconst (pm_cdi rfl dX6_isTable_13) (by decide +kernel)
theorem q81_14 (hx : xi = 0 ∨ xi = 1) : pm_V d 81 14 [l0] [.int xi] S Q = Q (some (.int xi)) S := pv_rZ (pm_cdi rfl dX6_isTable_14) (by decide +kernel) hx
theorem q81_e : pm_N d 81 [.int v0i] S Q = pm_V d 81 0 [.int v0i] [] S Q := pv_ent (Nat.le_of_ble_eq_true rfl) rfl
/-! 82: ViewsJoins.isOneOfTwo(I)Z -/
theorem dX6_isOneOfTwo_0 : decode cX6_isOneOfTwo 0 = .ok (.iload_n 0, 1) := by decide +kernel
theorem dX6_isOneOfTwo_1 : decode cX6_isOneOfTwo 1 = .ok (.ifCond .eq 8, 3) := by decide +kernel
theorem dX6_isOneOfTwo_4 : decode cX6_isOneOfTwo 4 = .ok (.iload_n 0, 1) := by decide +kernel
theorem dX6_isOneOfTwo_5 : decode cX6_isOneOfTwo 5 = .ok (.iconst 1, 1) := by decide +kernel
theorem dX6_isOneOfTwo_6 : decode cX6_isOneOfTwo 6 = .ok (.if_icmp .ne 7, 3) := by decide +kernel
theorem dX6_isOneOfTwo_9 : decode cX6_isOneOfTwo 9 = .ok (.iconst 1, 1) := by decide +kernel
theorem dX6_isOneOfTwo_10 : decode cX6_isOneOfTwo 10 = .ok (.goto 4, 3) := by decide +kernel
theorem dX6_isOneOfTwo_13 : decode cX6_isOneOfTwo 13 = .ok (.iconst 0, 1) := by decide +kernel
theorem dX6_isOneOfTwo_14 : decode cX6_isOneOfTwo 14 = .ok (.ireturn, 1) := by decide +kernel
theorem q82_0 : pm_V d 82 0 [.int xi] st S Q = pm_V d 82 1 [.int xi] (.int xi :: st) S Q := pv_iload_n (pm_cdi rfl dX6_isOneOfTwo_0) rfl
theorem q82_1 : pm_V d 82 1 [l0] (.int xi :: st) S Q = if xi = 0 then pm_V d 82 9 [l0] st S Q else pm_V d 82 4 [l0] st S Q := pv_if_eq (pm_cdi rfl dX6_isOneOfTwo_1) rfl
theorem q82_4 : pm_V d 82 4 [.int xi] st S Q = pm_V d 82 5 [.int xi] (.int xi :: st) S Q := pv_iload_n (pm_cdi rfl dX6_isOneOfTwo_4) rfl
theorem q82_5 : pm_V d 82 5 [l0] st S Q = pm_V d 82 6 [l0] (.int 1 :: st) S Q := pv_iconst (pm_cdi rfl dX6_isOneOfTwo_5) (by decide +kernel)
theorem q82_6 : pm_V d 82 6 [l0] (.int yi :: .int xi :: st) S Q = if xi = yi then pm_V d 82 9 [l0] st S Q else pm_V d 82 13 [l0] st S Q := pv_icmp_ne (pm_cdi rfl dX6_isOneOfTwo_6) rfl
theorem q82_9 : pm_V d 82 9 [l0] st S Q = pm_V d 82 10 [l0] (.int 1 :: st) S Q := pv_iconst (pm_cdi rfl dX6_isOneOfTwo_9) (by decide +kernel)
theorem q82_10 : pm_V d 82 10 [l0] st S Q = pm_V d 82 14 [l0] st S Q := pv_goto (pm_cdi rfl dX6_isOneOfTwo_10) rfl
theorem q82_13 : pm_V d 82 13 [l0] st S Q = pm_V d 82 14 [l0] (.int 0 :: st) S Q := pv_iconst (pm_cdi rfl dX6_isOneOfTwo_13) (by decide +kernel)
theorem q82_14 (hx : xi = 0 ∨ xi = 1) : pm_V d 82 14 [l0] [.int xi] S Q = Q (some (.int xi)) S := pv_rZ (pm_cdi rfl dX6_isOneOfTwo_14) (by decide +kernel) hx
theorem q82_e : pm_N d 82 [.int v0i] S Q = pm_V d 82 0 [.int v0i] [] S Q := pv_ent (Nat.le_of_ble_eq_true rfl) rfl
/-! 83: ViewsJoins.isOneOfThree(I)Z -/
theorem dX6_isOneOfThree_0 : decode cX6_isOneOfThree 0 = .ok (.iload_n 0, 1) := by decide +kernel
theorem dX6_isOneOfThree_1 : decode cX6_isOneOfThree 1 = .ok (.ifCond .lt 12, 3) := by decide +kernel
theorem dX6_isOneOfThree_4 : decode cX6_isOneOfThree 4 = .ok (.iload_n 0, 1) := by decide +kernel
theorem dX6_isOneOfThree_5 : decode cX6_isOneOfThree 5 = .ok (.iconst 2, 1) := by decide +kernel
theorem dX6_isOneOfThree_6 : decode cX6_isOneOfThree 6 = .ok (.if_icmp .gt 7, 3) := by decide +kernel
theorem dX6_isOneOfThree_9 : decode cX6_isOneOfThree 9 = .ok (.iconst 1, 1) := by decide +kernel
theorem dX6_isOneOfThree_10 : decode cX6_isOneOfThree 10 = .ok (.goto 4, 3) := by decide +kernel
theorem dX6_isOneOfThree_13 : decode cX6_isOneOfThree 13 = .ok (.iconst 0, 1) := by decide +kernel
theorem dX6_isOneOfThree_14 : decode cX6_isOneOfThree 14 = .ok (.ireturn, 1) := by decide +kernel
theorem q83_0 : pm_V d 83 0 [.int xi] st S Q = pm_V d 83 1 [.int xi] (.int xi :: st) S Q := pv_iload_n (pm_cdi rfl dX6_isOneOfThree_0) rfl
theorem q83_1 : pm_V d 83 1 [l0] (.int xi :: st) S Q = if xi < 0 then pm_V d 83 13 [l0] st S Q else pm_V d 83 4 [l0] st S Q := pv_if_lt (pm_cdi rfl dX6_isOneOfThree_1) rfl
theorem q83_4 : pm_V d 83 4 [.int xi] st S Q = pm_V d 83 5 [.int xi] (.int xi :: st) S Q := pv_iload_n (pm_cdi rfl dX6_isOneOfThree_4) rfl
theorem q83_5 : pm_V d 83 5 [l0] st S Q = pm_V d 83 6 [l0] (.int 2 :: st) S Q := pv_iconst (pm_cdi rfl dX6_isOneOfThree_5) (by decide +kernel)
theorem q83_6 : pm_V d 83 6 [l0] (.int yi :: .int xi :: st) S Q = if xi ≤ yi then pm_V d 83 9 [l0] st S Q else pm_V d 83 13 [l0] st S Q := pv_icmp_gt (pm_cdi rfl dX6_isOneOfThree_6) rfl
theorem q83_9 : pm_V d 83 9 [l0] st S Q = pm_V d 83 10 [l0] (.int 1 :: st) S Q := pv_iconst (pm_cdi rfl dX6_isOneOfThree_9) (by decide +kernel)
theorem q83_10 : pm_V d 83 10 [l0] st S Q = pm_V d 83 14 [l0] st S Q := pv_goto (pm_cdi rfl dX6_isOneOfThree_10) rfl
theorem q83_13 : pm_V d 83 13 [l0] st S Q = pm_V d 83 14 [l0] (.int 0 :: st) S Q := pv_iconst (pm_cdi rfl dX6_isOneOfThree_13) (by decide +kernel)
theorem q83_14 (hx : xi = 0 ∨ xi = 1) : pm_V d 83 14 [l0] [.int xi] S Q = Q (some (.int xi)) S := pv_rZ (pm_cdi rfl dX6_isOneOfThree_14) (by decide +kernel) hx
theorem q83_e : pm_N d 83 [.int v0i] S Q = pm_V d 83 0 [.int v0i] [] S Q := pv_ent (Nat.le_of_ble_eq_true rfl) rfl
/-! 84: ViewsJoins.isBroken(LViewsJoins$Graph;)Z -/
theorem dX6_isBroken_0 : decode cX6_isBroken 0 = .ok (.aload_n 0, 1) := by decide +kernel
theorem dX6_isBroken_1 : decode cX6_isBroken 1 = .ok (.aload_n 1, 1) := by decide +kernel
theorem dX6_isBroken_2 : decode cX6_isBroken 2 = .ok (.iconst 0, 1) := by decide +kernel
theorem dX6_isBroken_3 : decode cX6_isBroken 3 = .ok (.invokevirtual 192, 3) := by decide +kernel
theorem dX6_isBroken_6 : decode cX6_isBroken 6 = .ok (.aload_n 1, 1) := by decide +kernel
theorem dX6_isBroken_7 : decode cX6_isBroken 7 = .ok (.getfield 127, 3) := by decide +kernel
theorem dX6_isBroken_10 : decode cX6_isBroken 10 = .ok (.ifCond .eq 7, 3) := by decide +kernel
theorem dX6_isBroken_13 : decode cX6_isBroken 13 = .ok (.iconst 1, 1) := by decide +kernel
theorem dX6_isBroken_14 : decode cX6_isBroken 14 = .ok (.goto 4, 3) := by decide +kernel
theorem dX6_isBroken_17 : decode cX6_isBroken 17 = .ok (.iconst 0, 1) := by decide +kernel
theorem dX6_isBroken_18 : decode cX6_isBroken 18 = .ok (.ireturn, 1) := by decide +kernel
theorem q84_0 : pm_V d 84 0 [.ref xn, l1] st S Q = pm_V d 84 1 [.ref xn, l1] (.ref xn :: st) S Q := pv_aload_n (pm_cdi rfl dX6_isBroken_0) rfl
theorem q84_1 : pm_V d 84 1 [l0, .ref xn] st S Q = pm_V d 84 2 [l0, .ref xn] (.ref xn :: st) S Q := pv_aload_n (pm_cdi rfl dX6_isBroken_1) rfl
theorem q84_1N : pm_V d 84 1 [l0, .null] st S Q = pm_V d 84 2 [l0, .null] (.null :: st) S Q := pv_aload_nN (pm_cdi rfl dX6_isBroken_1) rfl
theorem q84_2 : pm_V d 84 2 [l0, l1] st S Q = pm_V d 84 3 [l0, l1] (.int 0 :: st) S Q := pv_iconst (pm_cdi rfl dX6_isBroken_2) (by decide +kernel)
theorem q84_3 (hs : pm_sh S an = .inr 6) : pm_V (d + 1) 84 3 [l0, l1] [.int v1i, v0v, .ref an] S Q = pm_N d 85 [.ref an, v0v, .int v1i] S (fun r S' => pm_V (d + 1) 84 6 [l0, l1] (r.toList ++ []) S' Q) := pv_callV (as := [v0v, .int v1i]) (pm_cdi rfl dX6_isBroken_3) (Or.inl (by decide +kernel)) (by decide +kernel) (show _ = _ from (by decide +kernel : 2 = pm_np 85)) rfl (Nat.le_of_ble_eq_true rfl) (cl := 6) (by decide +kernel) hs
theorem q84_6 : pm_V d 84 6 [l0, .ref xn] st S Q = pm_V d 84 7 [l0, .ref xn] (.ref xn :: st) S Q := pv_aload_n (pm_cdi rfl dX6_isBroken_6) rfl
theorem q84_6N : pm_V d 84 6 [l0, .null] st S Q = pm_V d 84 7 [l0, .null] (.null :: st) S Q := pv_aload_nN (pm_cdi rfl dX6_isBroken_6) rfl
theorem q84_7 (hs : pm_sh S an = .inr 0) : pm_V d 84 7 [l0, l1] (.ref an :: st) S Q = pm_V d 84 10 [l0, l1] (.int (pm_gi S an 5) :: st) S Q := pv_getI (pm_cdi rfl dX6_isBroken_7) (by decide +kernel) (by decide +kernel) (by decide +kernel) hs
theorem q84_10 : pm_V d 84 10 [l0, l1] (.int xi :: st) S Q = if xi = 0 then pm_V d 84 17 [l0, l1] st S Q else pm_V d 84 13 [l0, l1] st S Q := pv_if_eq (pm_cdi rfl dX6_isBroken_10) rfl
theorem q84_13 : pm_V d 84 13 [l0, l1] st S Q = pm_V d 84 14 [l0, l1] (.int 1 :: st) S Q := pv_iconst (pm_cdi rfl dX6_isBroken_13) (by decide +kernel)
theorem q84_14 : pm_V d 84 14 [l0, l1] st S Q = pm_V d 84 18 [l0, l1] st S Q := pv_goto (pm_cdi rfl dX6_isBroken_14) rfl
theorem q84_17 : pm_V d 84 17 [l0, l1] st S Q = pm_V d 84 18 [l0, l1] (.int 0 :: st) S Q := pv_iconst (pm_cdi rfl dX6_isBroken_17) (by decide +kernel)
theorem q84_18 (hx : xi = 0 ∨ xi = 1) : pm_V d 84 18 [l0, l1] [.int xi] S Q = Q (some (.int xi)) S := pv_rZ (pm_cdi rfl dX6_isBroken_18) (by decide +kernel) hx
theorem q84_e : pm_N d 84 [.ref an, .ref v0n] S Q = pm_V d 84 0 [.ref an, .ref v0n] [] S Q := pv_ent (Nat.le_of_ble_eq_true rfl) rfl
/-! 85: ViewsJoins.refresh(LViewsJoins$Graph;I)V -/
theorem dX6_refresh_0 : decode cX6_refresh 0 = .ok (.aload_n 1, 1) := by decide +kernel
theorem dX6_refresh_1 : decode cX6_refresh 1 = .ok (.ifnull 20, 3) := by decide +kernel
theorem dX6_refresh_4 : decode cX6_refresh 4 = .ok (.iload_n 2, 1) := by decide +kernel
theorem dX6_refresh_5 : decode cX6_refresh 5 = .ok (.bipush 24, 2) := by decide +kernel
theorem dX6_refresh_7 : decode cX6_refresh 7 = .ok (.if_icmp .ge 14, 3) := by decide +kernel
theorem dX6_refresh_10 : decode cX6_refresh 10 = .ok (.aload_n 1, 1) := by decide +kernel
theorem dX6_refresh_11 : decode cX6_refresh 11 = .ok (.aload_n 0, 1) := by decide +kernel
theorem dX6_refresh_12 : decode cX6_refresh 12 = .ok (.getfield 36, 3) := by decide +kernel
theorem dX6_refresh_15 : decode cX6_refresh 15 = .ok (.invokevirtual 196, 3) := by decide +kernel
theorem dX6_refresh_18 : decode cX6_refresh 18 = .ok (.ifCond .ne 4, 3) := by decide +kernel
theorem dX6_refresh_21 : decode cX6_refresh 21 = .ok (.return_, 1) := by decide +kernel
theorem dX6_refresh_22 : decode cX6_refresh 22 = .ok (.aload_n 0, 1) := by decide +kernel
theorem dX6_refresh_23 : decode cX6_refresh 23 = .ok (.aload_n 1, 1) := by decide +kernel
theorem dX6_refresh_24 : decode cX6_refresh 24 = .ok (.getfield 199, 3) := by decide +kernel
theorem dX6_refresh_27 : decode cX6_refresh 27 = .ok (.iload_n 2, 1) := by decide +kernel
theorem dX6_refresh_28 : decode cX6_refresh 28 = .ok (.iconst 1, 1) := by decide +kernel
theorem dX6_refresh_29 : decode cX6_refresh 29 = .ok (.iadd, 1) := by decide +kernel
theorem dX6_refresh_30 : decode cX6_refresh 30 = .ok (.invokevirtual 192, 3) := by decide +kernel
theorem dX6_refresh_33 : decode cX6_refresh 33 = .ok (.aload_n 0, 1) := by decide +kernel
theorem dX6_refresh_34 : decode cX6_refresh 34 = .ok (.aload_n 1, 1) := by decide +kernel
theorem dX6_refresh_35 : decode cX6_refresh 35 = .ok (.getfield 203, 3) := by decide +kernel
theorem dX6_refresh_38 : decode cX6_refresh 38 = .ok (.iload_n 2, 1) := by decide +kernel
theorem dX6_refresh_39 : decode cX6_refresh 39 = .ok (.iconst 1, 1) := by decide +kernel
theorem dX6_refresh_40 : decode cX6_refresh 40 = .ok (.iadd, 1) := by decide +kernel
theorem dX6_refresh_41 : decode cX6_refresh 41 = .ok (.invokevirtual 192, 3) := by decide +kernel
theorem dX6_refresh_44 : decode cX6_refresh 44 = .ok (.aload_n 0, 1) := by decide +kernel
theorem dX6_refresh_45 : decode cX6_refresh 45 = .ok (.getfield 18, 3) := by decide +kernel
theorem dX6_refresh_48 : decode cX6_refresh 48 = .ok (.aload_n 1, 1) := by decide +kernel
theorem dX6_refresh_49 : decode cX6_refresh 49 = .ok (.invokevirtual 206, 3) := by decide +kernel
theorem dX6_refresh_52 : decode cX6_refresh 52 = .ok (.aload_n 1, 1) := by decide +kernel
theorem dX6_refresh_53 : decode cX6_refresh 53 = .ok (.aload_n 0, 1) := by decide +kernel
theorem dX6_refresh_54 : decode cX6_refresh 54 = .ok (.getfield 36, 3) := by decide +kernel
theorem dX6_refresh_57 : decode cX6_refresh 57 = .ok (.putfield 210, 3) := by decide +kernel
theorem dX6_refresh_60 : decode cX6_refresh 60 = .ok (.return_, 1) := by decide +kernel
theorem q85_0 : pm_V d 85 0 [l0, .ref xn, l2] st S Q = pm_V d 85 1 [l0, .ref xn, l2] (.ref xn :: st) S Q := pv_aload_n (pm_cdi rfl dX6_refresh_0) rfl
theorem q85_0N : pm_V d 85 0 [l0, .null, l2] st S Q = pm_V d 85 1 [l0, .null, l2] (.null :: st) S Q := pv_aload_nN (pm_cdi rfl dX6_refresh_0) rfl
theorem q85_1 : pm_V d 85 1 [l0, l1, l2] (.ref xn :: st) S Q = pm_V d 85 4 [l0, l1, l2] st S Q := pv_ifnullA (pm_cdi rfl dX6_refresh_1)
theorem q85_1N : pm_V d 85 1 [l0, l1, l2] (.null :: st) S Q = pm_V d 85 21 [l0, l1, l2] st S Q := pv_ifnullN (pm_cdi rfl dX6_refresh_1) rfl
theorem q85_4 : pm_V d 85 4 [l0, l1, .int xi] st S Q = pm_V d 85 5 [l0, l1, .int xi] (.int xi :: st) S Q := pv_iload_n (pm_cdi rfl dX6_refresh_4) rfl
theorem q85_5 : pm_V d 85 5 [l0, l1, l2] st S Q = pm_V d 85 7 [l0, l1, l2] (.int 24 :: st) S Q := pv_bipush (pm_cdi rfl dX6_refresh_5) (by decide +kernel)
theorem q85_7 : pm_V d 85 7 [l0, l1, l2] (.int yi :: .int xi :: st) S Q = if xi < yi then pm_V d 85 10 [l0, l1, l2] st S Q else pm_V d 85 21 [l0, l1, l2] st S Q := pv_icmp_ge (pm_cdi rfl dX6_refresh_7) rfl
theorem q85_10 : pm_V d 85 10 [l0, .ref xn, l2] st S Q = pm_V d 85 11 [l0, .ref xn, l2] (.ref xn :: st) S Q := pv_aload_n (pm_cdi rfl dX6_refresh_10) rfl
theorem q85_10N : pm_V d 85 10 [l0, .null, l2] st S Q = pm_V d 85 11 [l0, .null, l2] (.null :: st) S Q := pv_aload_nN (pm_cdi rfl dX6_refresh_10) rfl
theorem q85_11 : pm_V d 85 11 [.ref xn, l1, l2] st S Q = pm_V d 85 12 [.ref xn, l1, l2] (.ref xn :: st) S Q := pv_aload_n (pm_cdi rfl dX6_refresh_11) rfl
theorem q85_12 (hs : pm_sh S an = .inr 6) : pm_V d 85 12 [l0, l1, l2] (.ref an :: st) S Q = pm_V d 85 15 [l0, l1, l2] (.int (pm_gi S an 5) :: st) S Q := pv_getI (pm_cdi rfl dX6_refresh_12) (by decide +kernel) (by decide +kernel) (by decide +kernel) hs
theorem q85_15 (hs : pm_sh S an = .inr 0) : pm_V (d + 1) 85 15 [l0, l1, l2] [.int v0i, .ref an] S Q = pm_N d 4 [.ref an, .int v0i] S (fun r S' => pm_V (d + 1) 85 18 [l0, l1, l2] (r.toList ++ []) S' Q) := pv_callV (as := [.int v0i]) (pm_cdi rfl dX6_refresh_15) (Or.inl (by decide +kernel)) (by decide +kernel) (show _ = _ from (by decide +kernel : 1 = pm_np 4)) rfl (Nat.le_of_ble_eq_true rfl) (cl := 0) (by decide +kernel) hs
theorem q85_18 : pm_V d 85 18 [l0, l1, l2] (.int xi :: st) S Q = if xi = 0 then pm_V d 85 21 [l0, l1, l2] st S Q else pm_V d 85 22 [l0, l1, l2] st S Q := pv_if_ne (pm_cdi rfl dX6_refresh_18) rfl
theorem q85_21 : pm_V d 85 21 [l0, l1, l2] [] S Q = Q none S := pv_rV (pm_cdi rfl dX6_refresh_21) (by decide +kernel)
theorem q85_22 : pm_V d 85 22 [.ref xn, l1, l2] st S Q = pm_V d 85 23 [.ref xn, l1, l2] (.ref xn :: st) S Q := pv_aload_n (pm_cdi rfl dX6_refresh_22) rfl
theorem q85_23 : pm_V d 85 23 [l0, .ref xn, l2] st S Q = pm_V d 85 24 [l0, .ref xn, l2] (.ref xn :: st) S Q := pv_aload_n (pm_cdi rfl dX6_refresh_23) rfl
theorem q85_23N : pm_V d 85 23 [l0, .null, l2] st S Q = pm_V d 85 24 [l0, .null, l2] (.null :: st) S Q := pv_aload_nN (pm_cdi rfl dX6_refresh_23) rfl
theorem q85_24 (hs : pm_sh S an = .inr 0) : pm_V d 85 24 [l0, l1, l2] (.ref an :: st) S Q = pm_V d 85 27 [l0, l1, l2] (va_rf (pm_gr S an 7) :: st) S Q := pv_getA (pm_cdi rfl dX6_refresh_24) (by decide +kernel) (by decide +kernel) (by decide +kernel) hs
theorem q85_27 : pm_V d 85 27 [l0, l1, .int xi] st S Q = pm_V d 85 28 [l0, l1, .int xi] (.int xi :: st) S Q := pv_iload_n (pm_cdi rfl dX6_refresh_27) rfl
theorem q85_28 : pm_V d 85 28 [l0, l1, l2] st S Q = pm_V d 85 29 [l0, l1, l2] (.int 1 :: st) S Q := pv_iconst (pm_cdi rfl dX6_refresh_28) (by decide +kernel)
theorem q85_29 : pm_V d 85 29 [l0, l1, l2] (.int yi :: .int xi :: st) S Q = pm_V d 85 30 [l0, l1, l2] (.int (xi + yi) :: st) S Q := pv_iadd (pm_cdi rfl dX6_refresh_29)
theorem q85_30 (hs : pm_sh S an = .inr 6) : pm_V (d + 1) 85 30 [l0, l1, l2] [.int v1i, v0v, .ref an] S Q = pm_N d 85 [.ref an, v0v, .int v1i] S (fun r S' => pm_V (d + 1) 85 33 [l0, l1, l2] (r.toList ++ []) S' Q) := pv_callV (as := [v0v, .int v1i]) (pm_cdi rfl dX6_refresh_30) (Or.inl (by decide +kernel)) (by decide +kernel) (show _ = _ from (by decide +kernel : 2 = pm_np 85)) rfl (Nat.le_of_ble_eq_true rfl) (cl := 6) (by decide +kernel) hs
theorem q85_33 : pm_V d 85 33 [.ref xn, l1, l2] st S Q = pm_V d 85 34 [.ref xn, l1, l2] (.ref xn :: st) S Q := pv_aload_n (pm_cdi rfl dX6_refresh_33) rfl
theorem q85_34 : pm_V d 85 34 [l0, .ref xn, l2] st S Q = pm_V d 85 35 [l0, .ref xn, l2] (.ref xn :: st) S Q := pv_aload_n (pm_cdi rfl dX6_refresh_34) rfl
theorem q85_34N : pm_V d 85 34 [l0, .null, l2] st S Q = pm_V d 85 35 [l0, .null, l2] (.null :: st) S Q := pv_aload_nN (pm_cdi rfl dX6_refresh_34) rfl
theorem q85_35 (hs : pm_sh S an = .inr 0) : pm_V d 85 35 [l0, l1, l2] (.ref an :: st) S Q = pm_V d 85 38 [l0, l1, l2] (va_rf (pm_gr S an 8) :: st) S Q := pv_getA (pm_cdi rfl dX6_refresh_35) (by decide +kernel) (by decide +kernel) (by decide +kernel) hs
theorem q85_38 : pm_V d 85 38 [l0, l1, .int xi] st S Q = pm_V d 85 39 [l0, l1, .int xi] (.int xi :: st) S Q := pv_iload_n (pm_cdi rfl dX6_refresh_38) rfl
theorem q85_39 : pm_V d 85 39 [l0, l1, l2] st S Q = pm_V d 85 40 [l0, l1, l2] (.int 1 :: st) S Q := pv_iconst (pm_cdi rfl dX6_refresh_39) (by decide +kernel)
theorem q85_40 : pm_V d 85 40 [l0, l1, l2] (.int yi :: .int xi :: st) S Q = pm_V d 85 41 [l0, l1, l2] (.int (xi + yi) :: st) S Q := pv_iadd (pm_cdi rfl dX6_refresh_40)
theorem q85_41 (hs : pm_sh S an = .inr 6) : pm_V (d + 1) 85 41 [l0, l1, l2] [.int v1i, v0v, .ref an] S Q = pm_N d 85 [.ref an, v0v, .int v1i] S (fun r S' => pm_V (d + 1) 85 44 [l0, l1, l2] (r.toList ++ []) S' Q) := pv_callV (as := [v0v, .int v1i]) (pm_cdi rfl dX6_refresh_41) (Or.inl (by decide +kernel)) (by decide +kernel) (show _ = _ from (by decide +kernel : 2 = pm_np 85)) rfl (Nat.le_of_ble_eq_true rfl) (cl := 6) (by decide +kernel) hs
theorem q85_44 : pm_V d 85 44 [.ref xn, l1, l2] st S Q = pm_V d 85 45 [.ref xn, l1, l2] (.ref xn :: st) S Q := pv_aload_n (pm_cdi rfl dX6_refresh_44) rfl
theorem q85_45 (hs : pm_sh S an = .inr 6) : pm_V d 85 45 [l0, l1, l2] (.ref an :: st) S Q = pm_V d 85 48 [l0, l1, l2] (va_rf (pm_gr S an 1) :: st) S Q := pv_getA (pm_cdi rfl dX6_refresh_45) (by decide +kernel) (by decide +kernel) (by decide +kernel) hs
theorem q85_48 : pm_V d 85 48 [l0, .ref xn, l2] st S Q = pm_V d 85 49 [l0, .ref xn, l2] (.ref xn :: st) S Q := pv_aload_n (pm_cdi rfl dX6_refresh_48) rfl
theorem q85_48N : pm_V d 85 48 [l0, .null, l2] st S Q = pm_V d 85 49 [l0, .null, l2] (.null :: st) S Q := pv_aload_nN (pm_cdi rfl dX6_refresh_48) rfl
theorem q85_49 (hs : pm_sh S an = .inr 4) : pm_V (d + 1) 85 49 [l0, l1, l2] [v0v, .ref an] S Q = pm_N d 25 [.ref an, v0v] S (fun r S' => pm_V (d + 1) 85 52 [l0, l1, l2] (r.toList ++ []) S' Q) := pv_callV (as := [v0v]) (pm_cdi rfl dX6_refresh_49) (Or.inl (by decide +kernel)) (by decide +kernel) (show _ = _ from (by decide +kernel : 1 = pm_np 25)) rfl (Nat.le_of_ble_eq_true rfl) (cl := 4) (by decide +kernel) hs
theorem q85_52 : pm_V d 85 52 [l0, .ref xn, l2] st S Q = pm_V d 85 53 [l0, .ref xn, l2] (.ref xn :: st) S Q := pv_aload_n (pm_cdi rfl dX6_refresh_52) rfl
theorem q85_52N : pm_V d 85 52 [l0, .null, l2] st S Q = pm_V d 85 53 [l0, .null, l2] (.null :: st) S Q := pv_aload_nN (pm_cdi rfl dX6_refresh_52) rfl
theorem q85_53 : pm_V d 85 53 [.ref xn, l1, l2] st S Q = pm_V d 85 54 [.ref xn, l1, l2] (.ref xn :: st) S Q := pv_aload_n (pm_cdi rfl dX6_refresh_53) rfl
theorem q85_54 (hs : pm_sh S an = .inr 6) : pm_V d 85 54 [l0, l1, l2] (.ref an :: st) S Q = pm_V d 85 57 [l0, l1, l2] (.int (pm_gi S an 5) :: st) S Q := pv_getI (pm_cdi rfl dX6_refresh_54) (by decide +kernel) (by decide +kernel) (by decide +kernel) hs
theorem q85_57 (hs : pm_sh S an = .inr 0) : pm_V d 85 57 [l0, l1, l2] (.int xi :: .ref an :: st) S Q = pm_V d 85 60 [l0, l1, l2] st (pm_sgi S an 13 xi) Q := pv_putI (pm_cdi rfl dX6_refresh_57) (by decide +kernel) (by decide +kernel) (by decide +kernel) hs
theorem q85_60 : pm_V d 85 60 [l0, l1, l2] [] S Q = Q none S := pv_rV (pm_cdi rfl dX6_refresh_60) (by decide +kernel)
theorem q85_e : pm_N d 85 [.ref an, .ref v0n, .int v1i] S Q = pm_V d 85 0 [.ref an, .ref v0n, .int v1i] [] S Q := pv_ent (Nat.le_of_ble_eq_true rfl) rfl
/-! 86: ViewsJoinsModel.<init>()V -/
theorem dX7_init_0 : decode cX7_init 0 = .ok (.aload_n 0, 1) := by decide +kernel
theorem dX7_init_1 : decode cX7_init 1 = .ok (.invokespecial 1, 3) := by decide +kernel
theorem dX7_init_4 : decode cX7_init 4 = .ok (.aload_n 0, 1) := by decide +kernel
theorem dX7_init_5 : decode cX7_init 5 = .ok (.bipush 24, 2) := by decide +kernel
theorem dX7_init_7 : decode cX7_init 7 = .ok (.newarray .int, 2) := by decide +kernel
theorem dX7_init_9 : decode cX7_init 9 = .ok (.putfield 7, 3) := by decide +kernel
theorem dX7_init_12 : decode cX7_init 12 = .ok (.aload_n 0, 1) := by decide +kernel
theorem dX7_init_13 : decode cX7_init 13 = .ok (.bipush 24, 2) := by decide +kernel
theorem dX7_init_15 : decode cX7_init 15 = .ok (.newarray .int, 2) := by decide +kernel
theorem dX7_init_17 : decode cX7_init 17 = .ok (.putfield 13, 3) := by decide +kernel
theorem dX7_init_20 : decode cX7_init 20 = .ok (.aload_n 0, 1) := by decide +kernel
theorem dX7_init_21 : decode cX7_init 21 = .ok (.bipush 24, 2) := by decide +kernel
theorem dX7_init_23 : decode cX7_init 23 = .ok (.newarray .int, 2) := by decide +kernel
theorem dX7_init_25 : decode cX7_init 25 = .ok (.putfield 16, 3) := by decide +kernel
theorem dX7_init_28 : decode cX7_init 28 = .ok (.aload_n 0, 1) := by decide +kernel
theorem dX7_init_29 : decode cX7_init 29 = .ok (.bipush 24, 2) := by decide +kernel
theorem dX7_init_31 : decode cX7_init 31 = .ok (.newarray .int, 2) := by decide +kernel
theorem dX7_init_33 : decode cX7_init 33 = .ok (.putfield 19, 3) := by decide +kernel
theorem dX7_init_36 : decode cX7_init 36 = .ok (.aload_n 0, 1) := by decide +kernel
theorem dX7_init_37 : decode cX7_init 37 = .ok (.bipush 24, 2) := by decide +kernel
theorem dX7_init_39 : decode cX7_init 39 = .ok (.newarray .int, 2) := by decide +kernel
theorem dX7_init_41 : decode cX7_init 41 = .ok (.putfield 22, 3) := by decide +kernel
theorem dX7_init_44 : decode cX7_init 44 = .ok (.aload_n 0, 1) := by decide +kernel
theorem dX7_init_45 : decode cX7_init 45 = .ok (.bipush 24, 2) := by decide +kernel
theorem dX7_init_47 : decode cX7_init 47 = .ok (.newarray .boolean, 2) := by decide +kernel
theorem dX7_init_49 : decode cX7_init 49 = .ok (.putfield 25, 3) := by decide +kernel
theorem dX7_init_52 : decode cX7_init 52 = .ok (.aload_n 0, 1) := by decide +kernel
theorem dX7_init_53 : decode cX7_init 53 = .ok (.bipush 24, 2) := by decide +kernel
theorem dX7_init_55 : decode cX7_init 55 = .ok (.newarray .int, 2) := by decide +kernel
theorem dX7_init_57 : decode cX7_init 57 = .ok (.putfield 29, 3) := by decide +kernel
theorem dX7_init_60 : decode cX7_init 60 = .ok (.aload_n 0, 1) := by decide +kernel
theorem dX7_init_61 : decode cX7_init 61 = .ok (.bipush 24, 2) := by decide +kernel
theorem dX7_init_63 : decode cX7_init 63 = .ok (.newarray .int, 2) := by decide +kernel
theorem dX7_init_65 : decode cX7_init 65 = .ok (.putfield 32, 3) := by decide +kernel
theorem dX7_init_68 : decode cX7_init 68 = .ok (.aload_n 0, 1) := by decide +kernel
theorem dX7_init_69 : decode cX7_init 69 = .ok (.bipush 24, 2) := by decide +kernel
theorem dX7_init_71 : decode cX7_init 71 = .ok (.newarray .int, 2) := by decide +kernel
theorem dX7_init_73 : decode cX7_init 73 = .ok (.putfield 35, 3) := by decide +kernel
theorem dX7_init_76 : decode cX7_init 76 = .ok (.aload_n 0, 1) := by decide +kernel
theorem dX7_init_77 : decode cX7_init 77 = .ok (.sipush 960, 3) := by decide +kernel
theorem dX7_init_80 : decode cX7_init 80 = .ok (.newarray .long, 2) := by decide +kernel
theorem dX7_init_82 : decode cX7_init 82 = .ok (.putfield 38, 3) := by decide +kernel
theorem dX7_init_85 : decode cX7_init 85 = .ok (.aload_n 0, 1) := by decide +kernel
theorem dX7_init_86 : decode cX7_init 86 = .ok (.sipush 960, 3) := by decide +kernel
theorem dX7_init_89 : decode cX7_init 89 = .ok (.newarray .int, 2) := by decide +kernel
theorem dX7_init_91 : decode cX7_init 91 = .ok (.putfield 42, 3) := by decide +kernel
theorem dX7_init_94 : decode cX7_init 94 = .ok (.aload_n 0, 1) := by decide +kernel
theorem dX7_init_95 : decode cX7_init 95 = .ok (.sipush 960, 3) := by decide +kernel
theorem dX7_init_98 : decode cX7_init 98 = .ok (.newarray .int, 2) := by decide +kernel
theorem dX7_init_100 : decode cX7_init 100 = .ok (.putfield 45, 3) := by decide +kernel
theorem dX7_init_103 : decode cX7_init 103 = .ok (.aload_n 0, 1) := by decide +kernel
theorem dX7_init_104 : decode cX7_init 104 = .ok (.sipush 2880, 3) := by decide +kernel
theorem dX7_init_107 : decode cX7_init 107 = .ok (.newarray .int, 2) := by decide +kernel
theorem dX7_init_109 : decode cX7_init 109 = .ok (.putfield 48, 3) := by decide +kernel
theorem dX7_init_112 : decode cX7_init 112 = .ok (.aload_n 0, 1) := by decide +kernel
theorem dX7_init_113 : decode cX7_init 113 = .ok (.sipush 2880, 3) := by decide +kernel
theorem dX7_init_116 : decode cX7_init 116 = .ok (.newarray .int, 2) := by decide +kernel
theorem dX7_init_118 : decode cX7_init 118 = .ok (.putfield 51, 3) := by decide +kernel
theorem dX7_init_121 : decode cX7_init 121 = .ok (.aload_n 0, 1) := by decide +kernel
theorem dX7_init_122 : decode cX7_init 122 = .ok (.sipush 2880, 3) := by decide +kernel
theorem dX7_init_125 : decode cX7_init 125 = .ok (.newarray .long, 2) := by decide +kernel
theorem dX7_init_127 : decode cX7_init 127 = .ok (.putfield 54, 3) := by decide +kernel
theorem dX7_init_130 : decode cX7_init 130 = .ok (.aload_n 0, 1) := by decide +kernel
theorem dX7_init_131 : decode cX7_init 131 = .ok (.sipush 2880, 3) := by decide +kernel
theorem dX7_init_134 : decode cX7_init 134 = .ok (.newarray .int, 2) := by decide +kernel
theorem dX7_init_136 : decode cX7_init 136 = .ok (.putfield 57, 3) := by decide +kernel
theorem dX7_init_139 : decode cX7_init 139 = .ok (.aload_n 0, 1) := by decide +kernel
theorem dX7_init_140 : decode cX7_init 140 = .ok (.sipush 2880, 3) := by decide +kernel
theorem dX7_init_143 : decode cX7_init 143 = .ok (.newarray .int, 2) := by decide +kernel
theorem dX7_init_145 : decode cX7_init 145 = .ok (.putfield 60, 3) := by decide +kernel
theorem dX7_init_148 : decode cX7_init 148 = .ok (.aload_n 0, 1) := by decide +kernel
theorem dX7_init_149 : decode cX7_init 149 = .ok (.bipush 24, 2) := by decide +kernel
theorem dX7_init_151 : decode cX7_init 151 = .ok (.newarray .int, 2) := by decide +kernel
theorem dX7_init_153 : decode cX7_init 153 = .ok (.putfield 63, 3) := by decide +kernel
theorem dX7_init_156 : decode cX7_init 156 = .ok (.aload_n 0, 1) := by decide +kernel
theorem dX7_init_157 : decode cX7_init 157 = .ok (.sipush 3840, 3) := by decide +kernel
theorem dX7_init_160 : decode cX7_init 160 = .ok (.newarray .int, 2) := by decide +kernel
theorem dX7_init_162 : decode cX7_init 162 = .ok (.putfield 66, 3) := by decide +kernel
theorem dX7_init_165 : decode cX7_init 165 = .ok (.aload_n 0, 1) := by decide +kernel
theorem dX7_init_166 : decode cX7_init 166 = .ok (.sipush 3840, 3) := by decide +kernel
theorem dX7_init_169 : decode cX7_init 169 = .ok (.newarray .int, 2) := by decide +kernel
theorem dX7_init_171 : decode cX7_init 171 = .ok (.putfield 69, 3) := by decide +kernel
theorem dX7_init_174 : decode cX7_init 174 = .ok (.aload_n 0, 1) := by decide +kernel
theorem dX7_init_175 : decode cX7_init 175 = .ok (.sipush 160, 3) := by decide +kernel
theorem dX7_init_178 : decode cX7_init 178 = .ok (.newarray .int, 2) := by decide +kernel
theorem dX7_init_180 : decode cX7_init 180 = .ok (.putfield 72, 3) := by decide +kernel
theorem dX7_init_183 : decode cX7_init 183 = .ok (.aload_n 0, 1) := by decide +kernel
theorem dX7_init_184 : decode cX7_init 184 = .ok (.bipush 20, 2) := by decide +kernel
theorem dX7_init_186 : decode cX7_init 186 = .ok (.newarray .int, 2) := by decide +kernel
theorem dX7_init_188 : decode cX7_init 188 = .ok (.putfield 75, 3) := by decide +kernel
theorem dX7_init_191 : decode cX7_init 191 = .ok (.aload_n 0, 1) := by decide +kernel
theorem dX7_init_192 : decode cX7_init 192 = .ok (.bipush 20, 2) := by decide +kernel
theorem dX7_init_194 : decode cX7_init 194 = .ok (.newarray .long, 2) := by decide +kernel
theorem dX7_init_196 : decode cX7_init 196 = .ok (.putfield 78, 3) := by decide +kernel
theorem dX7_init_199 : decode cX7_init 199 = .ok (.aload_n 0, 1) := by decide +kernel
theorem dX7_init_200 : decode cX7_init 200 = .ok (.bipush 20, 2) := by decide +kernel
theorem dX7_init_202 : decode cX7_init 202 = .ok (.newarray .int, 2) := by decide +kernel
theorem dX7_init_204 : decode cX7_init 204 = .ok (.putfield 81, 3) := by decide +kernel
theorem dX7_init_207 : decode cX7_init 207 = .ok (.aload_n 0, 1) := by decide +kernel
theorem dX7_init_208 : decode cX7_init 208 = .ok (.bipush 20, 2) := by decide +kernel
theorem dX7_init_210 : decode cX7_init 210 = .ok (.newarray .int, 2) := by decide +kernel
theorem dX7_init_212 : decode cX7_init 212 = .ok (.putfield 84, 3) := by decide +kernel
theorem dX7_init_215 : decode cX7_init 215 = .ok (.aload_n 0, 1) := by decide +kernel
theorem dX7_init_216 : decode cX7_init 216 = .ok (.bipush 40, 2) := by decide +kernel
theorem dX7_init_218 : decode cX7_init 218 = .ok (.newarray .int, 2) := by decide +kernel
theorem dX7_init_220 : decode cX7_init 220 = .ok (.putfield 87, 3) := by decide +kernel
theorem dX7_init_223 : decode cX7_init 223 = .ok (.aload_n 0, 1) := by decide +kernel
theorem dX7_init_224 : decode cX7_init 224 = .ok (.bipush 10, 2) := by decide +kernel
theorem dX7_init_226 : decode cX7_init 226 = .ok (.newarray .int, 2) := by decide +kernel
theorem dX7_init_228 : decode cX7_init 228 = .ok (.putfield 90, 3) := by decide +kernel
theorem dX7_init_231 : decode cX7_init 231 = .ok (.aload_n 0, 1) := by decide +kernel
theorem dX7_init_232 : decode cX7_init 232 = .ok (.bipush 24, 2) := by decide +kernel
theorem dX7_init_234 : decode cX7_init 234 = .ok (.newarray .int, 2) := by decide +kernel
theorem dX7_init_236 : decode cX7_init 236 = .ok (.putfield 93, 3) := by decide +kernel
theorem dX7_init_239 : decode cX7_init 239 = .ok (.aload_n 0, 1) := by decide +kernel
theorem dX7_init_240 : decode cX7_init 240 = .ok (.bipush 24, 2) := by decide +kernel
theorem dX7_init_242 : decode cX7_init 242 = .ok (.newarray .int, 2) := by decide +kernel
theorem dX7_init_244 : decode cX7_init 244 = .ok (.putfield 96, 3) := by decide +kernel
theorem dX7_init_247 : decode cX7_init 247 = .ok (.aload_n 0, 1) := by decide +kernel
theorem dX7_init_248 : decode cX7_init 248 = .ok (.bipush 24, 2) := by decide +kernel
theorem dX7_init_250 : decode cX7_init 250 = .ok (.newarray .int, 2) := by decide +kernel
theorem dX7_init_252 : decode cX7_init 252 = .ok (.putfield 99, 3) := by decide +kernel
theorem dX7_init_255 : decode cX7_init 255 = .ok (.aload_n 0, 1) := by decide +kernel
theorem dX7_init_256 : decode cX7_init 256 = .ok (.bipush 24, 2) := by decide +kernel
theorem dX7_init_258 : decode cX7_init 258 = .ok (.newarray .int, 2) := by decide +kernel
theorem dX7_init_260 : decode cX7_init 260 = .ok (.putfield 102, 3) := by decide +kernel
theorem dX7_init_263 : decode cX7_init 263 = .ok (.aload_n 0, 1) := by decide +kernel
theorem dX7_init_264 : decode cX7_init 264 = .ok (.bipush 24, 2) := by decide +kernel
theorem dX7_init_266 : decode cX7_init 266 = .ok (.newarray .int, 2) := by decide +kernel
theorem dX7_init_268 : decode cX7_init 268 = .ok (.putfield 105, 3) := by decide +kernel
theorem dX7_init_271 : decode cX7_init 271 = .ok (.aload_n 0, 1) := by decide +kernel
theorem dX7_init_272 : decode cX7_init 272 = .ok (.bipush 40, 2) := by decide +kernel
theorem dX7_init_274 : decode cX7_init 274 = .ok (.newarray .boolean, 2) := by decide +kernel
theorem dX7_init_276 : decode cX7_init 276 = .ok (.putfield 108, 3) := by decide +kernel
theorem dX7_init_279 : decode cX7_init 279 = .ok (.aload_n 0, 1) := by decide +kernel
theorem dX7_init_280 : decode cX7_init 280 = .ok (.invokevirtual 111, 3) := by decide +kernel
theorem dX7_init_283 : decode cX7_init 283 = .ok (.pop, 1) := by decide +kernel
theorem dX7_init_284 : decode cX7_init 284 = .ok (.return_, 1) := by decide +kernel
theorem q86_0 : pm_V d 86 0 [.ref xn] st S Q = pm_V d 86 1 [.ref xn] (.ref xn :: st) S Q := pv_aload_n (pm_cdi rfl dX7_init_0) rfl
theorem q86_1 : pm_V d 86 1 [l0] [.ref an] S Q = pm_V d 86 4 [l0] [] S Q := pv_obj (pm_cdi rfl dX7_init_1) (by decide +kernel) (Nat.le_of_ble_eq_true rfl)
theorem q86_4 : pm_V d 86 4 [.ref xn] st S Q = pm_V d 86 5 [.ref xn] (.ref xn :: st) S Q := pv_aload_n (pm_cdi rfl dX7_init_4) rfl
theorem q86_5 : pm_V d 86 5 [l0] st S Q = pm_V d 86 7 [l0] (.int 24 :: st) S Q := pv_bipush (pm_cdi rfl dX7_init_5) (by decide +kernel)
theorem q86_7 (h : 0 ≤ xi ∧ xi.toNatClampNeg ≤ 60000) : pm_V d 86 7 [l0] (.int xi :: st) S Q = pm_V d 86 9 [l0] (.ref (pm_nx S) :: st) (pm_mka S 0 xi.toNatClampNeg) Q := pv_newI (pm_cdi rfl dX7_init_7) h
theorem q86_9 (hs : pm_sh S an = .inr 7) : pm_V d 86 9 [l0] (.ref xn :: .ref an :: st) S Q = pm_V d 86 12 [l0] st (pm_sgr S an 1 (some xn)) Q := pv_putA (pm_cdi rfl dX7_init_9) (by decide +kernel) (by decide +kernel) (by decide +kernel) hs
theorem q86_9N (hs : pm_sh S an = .inr 7) : pm_V d 86 9 [l0] (.null :: .ref an :: st) S Q = pm_V d 86 12 [l0] st (pm_sgr S an 1 none) Q := pv_putN (pm_cdi rfl dX7_init_9) (by decide +kernel) (by decide +kernel) (by decide +kernel) hs
theorem q86_12 : pm_V d 86 12 [.ref xn] st S Q = pm_V d 86 13 [.ref xn] (.ref xn :: st) S Q := pv_aload_n (pm_cdi rfl dX7_init_12) rfl
theorem q86_13 : pm_V d 86 13 [l0] st S Q = pm_V d 86 15 [l0] (.int 24 :: st) S Q := pv_bipush (pm_cdi rfl dX7_init_13) (by decide +kernel)
theorem q86_15 (h : 0 ≤ xi ∧ xi.toNatClampNeg ≤ 60000) : pm_V d 86 15 [l0] (.int xi :: st) S Q = pm_V d 86 17 [l0] (.ref (pm_nx S) :: st) (pm_mka S 0 xi.toNatClampNeg) Q := pv_newI (pm_cdi rfl dX7_init_15) h
theorem q86_17 (hs : pm_sh S an = .inr 7) : pm_V d 86 17 [l0] (.ref xn :: .ref an :: st) S Q = pm_V d 86 20 [l0] st (pm_sgr S an 2 (some xn)) Q := pv_putA (pm_cdi rfl dX7_init_17) (by decide +kernel) (by decide +kernel) (by decide +kernel) hs
theorem q86_17N (hs : pm_sh S an = .inr 7) : pm_V d 86 17 [l0] (.null :: .ref an :: st) S Q = pm_V d 86 20 [l0] st (pm_sgr S an 2 none) Q := pv_putN (pm_cdi rfl dX7_init_17) (by decide +kernel) (by decide +kernel) (by decide +kernel) hs
theorem q86_20 : pm_V d 86 20 [.ref xn] st S Q = pm_V d 86 21 [.ref xn] (.ref xn :: st) S Q := pv_aload_n (pm_cdi rfl dX7_init_20) rfl
theorem q86_21 : pm_V d 86 21 [l0] st S Q = pm_V d 86 23 [l0] (.int 24 :: st) S Q := pv_bipush (pm_cdi rfl dX7_init_21) (by decide +kernel)
theorem q86_23 (h : 0 ≤ xi ∧ xi.toNatClampNeg ≤ 60000) : pm_V d 86 23 [l0] (.int xi :: st) S Q = pm_V d 86 25 [l0] (.ref (pm_nx S) :: st) (pm_mka S 0 xi.toNatClampNeg) Q := pv_newI (pm_cdi rfl dX7_init_23) h
theorem q86_25 (hs : pm_sh S an = .inr 7) : pm_V d 86 25 [l0] (.ref xn :: .ref an :: st) S Q = pm_V d 86 28 [l0] st (pm_sgr S an 3 (some xn)) Q := pv_putA (pm_cdi rfl dX7_init_25) (by decide +kernel) (by decide +kernel) (by decide +kernel) hs
theorem q86_25N (hs : pm_sh S an = .inr 7) : pm_V d 86 25 [l0] (.null :: .ref an :: st) S Q = pm_V d 86 28 [l0] st (pm_sgr S an 3 none) Q := pv_putN (pm_cdi rfl dX7_init_25) (by decide +kernel) (by decide +kernel) (by decide +kernel) hs
theorem q86_28 : pm_V d 86 28 [.ref xn] st S Q = pm_V d 86 29 [.ref xn] (.ref xn :: st) S Q := pv_aload_n (pm_cdi rfl dX7_init_28) rfl
theorem q86_29 : pm_V d 86 29 [l0] st S Q = pm_V d 86 31 [l0] (.int 24 :: st) S Q := pv_bipush (pm_cdi rfl dX7_init_29) (by decide +kernel)
theorem q86_31 (h : 0 ≤ xi ∧ xi.toNatClampNeg ≤ 60000) : pm_V d 86 31 [l0] (.int xi :: st) S Q = pm_V d 86 33 [l0] (.ref (pm_nx S) :: st) (pm_mka S 0 xi.toNatClampNeg) Q := pv_newI (pm_cdi rfl dX7_init_31) h
theorem q86_33 (hs : pm_sh S an = .inr 7) : pm_V d 86 33 [l0] (.ref xn :: .ref an :: st) S Q = pm_V d 86 36 [l0] st (pm_sgr S an 4 (some xn)) Q := pv_putA (pm_cdi rfl dX7_init_33) (by decide +kernel) (by decide +kernel) (by decide +kernel) hs
theorem q86_33N (hs : pm_sh S an = .inr 7) : pm_V d 86 33 [l0] (.null :: .ref an :: st) S Q = pm_V d 86 36 [l0] st (pm_sgr S an 4 none) Q := pv_putN (pm_cdi rfl dX7_init_33) (by decide +kernel) (by decide +kernel) (by decide +kernel) hs
theorem q86_36 : pm_V d 86 36 [.ref xn] st S Q = pm_V d 86 37 [.ref xn] (.ref xn :: st) S Q := pv_aload_n (pm_cdi rfl dX7_init_36) rfl
theorem q86_37 : pm_V d 86 37 [l0] st S Q = pm_V d 86 39 [l0] (.int 24 :: st) S Q := pv_bipush (pm_cdi rfl dX7_init_37) (by decide +kernel)
theorem q86_39 (h : 0 ≤ xi ∧ xi.toNatClampNeg ≤ 60000) : pm_V d 86 39 [l0] (.int xi :: st) S Q = pm_V d 86 41 [l0] (.ref (pm_nx S) :: st) (pm_mka S 0 xi.toNatClampNeg) Q := pv_newI (pm_cdi rfl dX7_init_39) h
theorem q86_41 (hs : pm_sh S an = .inr 7) : pm_V d 86 41 [l0] (.ref xn :: .ref an :: st) S Q = pm_V d 86 44 [l0] st (pm_sgr S an 5 (some xn)) Q := pv_putA (pm_cdi rfl dX7_init_41) (by decide +kernel) (by decide +kernel) (by decide +kernel) hs
theorem q86_41N (hs : pm_sh S an = .inr 7) : pm_V d 86 41 [l0] (.null :: .ref an :: st) S Q = pm_V d 86 44 [l0] st (pm_sgr S an 5 none) Q := pv_putN (pm_cdi rfl dX7_init_41) (by decide +kernel) (by decide +kernel) (by decide +kernel) hs
theorem q86_44 : pm_V d 86 44 [.ref xn] st S Q = pm_V d 86 45 [.ref xn] (.ref xn :: st) S Q := pv_aload_n (pm_cdi rfl dX7_init_44) rfl
theorem q86_45 : pm_V d 86 45 [l0] st S Q = pm_V d 86 47 [l0] (.int 24 :: st) S Q := pv_bipush (pm_cdi rfl dX7_init_45) (by decide +kernel)
theorem q86_47 (h : 0 ≤ xi ∧ xi.toNatClampNeg ≤ 60000) : pm_V d 86 47 [l0] (.int xi :: st) S Q = pm_V d 86 49 [l0] (.ref (pm_nx S) :: st) (pm_mka S 2 xi.toNatClampNeg) Q := pv_newZ (pm_cdi rfl dX7_init_47) h
theorem q86_49 (hs : pm_sh S an = .inr 7) : pm_V d 86 49 [l0] (.ref xn :: .ref an :: st) S Q = pm_V d 86 52 [l0] st (pm_sgr S an 6 (some xn)) Q := pv_putA (pm_cdi rfl dX7_init_49) (by decide +kernel) (by decide +kernel) (by decide +kernel) hs
theorem q86_49N (hs : pm_sh S an = .inr 7) : pm_V d 86 49 [l0] (.null :: .ref an :: st) S Q = pm_V d 86 52 [l0] st (pm_sgr S an 6 none) Q := pv_putN (pm_cdi rfl dX7_init_49) (by decide +kernel) (by decide +kernel) (by decide +kernel) hs
theorem q86_52 : pm_V d 86 52 [.ref xn] st S Q = pm_V d 86 53 [.ref xn] (.ref xn :: st) S Q := pv_aload_n (pm_cdi rfl dX7_init_52) rfl
theorem q86_53 : pm_V d 86 53 [l0] st S Q = pm_V d 86 55 [l0] (.int 24 :: st) S Q := pv_bipush (pm_cdi rfl dX7_init_53) (by decide +kernel)
theorem q86_55 (h : 0 ≤ xi ∧ xi.toNatClampNeg ≤ 60000) : pm_V d 86 55 [l0] (.int xi :: st) S Q = pm_V d 86 57 [l0] (.ref (pm_nx S) :: st) (pm_mka S 0 xi.toNatClampNeg) Q := pv_newI (pm_cdi rfl dX7_init_55) h
theorem q86_57 (hs : pm_sh S an = .inr 7) : pm_V d 86 57 [l0] (.ref xn :: .ref an :: st) S Q = pm_V d 86 60 [l0] st (pm_sgr S an 7 (some xn)) Q := pv_putA (pm_cdi rfl dX7_init_57) (by decide +kernel) (by decide +kernel) (by decide +kernel) hs
theorem q86_57N (hs : pm_sh S an = .inr 7) : pm_V d 86 57 [l0] (.null :: .ref an :: st) S Q = pm_V d 86 60 [l0] st (pm_sgr S an 7 none) Q := pv_putN (pm_cdi rfl dX7_init_57) (by decide +kernel) (by decide +kernel) (by decide +kernel) hs
theorem q86_60 : pm_V d 86 60 [.ref xn] st S Q = pm_V d 86 61 [.ref xn] (.ref xn :: st) S Q := pv_aload_n (pm_cdi rfl dX7_init_60) rfl
theorem q86_61 : pm_V d 86 61 [l0] st S Q = pm_V d 86 63 [l0] (.int 24 :: st) S Q := pv_bipush (pm_cdi rfl dX7_init_61) (by decide +kernel)
theorem q86_63 (h : 0 ≤ xi ∧ xi.toNatClampNeg ≤ 60000) : pm_V d 86 63 [l0] (.int xi :: st) S Q = pm_V d 86 65 [l0] (.ref (pm_nx S) :: st) (pm_mka S 0 xi.toNatClampNeg) Q := pv_newI (pm_cdi rfl dX7_init_63) h
theorem q86_65 (hs : pm_sh S an = .inr 7) : pm_V d 86 65 [l0] (.ref xn :: .ref an :: st) S Q = pm_V d 86 68 [l0] st (pm_sgr S an 8 (some xn)) Q := pv_putA (pm_cdi rfl dX7_init_65) (by decide +kernel) (by decide +kernel) (by decide +kernel) hs
theorem q86_65N (hs : pm_sh S an = .inr 7) : pm_V d 86 65 [l0] (.null :: .ref an :: st) S Q = pm_V d 86 68 [l0] st (pm_sgr S an 8 none) Q := pv_putN (pm_cdi rfl dX7_init_65) (by decide +kernel) (by decide +kernel) (by decide +kernel) hs
theorem q86_68 : pm_V d 86 68 [.ref xn] st S Q = pm_V d 86 69 [.ref xn] (.ref xn :: st) S Q := pv_aload_n (pm_cdi rfl dX7_init_68) rfl
theorem q86_69 : pm_V d 86 69 [l0] st S Q = pm_V d 86 71 [l0] (.int 24 :: st) S Q := pv_bipush (pm_cdi rfl dX7_init_69) (by decide +kernel)
theorem q86_71 (h : 0 ≤ xi ∧ xi.toNatClampNeg ≤ 60000) : pm_V d 86 71 [l0] (.int xi :: st) S Q = pm_V d 86 73 [l0] (.ref (pm_nx S) :: st) (pm_mka S 0 xi.toNatClampNeg) Q := pv_newI (pm_cdi rfl dX7_init_71) h
theorem q86_73 (hs : pm_sh S an = .inr 7) : pm_V d 86 73 [l0] (.ref xn :: .ref an :: st) S Q = pm_V d 86 76 [l0] st (pm_sgr S an 9 (some xn)) Q := pv_putA (pm_cdi rfl dX7_init_73) (by decide +kernel) (by decide +kernel) (by decide +kernel) hs
theorem q86_73N (hs : pm_sh S an = .inr 7) : pm_V d 86 73 [l0] (.null :: .ref an :: st) S Q = pm_V d 86 76 [l0] st (pm_sgr S an 9 none) Q := pv_putN (pm_cdi rfl dX7_init_73) (by decide +kernel) (by decide +kernel) (by decide +kernel) hs
theorem q86_76 : pm_V d 86 76 [.ref xn] st S Q = pm_V d 86 77 [.ref xn] (.ref xn :: st) S Q := pv_aload_n (pm_cdi rfl dX7_init_76) rfl
theorem q86_77 : pm_V d 86 77 [l0] st S Q = pm_V d 86 80 [l0] (.int 960 :: st) S Q := pv_sipush (pm_cdi rfl dX7_init_77) (by decide +kernel)
theorem q86_80 (h : 0 ≤ xi ∧ xi.toNatClampNeg ≤ 60000) : pm_V d 86 80 [l0] (.int xi :: st) S Q = pm_V d 86 82 [l0] (.ref (pm_nx S) :: st) (pm_mka S 1 xi.toNatClampNeg) Q := pv_newL (pm_cdi rfl dX7_init_80) h
theorem q86_82 (hs : pm_sh S an = .inr 7) : pm_V d 86 82 [l0] (.ref xn :: .ref an :: st) S Q = pm_V d 86 85 [l0] st (pm_sgr S an 10 (some xn)) Q := pv_putA (pm_cdi rfl dX7_init_82) (by decide +kernel) (by decide +kernel) (by decide +kernel) hs
theorem q86_82N (hs : pm_sh S an = .inr 7) : pm_V d 86 82 [l0] (.null :: .ref an :: st) S Q = pm_V d 86 85 [l0] st (pm_sgr S an 10 none) Q := pv_putN (pm_cdi rfl dX7_init_82) (by decide +kernel) (by decide +kernel) (by decide +kernel) hs
theorem q86_85 : pm_V d 86 85 [.ref xn] st S Q = pm_V d 86 86 [.ref xn] (.ref xn :: st) S Q := pv_aload_n (pm_cdi rfl dX7_init_85) rfl
theorem q86_86 : pm_V d 86 86 [l0] st S Q = pm_V d 86 89 [l0] (.int 960 :: st) S Q := pv_sipush (pm_cdi rfl dX7_init_86) (by decide +kernel)
theorem q86_89 (h : 0 ≤ xi ∧ xi.toNatClampNeg ≤ 60000) : pm_V d 86 89 [l0] (.int xi :: st) S Q = pm_V d 86 91 [l0] (.ref (pm_nx S) :: st) (pm_mka S 0 xi.toNatClampNeg) Q := pv_newI (pm_cdi rfl dX7_init_89) h
theorem q86_91 (hs : pm_sh S an = .inr 7) : pm_V d 86 91 [l0] (.ref xn :: .ref an :: st) S Q = pm_V d 86 94 [l0] st (pm_sgr S an 11 (some xn)) Q := pv_putA (pm_cdi rfl dX7_init_91) (by decide +kernel) (by decide +kernel) (by decide +kernel) hs
theorem q86_91N (hs : pm_sh S an = .inr 7) : pm_V d 86 91 [l0] (.null :: .ref an :: st) S Q = pm_V d 86 94 [l0] st (pm_sgr S an 11 none) Q := pv_putN (pm_cdi rfl dX7_init_91) (by decide +kernel) (by decide +kernel) (by decide +kernel) hs
theorem q86_94 : pm_V d 86 94 [.ref xn] st S Q = pm_V d 86 95 [.ref xn] (.ref xn :: st) S Q := pv_aload_n (pm_cdi rfl dX7_init_94) rfl
theorem q86_95 : pm_V d 86 95 [l0] st S Q = pm_V d 86 98 [l0] (.int 960 :: st) S Q := pv_sipush (pm_cdi rfl dX7_init_95) (by decide +kernel)
theorem q86_98 (h : 0 ≤ xi ∧ xi.toNatClampNeg ≤ 60000) : pm_V d 86 98 [l0] (.int xi :: st) S Q = pm_V d 86 100 [l0] (.ref (pm_nx S) :: st) (pm_mka S 0 xi.toNatClampNeg) Q := pv_newI (pm_cdi rfl dX7_init_98) h
theorem q86_100 (hs : pm_sh S an = .inr 7) : pm_V d 86 100 [l0] (.ref xn :: .ref an :: st) S Q = pm_V d 86 103 [l0] st (pm_sgr S an 12 (some xn)) Q := pv_putA (pm_cdi rfl dX7_init_100) (by decide +kernel) (by decide +kernel) (by decide +kernel) hs
theorem q86_100N (hs : pm_sh S an = .inr 7) : pm_V d 86 100 [l0] (.null :: .ref an :: st) S Q = pm_V d 86 103 [l0] st (pm_sgr S an 12 none) Q := pv_putN (pm_cdi rfl dX7_init_100) (by decide +kernel) (by decide +kernel) (by decide +kernel) hs
theorem q86_103 : pm_V d 86 103 [.ref xn] st S Q = pm_V d 86 104 [.ref xn] (.ref xn :: st) S Q := pv_aload_n (pm_cdi rfl dX7_init_103) rfl
theorem q86_104 : pm_V d 86 104 [l0] st S Q = pm_V d 86 107 [l0] (.int 2880 :: st) S Q := pv_sipush (pm_cdi rfl dX7_init_104) (by decide +kernel)
theorem q86_107 (h : 0 ≤ xi ∧ xi.toNatClampNeg ≤ 60000) : pm_V d 86 107 [l0] (.int xi :: st) S Q = pm_V d 86 109 [l0] (.ref (pm_nx S) :: st) (pm_mka S 0 xi.toNatClampNeg) Q := pv_newI (pm_cdi rfl dX7_init_107) h
theorem q86_109 (hs : pm_sh S an = .inr 7) : pm_V d 86 109 [l0] (.ref xn :: .ref an :: st) S Q = pm_V d 86 112 [l0] st (pm_sgr S an 13 (some xn)) Q := pv_putA (pm_cdi rfl dX7_init_109) (by decide +kernel) (by decide +kernel) (by decide +kernel) hs
theorem q86_109N (hs : pm_sh S an = .inr 7) : pm_V d 86 109 [l0] (.null :: .ref an :: st) S Q = pm_V d 86 112 [l0] st (pm_sgr S an 13 none) Q := pv_putN (pm_cdi rfl dX7_init_109) (by decide +kernel) (by decide +kernel) (by decide +kernel) hs
theorem q86_112 : pm_V d 86 112 [.ref xn] st S Q = pm_V d 86 113 [.ref xn] (.ref xn :: st) S Q := pv_aload_n (pm_cdi rfl dX7_init_112) rfl
theorem q86_113 : pm_V d 86 113 [l0] st S Q = pm_V d 86 116 [l0] (.int 2880 :: st) S Q := pv_sipush (pm_cdi rfl dX7_init_113) (by decide +kernel)
theorem q86_116 (h : 0 ≤ xi ∧ xi.toNatClampNeg ≤ 60000) : pm_V d 86 116 [l0] (.int xi :: st) S Q = pm_V d 86 118 [l0] (.ref (pm_nx S) :: st) (pm_mka S 0 xi.toNatClampNeg) Q := pv_newI (pm_cdi rfl dX7_init_116) h
theorem q86_118 (hs : pm_sh S an = .inr 7) : pm_V d 86 118 [l0] (.ref xn :: .ref an :: st) S Q = pm_V d 86 121 [l0] st (pm_sgr S an 14 (some xn)) Q := pv_putA (pm_cdi rfl dX7_init_118) (by decide +kernel) (by decide +kernel) (by decide +kernel) hs
theorem q86_118N (hs : pm_sh S an = .inr 7) : pm_V d 86 118 [l0] (.null :: .ref an :: st) S Q = pm_V d 86 121 [l0] st (pm_sgr S an 14 none) Q := pv_putN (pm_cdi rfl dX7_init_118) (by decide +kernel) (by decide +kernel) (by decide +kernel) hs
theorem q86_121 : pm_V d 86 121 [.ref xn] st S Q = pm_V d 86 122 [.ref xn] (.ref xn :: st) S Q := pv_aload_n (pm_cdi rfl dX7_init_121) rfl
theorem q86_122 : pm_V d 86 122 [l0] st S Q = pm_V d 86 125 [l0] (.int 2880 :: st) S Q := pv_sipush (pm_cdi rfl dX7_init_122) (by decide +kernel)
theorem q86_125 (h : 0 ≤ xi ∧ xi.toNatClampNeg ≤ 60000) : pm_V d 86 125 [l0] (.int xi :: st) S Q = pm_V d 86 127 [l0] (.ref (pm_nx S) :: st) (pm_mka S 1 xi.toNatClampNeg) Q := pv_newL (pm_cdi rfl dX7_init_125) h
theorem q86_127 (hs : pm_sh S an = .inr 7) : pm_V d 86 127 [l0] (.ref xn :: .ref an :: st) S Q = pm_V d 86 130 [l0] st (pm_sgr S an 15 (some xn)) Q := pv_putA (pm_cdi rfl dX7_init_127) (by decide +kernel) (by decide +kernel) (by decide +kernel) hs
theorem q86_127N (hs : pm_sh S an = .inr 7) : pm_V d 86 127 [l0] (.null :: .ref an :: st) S Q = pm_V d 86 130 [l0] st (pm_sgr S an 15 none) Q := pv_putN (pm_cdi rfl dX7_init_127) (by decide +kernel) (by decide +kernel) (by decide +kernel) hs
theorem q86_130 : pm_V d 86 130 [.ref xn] st S Q = pm_V d 86 131 [.ref xn] (.ref xn :: st) S Q := pv_aload_n (pm_cdi rfl dX7_init_130) rfl
theorem q86_131 : pm_V d 86 131 [l0] st S Q = pm_V d 86 134 [l0] (.int 2880 :: st) S Q := pv_sipush (pm_cdi rfl dX7_init_131) (by decide +kernel)
theorem q86_134 (h : 0 ≤ xi ∧ xi.toNatClampNeg ≤ 60000) : pm_V d 86 134 [l0] (.int xi :: st) S Q = pm_V d 86 136 [l0] (.ref (pm_nx S) :: st) (pm_mka S 0 xi.toNatClampNeg) Q := pv_newI (pm_cdi rfl dX7_init_134) h
theorem q86_136 (hs : pm_sh S an = .inr 7) : pm_V d 86 136 [l0] (.ref xn :: .ref an :: st) S Q = pm_V d 86 139 [l0] st (pm_sgr S an 16 (some xn)) Q := pv_putA (pm_cdi rfl dX7_init_136) (by decide +kernel) (by decide +kernel) (by decide +kernel) hs
theorem q86_136N (hs : pm_sh S an = .inr 7) : pm_V d 86 136 [l0] (.null :: .ref an :: st) S Q = pm_V d 86 139 [l0] st (pm_sgr S an 16 none) Q := pv_putN (pm_cdi rfl dX7_init_136) (by decide +kernel) (by decide +kernel) (by decide +kernel) hs
theorem q86_139 : pm_V d 86 139 [.ref xn] st S Q = pm_V d 86 140 [.ref xn] (.ref xn :: st) S Q := pv_aload_n (pm_cdi rfl dX7_init_139) rfl
theorem q86_140 : pm_V d 86 140 [l0] st S Q = pm_V d 86 143 [l0] (.int 2880 :: st) S Q := pv_sipush (pm_cdi rfl dX7_init_140) (by decide +kernel)
theorem q86_143 (h : 0 ≤ xi ∧ xi.toNatClampNeg ≤ 60000) : pm_V d 86 143 [l0] (.int xi :: st) S Q = pm_V d 86 145 [l0] (.ref (pm_nx S) :: st) (pm_mka S 0 xi.toNatClampNeg) Q := pv_newI (pm_cdi rfl dX7_init_143) h
theorem q86_145 (hs : pm_sh S an = .inr 7) : pm_V d 86 145 [l0] (.ref xn :: .ref an :: st) S Q = pm_V d 86 148 [l0] st (pm_sgr S an 17 (some xn)) Q := pv_putA (pm_cdi rfl dX7_init_145) (by decide +kernel) (by decide +kernel) (by decide +kernel) hs
theorem q86_145N (hs : pm_sh S an = .inr 7) : pm_V d 86 145 [l0] (.null :: .ref an :: st) S Q = pm_V d 86 148 [l0] st (pm_sgr S an 17 none) Q := pv_putN (pm_cdi rfl dX7_init_145) (by decide +kernel) (by decide +kernel) (by decide +kernel) hs
theorem q86_148 : pm_V d 86 148 [.ref xn] st S Q = pm_V d 86 149 [.ref xn] (.ref xn :: st) S Q := pv_aload_n (pm_cdi rfl dX7_init_148) rfl
theorem q86_149 : pm_V d 86 149 [l0] st S Q = pm_V d 86 151 [l0] (.int 24 :: st) S Q := pv_bipush (pm_cdi rfl dX7_init_149) (by decide +kernel)
theorem q86_151 (h : 0 ≤ xi ∧ xi.toNatClampNeg ≤ 60000) : pm_V d 86 151 [l0] (.int xi :: st) S Q = pm_V d 86 153 [l0] (.ref (pm_nx S) :: st) (pm_mka S 0 xi.toNatClampNeg) Q := pv_newI (pm_cdi rfl dX7_init_151) h
theorem q86_153 (hs : pm_sh S an = .inr 7) : pm_V d 86 153 [l0] (.ref xn :: .ref an :: st) S Q = pm_V d 86 156 [l0] st (pm_sgr S an 18 (some xn)) Q := pv_putA (pm_cdi rfl dX7_init_153) (by decide +kernel) (by decide +kernel) (by decide +kernel) hs
theorem q86_153N (hs : pm_sh S an = .inr 7) : pm_V d 86 153 [l0] (.null :: .ref an :: st) S Q = pm_V d 86 156 [l0] st (pm_sgr S an 18 none) Q := pv_putN (pm_cdi rfl dX7_init_153) (by decide +kernel) (by decide +kernel) (by decide +kernel) hs
theorem q86_156 : pm_V d 86 156 [.ref xn] st S Q = pm_V d 86 157 [.ref xn] (.ref xn :: st) S Q := pv_aload_n (pm_cdi rfl dX7_init_156) rfl
theorem q86_157 : pm_V d 86 157 [l0] st S Q = pm_V d 86 160 [l0] (.int 3840 :: st) S Q := pv_sipush (pm_cdi rfl dX7_init_157) (by decide +kernel)
theorem q86_160 (h : 0 ≤ xi ∧ xi.toNatClampNeg ≤ 60000) : pm_V d 86 160 [l0] (.int xi :: st) S Q = pm_V d 86 162 [l0] (.ref (pm_nx S) :: st) (pm_mka S 0 xi.toNatClampNeg) Q := pv_newI (pm_cdi rfl dX7_init_160) h
theorem q86_162 (hs : pm_sh S an = .inr 7) : pm_V d 86 162 [l0] (.ref xn :: .ref an :: st) S Q = pm_V d 86 165 [l0] st (pm_sgr S an 19 (some xn)) Q := pv_putA (pm_cdi rfl dX7_init_162) (by decide +kernel) (by decide +kernel) (by decide +kernel) hs
theorem q86_162N (hs : pm_sh S an = .inr 7) : pm_V d 86 162 [l0] (.null :: .ref an :: st) S Q = pm_V d 86 165 [l0] st (pm_sgr S an 19 none) Q := pv_putN (pm_cdi rfl dX7_init_162) (by decide +kernel) (by decide +kernel) (by decide +kernel) hs
theorem q86_165 : pm_V d 86 165 [.ref xn] st S Q = pm_V d 86 166 [.ref xn] (.ref xn :: st) S Q := pv_aload_n (pm_cdi rfl dX7_init_165) rfl
theorem q86_166 : pm_V d 86 166 [l0] st S Q = pm_V d 86 169 [l0] (.int 3840 :: st) S Q := pv_sipush (pm_cdi rfl dX7_init_166) (by decide +kernel)
theorem q86_169 (h : 0 ≤ xi ∧ xi.toNatClampNeg ≤ 60000) : pm_V d 86 169 [l0] (.int xi :: st) S Q = pm_V d 86 171 [l0] (.ref (pm_nx S) :: st) (pm_mka S 0 xi.toNatClampNeg) Q := pv_newI (pm_cdi rfl dX7_init_169) h
theorem q86_171 (hs : pm_sh S an = .inr 7) : pm_V d 86 171 [l0] (.ref xn :: .ref an :: st) S Q = pm_V d 86 174 [l0] st (pm_sgr S an 20 (some xn)) Q := pv_putA (pm_cdi rfl dX7_init_171) (by decide +kernel) (by decide +kernel) (by decide +kernel) hs
theorem q86_171N (hs : pm_sh S an = .inr 7) : pm_V d 86 171 [l0] (.null :: .ref an :: st) S Q = pm_V d 86 174 [l0] st (pm_sgr S an 20 none) Q := pv_putN (pm_cdi rfl dX7_init_171) (by decide +kernel) (by decide +kernel) (by decide +kernel) hs
theorem q86_174 : pm_V d 86 174 [.ref xn] st S Q = pm_V d 86 175 [.ref xn] (.ref xn :: st) S Q := pv_aload_n (pm_cdi rfl dX7_init_174) rfl
theorem q86_175 : pm_V d 86 175 [l0] st S Q = pm_V d 86 178 [l0] (.int 160 :: st) S Q := pv_sipush (pm_cdi rfl dX7_init_175) (by decide +kernel)
theorem q86_178 (h : 0 ≤ xi ∧ xi.toNatClampNeg ≤ 60000) : pm_V d 86 178 [l0] (.int xi :: st) S Q = pm_V d 86 180 [l0] (.ref (pm_nx S) :: st) (pm_mka S 0 xi.toNatClampNeg) Q := pv_newI (pm_cdi rfl dX7_init_178) h
theorem q86_180 (hs : pm_sh S an = .inr 7) : pm_V d 86 180 [l0] (.ref xn :: .ref an :: st) S Q = pm_V d 86 183 [l0] st (pm_sgr S an 22 (some xn)) Q := pv_putA (pm_cdi rfl dX7_init_180) (by decide +kernel) (by decide +kernel) (by decide +kernel) hs
theorem q86_180N (hs : pm_sh S an = .inr 7) : pm_V d 86 180 [l0] (.null :: .ref an :: st) S Q = pm_V d 86 183 [l0] st (pm_sgr S an 22 none) Q := pv_putN (pm_cdi rfl dX7_init_180) (by decide +kernel) (by decide +kernel) (by decide +kernel) hs
theorem q86_183 : pm_V d 86 183 [.ref xn] st S Q = pm_V d 86 184 [.ref xn] (.ref xn :: st) S Q := pv_aload_n (pm_cdi rfl dX7_init_183) rfl
theorem q86_184 : pm_V d 86 184 [l0] st S Q = pm_V d 86 186 [l0] (.int 20 :: st) S Q := pv_bipush (pm_cdi rfl dX7_init_184) (by decide +kernel)
theorem q86_186 (h : 0 ≤ xi ∧ xi.toNatClampNeg ≤ 60000) : pm_V d 86 186 [l0] (.int xi :: st) S Q = pm_V d 86 188 [l0] (.ref (pm_nx S) :: st) (pm_mka S 0 xi.toNatClampNeg) Q := pv_newI (pm_cdi rfl dX7_init_186) h
theorem q86_188 (hs : pm_sh S an = .inr 7) : pm_V d 86 188 [l0] (.ref xn :: .ref an :: st) S Q = pm_V d 86 191 [l0] st (pm_sgr S an 24 (some xn)) Q := pv_putA (pm_cdi rfl dX7_init_188) (by decide +kernel) (by decide +kernel) (by decide +kernel) hs
theorem q86_188N (hs : pm_sh S an = .inr 7) : pm_V d 86 188 [l0] (.null :: .ref an :: st) S Q = pm_V d 86 191 [l0] st (pm_sgr S an 24 none) Q := pv_putN (pm_cdi rfl dX7_init_188) (by decide +kernel) (by decide +kernel) (by decide +kernel) hs
theorem q86_191 : pm_V d 86 191 [.ref xn] st S Q = pm_V d 86 192 [.ref xn] (.ref xn :: st) S Q := pv_aload_n (pm_cdi rfl dX7_init_191) rfl
theorem q86_192 : pm_V d 86 192 [l0] st S Q = pm_V d 86 194 [l0] (.int 20 :: st) S Q := pv_bipush (pm_cdi rfl dX7_init_192) (by decide +kernel)
theorem q86_194 (h : 0 ≤ xi ∧ xi.toNatClampNeg ≤ 60000) : pm_V d 86 194 [l0] (.int xi :: st) S Q = pm_V d 86 196 [l0] (.ref (pm_nx S) :: st) (pm_mka S 1 xi.toNatClampNeg) Q := pv_newL (pm_cdi rfl dX7_init_194) h
theorem q86_196 (hs : pm_sh S an = .inr 7) : pm_V d 86 196 [l0] (.ref xn :: .ref an :: st) S Q = pm_V d 86 199 [l0] st (pm_sgr S an 25 (some xn)) Q := pv_putA (pm_cdi rfl dX7_init_196) (by decide +kernel) (by decide +kernel) (by decide +kernel) hs
theorem q86_196N (hs : pm_sh S an = .inr 7) : pm_V d 86 196 [l0] (.null :: .ref an :: st) S Q = pm_V d 86 199 [l0] st (pm_sgr S an 25 none) Q := pv_putN (pm_cdi rfl dX7_init_196) (by decide +kernel) (by decide +kernel) (by decide +kernel) hs
theorem q86_199 : pm_V d 86 199 [.ref xn] st S Q = pm_V d 86 200 [.ref xn] (.ref xn :: st) S Q := pv_aload_n (pm_cdi rfl dX7_init_199) rfl
theorem q86_200 : pm_V d 86 200 [l0] st S Q = pm_V d 86 202 [l0] (.int 20 :: st) S Q := pv_bipush (pm_cdi rfl dX7_init_200) (by decide +kernel)
theorem q86_202 (h : 0 ≤ xi ∧ xi.toNatClampNeg ≤ 60000) : pm_V d 86 202 [l0] (.int xi :: st) S Q = pm_V d 86 204 [l0] (.ref (pm_nx S) :: st) (pm_mka S 0 xi.toNatClampNeg) Q := pv_newI (pm_cdi rfl dX7_init_202) h
theorem q86_204 (hs : pm_sh S an = .inr 7) : pm_V d 86 204 [l0] (.ref xn :: .ref an :: st) S Q = pm_V d 86 207 [l0] st (pm_sgr S an 26 (some xn)) Q := pv_putA (pm_cdi rfl dX7_init_204) (by decide +kernel) (by decide +kernel) (by decide +kernel) hs
theorem q86_204N (hs : pm_sh S an = .inr 7) : pm_V d 86 204 [l0] (.null :: .ref an :: st) S Q = pm_V d 86 207 [l0] st (pm_sgr S an 26 none) Q := pv_putN (pm_cdi rfl dX7_init_204) (by decide +kernel) (by decide +kernel) (by decide +kernel) hs
theorem q86_207 : pm_V d 86 207 [.ref xn] st S Q = pm_V d 86 208 [.ref xn] (.ref xn :: st) S Q := pv_aload_n (pm_cdi rfl dX7_init_207) rfl
theorem q86_208 : pm_V d 86 208 [l0] st S Q = pm_V d 86 210 [l0] (.int 20 :: st) S Q := pv_bipush (pm_cdi rfl dX7_init_208) (by decide +kernel)
theorem q86_210 (h : 0 ≤ xi ∧ xi.toNatClampNeg ≤ 60000) : pm_V d 86 210 [l0] (.int xi :: st) S Q = pm_V d 86 212 [l0] (.ref (pm_nx S) :: st) (pm_mka S 0 xi.toNatClampNeg) Q := pv_newI (pm_cdi rfl dX7_init_210) h
theorem q86_212 (hs : pm_sh S an = .inr 7) : pm_V d 86 212 [l0] (.ref xn :: .ref an :: st) S Q = pm_V d 86 215 [l0] st (pm_sgr S an 27 (some xn)) Q := pv_putA (pm_cdi rfl dX7_init_212) (by decide +kernel) (by decide +kernel) (by decide +kernel) hs
theorem q86_212N (hs : pm_sh S an = .inr 7) : pm_V d 86 212 [l0] (.null :: .ref an :: st) S Q = pm_V d 86 215 [l0] st (pm_sgr S an 27 none) Q := pv_putN (pm_cdi rfl dX7_init_212) (by decide +kernel) (by decide +kernel) (by decide +kernel) hs
theorem q86_215 : pm_V d 86 215 [.ref xn] st S Q = pm_V d 86 216 [.ref xn] (.ref xn :: st) S Q := pv_aload_n (pm_cdi rfl dX7_init_215) rfl
theorem q86_216 : pm_V d 86 216 [l0] st S Q = pm_V d 86 218 [l0] (.int 40 :: st) S Q := pv_bipush (pm_cdi rfl dX7_init_216) (by decide +kernel)
theorem q86_218 (h : 0 ≤ xi ∧ xi.toNatClampNeg ≤ 60000) : pm_V d 86 218 [l0] (.int xi :: st) S Q = pm_V d 86 220 [l0] (.ref (pm_nx S) :: st) (pm_mka S 0 xi.toNatClampNeg) Q := pv_newI (pm_cdi rfl dX7_init_218) h
theorem q86_220 (hs : pm_sh S an = .inr 7) : pm_V d 86 220 [l0] (.ref xn :: .ref an :: st) S Q = pm_V d 86 223 [l0] st (pm_sgr S an 28 (some xn)) Q := pv_putA (pm_cdi rfl dX7_init_220) (by decide +kernel) (by decide +kernel) (by decide +kernel) hs
theorem q86_220N (hs : pm_sh S an = .inr 7) : pm_V d 86 220 [l0] (.null :: .ref an :: st) S Q = pm_V d 86 223 [l0] st (pm_sgr S an 28 none) Q := pv_putN (pm_cdi rfl dX7_init_220) (by decide +kernel) (by decide +kernel) (by decide +kernel) hs
theorem q86_223 : pm_V d 86 223 [.ref xn] st S Q = pm_V d 86 224 [.ref xn] (.ref xn :: st) S Q := pv_aload_n (pm_cdi rfl dX7_init_223) rfl
theorem q86_224 : pm_V d 86 224 [l0] st S Q = pm_V d 86 226 [l0] (.int 10 :: st) S Q := pv_bipush (pm_cdi rfl dX7_init_224) (by decide +kernel)
theorem q86_226 (h : 0 ≤ xi ∧ xi.toNatClampNeg ≤ 60000) : pm_V d 86 226 [l0] (.int xi :: st) S Q = pm_V d 86 228 [l0] (.ref (pm_nx S) :: st) (pm_mka S 0 xi.toNatClampNeg) Q := pv_newI (pm_cdi rfl dX7_init_226) h
theorem q86_228 (hs : pm_sh S an = .inr 7) : pm_V d 86 228 [l0] (.ref xn :: .ref an :: st) S Q = pm_V d 86 231 [l0] st (pm_sgr S an 34 (some xn)) Q := pv_putA (pm_cdi rfl dX7_init_228) (by decide +kernel) (by decide +kernel) (by decide +kernel) hs
theorem q86_228N (hs : pm_sh S an = .inr 7) : pm_V d 86 228 [l0] (.null :: .ref an :: st) S Q = pm_V d 86 231 [l0] st (pm_sgr S an 34 none) Q := pv_putN (pm_cdi rfl dX7_init_228) (by decide +kernel) (by decide +kernel) (by decide +kernel) hs
theorem q86_231 : pm_V d 86 231 [.ref xn] st S Q = pm_V d 86 232 [.ref xn] (.ref xn :: st) S Q := pv_aload_n (pm_cdi rfl dX7_init_231) rfl
theorem q86_232 : pm_V d 86 232 [l0] st S Q = pm_V d 86 234 [l0] (.int 24 :: st) S Q := pv_bipush (pm_cdi rfl dX7_init_232) (by decide +kernel)
theorem q86_234 (h : 0 ≤ xi ∧ xi.toNatClampNeg ≤ 60000) : pm_V d 86 234 [l0] (.int xi :: st) S Q = pm_V d 86 236 [l0] (.ref (pm_nx S) :: st) (pm_mka S 0 xi.toNatClampNeg) Q := pv_newI (pm_cdi rfl dX7_init_234) h
theorem q86_236 (hs : pm_sh S an = .inr 7) : pm_V d 86 236 [l0] (.ref xn :: .ref an :: st) S Q = pm_V d 86 239 [l0] st (pm_sgr S an 36 (some xn)) Q := pv_putA (pm_cdi rfl dX7_init_236) (by decide +kernel) (by decide +kernel) (by decide +kernel) hs
theorem q86_236N (hs : pm_sh S an = .inr 7) : pm_V d 86 236 [l0] (.null :: .ref an :: st) S Q = pm_V d 86 239 [l0] st (pm_sgr S an 36 none) Q := pv_putN (pm_cdi rfl dX7_init_236) (by decide +kernel) (by decide +kernel) (by decide +kernel) hs
theorem q86_239 : pm_V d 86 239 [.ref xn] st S Q = pm_V d 86 240 [.ref xn] (.ref xn :: st) S Q := pv_aload_n (pm_cdi rfl dX7_init_239) rfl
theorem q86_240 : pm_V d 86 240 [l0] st S Q = pm_V d 86 242 [l0] (.int 24 :: st) S Q := pv_bipush (pm_cdi rfl dX7_init_240) (by decide +kernel)
theorem q86_242 (h : 0 ≤ xi ∧ xi.toNatClampNeg ≤ 60000) : pm_V d 86 242 [l0] (.int xi :: st) S Q = pm_V d 86 244 [l0] (.ref (pm_nx S) :: st) (pm_mka S 0 xi.toNatClampNeg) Q := pv_newI (pm_cdi rfl dX7_init_242) h
theorem q86_244 (hs : pm_sh S an = .inr 7) : pm_V d 86 244 [l0] (.ref xn :: .ref an :: st) S Q = pm_V d 86 247 [l0] st (pm_sgr S an 37 (some xn)) Q := pv_putA (pm_cdi rfl dX7_init_244) (by decide +kernel) (by decide +kernel) (by decide +kernel) hs
theorem q86_244N (hs : pm_sh S an = .inr 7) : pm_V d 86 244 [l0] (.null :: .ref an :: st) S Q = pm_V d 86 247 [l0] st (pm_sgr S an 37 none) Q := pv_putN (pm_cdi rfl dX7_init_244) (by decide +kernel) (by decide +kernel) (by decide +kernel) hs
theorem q86_247 : pm_V d 86 247 [.ref xn] st S Q = pm_V d 86 248 [.ref xn] (.ref xn :: st) S Q := pv_aload_n (pm_cdi rfl dX7_init_247) rfl
theorem q86_248 : pm_V d 86 248 [l0] st S Q = pm_V d 86 250 [l0] (.int 24 :: st) S Q := pv_bipush (pm_cdi rfl dX7_init_248) (by decide +kernel)
theorem q86_250 (h : 0 ≤ xi ∧ xi.toNatClampNeg ≤ 60000) : pm_V d 86 250 [l0] (.int xi :: st) S Q = pm_V d 86 252 [l0] (.ref (pm_nx S) :: st) (pm_mka S 0 xi.toNatClampNeg) Q := pv_newI (pm_cdi rfl dX7_init_250) h
theorem q86_252 (hs : pm_sh S an = .inr 7) : pm_V d 86 252 [l0] (.ref xn :: .ref an :: st) S Q = pm_V d 86 255 [l0] st (pm_sgr S an 38 (some xn)) Q := pv_putA (pm_cdi rfl dX7_init_252) (by decide +kernel) (by decide +kernel) (by decide +kernel) hs
theorem q86_252N (hs : pm_sh S an = .inr 7) : pm_V d 86 252 [l0] (.null :: .ref an :: st) S Q = pm_V d 86 255 [l0] st (pm_sgr S an 38 none) Q := pv_putN (pm_cdi rfl dX7_init_252) (by decide +kernel) (by decide +kernel) (by decide +kernel) hs
theorem q86_255 : pm_V d 86 255 [.ref xn] st S Q = pm_V d 86 256 [.ref xn] (.ref xn :: st) S Q := pv_aload_n (pm_cdi rfl dX7_init_255) rfl
theorem q86_256 : pm_V d 86 256 [l0] st S Q = pm_V d 86 258 [l0] (.int 24 :: st) S Q := pv_bipush (pm_cdi rfl dX7_init_256) (by decide +kernel)
theorem q86_258 (h : 0 ≤ xi ∧ xi.toNatClampNeg ≤ 60000) : pm_V d 86 258 [l0] (.int xi :: st) S Q = pm_V d 86 260 [l0] (.ref (pm_nx S) :: st) (pm_mka S 0 xi.toNatClampNeg) Q := pv_newI (pm_cdi rfl dX7_init_258) h
theorem q86_260 (hs : pm_sh S an = .inr 7) : pm_V d 86 260 [l0] (.ref xn :: .ref an :: st) S Q = pm_V d 86 263 [l0] st (pm_sgr S an 39 (some xn)) Q := pv_putA (pm_cdi rfl dX7_init_260) (by decide +kernel) (by decide +kernel) (by decide +kernel) hs
theorem q86_260N (hs : pm_sh S an = .inr 7) : pm_V d 86 260 [l0] (.null :: .ref an :: st) S Q = pm_V d 86 263 [l0] st (pm_sgr S an 39 none) Q := pv_putN (pm_cdi rfl dX7_init_260) (by decide +kernel) (by decide +kernel) (by decide +kernel) hs
theorem q86_263 : pm_V d 86 263 [.ref xn] st S Q = pm_V d 86 264 [.ref xn] (.ref xn :: st) S Q := pv_aload_n (pm_cdi rfl dX7_init_263) rfl
theorem q86_264 : pm_V d 86 264 [l0] st S Q = pm_V d 86 266 [l0] (.int 24 :: st) S Q := pv_bipush (pm_cdi rfl dX7_init_264) (by decide +kernel)
theorem q86_266 (h : 0 ≤ xi ∧ xi.toNatClampNeg ≤ 60000) : pm_V d 86 266 [l0] (.int xi :: st) S Q = pm_V d 86 268 [l0] (.ref (pm_nx S) :: st) (pm_mka S 0 xi.toNatClampNeg) Q := pv_newI (pm_cdi rfl dX7_init_266) h
theorem q86_268 (hs : pm_sh S an = .inr 7) : pm_V d 86 268 [l0] (.ref xn :: .ref an :: st) S Q = pm_V d 86 271 [l0] st (pm_sgr S an 40 (some xn)) Q := pv_putA (pm_cdi rfl dX7_init_268) (by decide +kernel) (by decide +kernel) (by decide +kernel) hs
theorem q86_268N (hs : pm_sh S an = .inr 7) : pm_V d 86 268 [l0] (.null :: .ref an :: st) S Q = pm_V d 86 271 [l0] st (pm_sgr S an 40 none) Q := pv_putN (pm_cdi rfl dX7_init_268) (by decide +kernel) (by decide +kernel) (by decide +kernel) hs
theorem q86_271 : pm_V d 86 271 [.ref xn] st S Q = pm_V d 86 272 [.ref xn] (.ref xn :: st) S Q := pv_aload_n (pm_cdi rfl dX7_init_271) rfl
theorem q86_272 : pm_V d 86 272 [l0] st S Q = pm_V d 86 274 [l0] (.int 40 :: st) S Q := pv_bipush (pm_cdi rfl dX7_init_272) (by decide +kernel)
theorem q86_274 (h : 0 ≤ xi ∧ xi.toNatClampNeg ≤ 60000) : pm_V d 86 274 [l0] (.int xi :: st) S Q = pm_V d 86 276 [l0] (.ref (pm_nx S) :: st) (pm_mka S 2 xi.toNatClampNeg) Q := pv_newZ (pm_cdi rfl dX7_init_274) h
theorem q86_276 (hs : pm_sh S an = .inr 7) : pm_V d 86 276 [l0] (.ref xn :: .ref an :: st) S Q = pm_V d 86 279 [l0] st (pm_sgr S an 41 (some xn)) Q := pv_putA (pm_cdi rfl dX7_init_276) (by decide +kernel) (by decide +kernel) (by decide +kernel) hs
theorem q86_276N (hs : pm_sh S an = .inr 7) : pm_V d 86 276 [l0] (.null :: .ref an :: st) S Q = pm_V d 86 279 [l0] st (pm_sgr S an 41 none) Q := pv_putN (pm_cdi rfl dX7_init_276) (by decide +kernel) (by decide +kernel) (by decide +kernel) hs
theorem q86_279 : pm_V d 86 279 [.ref xn] st S Q = pm_V d 86 280 [.ref xn] (.ref xn :: st) S Q := pv_aload_n (pm_cdi rfl dX7_init_279) rfl
theorem q86_280 (hs : pm_sh S an = .inr 7) : pm_V (d + 1) 86 280 [l0] [.ref an] S Q = pm_N d 141 [.ref an] S (fun r S' => pm_V (d + 1) 86 283 [l0] (r.toList ++ []) S' Q) := pv_callV (as := []) (pm_cdi rfl dX7_init_280) (Or.inl (by decide +kernel)) (by decide +kernel) (show _ = _ from (by decide +kernel : 0 = pm_np 141)) rfl (Nat.le_of_ble_eq_true rfl) (cl := 7) (by decide +kernel) hs
theorem q86_283 : pm_V d 86 283 [l0] (.int xi :: st) S Q = pm_V d 86 284 [l0] st S Q := pv_popI (pm_cdi rfl dX7_init_283)
theorem q86_284 : pm_V d 86 284 [l0] [] S Q = Q none S := pv_rV (pm_cdi rfl dX7_init_284) (by decide +kernel)
theorem q86_e : pm_N d 86 [.ref an] S Q = pm_V d 86 0 [.ref an] [] S Q := pv_ent (Nat.le_of_ble_eq_true rfl) rfl
/-! 87: ViewsJoinsModel.in(III)Z -/
theorem dX7_in_0 : decode cX7_in 0 = .ok (.iload_n 0, 1) := by decide +kernel
theorem dX7_in_1 : decode cX7_in 1 = .ok (.iload_n 1, 1) := by decide +kernel
theorem dX7_in_2 : decode cX7_in 2 = .ok (.if_icmp .lt 12, 3) := by decide +kernel
theorem dX7_in_5 : decode cX7_in 5 = .ok (.iload_n 0, 1) := by decide +kernel
theorem dX7_in_6 : decode cX7_in 6 = .ok (.iload_n 2, 1) := by decide +kernel
theorem dX7_in_7 : decode cX7_in 7 = .ok (.if_icmp .gt 7, 3) := by decide +kernel
theorem dX7_in_10 : decode cX7_in 10 = .ok (.iconst 1, 1) := by decide +kernel
theorem dX7_in_11 : decode cX7_in 11 = .ok (.goto 4, 3) := by decide +kernel
theorem dX7_in_14 : decode cX7_in 14 = .ok (.iconst 0, 1) := by decide +kernel
theorem dX7_in_15 : decode cX7_in 15 = .ok (.ireturn, 1) := by decide +kernel
theorem q87_0 : pm_V d 87 0 [.int xi, l1, l2] st S Q = pm_V d 87 1 [.int xi, l1, l2] (.int xi :: st) S Q := pv_iload_n (pm_cdi rfl dX7_in_0) rfl
theorem q87_1 : pm_V d 87 1 [l0, .int xi, l2] st S Q = pm_V d 87 2 [l0, .int xi, l2] (.int xi :: st) S Q := pv_iload_n (pm_cdi rfl dX7_in_1) rfl
theorem q87_2 : pm_V d 87 2 [l0, l1, l2] (.int yi :: .int xi :: st) S Q = if xi < yi then pm_V d 87 14 [l0, l1, l2] st S Q else pm_V d 87 5 [l0, l1, l2] st S Q := pv_icmp_lt (pm_cdi rfl dX7_in_2) rfl
theorem q87_5 : pm_V d 87 5 [.int xi, l1, l2] st S Q = pm_V d 87 6 [.int xi, l1, l2] (.int xi :: st) S Q := pv_iload_n (pm_cdi rfl dX7_in_5) rfl
theorem q87_6 : pm_V d 87 6 [l0, l1, .int xi] st S Q = pm_V d 87 7 [l0, l1, .int xi] (.int xi :: st) S Q := pv_iload_n (pm_cdi rfl dX7_in_6) rfl
theorem q87_7 : pm_V d 87 7 [l0, l1, l2] (.int yi :: .int xi :: st) S Q = if xi ≤ yi then pm_V d 87 10 [l0, l1, l2] st S Q else pm_V d 87 14 [l0, l1, l2] st S Q := pv_icmp_gt (pm_cdi rfl dX7_in_7) rfl
theorem q87_10 : pm_V d 87 10 [l0, l1, l2] st S Q = pm_V d 87 11 [l0, l1, l2] (.int 1 :: st) S Q := pv_iconst (pm_cdi rfl dX7_in_10) (by decide +kernel)
theorem q87_11 : pm_V d 87 11 [l0, l1, l2] st S Q = pm_V d 87 15 [l0, l1, l2] st S Q := pv_goto (pm_cdi rfl dX7_in_11) rfl
theorem q87_14 : pm_V d 87 14 [l0, l1, l2] st S Q = pm_V d 87 15 [l0, l1, l2] (.int 0 :: st) S Q := pv_iconst (pm_cdi rfl dX7_in_14) (by decide +kernel)
theorem q87_15 (hx : xi = 0 ∨ xi = 1) : pm_V d 87 15 [l0, l1, l2] [.int xi] S Q = Q (some (.int xi)) S := pv_rZ (pm_cdi rfl dX7_in_15) (by decide +kernel) hx
theorem q87_e : pm_N d 87 [.int v0i, .int v1i, .int v2i] S Q = pm_V d 87 0 [.int v0i, .int v1i, .int v2i] [] S Q := pv_ent (Nat.le_of_ble_eq_true rfl) rfl
/-! 88: ViewsJoinsModel.isGraph(I)Z -/
theorem dX7_isGraph_0 : decode cX7_isGraph 0 = .ok (.iload_n 1, 1) := by decide +kernel
theorem dX7_isGraph_1 : decode cX7_isGraph 1 = .ok (.iconst 0, 1) := by decide +kernel
theorem dX7_isGraph_2 : decode cX7_isGraph 2 = .ok (.aload_n 0, 1) := by decide +kernel
theorem dX7_isGraph_3 : decode cX7_isGraph 3 = .ok (.getfield 115, 3) := by decide +kernel
theorem dX7_isGraph_6 : decode cX7_isGraph 6 = .ok (.iconst 1, 1) := by decide +kernel
theorem dX7_isGraph_7 : decode cX7_isGraph 7 = .ok (.isub, 1) := by decide +kernel
theorem dX7_isGraph_8 : decode cX7_isGraph 8 = .ok (.invokestatic 119, 3) := by decide +kernel
theorem dX7_isGraph_11 : decode cX7_isGraph 11 = .ok (.ireturn, 1) := by decide +kernel
theorem q88_0 : pm_V d 88 0 [l0, .int xi] st S Q = pm_V d 88 1 [l0, .int xi] (.int xi :: st) S Q := pv_iload_n (pm_cdi rfl dX7_isGraph_0) rfl
theorem q88_1 : pm_V d 88 1 [l0, l1] st S Q = pm_V d 88 2 [l0, l1] (.int 0 :: st) S Q := pv_iconst (pm_cdi rfl dX7_isGraph_1) (by decide +kernel)
theorem q88_2 : pm_V d 88 2 [.ref xn, l1] st S Q = pm_V d 88 3 [.ref xn, l1] (.ref xn :: st) S Q := pv_aload_n (pm_cdi rfl dX7_isGraph_2) rfl
theorem q88_3 (hs : pm_sh S an = .inr 7) : pm_V d 88 3 [l0, l1] (.ref an :: st) S Q = pm_V d 88 6 [l0, l1] (.int (pm_gi S an 0) :: st) S Q := pv_getI (pm_cdi rfl dX7_isGraph_3) (by decide +kernel) (by decide +kernel) (by decide +kernel) hs
theorem q88_6 : pm_V d 88 6 [l0, l1] st S Q = pm_V d 88 7 [l0, l1] (.int 1 :: st) S Q := pv_iconst (pm_cdi rfl dX7_isGraph_6) (by decide +kernel)
theorem q88_7 : pm_V d 88 7 [l0, l1] (.int yi :: .int xi :: st) S Q = pm_V d 88 8 [l0, l1] (.int (xi - yi) :: st) S Q := pv_isub (pm_cdi rfl dX7_isGraph_7)
theorem q88_8 : pm_V (d + 1) 88 8 [l0, l1] [.int v2i, .int v1i, .int v0i] S Q = pm_N d 87 [.int v0i, .int v1i, .int v2i] S (fun r S' => pm_V (d + 1) 88 11 [l0, l1] (r.toList ++ []) S' Q) := pv_callS (as := [.int v0i, .int v1i, .int v2i]) (pm_cdi rfl dX7_isGraph_8) (by decide +kernel) (by decide +kernel) (show _ = _ from (by decide +kernel : 3 = pm_np 87)) rfl (Nat.le_of_ble_eq_true rfl)
theorem q88_11 (hx : xi = 0 ∨ xi = 1) : pm_V d 88 11 [l0, l1] [.int xi] S Q = Q (some (.int xi)) S := pv_rZ (pm_cdi rfl dX7_isGraph_11) (by decide +kernel) hx
theorem q88_e : pm_N d 88 [.ref an, .int v0i] S Q = pm_V d 88 0 [.ref an, .int v0i] [] S Q := pv_ent (Nat.le_of_ble_eq_true rfl) rfl
/-! 89: ViewsJoinsModel.isBase(I)Z -/
theorem dX7_isBase_0 : decode cX7_isBase 0 = .ok (.aload_n 0, 1) := by decide +kernel
theorem dX7_isBase_1 : decode cX7_isBase 1 = .ok (.iload_n 1, 1) := by decide +kernel
theorem dX7_isBase_2 : decode cX7_isBase 2 = .ok (.invokevirtual 123, 3) := by decide +kernel
theorem dX7_isBase_5 : decode cX7_isBase 5 = .ok (.ifCond .eq 16, 3) := by decide +kernel
theorem dX7_isBase_8 : decode cX7_isBase 8 = .ok (.aload_n 0, 1) := by decide +kernel
theorem dX7_isBase_9 : decode cX7_isBase 9 = .ok (.getfield 7, 3) := by decide +kernel
theorem dX7_isBase_12 : decode cX7_isBase 12 = .ok (.iload_n 1, 1) := by decide +kernel
theorem dX7_isBase_13 : decode cX7_isBase 13 = .ok (.iaload, 1) := by decide +kernel
theorem dX7_isBase_14 : decode cX7_isBase 14 = .ok (.ifCond .ne 7, 3) := by decide +kernel
theorem dX7_isBase_17 : decode cX7_isBase 17 = .ok (.iconst 1, 1) := by decide +kernel
theorem dX7_isBase_18 : decode cX7_isBase 18 = .ok (.goto 4, 3) := by decide +kernel
theorem dX7_isBase_21 : decode cX7_isBase 21 = .ok (.iconst 0, 1) := by decide +kernel
theorem dX7_isBase_22 : decode cX7_isBase 22 = .ok (.ireturn, 1) := by decide +kernel
theorem q89_0 : pm_V d 89 0 [.ref xn, l1] st S Q = pm_V d 89 1 [.ref xn, l1] (.ref xn :: st) S Q := pv_aload_n (pm_cdi rfl dX7_isBase_0) rfl
theorem q89_1 : pm_V d 89 1 [l0, .int xi] st S Q = pm_V d 89 2 [l0, .int xi] (.int xi :: st) S Q := pv_iload_n (pm_cdi rfl dX7_isBase_1) rfl
theorem q89_2 (hs : pm_sh S an = .inr 7) : pm_V (d + 1) 89 2 [l0, l1] [.int v0i, .ref an] S Q = pm_N d 88 [.ref an, .int v0i] S (fun r S' => pm_V (d + 1) 89 5 [l0, l1] (r.toList ++ []) S' Q) := pv_callV (as := [.int v0i]) (pm_cdi rfl dX7_isBase_2) (Or.inl (by decide +kernel)) (by decide +kernel) (show _ = _ from (by decide +kernel : 1 = pm_np 88)) rfl (Nat.le_of_ble_eq_true rfl) (cl := 7) (by decide +kernel) hs
theorem q89_5 : pm_V d 89 5 [l0, l1] (.int xi :: st) S Q = if xi = 0 then pm_V d 89 21 [l0, l1] st S Q else pm_V d 89 8 [l0, l1] st S Q := pv_if_eq (pm_cdi rfl dX7_isBase_5) rfl
theorem q89_8 : pm_V d 89 8 [.ref xn, l1] st S Q = pm_V d 89 9 [.ref xn, l1] (.ref xn :: st) S Q := pv_aload_n (pm_cdi rfl dX7_isBase_8) rfl
theorem q89_9 (hs : pm_sh S an = .inr 7) : pm_V d 89 9 [l0, l1] (.ref an :: st) S Q = pm_V d 89 12 [l0, l1] (va_rf (pm_gr S an 1) :: st) S Q := pv_getA (pm_cdi rfl dX7_isBase_9) (by decide +kernel) (by decide +kernel) (by decide +kernel) hs
theorem q89_12 : pm_V d 89 12 [l0, .int xi] st S Q = pm_V d 89 13 [l0, .int xi] (.int xi :: st) S Q := pv_iload_n (pm_cdi rfl dX7_isBase_12) rfl
theorem q89_13 (hs : pm_ar S an 0 xi = true) : pm_V d 89 13 [l0, l1] (.int xi :: .ref an :: st) S Q = pm_V d 89 14 [l0, l1] (.int (pm_zi S an xi.toNatClampNeg) :: st) S Q := pv_iald (pm_cdi rfl dX7_isBase_13) hs
theorem q89_14 : pm_V d 89 14 [l0, l1] (.int xi :: st) S Q = if xi = 0 then pm_V d 89 17 [l0, l1] st S Q else pm_V d 89 21 [l0, l1] st S Q := pv_if_ne (pm_cdi rfl dX7_isBase_14) rfl
theorem q89_17 : pm_V d 89 17 [l0, l1] st S Q = pm_V d 89 18 [l0, l1] (.int 1 :: st) S Q := pv_iconst (pm_cdi rfl dX7_isBase_17) (by decide +kernel)
theorem q89_18 : pm_V d 89 18 [l0, l1] st S Q = pm_V d 89 22 [l0, l1] st S Q := pv_goto (pm_cdi rfl dX7_isBase_18) rfl
theorem q89_21 : pm_V d 89 21 [l0, l1] st S Q = pm_V d 89 22 [l0, l1] (.int 0 :: st) S Q := pv_iconst (pm_cdi rfl dX7_isBase_21) (by decide +kernel)
theorem q89_22 (hx : xi = 0 ∨ xi = 1) : pm_V d 89 22 [l0, l1] [.int xi] S Q = Q (some (.int xi)) S := pv_rZ (pm_cdi rfl dX7_isBase_22) (by decide +kernel) hx
theorem q89_e : pm_N d 89 [.ref an, .int v0i] S Q = pm_V d 89 0 [.ref an, .int v0i] [] S Q := pv_ent (Nat.le_of_ble_eq_true rfl) rfl
/-! 90: ViewsJoinsModel.isView(I)Z -/
theorem dX7_isView_0 : decode cX7_isView 0 = .ok (.aload_n 0, 1) := by decide +kernel
theorem dX7_isView_1 : decode cX7_isView 1 = .ok (.iload_n 1, 1) := by decide +kernel
theorem dX7_isView_2 : decode cX7_isView 2 = .ok (.invokevirtual 123, 3) := by decide +kernel
theorem dX7_isView_5 : decode cX7_isView 5 = .ok (.ifCond .eq 16, 3) := by decide +kernel
theorem dX7_isView_8 : decode cX7_isView 8 = .ok (.aload_n 0, 1) := by decide +kernel
theorem dX7_isView_9 : decode cX7_isView 9 = .ok (.getfield 7, 3) := by decide +kernel
theorem dX7_isView_12 : decode cX7_isView 12 = .ok (.iload_n 1, 1) := by decide +kernel
theorem dX7_isView_13 : decode cX7_isView 13 = .ok (.iaload, 1) := by decide +kernel
theorem dX7_isView_14 : decode cX7_isView 14 = .ok (.ifCond .le 7, 3) := by decide +kernel
theorem dX7_isView_17 : decode cX7_isView 17 = .ok (.iconst 1, 1) := by decide +kernel
theorem dX7_isView_18 : decode cX7_isView 18 = .ok (.goto 4, 3) := by decide +kernel
theorem dX7_isView_21 : decode cX7_isView 21 = .ok (.iconst 0, 1) := by decide +kernel
theorem dX7_isView_22 : decode cX7_isView 22 = .ok (.ireturn, 1) := by decide +kernel
theorem q90_0 : pm_V d 90 0 [.ref xn, l1] st S Q = pm_V d 90 1 [.ref xn, l1] (.ref xn :: st) S Q := pv_aload_n (pm_cdi rfl dX7_isView_0) rfl
theorem q90_1 : pm_V d 90 1 [l0, .int xi] st S Q = pm_V d 90 2 [l0, .int xi] (.int xi :: st) S Q := pv_iload_n (pm_cdi rfl dX7_isView_1) rfl
theorem q90_2 (hs : pm_sh S an = .inr 7) : pm_V (d + 1) 90 2 [l0, l1] [.int v0i, .ref an] S Q = pm_N d 88 [.ref an, .int v0i] S (fun r S' => pm_V (d + 1) 90 5 [l0, l1] (r.toList ++ []) S' Q) := pv_callV (as := [.int v0i]) (pm_cdi rfl dX7_isView_2) (Or.inl (by decide +kernel)) (by decide +kernel) (show _ = _ from (by decide +kernel : 1 = pm_np 88)) rfl (Nat.le_of_ble_eq_true rfl) (cl := 7) (by decide +kernel) hs
theorem q90_5 : pm_V d 90 5 [l0, l1] (.int xi :: st) S Q = if xi = 0 then pm_V d 90 21 [l0, l1] st S Q else pm_V d 90 8 [l0, l1] st S Q := pv_if_eq (pm_cdi rfl dX7_isView_5) rfl
theorem q90_8 : pm_V d 90 8 [.ref xn, l1] st S Q = pm_V d 90 9 [.ref xn, l1] (.ref xn :: st) S Q := pv_aload_n (pm_cdi rfl dX7_isView_8) rfl
theorem q90_9 (hs : pm_sh S an = .inr 7) : pm_V d 90 9 [l0, l1] (.ref an :: st) S Q = pm_V d 90 12 [l0, l1] (va_rf (pm_gr S an 1) :: st) S Q := pv_getA (pm_cdi rfl dX7_isView_9) (by decide +kernel) (by decide +kernel) (by decide +kernel) hs
theorem q90_12 : pm_V d 90 12 [l0, .int xi] st S Q = pm_V d 90 13 [l0, .int xi] (.int xi :: st) S Q := pv_iload_n (pm_cdi rfl dX7_isView_12) rfl
theorem q90_13 (hs : pm_ar S an 0 xi = true) : pm_V d 90 13 [l0, l1] (.int xi :: .ref an :: st) S Q = pm_V d 90 14 [l0, l1] (.int (pm_zi S an xi.toNatClampNeg) :: st) S Q := pv_iald (pm_cdi rfl dX7_isView_13) hs
theorem q90_14 : pm_V d 90 14 [l0, l1] (.int xi :: st) S Q = if xi ≤ 0 then pm_V d 90 21 [l0, l1] st S Q else pm_V d 90 17 [l0, l1] st S Q := pv_if_le (pm_cdi rfl dX7_isView_14) rfl
theorem q90_17 : pm_V d 90 17 [l0, l1] st S Q = pm_V d 90 18 [l0, l1] (.int 1 :: st) S Q := pv_iconst (pm_cdi rfl dX7_isView_17) (by decide +kernel)
theorem q90_18 : pm_V d 90 18 [l0, l1] st S Q = pm_V d 90 22 [l0, l1] st S Q := pv_goto (pm_cdi rfl dX7_isView_18) rfl
theorem q90_21 : pm_V d 90 21 [l0, l1] st S Q = pm_V d 90 22 [l0, l1] (.int 0 :: st) S Q := pv_iconst (pm_cdi rfl dX7_isView_21) (by decide +kernel)
theorem q90_22 (hx : xi = 0 ∨ xi = 1) : pm_V d 90 22 [l0, l1] [.int xi] S Q = Q (some (.int xi)) S := pv_rZ (pm_cdi rfl dX7_isView_22) (by decide +kernel) hx
theorem q90_e : pm_N d 90 [.ref an, .int v0i] S Q = pm_V d 90 0 [.ref an, .int v0i] [] S Q := pv_ent (Nat.le_of_ble_eq_true rfl) rfl
/-! 91: ViewsJoinsModel.isTest(I)Z -/
theorem dX7_isTest_0 : decode cX7_isTest 0 = .ok (.iload_n 1, 1) := by decide +kernel
theorem dX7_isTest_1 : decode cX7_isTest 1 = .ok (.iconst 0, 1) := by decide +kernel
theorem dX7_isTest_2 : decode cX7_isTest 2 = .ok (.aload_n 0, 1) := by decide +kernel
theorem dX7_isTest_3 : decode cX7_isTest 3 = .ok (.getfield 127, 3) := by decide +kernel
theorem dX7_isTest_6 : decode cX7_isTest 6 = .ok (.iconst 1, 1) := by decide +kernel
theorem dX7_isTest_7 : decode cX7_isTest 7 = .ok (.isub, 1) := by decide +kernel
theorem dX7_isTest_8 : decode cX7_isTest 8 = .ok (.invokestatic 119, 3) := by decide +kernel
theorem dX7_isTest_11 : decode cX7_isTest 11 = .ok (.ireturn, 1) := by decide +kernel
theorem q91_0 : pm_V d 91 0 [l0, .int xi] st S Q = pm_V d 91 1 [l0, .int xi] (.int xi :: st) S Q := pv_iload_n (pm_cdi rfl dX7_isTest_0) rfl
theorem q91_1 : pm_V d 91 1 [l0, l1] st S Q = pm_V d 91 2 [l0, l1] (.int 0 :: st) S Q := pv_iconst (pm_cdi rfl dX7_isTest_1) (by decide +kernel)
theorem q91_2 : pm_V d 91 2 [.ref xn, l1] st S Q = pm_V d 91 3 [.ref xn, l1] (.ref xn :: st) S Q := pv_aload_n (pm_cdi rfl dX7_isTest_2) rfl
theorem q91_3 (hs : pm_sh S an = .inr 7) : pm_V d 91 3 [l0, l1] (.ref an :: st) S Q = pm_V d 91 6 [l0, l1] (.int (pm_gi S an 23) :: st) S Q := pv_getI (pm_cdi rfl dX7_isTest_3) (by decide +kernel) (by decide +kernel) (by decide +kernel) hs
theorem q91_6 : pm_V d 91 6 [l0, l1] st S Q = pm_V d 91 7 [l0, l1] (.int 1 :: st) S Q := pv_iconst (pm_cdi rfl dX7_isTest_6) (by decide +kernel)
theorem q91_7 : pm_V d 91 7 [l0, l1] (.int yi :: .int xi :: st) S Q = pm_V d 91 8 [l0, l1] (.int (xi - yi) :: st) S Q := pv_isub (pm_cdi rfl dX7_isTest_7)
theorem q91_8 : pm_V (d + 1) 91 8 [l0, l1] [.int v2i, .int v1i, .int v0i] S Q = pm_N d 87 [.int v0i, .int v1i, .int v2i] S (fun r S' => pm_V (d + 1) 91 11 [l0, l1] (r.toList ++ []) S' Q) := pv_callS (as := [.int v0i, .int v1i, .int v2i]) (pm_cdi rfl dX7_isTest_8) (by decide +kernel) (by decide +kernel) (show _ = _ from (by decide +kernel : 3 = pm_np 87)) rfl (Nat.le_of_ble_eq_true rfl)
theorem q91_11 (hx : xi = 0 ∨ xi = 1) : pm_V d 91 11 [l0, l1] [.int xi] S Q = Q (some (.int xi)) S := pv_rZ (pm_cdi rfl dX7_isTest_11) (by decide +kernel) hx
theorem q91_e : pm_N d 91 [.ref an, .int v0i] S Q = pm_V d 91 0 [.ref an, .int v0i] [] S Q := pv_ent (Nat.le_of_ble_eq_true rfl) rfl
end
