section
variable {d : Nat} {S : pm_T} {Q : Option Value → pm_T → Prop} {an r0n r1n r2n r3n r4n r5n v0n v1n v2n vn xn yn : Nat} {ki r0i r1i r2i r3i r4i v0i v1i v2i v3i v4i v5i vi xi yi : Int32} {l0 l1 l10 l2 l3 l4 l5 l6 l7 l8 l9 v0v v1v v2v : Value} {r0j r1j v0j v1j v2j v3j vj xj yj : Int64} {st : List Value}
/-! 0: ViewsJoins$Graph.<init>()V -/
theorem dX0_init_0 : decode cX0_init 0 = .ok (.aload_n 0, 1) := by decide +kernel
theorem dX0_init_1 : decode cX0_init 1 = .ok (.invokespecial 3, 3) := by decide +kernel
theorem dX0_init_4 : decode cX0_init 4 = .ok (.aload_n 0, 1) := by decide +kernel
theorem dX0_init_5 : decode cX0_init 5 = .ok (.new 9, 3) := by decide +kernel
theorem dX0_init_8 : decode cX0_init 8 = .ok (.dup, 1) := by decide +kernel
theorem dX0_init_9 : decode cX0_init 9 = .ok (.bipush 40, 2) := by decide +kernel
theorem dX0_init_11 : decode cX0_init 11 = .ok (.invokespecial 11, 3) := by decide +kernel
theorem dX0_init_14 : decode cX0_init 14 = .ok (.putfield 14, 3) := by decide +kernel
theorem dX0_init_17 : decode cX0_init 17 = .ok (.aload_n 0, 1) := by decide +kernel
theorem dX0_init_18 : decode cX0_init 18 = .ok (.new 9, 3) := by decide +kernel
theorem dX0_init_21 : decode cX0_init 21 = .ok (.dup, 1) := by decide +kernel
theorem dX0_init_22 : decode cX0_init 22 = .ok (.bipush 120, 2) := by decide +kernel
theorem dX0_init_24 : decode cX0_init 24 = .ok (.invokespecial 11, 3) := by decide +kernel
theorem dX0_init_27 : decode cX0_init 27 = .ok (.putfield 20, 3) := by decide +kernel
theorem dX0_init_30 : decode cX0_init 30 = .ok (.aload_n 0, 1) := by decide +kernel
theorem dX0_init_31 : decode cX0_init 31 = .ok (.bipush 120, 2) := by decide +kernel
theorem dX0_init_33 : decode cX0_init 33 = .ok (.newarray .int, 2) := by decide +kernel
theorem dX0_init_35 : decode cX0_init 35 = .ok (.putfield 23, 3) := by decide +kernel
theorem dX0_init_38 : decode cX0_init 38 = .ok (.aload_n 0, 1) := by decide +kernel
theorem dX0_init_39 : decode cX0_init 39 = .ok (.bipush 120, 2) := by decide +kernel
theorem dX0_init_41 : decode cX0_init 41 = .ok (.newarray .int, 2) := by decide +kernel
theorem dX0_init_43 : decode cX0_init 43 = .ok (.putfield 27, 3) := by decide +kernel
theorem dX0_init_46 : decode cX0_init 46 = .ok (.aload_n 0, 1) := by decide +kernel
theorem dX0_init_47 : decode cX0_init 47 = .ok (.new 30, 3) := by decide +kernel
theorem dX0_init_50 : decode cX0_init 50 = .ok (.dup, 1) := by decide +kernel
theorem dX0_init_51 : decode cX0_init 51 = .ok (.invokespecial 32, 3) := by decide +kernel
theorem dX0_init_54 : decode cX0_init 54 = .ok (.putfield 33, 3) := by decide +kernel
theorem dX0_init_57 : decode cX0_init 57 = .ok (.aload_n 0, 1) := by decide +kernel
theorem dX0_init_58 : decode cX0_init 58 = .ok (.iconst 0, 1) := by decide +kernel
theorem dX0_init_59 : decode cX0_init 59 = .ok (.putfield 37, 3) := by decide +kernel
theorem dX0_init_62 : decode cX0_init 62 = .ok (.aload_n 0, 1) := by decide +kernel
theorem dX0_init_63 : decode cX0_init 63 = .ok (.iconst 0, 1) := by decide +kernel
theorem dX0_init_64 : decode cX0_init 64 = .ok (.putfield 41, 3) := by decide +kernel
theorem dX0_init_67 : decode cX0_init 67 = .ok (.aload_n 0, 1) := by decide +kernel
theorem dX0_init_68 : decode cX0_init 68 = .ok (.aconst_null, 1) := by decide +kernel
theorem dX0_init_69 : decode cX0_init 69 = .ok (.putfield 44, 3) := by decide +kernel
theorem dX0_init_72 : decode cX0_init 72 = .ok (.aload_n 0, 1) := by decide +kernel
theorem dX0_init_73 : decode cX0_init 73 = .ok (.aconst_null, 1) := by decide +kernel
theorem dX0_init_74 : decode cX0_init 74 = .ok (.putfield 48, 3) := by decide +kernel
theorem dX0_init_77 : decode cX0_init 77 = .ok (.aload_n 0, 1) := by decide +kernel
theorem dX0_init_78 : decode cX0_init 78 = .ok (.iconst 0, 1) := by decide +kernel
theorem dX0_init_79 : decode cX0_init 79 = .ok (.putfield 51, 3) := by decide +kernel
theorem dX0_init_82 : decode cX0_init 82 = .ok (.aload_n 0, 1) := by decide +kernel
theorem dX0_init_83 : decode cX0_init 83 = .ok (.iconst 0, 1) := by decide +kernel
theorem dX0_init_84 : decode cX0_init 84 = .ok (.putfield 54, 3) := by decide +kernel
theorem dX0_init_87 : decode cX0_init 87 = .ok (.aload_n 0, 1) := by decide +kernel
theorem dX0_init_88 : decode cX0_init 88 = .ok (.iconst 0, 1) := by decide +kernel
theorem dX0_init_89 : decode cX0_init 89 = .ok (.putfield 57, 3) := by decide +kernel
theorem dX0_init_92 : decode cX0_init 92 = .ok (.aload_n 0, 1) := by decide +kernel
theorem dX0_init_93 : decode cX0_init 93 = .ok (.iconst 0, 1) := by decide +kernel
theorem dX0_init_94 : decode cX0_init 94 = .ok (.putfield 60, 3) := by decide +kernel
theorem dX0_init_97 : decode cX0_init 97 = .ok (.aload_n 0, 1) := by decide +kernel
theorem dX0_init_98 : decode cX0_init 98 = .ok (.iconst 0, 1) := by decide +kernel
theorem dX0_init_99 : decode cX0_init 99 = .ok (.putfield 64, 3) := by decide +kernel
theorem dX0_init_102 : decode cX0_init 102 = .ok (.return_, 1) := by decide +kernel
theorem q0_0 : pm_V d 0 0 [.ref xn] st S Q = pm_V d 0 1 [.ref xn] (.ref xn :: st) S Q := pv_aload_n (pm_cdi rfl dX0_init_0) rfl
theorem q0_1 : pm_V d 0 1 [l0] [.ref an] S Q = pm_V d 0 4 [l0] [] S Q := pv_obj (pm_cdi rfl dX0_init_1) (by decide +kernel) (Nat.le_of_ble_eq_true rfl)
theorem q0_4 : pm_V d 0 4 [.ref xn] st S Q = pm_V d 0 5 [.ref xn] (.ref xn :: st) S Q := pv_aload_n (pm_cdi rfl dX0_init_4) rfl
theorem q0_5 : pm_V d 0 5 [l0] st S Q = pm_V d 0 8 [l0] (.ref (pm_nx S) :: st) (pm_mk S 3) Q := pv_new (pm_cdi rfl dX0_init_5) (by decide +kernel) (by decide +kernel)
theorem q0_8 : pm_V d 0 8 [l0] (.ref xn :: st) S Q = pm_V d 0 9 [l0] (.ref xn :: .ref xn :: st) S Q := pv_dupA (pm_cdi rfl dX0_init_8)
theorem q0_9 : pm_V d 0 9 [l0] st S Q = pm_V d 0 11 [l0] (.int 40 :: st) S Q := pv_bipush (pm_cdi rfl dX0_init_9) (by decide +kernel)
theorem q0_11 : pm_V (d + 1) 0 11 [l0] [.int v0i, .ref an, .ref r0n, .ref r1n] S Q = pm_N d 19 [.ref an, .int v0i] S (fun r S' => pm_V (d + 1) 0 14 [l0] (r.toList ++ [.ref r0n, .ref r1n]) S' Q) := pv_callI (as := [.int v0i]) (pm_cdi rfl dX0_init_11) (Or.inl (by decide +kernel)) (by decide +kernel) (show _ = _ from (by decide +kernel : 1 = pm_np 19)) rfl (Nat.le_of_ble_eq_true rfl)
theorem q0_14 (hs : pm_sh S an = .inr 0) : pm_V d 0 14 [l0] (.ref xn :: .ref an :: st) S Q = pm_V d 0 17 [l0] st (pm_sgr S an 0 (some xn)) Q := pv_putA (pm_cdi rfl dX0_init_14) (by decide +kernel) (by decide +kernel) (by decide +kernel) hs
theorem q0_14N (hs : pm_sh S an = .inr 0) : pm_V d 0 14 [l0] (.null :: .ref an :: st) S Q = pm_V d 0 17 [l0] st (pm_sgr S an 0 none) Q := pv_putN (pm_cdi rfl dX0_init_14) (by decide +kernel) (by decide +kernel) (by decide +kernel) hs
theorem q0_17 : pm_V d 0 17 [.ref xn] st S Q = pm_V d 0 18 [.ref xn] (.ref xn :: st) S Q := pv_aload_n (pm_cdi rfl dX0_init_17) rfl
theorem q0_18 : pm_V d 0 18 [l0] st S Q = pm_V d 0 21 [l0] (.ref (pm_nx S) :: st) (pm_mk S 3) Q := pv_new (pm_cdi rfl dX0_init_18) (by decide +kernel) (by decide +kernel)
theorem q0_21 : pm_V d 0 21 [l0] (.ref xn :: st) S Q = pm_V d 0 22 [l0] (.ref xn :: .ref xn :: st) S Q := pv_dupA (pm_cdi rfl dX0_init_21)
theorem q0_22 : pm_V d 0 22 [l0] st S Q = pm_V d 0 24 [l0] (.int 120 :: st) S Q := pv_bipush (pm_cdi rfl dX0_init_22) (by decide +kernel)
theorem q0_24 : pm_V (d + 1) 0 24 [l0] [.int v0i, .ref an, .ref r0n, .ref r1n] S Q = pm_N d 19 [.ref an, .int v0i] S (fun r S' => pm_V (d + 1) 0 27 [l0] (r.toList ++ [.ref r0n, .ref r1n]) S' Q) := pv_callI (as := [.int v0i]) (pm_cdi rfl dX0_init_24) (Or.inl (by decide +kernel)) (by decide +kernel) (show _ = _ from (by decide +kernel : 1 = pm_np 19)) rfl (Nat.le_of_ble_eq_true rfl)
theorem q0_27 (hs : pm_sh S an = .inr 0) : pm_V d 0 27 [l0] (.ref xn :: .ref an :: st) S Q = pm_V d 0 30 [l0] st (pm_sgr S an 1 (some xn)) Q := pv_putA (pm_cdi rfl dX0_init_27) (by decide +kernel) (by decide +kernel) (by decide +kernel) hs
theorem q0_27N (hs : pm_sh S an = .inr 0) : pm_V d 0 27 [l0] (.null :: .ref an :: st) S Q = pm_V d 0 30 [l0] st (pm_sgr S an 1 none) Q := pv_putN (pm_cdi rfl dX0_init_27) (by decide +kernel) (by decide +kernel) (by decide +kernel) hs
theorem q0_30 : pm_V d 0 30 [.ref xn] st S Q = pm_V d 0 31 [.ref xn] (.ref xn :: st) S Q := pv_aload_n (pm_cdi rfl dX0_init_30) rfl
theorem q0_31 : pm_V d 0 31 [l0] st S Q = pm_V d 0 33 [l0] (.int 120 :: st) S Q := pv_bipush (pm_cdi rfl dX0_init_31) (by decide +kernel)
theorem q0_33 (h : 0 ≤ xi ∧ xi.toNatClampNeg ≤ 60000) : pm_V d 0 33 [l0] (.int xi :: st) S Q = pm_V d 0 35 [l0] (.ref (pm_nx S) :: st) (pm_mka S 0 xi.toNatClampNeg) Q := pv_newI (pm_cdi rfl dX0_init_33) h
theorem q0_35 (hs : pm_sh S an = .inr 0) : pm_V d 0 35 [l0] (.ref xn :: .ref an :: st) S Q = pm_V d 0 38 [l0] st (pm_sgr S an 2 (some xn)) Q := pv_putA (pm_cdi rfl dX0_init_35) (by decide +kernel) (by decide +kernel) (by decide +kernel) hs
theorem q0_35N (hs : pm_sh S an = .inr 0) : pm_V d 0 35 [l0] (.null :: .ref an :: st) S Q = pm_V d 0 38 [l0] st (pm_sgr S an 2 none) Q := pv_putN (pm_cdi rfl dX0_init_35) (by decide +kernel) (by decide +kernel) (by decide +kernel) hs
theorem q0_38 : pm_V d 0 38 [.ref xn] st S Q = pm_V d 0 39 [.ref xn] (.ref xn :: st) S Q := pv_aload_n (pm_cdi rfl dX0_init_38) rfl
theorem q0_39 : pm_V d 0 39 [l0] st S Q = pm_V d 0 41 [l0] (.int 120 :: st) S Q := pv_bipush (pm_cdi rfl dX0_init_39) (by decide +kernel)
theorem q0_41 (h : 0 ≤ xi ∧ xi.toNatClampNeg ≤ 60000) : pm_V d 0 41 [l0] (.int xi :: st) S Q = pm_V d 0 43 [l0] (.ref (pm_nx S) :: st) (pm_mka S 0 xi.toNatClampNeg) Q := pv_newI (pm_cdi rfl dX0_init_41) h
theorem q0_43 (hs : pm_sh S an = .inr 0) : pm_V d 0 43 [l0] (.ref xn :: .ref an :: st) S Q = pm_V d 0 46 [l0] st (pm_sgr S an 3 (some xn)) Q := pv_putA (pm_cdi rfl dX0_init_43) (by decide +kernel) (by decide +kernel) (by decide +kernel) hs
theorem q0_43N (hs : pm_sh S an = .inr 0) : pm_V d 0 43 [l0] (.null :: .ref an :: st) S Q = pm_V d 0 46 [l0] st (pm_sgr S an 3 none) Q := pv_putN (pm_cdi rfl dX0_init_43) (by decide +kernel) (by decide +kernel) (by decide +kernel) hs
theorem q0_46 : pm_V d 0 46 [.ref xn] st S Q = pm_V d 0 47 [.ref xn] (.ref xn :: st) S Q := pv_aload_n (pm_cdi rfl dX0_init_46) rfl
theorem q0_47 : pm_V d 0 47 [l0] st S Q = pm_V d 0 50 [l0] (.ref (pm_nx S) :: st) (pm_mk S 2) Q := pv_new (pm_cdi rfl dX0_init_47) (by decide +kernel) (by decide +kernel)
theorem q0_50 : pm_V d 0 50 [l0] (.ref xn :: st) S Q = pm_V d 0 51 [l0] (.ref xn :: .ref xn :: st) S Q := pv_dupA (pm_cdi rfl dX0_init_50)
theorem q0_51 : pm_V (d + 1) 0 51 [l0] [.ref an, .ref r0n, .ref r1n] S Q = pm_N d 17 [.ref an] S (fun r S' => pm_V (d + 1) 0 54 [l0] (r.toList ++ [.ref r0n, .ref r1n]) S' Q) := pv_callI (as := []) (pm_cdi rfl dX0_init_51) (Or.inr (by decide +kernel)) (by decide +kernel) (show _ = _ from (by decide +kernel : 0 = pm_np 17)) rfl (Nat.le_of_ble_eq_true rfl)
theorem q0_54 (hs : pm_sh S an = .inr 0) : pm_V d 0 54 [l0] (.ref xn :: .ref an :: st) S Q = pm_V d 0 57 [l0] st (pm_sgr S an 4 (some xn)) Q := pv_putA (pm_cdi rfl dX0_init_54) (by decide +kernel) (by decide +kernel) (by decide +kernel) hs
theorem q0_54N (hs : pm_sh S an = .inr 0) : pm_V d 0 54 [l0] (.null :: .ref an :: st) S Q = pm_V d 0 57 [l0] st (pm_sgr S an 4 none) Q := pv_putN (pm_cdi rfl dX0_init_54) (by decide +kernel) (by decide +kernel) (by decide +kernel) hs
theorem q0_57 : pm_V d 0 57 [.ref xn] st S Q = pm_V d 0 58 [.ref xn] (.ref xn :: st) S Q := pv_aload_n (pm_cdi rfl dX0_init_57) rfl
theorem q0_58 : pm_V d 0 58 [l0] st S Q = pm_V d 0 59 [l0] (.int 0 :: st) S Q := pv_iconst (pm_cdi rfl dX0_init_58) (by decide +kernel)
theorem q0_59 (hs : pm_sh S an = .inr 0) : pm_V d 0 59 [l0] (.int xi :: .ref an :: st) S Q = pm_V d 0 62 [l0] st (pm_sgi S an 5 xi) Q := pv_putI (pm_cdi rfl dX0_init_59) (by decide +kernel) (by decide +kernel) (by decide +kernel) hs
theorem q0_62 : pm_V d 0 62 [.ref xn] st S Q = pm_V d 0 63 [.ref xn] (.ref xn :: st) S Q := pv_aload_n (pm_cdi rfl dX0_init_62) rfl
theorem q0_63 : pm_V d 0 63 [l0] st S Q = pm_V d 0 64 [l0] (.int 0 :: st) S Q := pv_iconst (pm_cdi rfl dX0_init_63) (by decide +kernel)
theorem q0_64 (hs : pm_sh S an = .inr 0) : pm_V d 0 64 [l0] (.int xi :: .ref an :: st) S Q = pm_V d 0 67 [l0] st (pm_sgi S an 6 xi) Q := pv_putI (pm_cdi rfl dX0_init_64) (by decide +kernel) (by decide +kernel) (by decide +kernel) hs
theorem q0_67 : pm_V d 0 67 [.ref xn] st S Q = pm_V d 0 68 [.ref xn] (.ref xn :: st) S Q := pv_aload_n (pm_cdi rfl dX0_init_67) rfl
theorem q0_68 : pm_V d 0 68 [l0] st S Q = pm_V d 0 69 [l0] (.null :: st) S Q := pv_null (pm_cdi rfl dX0_init_68)
theorem q0_69 (hs : pm_sh S an = .inr 0) : pm_V d 0 69 [l0] (.ref xn :: .ref an :: st) S Q = pm_V d 0 72 [l0] st (pm_sgr S an 7 (some xn)) Q := pv_putA (pm_cdi rfl dX0_init_69) (by decide +kernel) (by decide +kernel) (by decide +kernel) hs
theorem q0_69N (hs : pm_sh S an = .inr 0) : pm_V d 0 69 [l0] (.null :: .ref an :: st) S Q = pm_V d 0 72 [l0] st (pm_sgr S an 7 none) Q := pv_putN (pm_cdi rfl dX0_init_69) (by decide +kernel) (by decide +kernel) (by decide +kernel) hs
theorem q0_72 : pm_V d 0 72 [.ref xn] st S Q = pm_V d 0 73 [.ref xn] (.ref xn :: st) S Q := pv_aload_n (pm_cdi rfl dX0_init_72) rfl
theorem q0_73 : pm_V d 0 73 [l0] st S Q = pm_V d 0 74 [l0] (.null :: st) S Q := pv_null (pm_cdi rfl dX0_init_73)
theorem q0_74 (hs : pm_sh S an = .inr 0) : pm_V d 0 74 [l0] (.ref xn :: .ref an :: st) S Q = pm_V d 0 77 [l0] st (pm_sgr S an 8 (some xn)) Q := pv_putA (pm_cdi rfl dX0_init_74) (by decide +kernel) (by decide +kernel) (by decide +kernel) hs
theorem q0_74N (hs : pm_sh S an = .inr 0) : pm_V d 0 74 [l0] (.null :: .ref an :: st) S Q = pm_V d 0 77 [l0] st (pm_sgr S an 8 none) Q := pv_putN (pm_cdi rfl dX0_init_74) (by decide +kernel) (by decide +kernel) (by decide +kernel) hs
theorem q0_77 : pm_V d 0 77 [.ref xn] st S Q = pm_V d 0 78 [.ref xn] (.ref xn :: st) S Q := pv_aload_n (pm_cdi rfl dX0_init_77) rfl
theorem q0_78 : pm_V d 0 78 [l0] st S Q = pm_V d 0 79 [l0] (.int 0 :: st) S Q := pv_iconst (pm_cdi rfl dX0_init_78) (by decide +kernel)
theorem q0_79 (hs : pm_sh S an = .inr 0) : pm_V d 0 79 [l0] (.int xi :: .ref an :: st) S Q = pm_V d 0 82 [l0] st (pm_sgi S an 9 xi) Q := pv_putI (pm_cdi rfl dX0_init_79) (by decide +kernel) (by decide +kernel) (by decide +kernel) hs
theorem q0_82 : pm_V d 0 82 [.ref xn] st S Q = pm_V d 0 83 [.ref xn] (.ref xn :: st) S Q := pv_aload_n (pm_cdi rfl dX0_init_82) rfl
theorem q0_83 : pm_V d 0 83 [l0] st S Q = pm_V d 0 84 [l0] (.int 0 :: st) S Q := pv_iconst (pm_cdi rfl dX0_init_83) (by decide +kernel)
theorem q0_84 (hs : pm_sh S an = .inr 0) : pm_V d 0 84 [l0] (.int xi :: .ref an :: st) S Q = pm_V d 0 87 [l0] st (pm_sgi S an 10 xi) Q := pv_putI (pm_cdi rfl dX0_init_84) (by decide +kernel) (by decide +kernel) (by decide +kernel) hs
theorem q0_87 : pm_V d 0 87 [.ref xn] st S Q = pm_V d 0 88 [.ref xn] (.ref xn :: st) S Q := pv_aload_n (pm_cdi rfl dX0_init_87) rfl
theorem q0_88 : pm_V d 0 88 [l0] st S Q = pm_V d 0 89 [l0] (.int 0 :: st) S Q := pv_iconst (pm_cdi rfl dX0_init_88) (by decide +kernel)
theorem q0_89 (hs : pm_sh S an = .inr 0) : pm_V d 0 89 [l0] (.int xi :: .ref an :: st) S Q = pm_V d 0 92 [l0] st (pm_sgi S an 11 xi) Q := pv_putI (pm_cdi rfl dX0_init_89) (by decide +kernel) (by decide +kernel) (by decide +kernel) hs
theorem q0_92 : pm_V d 0 92 [.ref xn] st S Q = pm_V d 0 93 [.ref xn] (.ref xn :: st) S Q := pv_aload_n (pm_cdi rfl dX0_init_92) rfl
theorem q0_93 : pm_V d 0 93 [l0] st S Q = pm_V d 0 94 [l0] (.int 0 :: st) S Q := pv_iconst (pm_cdi rfl dX0_init_93) (by decide +kernel)
theorem q0_94 (hs : pm_sh S an = .inr 0) (hx : xi = 0 ∨ xi = 1) : pm_V d 0 94 [l0] (.int xi :: .ref an :: st) S Q = pm_V d 0 97 [l0] st (pm_sgi S an 12 xi) Q := pv_putZ (pm_cdi rfl dX0_init_94) (by decide +kernel) (by decide +kernel) (by decide +kernel) hs hx
theorem q0_97 : pm_V d 0 97 [.ref xn] st S Q = pm_V d 0 98 [.ref xn] (.ref xn :: st) S Q := pv_aload_n (pm_cdi rfl dX0_init_97) rfl
theorem q0_98 : pm_V d 0 98 [l0] st S Q = pm_V d 0 99 [l0] (.int 0 :: st) S Q := pv_iconst (pm_cdi rfl dX0_init_98) (by decide +kernel)
theorem q0_99 (hs : pm_sh S an = .inr 0) : pm_V d 0 99 [l0] (.int xi :: .ref an :: st) S Q = pm_V d 0 102 [l0] st (pm_sgi S an 13 xi) Q := pv_putI (pm_cdi rfl dX0_init_99) (by decide +kernel) (by decide +kernel) (by decide +kernel) hs
theorem q0_102 : pm_V d 0 102 [l0] [] S Q = Q none S := pv_rV (pm_cdi rfl dX0_init_102) (by decide +kernel)
theorem q0_e : pm_N d 0 [.ref an] S Q = pm_V d 0 0 [.ref an] [] S Q := pv_ent (Nat.le_of_ble_eq_true rfl) rfl
/-! 1: ViewsJoins$Graph.become(ILViewsJoins$Graph;LViewsJoins$Graph;)V -/
theorem dX0_become_0 : decode cX0_become 0 = .ok (.aload_n 0, 1) := by decide +kernel
theorem dX0_become_1 : decode cX0_become 1 = .ok (.iload_n 1, 1) := by decide +kernel
theorem dX0_become_2 : decode cX0_become 2 = .ok (.putfield 41, 3) := by decide +kernel
theorem dX0_become_5 : decode cX0_become 5 = .ok (.aload_n 0, 1) := by decide +kernel
theorem dX0_become_6 : decode cX0_become 6 = .ok (.aload_n 2, 1) := by decide +kernel
theorem dX0_become_7 : decode cX0_become 7 = .ok (.putfield 44, 3) := by decide +kernel
theorem dX0_become_10 : decode cX0_become 10 = .ok (.aload_n 0, 1) := by decide +kernel
theorem dX0_become_11 : decode cX0_become 11 = .ok (.aload_n 3, 1) := by decide +kernel
theorem dX0_become_12 : decode cX0_become 12 = .ok (.putfield 48, 3) := by decide +kernel
theorem dX0_become_15 : decode cX0_become 15 = .ok (.aload_n 0, 1) := by decide +kernel
theorem dX0_become_16 : decode cX0_become 16 = .ok (.iconst 0, 1) := by decide +kernel
theorem dX0_become_17 : decode cX0_become 17 = .ok (.putfield 60, 3) := by decide +kernel
theorem dX0_become_20 : decode cX0_become 20 = .ok (.aload_n 0, 1) := by decide +kernel
theorem dX0_become_21 : decode cX0_become 21 = .ok (.iconst 0, 1) := by decide +kernel
theorem dX0_become_22 : decode cX0_become 22 = .ok (.putfield 64, 3) := by decide +kernel
theorem dX0_become_25 : decode cX0_become 25 = .ok (.aload_n 0, 1) := by decide +kernel
theorem dX0_become_26 : decode cX0_become 26 = .ok (.invokevirtual 67, 3) := by decide +kernel
theorem dX0_become_29 : decode cX0_become 29 = .ok (.return_, 1) := by decide +kernel
theorem q1_0 : pm_V d 1 0 [.ref xn, l1, l2, l3] st S Q = pm_V d 1 1 [.ref xn, l1, l2, l3] (.ref xn :: st) S Q := pv_aload_n (pm_cdi rfl dX0_become_0) rfl
theorem q1_1 : pm_V d 1 1 [l0, .int xi, l2, l3] st S Q = pm_V d 1 2 [l0, .int xi, l2, l3] (.int xi :: st) S Q := pv_iload_n (pm_cdi rfl dX0_become_1) rfl
theorem q1_2 (hs : pm_sh S an = .inr 0) : pm_V d 1 2 [l0, l1, l2, l3] (.int xi :: .ref an :: st) S Q = pm_V d 1 5 [l0, l1, l2, l3] st (pm_sgi S an 6 xi) Q := pv_putI (pm_cdi rfl dX0_become_2) (by decide +kernel) (by decide +kernel) (by decide +kernel) hs
theorem q1_5 : pm_V d 1 5 [.ref xn, l1, l2, l3] st S Q = pm_V d 1 6 [.ref xn, l1, l2, l3] (.ref xn :: st) S Q := pv_aload_n (pm_cdi rfl dX0_become_5) rfl
theorem q1_6 : pm_V d 1 6 [l0, l1, .ref xn, l3] st S Q = pm_V d 1 7 [l0, l1, .ref xn, l3] (.ref xn :: st) S Q := pv_aload_n (pm_cdi rfl dX0_become_6) rfl
theorem q1_6N : pm_V d 1 6 [l0, l1, .null, l3] st S Q = pm_V d 1 7 [l0, l1, .null, l3] (.null :: st) S Q := pv_aload_nN (pm_cdi rfl dX0_become_6) rfl
theorem q1_7 (hs : pm_sh S an = .inr 0) : pm_V d 1 7 [l0, l1, l2, l3] (.ref xn :: .ref an :: st) S Q = pm_V d 1 10 [l0, l1, l2, l3] st (pm_sgr S an 7 (some xn)) Q := pv_putA (pm_cdi rfl dX0_become_7) (by decide +kernel) (by decide +kernel) (by decide +kernel) hs
theorem q1_7N (hs : pm_sh S an = .inr 0) : pm_V d 1 7 [l0, l1, l2, l3] (.null :: .ref an :: st) S Q = pm_V d 1 10 [l0, l1, l2, l3] st (pm_sgr S an 7 none) Q := pv_putN (pm_cdi rfl dX0_become_7) (by decide +kernel) (by decide +kernel) (by decide +kernel) hs
theorem q1_10 : pm_V d 1 10 [.ref xn, l1, l2, l3] st S Q = pm_V d 1 11 [.ref xn, l1, l2, l3] (.ref xn :: st) S Q := pv_aload_n (pm_cdi rfl dX0_become_10) rfl
theorem q1_11 : pm_V d 1 11 [l0, l1, l2, .ref xn] st S Q = pm_V d 1 12 [l0, l1, l2, .ref xn] (.ref xn :: st) S Q := pv_aload_n (pm_cdi rfl dX0_become_11) rfl
theorem q1_11N : pm_V d 1 11 [l0, l1, l2, .null] st S Q = pm_V d 1 12 [l0, l1, l2, .null] (.null :: st) S Q := pv_aload_nN (pm_cdi rfl dX0_become_11) rfl
theorem q1_12 (hs : pm_sh S an = .inr 0) : pm_V d 1 12 [l0, l1, l2, l3] (.ref xn :: .ref an :: st) S Q = pm_V d 1 15 [l0, l1, l2, l3] st (pm_sgr S an 8 (some xn)) Q := pv_putA (pm_cdi rfl dX0_become_12) (by decide +kernel) (by decide +kernel) (by decide +kernel) hs
theorem q1_12N (hs : pm_sh S an = .inr 0) : pm_V d 1 12 [l0, l1, l2, l3] (.null :: .ref an :: st) S Q = pm_V d 1 15 [l0, l1, l2, l3] st (pm_sgr S an 8 none) Q := pv_putN (pm_cdi rfl dX0_become_12) (by decide +kernel) (by decide +kernel) (by decide +kernel) hs
theorem q1_15 : pm_V d 1 15 [.ref xn, l1, l2, l3] st S Q = pm_V d 1 16 [.ref xn, l1, l2, l3] (.ref xn :: st) S Q := pv_aload_n (pm_cdi rfl dX0_become_15) rfl
theorem q1_16 : pm_V d 1 16 [l0, l1, l2, l3] st S Q = pm_V d 1 17 [l0, l1, l2, l3] (.int 0 :: st) S Q := pv_iconst (pm_cdi rfl dX0_become_16) (by decide +kernel)
theorem q1_17 (hs : pm_sh S an = .inr 0) (hx : xi = 0 ∨ xi = 1) : pm_V d 1 17 [l0, l1, l2, l3] (.int xi :: .ref an :: st) S Q = pm_V d 1 20 [l0, l1, l2, l3] st (pm_sgi S an 12 xi) Q := pv_putZ (pm_cdi rfl dX0_become_17) (by decide +kernel) (by decide +kernel) (by decide +kernel) hs hx
theorem q1_20 : pm_V d 1 20 [.ref xn, l1, l2, l3] st S Q = pm_V d 1 21 [.ref xn, l1, l2, l3] (.ref xn :: st) S Q := pv_aload_n (pm_cdi rfl dX0_become_20) rfl
theorem q1_21 : pm_V d 1 21 [l0, l1, l2, l3] st S Q = pm_V d 1 22 [l0, l1, l2, l3] (.int 0 :: st) S Q := pv_iconst (pm_cdi rfl dX0_become_21) (by decide +kernel)
theorem q1_22 (hs : pm_sh S an = .inr 0) : pm_V d 1 22 [l0, l1, l2, l3] (.int xi :: .ref an :: st) S Q = pm_V d 1 25 [l0, l1, l2, l3] st (pm_sgi S an 13 xi) Q := pv_putI (pm_cdi rfl dX0_become_22) (by decide +kernel) (by decide +kernel) (by decide +kernel) hs
theorem q1_25 : pm_V d 1 25 [.ref xn, l1, l2, l3] st S Q = pm_V d 1 26 [.ref xn, l1, l2, l3] (.ref xn :: st) S Q := pv_aload_n (pm_cdi rfl dX0_become_25) rfl
theorem q1_26 (hs : pm_sh S an = .inr 0) : pm_V (d + 1) 1 26 [l0, l1, l2, l3] [.ref an] S Q = pm_N d 3 [.ref an] S (fun r S' => pm_V (d + 1) 1 29 [l0, l1, l2, l3] (r.toList ++ []) S' Q) := pv_callV (as := []) (pm_cdi rfl dX0_become_26) (Or.inl (by decide +kernel)) (by decide +kernel) (show _ = _ from (by decide +kernel : 0 = pm_np 3)) rfl (Nat.le_of_ble_eq_true rfl) (cl := 0) (by decide +kernel) hs
theorem q1_29 : pm_V d 1 29 [l0, l1, l2, l3] [] S Q = Q none S := pv_rV (pm_cdi rfl dX0_become_29) (by decide +kernel)
theorem q1_e : pm_N d 1 [.ref an, .int v0i, .ref v1n, .ref v2n] S Q = pm_V d 1 0 [.ref an, .int v0i, .ref v1n, .ref v2n] [] S Q := pv_ent (Nat.le_of_ble_eq_true rfl) rfl
/-! 2: ViewsJoins$Graph.choose(III)V -/
theorem dX0_choose_0 : decode cX0_choose 0 = .ok (.aload_n 0, 1) := by decide +kernel
theorem dX0_choose_1 : decode cX0_choose 1 = .ok (.iload_n 1, 1) := by decide +kernel
theorem dX0_choose_2 : decode cX0_choose 2 = .ok (.putfield 51, 3) := by decide +kernel
theorem dX0_choose_5 : decode cX0_choose 5 = .ok (.aload_n 0, 1) := by decide +kernel
theorem dX0_choose_6 : decode cX0_choose 6 = .ok (.iload_n 2, 1) := by decide +kernel
theorem dX0_choose_7 : decode cX0_choose 7 = .ok (.putfield 54, 3) := by decide +kernel
theorem dX0_choose_10 : decode cX0_choose 10 = .ok (.aload_n 0, 1) := by decide +kernel
theorem dX0_choose_11 : decode cX0_choose 11 = .ok (.iload_n 3, 1) := by decide +kernel
theorem dX0_choose_12 : decode cX0_choose 12 = .ok (.putfield 57, 3) := by decide +kernel
theorem dX0_choose_15 : decode cX0_choose 15 = .ok (.return_, 1) := by decide +kernel
theorem q2_0 : pm_V d 2 0 [.ref xn, l1, l2, l3] st S Q = pm_V d 2 1 [.ref xn, l1, l2, l3] (.ref xn :: st) S Q := pv_aload_n (pm_cdi rfl dX0_choose_0) rfl
theorem q2_1 : pm_V d 2 1 [l0, .int xi, l2, l3] st S Q = pm_V d 2 2 [l0, .int xi, l2, l3] (.int xi :: st) S Q := pv_iload_n (pm_cdi rfl dX0_choose_1) rfl
theorem q2_2 (hs : pm_sh S an = .inr 0) : pm_V d 2 2 [l0, l1, l2, l3] (.int xi :: .ref an :: st) S Q = pm_V d 2 5 [l0, l1, l2, l3] st (pm_sgi S an 9 xi) Q := pv_putI (pm_cdi rfl dX0_choose_2) (by decide +kernel) (by decide +kernel) (by decide +kernel) hs
theorem q2_5 : pm_V d 2 5 [.ref xn, l1, l2, l3] st S Q = pm_V d 2 6 [.ref xn, l1, l2, l3] (.ref xn :: st) S Q := pv_aload_n (pm_cdi rfl dX0_choose_5) rfl
theorem q2_6 : pm_V d 2 6 [l0, l1, .int xi, l3] st S Q = pm_V d 2 7 [l0, l1, .int xi, l3] (.int xi :: st) S Q := pv_iload_n (pm_cdi rfl dX0_choose_6) rfl
theorem q2_7 (hs : pm_sh S an = .inr 0) : pm_V d 2 7 [l0, l1, l2, l3] (.int xi :: .ref an :: st) S Q = pm_V d 2 10 [l0, l1, l2, l3] st (pm_sgi S an 10 xi) Q := pv_putI (pm_cdi rfl dX0_choose_7) (by decide +kernel) (by decide +kernel) (by decide +kernel) hs
theorem q2_10 : pm_V d 2 10 [.ref xn, l1, l2, l3] st S Q = pm_V d 2 11 [.ref xn, l1, l2, l3] (.ref xn :: st) S Q := pv_aload_n (pm_cdi rfl dX0_choose_10) rfl
theorem q2_11 : pm_V d 2 11 [l0, l1, l2, .int xi] st S Q = pm_V d 2 12 [l0, l1, l2, .int xi] (.int xi :: st) S Q := pv_iload_n (pm_cdi rfl dX0_choose_11) rfl
theorem q2_12 (hs : pm_sh S an = .inr 0) : pm_V d 2 12 [l0, l1, l2, l3] (.int xi :: .ref an :: st) S Q = pm_V d 2 15 [l0, l1, l2, l3] st (pm_sgi S an 11 xi) Q := pv_putI (pm_cdi rfl dX0_choose_12) (by decide +kernel) (by decide +kernel) (by decide +kernel) hs
theorem q2_15 : pm_V d 2 15 [l0, l1, l2, l3] [] S Q = Q none S := pv_rV (pm_cdi rfl dX0_choose_15) (by decide +kernel)
theorem q2_e : pm_N d 2 [.ref an, .int v0i, .int v1i, .int v2i] S Q = pm_V d 2 0 [.ref an, .int v0i, .int v1i, .int v2i] [] S Q := pv_ent (Nat.le_of_ble_eq_true rfl) rfl
/-! 3: ViewsJoins$Graph.empty()V -/
theorem dX0_empty_0 : decode cX0_empty 0 = .ok (.aload_n 0, 1) := by decide +kernel
theorem dX0_empty_1 : decode cX0_empty 1 = .ok (.getfield 14, 3) := by decide +kernel
theorem dX0_empty_4 : decode cX0_empty 4 = .ok (.iconst 0, 1) := by decide +kernel
theorem dX0_empty_5 : decode cX0_empty 5 = .ok (.putfield 70, 3) := by decide +kernel
theorem dX0_empty_8 : decode cX0_empty 8 = .ok (.aload_n 0, 1) := by decide +kernel
theorem dX0_empty_9 : decode cX0_empty 9 = .ok (.getfield 20, 3) := by decide +kernel
theorem dX0_empty_12 : decode cX0_empty 12 = .ok (.iconst 0, 1) := by decide +kernel
theorem dX0_empty_13 : decode cX0_empty 13 = .ok (.putfield 70, 3) := by decide +kernel
theorem dX0_empty_16 : decode cX0_empty 16 = .ok (.aload_n 0, 1) := by decide +kernel
theorem dX0_empty_17 : decode cX0_empty 17 = .ok (.getfield 33, 3) := by decide +kernel
theorem dX0_empty_20 : decode cX0_empty 20 = .ok (.iconst 0, 1) := by decide +kernel
theorem dX0_empty_21 : decode cX0_empty 21 = .ok (.putfield 73, 3) := by decide +kernel
theorem dX0_empty_24 : decode cX0_empty 24 = .ok (.aload_n 0, 1) := by decide +kernel
theorem dX0_empty_25 : decode cX0_empty 25 = .ok (.iconst 0, 1) := by decide +kernel
theorem dX0_empty_26 : decode cX0_empty 26 = .ok (.putfield 37, 3) := by decide +kernel
theorem dX0_empty_29 : decode cX0_empty 29 = .ok (.return_, 1) := by decide +kernel
theorem q3_0 : pm_V d 3 0 [.ref xn] st S Q = pm_V d 3 1 [.ref xn] (.ref xn :: st) S Q := pv_aload_n (pm_cdi rfl dX0_empty_0) rfl
theorem q3_1 (hs : pm_sh S an = .inr 0) : pm_V d 3 1 [l0] (.ref an :: st) S Q = pm_V d 3 4 [l0] (va_rf (pm_gr S an 0) :: st) S Q := pv_getA (pm_cdi rfl dX0_empty_1) (by decide +kernel) (by decide +kernel) (by decide +kernel) hs
theorem q3_4 : pm_V d 3 4 [l0] st S Q = pm_V d 3 5 [l0] (.int 0 :: st) S Q := pv_iconst (pm_cdi rfl dX0_empty_4) (by decide +kernel)
theorem q3_5 (hs : pm_sh S an = .inr 3) : pm_V d 3 5 [l0] (.int xi :: .ref an :: st) S Q = pm_V d 3 8 [l0] st (pm_sgi S an 3 xi) Q := pv_putI (pm_cdi rfl dX0_empty_5) (by decide +kernel) (by decide +kernel) (by decide +kernel) hs
theorem q3_8 : pm_V d 3 8 [.ref xn] st S Q = pm_V d 3 9 [.ref xn] (.ref xn :: st) S Q := pv_aload_n (pm_cdi rfl dX0_empty_8) rfl
theorem q3_9 (hs : pm_sh S an = .inr 0) : pm_V d 3 9 [l0] (.ref an :: st) S Q = pm_V d 3 12 [l0] (va_rf (pm_gr S an 1) :: st) S Q := pv_getA (pm_cdi rfl dX0_empty_9) (by decide +kernel) (by decide +kernel) (by decide +kernel) hs
theorem q3_12 : pm_V d 3 12 [l0] st S Q = pm_V d 3 13 [l0] (.int 0 :: st) S Q := pv_iconst (pm_cdi rfl dX0_empty_12) (by decide +kernel)
theorem q3_13 (hs : pm_sh S an = .inr 3) : pm_V d 3 13 [l0] (.int xi :: .ref an :: st) S Q = pm_V d 3 16 [l0] st (pm_sgi S an 3 xi) Q := pv_putI (pm_cdi rfl dX0_empty_13) (by decide +kernel) (by decide +kernel) (by decide +kernel) hs
theorem q3_16 : pm_V d 3 16 [.ref xn] st S Q = pm_V d 3 17 [.ref xn] (.ref xn :: st) S Q := pv_aload_n (pm_cdi rfl dX0_empty_16) rfl
theorem q3_17 (hs : pm_sh S an = .inr 0) : pm_V d 3 17 [l0] (.ref an :: st) S Q = pm_V d 3 20 [l0] (va_rf (pm_gr S an 4) :: st) S Q := pv_getA (pm_cdi rfl dX0_empty_17) (by decide +kernel) (by decide +kernel) (by decide +kernel) hs
theorem q3_20 : pm_V d 3 20 [l0] st S Q = pm_V d 3 21 [l0] (.int 0 :: st) S Q := pv_iconst (pm_cdi rfl dX0_empty_20) (by decide +kernel)
theorem q3_21 (hs : pm_sh S an = .inr 2) : pm_V d 3 21 [l0] (.int xi :: .ref an :: st) S Q = pm_V d 3 24 [l0] st (pm_sgi S an 3 xi) Q := pv_putI (pm_cdi rfl dX0_empty_21) (by decide +kernel) (by decide +kernel) (by decide +kernel) hs
theorem q3_24 : pm_V d 3 24 [.ref xn] st S Q = pm_V d 3 25 [.ref xn] (.ref xn :: st) S Q := pv_aload_n (pm_cdi rfl dX0_empty_24) rfl
theorem q3_25 : pm_V d 3 25 [l0] st S Q = pm_V d 3 26 [l0] (.int 0 :: st) S Q := pv_iconst (pm_cdi rfl dX0_empty_25) (by decide +kernel)
theorem q3_26 (hs : pm_sh S an = .inr 0) : pm_V d 3 26 [l0] (.int xi :: .ref an :: st) S Q = pm_V d 3 29 [l0] st (pm_sgi S an 5 xi) Q := pv_putI (pm_cdi rfl dX0_empty_26) (by decide +kernel) (by decide +kernel) (by decide +kernel) hs
theorem q3_29 : pm_V d 3 29 [l0] [] S Q = Q none S := pv_rV (pm_cdi rfl dX0_empty_29) (by decide +kernel)
theorem q3_e : pm_N d 3 [.ref an] S Q = pm_V d 3 0 [.ref an] [] S Q := pv_ent (Nat.le_of_ble_eq_true rfl) rfl
/-! 4: ViewsJoins$Graph.isStale(I)Z -/
theorem dX0_isStale_0 : decode cX0_isStale 0 = .ok (.aload_n 0, 1) := by decide +kernel
theorem dX0_isStale_1 : decode cX0_isStale 1 = .ok (.getfield 41, 3) := by decide +kernel
theorem dX0_isStale_4 : decode cX0_isStale 4 = .ok (.ifCond .eq 22, 3) := by decide +kernel
theorem dX0_isStale_7 : decode cX0_isStale 7 = .ok (.aload_n 0, 1) := by decide +kernel
theorem dX0_isStale_8 : decode cX0_isStale 8 = .ok (.getfield 60, 3) := by decide +kernel
theorem dX0_isStale_11 : decode cX0_isStale 11 = .ok (.ifCond .ne 15, 3) := by decide +kernel
theorem dX0_isStale_14 : decode cX0_isStale 14 = .ok (.aload_n 0, 1) := by decide +kernel
theorem dX0_isStale_15 : decode cX0_isStale 15 = .ok (.getfield 64, 3) := by decide +kernel
theorem dX0_isStale_18 : decode cX0_isStale 18 = .ok (.iload_n 1, 1) := by decide +kernel
theorem dX0_isStale_19 : decode cX0_isStale 19 = .ok (.if_icmp .eq 7, 3) := by decide +kernel
theorem dX0_isStale_22 : decode cX0_isStale 22 = .ok (.iconst 1, 1) := by decide +kernel
theorem dX0_isStale_23 : decode cX0_isStale 23 = .ok (.goto 4, 3) := by decide +kernel
theorem dX0_isStale_26 : decode cX0_isStale 26 = .ok (.iconst 0, 1) := by decide +kernel
theorem dX0_isStale_27 : decode cX0_isStale 27 = .ok (.ireturn, 1) := by decide +kernel
theorem q4_0 : pm_V d 4 0 [.ref xn, l1] st S Q = pm_V d 4 1 [.ref xn, l1] (.ref xn :: st) S Q := pv_aload_n (pm_cdi rfl dX0_isStale_0) rfl
theorem q4_1 (hs : pm_sh S an = .inr 0) : pm_V d 4 1 [l0, l1] (.ref an :: st) S Q = pm_V d 4 4 [l0, l1] (.int (pm_gi S an 6) :: st) S Q := pv_getI (pm_cdi rfl dX0_isStale_1) (by decide +kernel) (by decide +kernel) (by decide +kernel) hs
theorem q4_4 : pm_V d 4 4 [l0, l1] (.int xi :: st) S Q = if xi = 0 then pm_V d 4 26 [l0, l1] st S Q else pm_V d 4 7 [l0, l1] st S Q := pv_if_eq (pm_cdi rfl dX0_isStale_4) rfl
theorem q4_7 : pm_V d 4 7 [.ref xn, l1] st S Q = pm_V d 4 8 [.ref xn, l1] (.ref xn :: st) S Q := pv_aload_n (pm_cdi rfl dX0_isStale_7) rfl
theorem q4_8 (hs : pm_sh S an = .inr 0) : pm_V d 4 8 [l0, l1] (.ref an :: st) S Q = pm_V d 4 11 [l0, l1] (.int (pm_gi S an 12) :: st) S Q := pv_getI (pm_cdi rfl dX0_isStale_8) (by decide +kernel) (by decide +kernel) (by decide +kernel) hs
theorem q4_11 : pm_V d 4 11 [l0, l1] (.int xi :: st) S Q = if xi = 0 then pm_V d 4 14 [l0, l1] st S Q else pm_V d 4 26 [l0, l1] st S Q := pv_if_ne (pm_cdi rfl dX0_isStale_11) rfl
theorem q4_14 : pm_V d 4 14 [.ref xn, l1] st S Q = pm_V d 4 15 [.ref xn, l1] (.ref xn :: st) S Q := pv_aload_n (pm_cdi rfl dX0_isStale_14) rfl
theorem q4_15 (hs : pm_sh S an = .inr 0) : pm_V d 4 15 [l0, l1] (.ref an :: st) S Q = pm_V d 4 18 [l0, l1] (.int (pm_gi S an 13) :: st) S Q := pv_getI (pm_cdi rfl dX0_isStale_15) (by decide +kernel) (by decide +kernel) (by decide +kernel) hs
theorem q4_18 : pm_V d 4 18 [l0, .int xi] st S Q = pm_V d 4 19 [l0, .int xi] (.int xi :: st) S Q := pv_iload_n (pm_cdi rfl dX0_isStale_18) rfl
theorem q4_19 : pm_V d 4 19 [l0, l1] (.int yi :: .int xi :: st) S Q = if xi = yi then pm_V d 4 26 [l0, l1] st S Q else pm_V d 4 22 [l0, l1] st S Q := pv_icmp_eq (pm_cdi rfl dX0_isStale_19) rfl
theorem q4_22 : pm_V d 4 22 [l0, l1] st S Q = pm_V d 4 23 [l0, l1] (.int 1 :: st) S Q := pv_iconst (pm_cdi rfl dX0_isStale_22) (by decide +kernel)
theorem q4_23 : pm_V d 4 23 [l0, l1] st S Q = pm_V d 4 27 [l0, l1] st S Q := pv_goto (pm_cdi rfl dX0_isStale_23) rfl
theorem q4_26 : pm_V d 4 26 [l0, l1] st S Q = pm_V d 4 27 [l0, l1] (.int 0 :: st) S Q := pv_iconst (pm_cdi rfl dX0_isStale_26) (by decide +kernel)
theorem q4_27 (hx : xi = 0 ∨ xi = 1) : pm_V d 4 27 [l0, l1] [.int xi] S Q = Q (some (.int xi)) S := pv_rZ (pm_cdi rfl dX0_isStale_27) (by decide +kernel) hx
theorem q4_e : pm_N d 4 [.ref an, .int v0i] S Q = pm_V d 4 0 [.ref an, .int v0i] [] S Q := pv_ent (Nat.le_of_ble_eq_true rfl) rfl
/-! 5: ViewsJoins$Graph.items(I)LViewsJoins$Items; -/
theorem dX0_items_0 : decode cX0_items 0 = .ok (.iload_n 1, 1) := by decide +kernel
theorem dX0_items_1 : decode cX0_items 1 = .ok (.ifCond .ne 10, 3) := by decide +kernel
theorem dX0_items_4 : decode cX0_items 4 = .ok (.aload_n 0, 1) := by decide +kernel
theorem dX0_items_5 : decode cX0_items 5 = .ok (.getfield 14, 3) := by decide +kernel
theorem dX0_items_8 : decode cX0_items 8 = .ok (.goto 7, 3) := by decide +kernel
theorem dX0_items_11 : decode cX0_items 11 = .ok (.aload_n 0, 1) := by decide +kernel
theorem dX0_items_12 : decode cX0_items 12 = .ok (.getfield 20, 3) := by decide +kernel
theorem dX0_items_15 : decode cX0_items 15 = .ok (.areturn, 1) := by decide +kernel
theorem q5_0 : pm_V d 5 0 [l0, .int xi] st S Q = pm_V d 5 1 [l0, .int xi] (.int xi :: st) S Q := pv_iload_n (pm_cdi rfl dX0_items_0) rfl
theorem q5_1 : pm_V d 5 1 [l0, l1] (.int xi :: st) S Q = if xi = 0 then pm_V d 5 4 [l0, l1] st S Q else pm_V d 5 11 [l0, l1] st S Q := pv_if_ne (pm_cdi rfl dX0_items_1) rfl
theorem q5_4 : pm_V d 5 4 [.ref xn, l1] st S Q = pm_V d 5 5 [.ref xn, l1] (.ref xn :: st) S Q := pv_aload_n (pm_cdi rfl dX0_items_4) rfl
theorem q5_5 (hs : pm_sh S an = .inr 0) : pm_V d 5 5 [l0, l1] (.ref an :: st) S Q = pm_V d 5 8 [l0, l1] (va_rf (pm_gr S an 0) :: st) S Q := pv_getA (pm_cdi rfl dX0_items_5) (by decide +kernel) (by decide +kernel) (by decide +kernel) hs
theorem q5_8 : pm_V d 5 8 [l0, l1] st S Q = pm_V d 5 15 [l0, l1] st S Q := pv_goto (pm_cdi rfl dX0_items_8) rfl
theorem q5_11 : pm_V d 5 11 [.ref xn, l1] st S Q = pm_V d 5 12 [.ref xn, l1] (.ref xn :: st) S Q := pv_aload_n (pm_cdi rfl dX0_items_11) rfl
theorem q5_12 (hs : pm_sh S an = .inr 0) : pm_V d 5 12 [l0, l1] (.ref an :: st) S Q = pm_V d 5 15 [l0, l1] (va_rf (pm_gr S an 1) :: st) S Q := pv_getA (pm_cdi rfl dX0_items_12) (by decide +kernel) (by decide +kernel) (by decide +kernel) hs
theorem q5_15 : pm_V d 5 15 [l0, l1] [.ref xn] S Q = Q (some (.ref xn)) S := pv_rA (pm_cdi rfl dX0_items_15) rfl
theorem q5_15N : pm_V d 5 15 [l0, l1] [.null] S Q = Q (some .null) S := pv_rN (pm_cdi rfl dX0_items_15) rfl
theorem q5_e : pm_N d 5 [.ref an, .int v0i] S Q = pm_V d 5 0 [.ref an, .int v0i] [] S Q := pv_ent (Nat.le_of_ble_eq_true rfl) rfl
/-! 6: ViewsJoins$Graph.addNode(JII)V -/
theorem dX0_addNode_0 : decode cX0_addNode 0 = .ok (.aload_n 0, 1) := by decide +kernel
theorem dX0_addNode_1 : decode cX0_addNode 1 = .ok (.getfield 14, 3) := by decide +kernel
theorem dX0_addNode_4 : decode cX0_addNode 4 = .ok (.lload_n 1, 1) := by decide +kernel
theorem dX0_addNode_5 : decode cX0_addNode 5 = .ok (.iload_n 3, 1) := by decide +kernel
theorem dX0_addNode_6 : decode cX0_addNode 6 = .ok (.iload 4, 2) := by decide +kernel
theorem dX0_addNode_8 : decode cX0_addNode 8 = .ok (.invokevirtual 74, 3) := by decide +kernel
theorem dX0_addNode_11 : decode cX0_addNode 11 = .ok (.ifCond .ne 8, 3) := by decide +kernel
theorem dX0_addNode_14 : decode cX0_addNode 14 = .ok (.aload_n 0, 1) := by decide +kernel
theorem dX0_addNode_15 : decode cX0_addNode 15 = .ok (.iconst 4, 1) := by decide +kernel
theorem dX0_addNode_16 : decode cX0_addNode 16 = .ok (.putfield 37, 3) := by decide +kernel
theorem dX0_addNode_19 : decode cX0_addNode 19 = .ok (.return_, 1) := by decide +kernel
theorem q6_0 : pm_V d 6 0 [.ref xn, l1, l2, l3, l4] st S Q = pm_V d 6 1 [.ref xn, l1, l2, l3, l4] (.ref xn :: st) S Q := pv_aload_n (pm_cdi rfl dX0_addNode_0) rfl
theorem q6_1 (hs : pm_sh S an = .inr 0) : pm_V d 6 1 [l0, l1, l2, l3, l4] (.ref an :: st) S Q = pm_V d 6 4 [l0, l1, l2, l3, l4] (va_rf (pm_gr S an 0) :: st) S Q := pv_getA (pm_cdi rfl dX0_addNode_1) (by decide +kernel) (by decide +kernel) (by decide +kernel) hs
theorem q6_4 : pm_V d 6 4 [l0, .long xj, l2, l3, l4] st S Q = pm_V d 6 5 [l0, .long xj, l2, l3, l4] (.long xj :: st) S Q := pv_lload_n (pm_cdi rfl dX0_addNode_4) rfl
theorem q6_5 : pm_V d 6 5 [l0, l1, l2, .int xi, l4] st S Q = pm_V d 6 6 [l0, l1, l2, .int xi, l4] (.int xi :: st) S Q := pv_iload_n (pm_cdi rfl dX0_addNode_5) rfl
theorem q6_6 : pm_V d 6 6 [l0, l1, l2, l3, .int xi] st S Q = pm_V d 6 8 [l0, l1, l2, l3, .int xi] (.int xi :: st) S Q := pv_iload (pm_cdi rfl dX0_addNode_6) rfl
theorem q6_8 (hs : pm_sh S an = .inr 3) : pm_V (d + 1) 6 8 [l0, l1, l2, l3, l4] [.int v2i, .int v1i, .long v0j, .ref an] S Q = pm_N d 21 [.ref an, .long v0j, .int v1i, .int v2i] S (fun r S' => pm_V (d + 1) 6 11 [l0, l1, l2, l3, l4] (r.toList ++ []) S' Q) := pv_callV (as := [.long v0j, .int v1i, .int v2i]) (pm_cdi rfl dX0_addNode_8) (Or.inl (by decide +kernel)) (by decide +kernel) (show _ = _ from (by decide +kernel : 3 = pm_np 21)) rfl (Nat.le_of_ble_eq_true rfl) (cl := 3) (by decide +kernel) hs
theorem q6_11 : pm_V d 6 11 [l0, l1, l2, l3, l4] (.int xi :: st) S Q = if xi = 0 then pm_V d 6 14 [l0, l1, l2, l3, l4] st S Q else pm_V d 6 19 [l0, l1, l2, l3, l4] st S Q := pv_if_ne (pm_cdi rfl dX0_addNode_11) rfl
theorem q6_14 : pm_V d 6 14 [.ref xn, l1, l2, l3, l4] st S Q = pm_V d 6 15 [.ref xn, l1, l2, l3, l4] (.ref xn :: st) S Q := pv_aload_n (pm_cdi rfl dX0_addNode_14) rfl
theorem q6_15 : pm_V d 6 15 [l0, l1, l2, l3, l4] st S Q = pm_V d 6 16 [l0, l1, l2, l3, l4] (.int 4 :: st) S Q := pv_iconst (pm_cdi rfl dX0_addNode_15) (by decide +kernel)
theorem q6_16 (hs : pm_sh S an = .inr 0) : pm_V d 6 16 [l0, l1, l2, l3, l4] (.int xi :: .ref an :: st) S Q = pm_V d 6 19 [l0, l1, l2, l3, l4] st (pm_sgi S an 5 xi) Q := pv_putI (pm_cdi rfl dX0_addNode_16) (by decide +kernel) (by decide +kernel) (by decide +kernel) hs
theorem q6_19 : pm_V d 6 19 [l0, l1, l2, l3, l4] [] S Q = Q none S := pv_rV (pm_cdi rfl dX0_addNode_19) (by decide +kernel)
theorem q6_e : pm_N d 6 [.ref an, .long v0j, .int v1i, .int v2i] S Q = pm_V d 6 0 [.ref an, .long v0j, pm_j, .int v1i, .int v2i] [] S Q := pv_ent (Nat.le_of_ble_eq_true rfl) rfl
/-! 7: ViewsJoins$Graph.addArc(IIJII)V -/
theorem dX0_addArc_0 : decode cX0_addArc 0 = .ok (.aload_n 0, 1) := by decide +kernel
theorem dX0_addArc_1 : decode cX0_addArc 1 = .ok (.getfield 20, 3) := by decide +kernel
theorem dX0_addArc_4 : decode cX0_addArc 4 = .ok (.getfield 70, 3) := by decide +kernel
theorem dX0_addArc_7 : decode cX0_addArc 7 = .ok (.istore 7, 2) := by decide +kernel
theorem dX0_addArc_9 : decode cX0_addArc 9 = .ok (.aload_n 0, 1) := by decide +kernel
theorem dX0_addArc_10 : decode cX0_addArc 10 = .ok (.getfield 20, 3) := by decide +kernel
theorem dX0_addArc_13 : decode cX0_addArc 13 = .ok (.lload_n 3, 1) := by decide +kernel
theorem dX0_addArc_14 : decode cX0_addArc 14 = .ok (.iload 5, 2) := by decide +kernel
theorem dX0_addArc_16 : decode cX0_addArc 16 = .ok (.iload 6, 2) := by decide +kernel
theorem dX0_addArc_18 : decode cX0_addArc 18 = .ok (.invokevirtual 74, 3) := by decide +kernel
theorem dX0_addArc_21 : decode cX0_addArc 21 = .ok (.ifCond .ne 9, 3) := by decide +kernel
theorem dX0_addArc_24 : decode cX0_addArc 24 = .ok (.aload_n 0, 1) := by decide +kernel
theorem dX0_addArc_25 : decode cX0_addArc 25 = .ok (.iconst 4, 1) := by decide +kernel
theorem dX0_addArc_26 : decode cX0_addArc 26 = .ok (.putfield 37, 3) := by decide +kernel
theorem dX0_addArc_29 : decode cX0_addArc 29 = .ok (.return_, 1) := by decide +kernel
theorem dX0_addArc_30 : decode cX0_addArc 30 = .ok (.aload_n 0, 1) := by decide +kernel
theorem dX0_addArc_31 : decode cX0_addArc 31 = .ok (.getfield 23, 3) := by decide +kernel
theorem dX0_addArc_34 : decode cX0_addArc 34 = .ok (.iload 7, 2) := by decide +kernel
theorem dX0_addArc_36 : decode cX0_addArc 36 = .ok (.iload_n 1, 1) := by decide +kernel
theorem dX0_addArc_37 : decode cX0_addArc 37 = .ok (.iastore, 1) := by decide +kernel
theorem dX0_addArc_38 : decode cX0_addArc 38 = .ok (.aload_n 0, 1) := by decide +kernel
theorem dX0_addArc_39 : decode cX0_addArc 39 = .ok (.getfield 27, 3) := by decide +kernel
theorem dX0_addArc_42 : decode cX0_addArc 42 = .ok (.iload 7, 2) := by decide +kernel
theorem dX0_addArc_44 : decode cX0_addArc 44 = .ok (.iload_n 2, 1) := by decide +kernel
theorem dX0_addArc_45 : decode cX0_addArc 45 = .ok (.iastore, 1) := by decide +kernel
theorem dX0_addArc_46 : decode cX0_addArc 46 = .ok (.return_, 1) := by decide +kernel
theorem q7_0 : pm_V d 7 0 [.ref xn, l1, l2, l3, l4, l5, l6, l7] st S Q = pm_V d 7 1 [.ref xn, l1, l2, l3, l4, l5, l6, l7] (.ref xn :: st) S Q := pv_aload_n (pm_cdi rfl dX0_addArc_0) rfl
theorem q7_1 (hs : pm_sh S an = .inr 0) : pm_V d 7 1 [l0, l1, l2, l3, l4, l5, l6, l7] (.ref an :: st) S Q = pm_V d 7 4 [l0, l1, l2, l3, l4, l5, l6, l7] (va_rf (pm_gr S an 1) :: st) S Q := pv_getA (pm_cdi rfl dX0_addArc_1) (by decide +kernel) (by decide +kernel) (by decide +kernel) hs
theorem q7_4 (hs : pm_sh S an = .inr 3) : pm_V d 7 4 [l0, l1, l2, l3, l4, l5, l6, l7] (.ref an :: st) S Q = pm_V d 7 7 [l0, l1, l2, l3, l4, l5, l6, l7] (.int (pm_gi S an 3) :: st) S Q := pv_getI (pm_cdi rfl dX0_addArc_4) (by decide +kernel) (by decide +kernel) (by decide +kernel) hs
theorem q7_7 : pm_V d 7 7 [l0, l1, l2, l3, l4, l5, .int yi, l7] (.int xi :: st) S Q = pm_V d 7 9 [l0, l1, l2, l3, l4, l5, .int yi, .int xi] st S Q := pv_istore (pm_cdi rfl dX0_addArc_7) rfl
theorem q7_9 : pm_V d 7 9 [.ref xn, l1, l2, l3, l4, l5, l6, l7] st S Q = pm_V d 7 10 [.ref xn, l1, l2, l3, l4, l5, l6, l7] (.ref xn :: st) S Q := pv_aload_n (pm_cdi rfl dX0_addArc_9) rfl
theorem q7_10 (hs : pm_sh S an = .inr 0) : pm_V d 7 10 [l0, l1, l2, l3, l4, l5, l6, l7] (.ref an :: st) S Q = pm_V d 7 13 [l0, l1, l2, l3, l4, l5, l6, l7] (va_rf (pm_gr S an 1) :: st) S Q := pv_getA (pm_cdi rfl dX0_addArc_10) (by decide +kernel) (by decide +kernel) (by decide +kernel) hs
theorem q7_13 : pm_V d 7 13 [l0, l1, l2, .long xj, l4, l5, l6, l7] st S Q = pm_V d 7 14 [l0, l1, l2, .long xj, l4, l5, l6, l7] (.long xj :: st) S Q := pv_lload_n (pm_cdi rfl dX0_addArc_13) rfl
theorem q7_14 : pm_V d 7 14 [l0, l1, l2, l3, l4, .int xi, l6, l7] st S Q = pm_V d 7 16 [l0, l1, l2, l3, l4, .int xi, l6, l7] (.int xi :: st) S Q := pv_iload (pm_cdi rfl dX0_addArc_14) rfl
theorem q7_16 : pm_V d 7 16 [l0, l1, l2, l3, l4, l5, .int xi, l7] st S Q = pm_V d 7 18 [l0, l1, l2, l3, l4, l5, .int xi, l7] (.int xi :: st) S Q := pv_iload (pm_cdi rfl dX0_addArc_16) rfl
theorem q7_18 (hs : pm_sh S an = .inr 3) : pm_V (d + 1) 7 18 [l0, l1, l2, l3, l4, l5, l6, l7] [.int v2i, .int v1i, .long v0j, .ref an] S Q = pm_N d 21 [.ref an, .long v0j, .int v1i, .int v2i] S (fun r S' => pm_V (d + 1) 7 21 [l0, l1, l2, l3, l4, l5, l6, l7] (r.toList ++ []) S' Q) := pv_callV (as := [.long v0j, .int v1i, .int v2i]) (pm_cdi rfl dX0_addArc_18) (Or.inl (by decide +kernel)) (by decide +kernel) (show _ = _ from (by decide +kernel : 3 = pm_np 21)) rfl (Nat.le_of_ble_eq_true rfl) (cl := 3) (by decide +kernel) hs
theorem q7_21 : pm_V d 7 21 [l0, l1, l2, l3, l4, l5, l6, l7] (.int xi :: st) S Q = if xi = 0 then pm_V d 7 24 [l0, l1, l2, l3, l4, l5, l6, l7] st S Q else pm_V d 7 30 [l0, l1, l2, l3, l4, l5, l6, l7] st S Q := pv_if_ne (pm_cdi rfl dX0_addArc_21) rfl
theorem q7_24 : pm_V d 7 24 [.ref xn, l1, l2, l3, l4, l5, l6, l7] st S Q = pm_V d 7 25 [.ref xn, l1, l2, l3, l4, l5, l6, l7] (.ref xn :: st) S Q := pv_aload_n (pm_cdi rfl dX0_addArc_24) rfl
theorem q7_25 : pm_V d 7 25 [l0, l1, l2, l3, l4, l5, l6, l7] st S Q = pm_V d 7 26 [l0, l1, l2, l3, l4, l5, l6, l7] (.int 4 :: st) S Q := pv_iconst (pm_cdi rfl dX0_addArc_25) (by decide +kernel)
theorem q7_26 (hs : pm_sh S an = .inr 0) : pm_V d 7 26 [l0, l1, l2, l3, l4, l5, l6, l7] (.int xi :: .ref an :: st) S Q = pm_V d 7 29 [l0, l1, l2, l3, l4, l5, l6, l7] st (pm_sgi S an 5 xi) Q := pv_putI (pm_cdi rfl dX0_addArc_26) (by decide +kernel) (by decide +kernel) (by decide +kernel) hs
theorem q7_29 : pm_V d 7 29 [l0, l1, l2, l3, l4, l5, l6, l7] [] S Q = Q none S := pv_rV (pm_cdi rfl dX0_addArc_29) (by decide +kernel)
theorem q7_30 : pm_V d 7 30 [.ref xn, l1, l2, l3, l4, l5, l6, l7] st S Q = pm_V d 7 31 [.ref xn, l1, l2, l3, l4, l5, l6, l7] (.ref xn :: st) S Q := pv_aload_n (pm_cdi rfl dX0_addArc_30) rfl
theorem q7_31 (hs : pm_sh S an = .inr 0) : pm_V d 7 31 [l0, l1, l2, l3, l4, l5, l6, l7] (.ref an :: st) S Q = pm_V d 7 34 [l0, l1, l2, l3, l4, l5, l6, l7] (va_rf (pm_gr S an 2) :: st) S Q := pv_getA (pm_cdi rfl dX0_addArc_31) (by decide +kernel) (by decide +kernel) (by decide +kernel) hs
theorem q7_34 : pm_V d 7 34 [l0, l1, l2, l3, l4, l5, l6, .int xi] st S Q = pm_V d 7 36 [l0, l1, l2, l3, l4, l5, l6, .int xi] (.int xi :: st) S Q := pv_iload (pm_cdi rfl dX0_addArc_34) rfl
theorem q7_36 : pm_V d 7 36 [l0, .int xi, l2, l3, l4, l5, l6, l7] st S Q = pm_V d 7 37 [l0, .int xi, l2, l3, l4, l5, l6, l7] (.int xi :: st) S Q := pv_iload_n (pm_cdi rfl dX0_addArc_36) rfl
theorem q7_37 (hs : pm_ar S an 0 xi = true) : pm_V d 7 37 [l0, l1, l2, l3, l4, l5, l6, l7] (.int vi :: .int xi :: .ref an :: st) S Q = pm_V d 7 38 [l0, l1, l2, l3, l4, l5, l6, l7] st (pm_szi S an xi.toNatClampNeg vi) Q := pv_iast (pm_cdi rfl dX0_addArc_37) hs
theorem q7_38 : pm_V d 7 38 [.ref xn, l1, l2, l3, l4, l5, l6, l7] st S Q = pm_V d 7 39 [.ref xn, l1, l2, l3, l4, l5, l6, l7] (.ref xn :: st) S Q := pv_aload_n (pm_cdi rfl dX0_addArc_38) rfl
theorem q7_39 (hs : pm_sh S an = .inr 0) : pm_V d 7 39 [l0, l1, l2, l3, l4, l5, l6, l7] (.ref an :: st) S Q = pm_V d 7 42 [l0, l1, l2, l3, l4, l5, l6, l7] (va_rf (pm_gr S an 3) :: st) S Q := pv_getA (pm_cdi rfl dX0_addArc_39) (by decide +kernel) (by decide +kernel) (by decide +kernel) hs
theorem q7_42 : pm_V d 7 42 [l0, l1, l2, l3, l4, l5, l6, .int xi] st S Q = pm_V d 7 44 [l0, l1, l2, l3, l4, l5, l6, .int xi] (.int xi :: st) S Q := pv_iload (pm_cdi rfl dX0_addArc_42) rfl
theorem q7_44 : pm_V d 7 44 [l0, l1, .int xi, l3, l4, l5, l6, l7] st S Q = pm_V d 7 45 [l0, l1, .int xi, l3, l4, l5, l6, l7] (.int xi :: st) S Q := pv_iload_n (pm_cdi rfl dX0_addArc_44) rfl
theorem q7_45 (hs : pm_ar S an 0 xi = true) : pm_V d 7 45 [l0, l1, l2, l3, l4, l5, l6, l7] (.int vi :: .int xi :: .ref an :: st) S Q = pm_V d 7 46 [l0, l1, l2, l3, l4, l5, l6, l7] st (pm_szi S an xi.toNatClampNeg vi) Q := pv_iast (pm_cdi rfl dX0_addArc_45) hs
theorem q7_46 : pm_V d 7 46 [l0, l1, l2, l3, l4, l5, l6, l7] [] S Q = Q none S := pv_rV (pm_cdi rfl dX0_addArc_46) (by decide +kernel)
theorem q7_e : pm_N d 7 [.ref an, .int v0i, .int v1i, .long v2j, .int v3i, .int v4i] S Q = pm_V d 7 0 [.ref an, .int v0i, .int v1i, .long v2j, pm_j, .int v3i, .int v4i, pm_j] [] S Q := pv_ent (Nat.le_of_ble_eq_true rfl) rfl
/-! 8: ViewsJoins$Graph.countFrom(I)I -/
theorem dX0_countFrom_0 : decode cX0_countFrom 0 = .ok (.iconst 0, 1) := by decide +kernel
theorem dX0_countFrom_1 : decode cX0_countFrom 1 = .ok (.istore_n 2, 1) := by decide +kernel
theorem dX0_countFrom_2 : decode cX0_countFrom 2 = .ok (.iconst 0, 1) := by decide +kernel
theorem dX0_countFrom_3 : decode cX0_countFrom 3 = .ok (.istore_n 3, 1) := by decide +kernel
theorem dX0_countFrom_4 : decode cX0_countFrom 4 = .ok (.iload_n 3, 1) := by decide +kernel
theorem dX0_countFrom_5 : decode cX0_countFrom 5 = .ok (.aload_n 0, 1) := by decide +kernel
theorem dX0_countFrom_6 : decode cX0_countFrom 6 = .ok (.getfield 20, 3) := by decide +kernel
theorem dX0_countFrom_9 : decode cX0_countFrom 9 = .ok (.getfield 70, 3) := by decide +kernel
theorem dX0_countFrom_12 : decode cX0_countFrom 12 = .ok (.if_icmp .ge 22, 3) := by decide +kernel
theorem dX0_countFrom_15 : decode cX0_countFrom 15 = .ok (.aload_n 0, 1) := by decide +kernel
theorem dX0_countFrom_16 : decode cX0_countFrom 16 = .ok (.getfield 23, 3) := by decide +kernel
theorem dX0_countFrom_19 : decode cX0_countFrom 19 = .ok (.iload_n 3, 1) := by decide +kernel
theorem dX0_countFrom_20 : decode cX0_countFrom 20 = .ok (.iaload, 1) := by decide +kernel
theorem dX0_countFrom_21 : decode cX0_countFrom 21 = .ok (.iload_n 1, 1) := by decide +kernel
theorem dX0_countFrom_22 : decode cX0_countFrom 22 = .ok (.if_icmp .ne 6, 3) := by decide +kernel
theorem dX0_countFrom_25 : decode cX0_countFrom 25 = .ok (.iinc 2 1, 3) := by decide +kernel
theorem dX0_countFrom_28 : decode cX0_countFrom 28 = .ok (.iinc 3 1, 3) := by decide +kernel
theorem dX0_countFrom_31 : decode cX0_countFrom 31 = .ok (.goto (-27), 3) := by decide +kernel
theorem dX0_countFrom_34 : decode cX0_countFrom 34 = .ok (.iload_n 2, 1) := by decide +kernel
theorem dX0_countFrom_35 : decode cX0_countFrom 35 = .ok (.ireturn, 1) := by decide +kernel
theorem q8_0 : pm_V d 8 0 [l0, l1, l2, l3] st S Q = pm_V d 8 1 [l0, l1, l2, l3] (.int 0 :: st) S Q := pv_iconst (pm_cdi rfl dX0_countFrom_0) (by decide +kernel)
theorem q8_1 : pm_V d 8 1 [l0, .int yi, l2, l3] (.int xi :: st) S Q = pm_V d 8 2 [l0, .int yi, .int xi, l3] st S Q := pv_istore_n (pm_cdi rfl dX0_countFrom_1) rfl
theorem q8_2 : pm_V d 8 2 [l0, l1, l2, l3] st S Q = pm_V d 8 3 [l0, l1, l2, l3] (.int 0 :: st) S Q := pv_iconst (pm_cdi rfl dX0_countFrom_2) (by decide +kernel)
theorem q8_3 : pm_V d 8 3 [l0, l1, .int yi, l3] (.int xi :: st) S Q = pm_V d 8 4 [l0, l1, .int yi, .int xi] st S Q := pv_istore_n (pm_cdi rfl dX0_countFrom_3) rfl
theorem q8_4 : pm_V d 8 4 [l0, l1, l2, .int xi] st S Q = pm_V d 8 5 [l0, l1, l2, .int xi] (.int xi :: st) S Q := pv_iload_n (pm_cdi rfl dX0_countFrom_4) rfl
theorem q8_5 : pm_V d 8 5 [.ref xn, l1, l2, l3] st S Q = pm_V d 8 6 [.ref xn, l1, l2, l3] (.ref xn :: st) S Q := pv_aload_n (pm_cdi rfl dX0_countFrom_5) rfl
theorem q8_6 (hs : pm_sh S an = .inr 0) : pm_V d 8 6 [l0, l1, l2, l3] (.ref an :: st) S Q = pm_V d 8 9 [l0, l1, l2, l3] (va_rf (pm_gr S an 1) :: st) S Q := pv_getA (pm_cdi rfl dX0_countFrom_6) (by decide +kernel) (by decide +kernel) (by decide +kernel) hs
theorem q8_9 (hs : pm_sh S an = .inr 3) : pm_V d 8 9 [l0, l1, l2, l3] (.ref an :: st) S Q = pm_V d 8 12 [l0, l1, l2, l3] (.int (pm_gi S an 3) :: st) S Q := pv_getI (pm_cdi rfl dX0_countFrom_9) (by decide +kernel) (by decide +kernel) (by decide +kernel) hs
theorem q8_12 : pm_V d 8 12 [l0, l1, l2, l3] (.int yi :: .int xi :: st) S Q = if xi < yi then pm_V d 8 15 [l0, l1, l2, l3] st S Q else pm_V d 8 34 [l0, l1, l2, l3] st S Q := pv_icmp_ge (pm_cdi rfl dX0_countFrom_12) rfl
theorem q8_15 : pm_V d 8 15 [.ref xn, l1, l2, l3] st S Q = pm_V d 8 16 [.ref xn, l1, l2, l3] (.ref xn :: st) S Q := pv_aload_n (pm_cdi rfl dX0_countFrom_15) rfl
theorem q8_16 (hs : pm_sh S an = .inr 0) : pm_V d 8 16 [l0, l1, l2, l3] (.ref an :: st) S Q = pm_V d 8 19 [l0, l1, l2, l3] (va_rf (pm_gr S an 2) :: st) S Q := pv_getA (pm_cdi rfl dX0_countFrom_16) (by decide +kernel) (by decide +kernel) (by decide +kernel) hs
theorem q8_19 : pm_V d 8 19 [l0, l1, l2, .int xi] st S Q = pm_V d 8 20 [l0, l1, l2, .int xi] (.int xi :: st) S Q := pv_iload_n (pm_cdi rfl dX0_countFrom_19) rfl
theorem q8_20 (hs : pm_ar S an 0 xi = true) : pm_V d 8 20 [l0, l1, l2, l3] (.int xi :: .ref an :: st) S Q = pm_V d 8 21 [l0, l1, l2, l3] (.int (pm_zi S an xi.toNatClampNeg) :: st) S Q := pv_iald (pm_cdi rfl dX0_countFrom_20) hs
theorem q8_21 : pm_V d 8 21 [l0, .int xi, l2, l3] st S Q = pm_V d 8 22 [l0, .int xi, l2, l3] (.int xi :: st) S Q := pv_iload_n (pm_cdi rfl dX0_countFrom_21) rfl
theorem q8_22 : pm_V d 8 22 [l0, l1, l2, l3] (.int yi :: .int xi :: st) S Q = if xi = yi then pm_V d 8 25 [l0, l1, l2, l3] st S Q else pm_V d 8 28 [l0, l1, l2, l3] st S Q := pv_icmp_ne (pm_cdi rfl dX0_countFrom_22) rfl
theorem q8_25 : pm_V d 8 25 [l0, .int yi, .int xi, l3] st S Q = pm_V d 8 28 [l0, .int yi, .int (xi + 1), l3] st S Q := pv_iinc (pm_cdi rfl dX0_countFrom_25) rfl (by decide +kernel) rfl
theorem q8_28 : pm_V d 8 28 [l0, l1, .int yi, .int xi] st S Q = pm_V d 8 31 [l0, l1, .int yi, .int (xi + 1)] st S Q := pv_iinc (pm_cdi rfl dX0_countFrom_28) rfl (by decide +kernel) rfl
theorem q8_31 : pm_V d 8 31 [l0, l1, l2, l3] st S Q = pm_V d 8 4 [l0, l1, l2, l3] st S Q := pv_goto (pm_cdi rfl dX0_countFrom_31) rfl
theorem q8_34 : pm_V d 8 34 [l0, l1, .int xi, l3] st S Q = pm_V d 8 35 [l0, l1, .int xi, l3] (.int xi :: st) S Q := pv_iload_n (pm_cdi rfl dX0_countFrom_34) rfl
theorem q8_35 : pm_V d 8 35 [l0, l1, l2, l3] [.int xi] S Q = Q (some (.int xi)) S := pv_rI (pm_cdi rfl dX0_countFrom_35) (by decide +kernel)
theorem q8_e : pm_N d 8 [.ref an, .int v0i] S Q = pm_V d 8 0 [.ref an, .int v0i, pm_j, pm_j] [] S Q := pv_ent (Nat.le_of_ble_eq_true rfl) rfl
/-! 9: ViewsJoins$Graph.countBeside(I)I -/
theorem dX0_countBeside_0 : decode cX0_countBeside 0 = .ok (.iconst 0, 1) := by decide +kernel
theorem dX0_countBeside_1 : decode cX0_countBeside 1 = .ok (.istore_n 2, 1) := by decide +kernel
theorem dX0_countBeside_2 : decode cX0_countBeside 2 = .ok (.iconst 0, 1) := by decide +kernel
theorem dX0_countBeside_3 : decode cX0_countBeside 3 = .ok (.istore_n 3, 1) := by decide +kernel
theorem dX0_countBeside_4 : decode cX0_countBeside 4 = .ok (.iload_n 3, 1) := by decide +kernel
theorem dX0_countBeside_5 : decode cX0_countBeside 5 = .ok (.aload_n 0, 1) := by decide +kernel
theorem dX0_countBeside_6 : decode cX0_countBeside 6 = .ok (.getfield 20, 3) := by decide +kernel
theorem dX0_countBeside_9 : decode cX0_countBeside 9 = .ok (.getfield 70, 3) := by decide +kernel
theorem dX0_countBeside_12 : decode cX0_countBeside 12 = .ok (.if_icmp .ge 42, 3) := by decide +kernel
theorem dX0_countBeside_15 : decode cX0_countBeside 15 = .ok (.aload_n 0, 1) := by decide +kernel
theorem dX0_countBeside_16 : decode cX0_countBeside 16 = .ok (.getfield 23, 3) := by decide +kernel
theorem dX0_countBeside_19 : decode cX0_countBeside 19 = .ok (.iload_n 3, 1) := by decide +kernel
theorem dX0_countBeside_20 : decode cX0_countBeside 20 = .ok (.iaload, 1) := by decide +kernel
theorem dX0_countBeside_21 : decode cX0_countBeside 21 = .ok (.aload_n 0, 1) := by decide +kernel
theorem dX0_countBeside_22 : decode cX0_countBeside 22 = .ok (.getfield 23, 3) := by decide +kernel
theorem dX0_countBeside_25 : decode cX0_countBeside 25 = .ok (.iload_n 1, 1) := by decide +kernel
theorem dX0_countBeside_26 : decode cX0_countBeside 26 = .ok (.iaload, 1) := by decide +kernel
theorem dX0_countBeside_27 : decode cX0_countBeside 27 = .ok (.if_icmp .ne 21, 3) := by decide +kernel
theorem dX0_countBeside_30 : decode cX0_countBeside 30 = .ok (.aload_n 0, 1) := by decide +kernel
theorem dX0_countBeside_31 : decode cX0_countBeside 31 = .ok (.getfield 27, 3) := by decide +kernel
theorem dX0_countBeside_34 : decode cX0_countBeside 34 = .ok (.iload_n 3, 1) := by decide +kernel
theorem dX0_countBeside_35 : decode cX0_countBeside 35 = .ok (.iaload, 1) := by decide +kernel
theorem dX0_countBeside_36 : decode cX0_countBeside 36 = .ok (.aload_n 0, 1) := by decide +kernel
theorem dX0_countBeside_37 : decode cX0_countBeside 37 = .ok (.getfield 27, 3) := by decide +kernel
theorem dX0_countBeside_40 : decode cX0_countBeside 40 = .ok (.iload_n 1, 1) := by decide +kernel
theorem dX0_countBeside_41 : decode cX0_countBeside 41 = .ok (.iaload, 1) := by decide +kernel
theorem dX0_countBeside_42 : decode cX0_countBeside 42 = .ok (.if_icmp .ne 6, 3) := by decide +kernel
theorem dX0_countBeside_45 : decode cX0_countBeside 45 = .ok (.iinc 2 1, 3) := by decide +kernel
theorem dX0_countBeside_48 : decode cX0_countBeside 48 = .ok (.iinc 3 1, 3) := by decide +kernel
theorem dX0_countBeside_51 : decode cX0_countBeside 51 = .ok (.goto (-47), 3) := by decide +kernel
theorem dX0_countBeside_54 : decode cX0_countBeside 54 = .ok (.iload_n 2, 1) := by decide +kernel
theorem dX0_countBeside_55 : decode cX0_countBeside 55 = .ok (.ireturn, 1) := by decide +kernel
theorem q9_0 : pm_V d 9 0 [l0, l1, l2, l3] st S Q = pm_V d 9 1 [l0, l1, l2, l3] (.int 0 :: st) S Q := pv_iconst (pm_cdi rfl dX0_countBeside_0) (by decide +kernel)
theorem q9_1 : pm_V d 9 1 [l0, .int yi, l2, l3] (.int xi :: st) S Q = pm_V d 9 2 [l0, .int yi, .int xi, l3] st S Q := pv_istore_n (pm_cdi rfl dX0_countBeside_1) rfl
theorem q9_2 : pm_V d 9 2 [l0, l1, l2, l3] st S Q = pm_V d 9 3 [l0, l1, l2, l3] (.int 0 :: st) S Q := pv_iconst (pm_cdi rfl dX0_countBeside_2) (by decide +kernel)
theorem q9_3 : pm_V d 9 3 [l0, l1, .int yi, l3] (.int xi :: st) S Q = pm_V d 9 4 [l0, l1, .int yi, .int xi] st S Q := pv_istore_n (pm_cdi rfl dX0_countBeside_3) rfl
theorem q9_4 : pm_V d 9 4 [l0, l1, l2, .int xi] st S Q = pm_V d 9 5 [l0, l1, l2, .int xi] (.int xi :: st) S Q := pv_iload_n (pm_cdi rfl dX0_countBeside_4) rfl
theorem q9_5 : pm_V d 9 5 [.ref xn, l1, l2, l3] st S Q = pm_V d 9 6 [.ref xn, l1, l2, l3] (.ref xn :: st) S Q := pv_aload_n (pm_cdi rfl dX0_countBeside_5) rfl
theorem q9_6 (hs : pm_sh S an = .inr 0) : pm_V d 9 6 [l0, l1, l2, l3] (.ref an :: st) S Q = pm_V d 9 9 [l0, l1, l2, l3] (va_rf (pm_gr S an 1) :: st) S Q := pv_getA (pm_cdi rfl dX0_countBeside_6) (by decide +kernel) (by decide +kernel) (by decide +kernel) hs
theorem q9_9 (hs : pm_sh S an = .inr 3) : pm_V d 9 9 [l0, l1, l2, l3] (.ref an :: st) S Q = pm_V d 9 12 [l0, l1, l2, l3] (.int (pm_gi S an 3) :: st) S Q := pv_getI (pm_cdi rfl dX0_countBeside_9) (by decide +kernel) (by decide +kernel) (by decide +kernel) hs
theorem q9_12 : pm_V d 9 12 [l0, l1, l2, l3] (.int yi :: .int xi :: st) S Q = if xi < yi then pm_V d 9 15 [l0, l1, l2, l3] st S Q else pm_V d 9 54 [l0, l1, l2, l3] st S Q := pv_icmp_ge (pm_cdi rfl dX0_countBeside_12) rfl
theorem q9_15 : pm_V d 9 15 [.ref xn, l1, l2, l3] st S Q = pm_V d 9 16 [.ref xn, l1, l2, l3] (.ref xn :: st) S Q := pv_aload_n (pm_cdi rfl dX0_countBeside_15) rfl
theorem q9_16 (hs : pm_sh S an = .inr 0) : pm_V d 9 16 [l0, l1, l2, l3] (.ref an :: st) S Q = pm_V d 9 19 [l0, l1, l2, l3] (va_rf (pm_gr S an 2) :: st) S Q := pv_getA (pm_cdi rfl dX0_countBeside_16) (by decide +kernel) (by decide +kernel) (by decide +kernel) hs
theorem q9_19 : pm_V d 9 19 [l0, l1, l2, .int xi] st S Q = pm_V d 9 20 [l0, l1, l2, .int xi] (.int xi :: st) S Q := pv_iload_n (pm_cdi rfl dX0_countBeside_19) rfl
theorem q9_20 (hs : pm_ar S an 0 xi = true) : pm_V d 9 20 [l0, l1, l2, l3] (.int xi :: .ref an :: st) S Q = pm_V d 9 21 [l0, l1, l2, l3] (.int (pm_zi S an xi.toNatClampNeg) :: st) S Q := pv_iald (pm_cdi rfl dX0_countBeside_20) hs
theorem q9_21 : pm_V d 9 21 [.ref xn, l1, l2, l3] st S Q = pm_V d 9 22 [.ref xn, l1, l2, l3] (.ref xn :: st) S Q := pv_aload_n (pm_cdi rfl dX0_countBeside_21) rfl
theorem q9_22 (hs : pm_sh S an = .inr 0) : pm_V d 9 22 [l0, l1, l2, l3] (.ref an :: st) S Q = pm_V d 9 25 [l0, l1, l2, l3] (va_rf (pm_gr S an 2) :: st) S Q := pv_getA (pm_cdi rfl dX0_countBeside_22) (by decide +kernel) (by decide +kernel) (by decide +kernel) hs
theorem q9_25 : pm_V d 9 25 [l0, .int xi, l2, l3] st S Q = pm_V d 9 26 [l0, .int xi, l2, l3] (.int xi :: st) S Q := pv_iload_n (pm_cdi rfl dX0_countBeside_25) rfl
theorem q9_26 (hs : pm_ar S an 0 xi = true) : pm_V d 9 26 [l0, l1, l2, l3] (.int xi :: .ref an :: st) S Q = pm_V d 9 27 [l0, l1, l2, l3] (.int (pm_zi S an xi.toNatClampNeg) :: st) S Q := pv_iald (pm_cdi rfl dX0_countBeside_26) hs
theorem q9_27 : pm_V d 9 27 [l0, l1, l2, l3] (.int yi :: .int xi :: st) S Q = if xi = yi then pm_V d 9 30 [l0, l1, l2, l3] st S Q else pm_V d 9 48 [l0, l1, l2, l3] st S Q := pv_icmp_ne (pm_cdi rfl dX0_countBeside_27) rfl
theorem q9_30 : pm_V d 9 30 [.ref xn, l1, l2, l3] st S Q = pm_V d 9 31 [.ref xn, l1, l2, l3] (.ref xn :: st) S Q := pv_aload_n (pm_cdi rfl dX0_countBeside_30) rfl
theorem q9_31 (hs : pm_sh S an = .inr 0) : pm_V d 9 31 [l0, l1, l2, l3] (.ref an :: st) S Q = pm_V d 9 34 [l0, l1, l2, l3] (va_rf (pm_gr S an 3) :: st) S Q := pv_getA (pm_cdi rfl dX0_countBeside_31) (by decide +kernel) (by decide +kernel) (by decide +kernel) hs
theorem q9_34 : pm_V d 9 34 [l0, l1, l2, .int xi] st S Q = pm_V d 9 35 [l0, l1, l2, .int xi] (.int xi :: st) S Q := pv_iload_n (pm_cdi rfl dX0_countBeside_34) rfl
theorem q9_35 (hs : pm_ar S an 0 xi = true) : pm_V d 9 35 [l0, l1, l2, l3] (.int xi :: .ref an :: st) S Q = pm_V d 9 36 [l0, l1, l2, l3] (.int (pm_zi S an xi.toNatClampNeg) :: st) S Q := pv_iald (pm_cdi rfl dX0_countBeside_35) hs
theorem q9_36 : pm_V d 9 36 [.ref xn, l1, l2, l3] st S Q = pm_V d 9 37 [.ref xn, l1, l2, l3] (.ref xn :: st) S Q := pv_aload_n (pm_cdi rfl dX0_countBeside_36) rfl
theorem q9_37 (hs : pm_sh S an = .inr 0) : pm_V d 9 37 [l0, l1, l2, l3] (.ref an :: st) S Q = pm_V d 9 40 [l0, l1, l2, l3] (va_rf (pm_gr S an 3) :: st) S Q := pv_getA (pm_cdi rfl dX0_countBeside_37) (by decide +kernel) (by decide +kernel) (by decide +kernel) hs
theorem q9_40 : pm_V d 9 40 [l0, .int xi, l2, l3] st S Q = pm_V d 9 41 [l0, .int xi, l2, l3] (.int xi :: st) S Q := pv_iload_n (pm_cdi rfl dX0_countBeside_40) rfl
theorem q9_41 (hs : pm_ar S an 0 xi = true) : pm_V d 9 41 [l0, l1, l2, l3] (.int xi :: .ref an :: st) S Q = pm_V d 9 42 [l0, l1, l2, l3] (.int (pm_zi S an xi.toNatClampNeg) :: st) S Q := pv_iald (pm_cdi rfl dX0_countBeside_41) hs
theorem q9_42 : pm_V d 9 42 [l0, l1, l2, l3] (.int yi :: .int xi :: st) S Q = if xi = yi then pm_V d 9 45 [l0, l1, l2, l3] st S Q else pm_V d 9 48 [l0, l1, l2, l3] st S Q := pv_icmp_ne (pm_cdi rfl dX0_countBeside_42) rfl
theorem q9_45 : pm_V d 9 45 [l0, .int yi, .int xi, l3] st S Q = pm_V d 9 48 [l0, .int yi, .int (xi + 1), l3] st S Q := pv_iinc (pm_cdi rfl dX0_countBeside_45) rfl (by decide +kernel) rfl
theorem q9_48 : pm_V d 9 48 [l0, l1, .int yi, .int xi] st S Q = pm_V d 9 51 [l0, l1, .int yi, .int (xi + 1)] st S Q := pv_iinc (pm_cdi rfl dX0_countBeside_48) rfl (by decide +kernel) rfl
theorem q9_51 : pm_V d 9 51 [l0, l1, l2, l3] st S Q = pm_V d 9 4 [l0, l1, l2, l3] st S Q := pv_goto (pm_cdi rfl dX0_countBeside_51) rfl
theorem q9_54 : pm_V d 9 54 [l0, l1, .int xi, l3] st S Q = pm_V d 9 55 [l0, l1, .int xi, l3] (.int xi :: st) S Q := pv_iload_n (pm_cdi rfl dX0_countBeside_54) rfl
theorem q9_55 : pm_V d 9 55 [l0, l1, l2, l3] [.int xi] S Q = Q (some (.int xi)) S := pv_rI (pm_cdi rfl dX0_countBeside_55) (by decide +kernel)
theorem q9_e : pm_N d 9 [.ref an, .int v0i] S Q = pm_V d 9 0 [.ref an, .int v0i, pm_j, pm_j] [] S Q := pv_ent (Nat.le_of_ble_eq_true rfl) rfl
/-! 10: ViewsJoins$Graph.countReached(I)I -/
theorem dX0_countReached_0 : decode cX0_countReached 0 = .ok (.lconst 1, 1) := by decide +kernel
theorem dX0_countReached_1 : decode cX0_countReached 1 = .ok (.iload_n 1, 1) := by decide +kernel
theorem dX0_countReached_2 : decode cX0_countReached 2 = .ok (.lshl, 1) := by decide +kernel
theorem dX0_countReached_3 : decode cX0_countReached 3 = .ok (.lstore_n 2, 1) := by decide +kernel
theorem dX0_countReached_4 : decode cX0_countReached 4 = .ok (.iconst 0, 1) := by decide +kernel
theorem dX0_countReached_5 : decode cX0_countReached 5 = .ok (.istore 4, 2) := by decide +kernel
theorem dX0_countReached_7 : decode cX0_countReached 7 = .ok (.iload 4, 2) := by decide +kernel
theorem dX0_countReached_9 : decode cX0_countReached 9 = .ok (.aload_n 0, 1) := by decide +kernel
theorem dX0_countReached_10 : decode cX0_countReached 10 = .ok (.getfield 14, 3) := by decide +kernel
theorem dX0_countReached_13 : decode cX0_countReached 13 = .ok (.getfield 70, 3) := by decide +kernel
theorem dX0_countReached_16 : decode cX0_countReached 16 = .ok (.if_icmp .ge 71, 3) := by decide +kernel
theorem dX0_countReached_19 : decode cX0_countReached 19 = .ok (.lload_n 2, 1) := by decide +kernel
theorem dX0_countReached_20 : decode cX0_countReached 20 = .ok (.lstore 5, 2) := by decide +kernel
theorem dX0_countReached_22 : decode cX0_countReached 22 = .ok (.iconst 0, 1) := by decide +kernel
theorem dX0_countReached_23 : decode cX0_countReached 23 = .ok (.istore 7, 2) := by decide +kernel
theorem dX0_countReached_25 : decode cX0_countReached 25 = .ok (.iload 7, 2) := by decide +kernel
theorem dX0_countReached_27 : decode cX0_countReached 27 = .ok (.aload_n 0, 1) := by decide +kernel
theorem dX0_countReached_28 : decode cX0_countReached 28 = .ok (.getfield 20, 3) := by decide +kernel
theorem dX0_countReached_31 : decode cX0_countReached 31 = .ok (.getfield 70, 3) := by decide +kernel
theorem dX0_countReached_34 : decode cX0_countReached 34 = .ok (.if_icmp .ge 37, 3) := by decide +kernel
theorem dX0_countReached_37 : decode cX0_countReached 37 = .ok (.lload_n 2, 1) := by decide +kernel
theorem dX0_countReached_38 : decode cX0_countReached 38 = .ok (.aload_n 0, 1) := by decide +kernel
theorem dX0_countReached_39 : decode cX0_countReached 39 = .ok (.getfield 23, 3) := by decide +kernel
theorem dX0_countReached_42 : decode cX0_countReached 42 = .ok (.iload 7, 2) := by decide +kernel
theorem dX0_countReached_44 : decode cX0_countReached 44 = .ok (.iaload, 1) := by decide +kernel
theorem dX0_countReached_45 : decode cX0_countReached 45 = .ok (.lushr, 1) := by decide +kernel
theorem dX0_countReached_46 : decode cX0_countReached 46 = .ok (.lconst 1, 1) := by decide +kernel
theorem dX0_countReached_47 : decode cX0_countReached 47 = .ok (.land, 1) := by decide +kernel
theorem dX0_countReached_48 : decode cX0_countReached 48 = .ok (.lconst 1, 1) := by decide +kernel
theorem dX0_countReached_49 : decode cX0_countReached 49 = .ok (.lcmp, 1) := by decide +kernel
theorem dX0_countReached_50 : decode cX0_countReached 50 = .ok (.ifCond .ne 15, 3) := by decide +kernel
theorem dX0_countReached_53 : decode cX0_countReached 53 = .ok (.lload_n 2, 1) := by decide +kernel
theorem dX0_countReached_54 : decode cX0_countReached 54 = .ok (.lconst 1, 1) := by decide +kernel
theorem dX0_countReached_55 : decode cX0_countReached 55 = .ok (.aload_n 0, 1) := by decide +kernel
theorem dX0_countReached_56 : decode cX0_countReached 56 = .ok (.getfield 27, 3) := by decide +kernel
theorem dX0_countReached_59 : decode cX0_countReached 59 = .ok (.iload 7, 2) := by decide +kernel
theorem dX0_countReached_61 : decode cX0_countReached 61 = .ok (.iaload, 1) := by decide +kernel
theorem dX0_countReached_62 : decode cX0_countReached 62 = .ok (.lshl, 1) := by decide +kernel
theorem dX0_countReached_63 : decode cX0_countReached 63 = .ok (.lor, 1) := by decide +kernel
theorem dX0_countReached_64 : decode cX0_countReached 64 = .ok (.lstore_n 2, 1) := by decide +kernel
theorem dX0_countReached_65 : decode cX0_countReached 65 = .ok (.iinc 7 1, 3) := by decide +kernel
theorem dX0_countReached_68 : decode cX0_countReached 68 = .ok (.goto (-43), 3) := by decide +kernel
theorem dX0_countReached_71 : decode cX0_countReached 71 = .ok (.lload_n 2, 1) := by decide +kernel
theorem dX0_countReached_72 : decode cX0_countReached 72 = .ok (.lload 5, 2) := by decide +kernel
theorem dX0_countReached_74 : decode cX0_countReached 74 = .ok (.lcmp, 1) := by decide +kernel
theorem dX0_countReached_75 : decode cX0_countReached 75 = .ok (.ifCond .ne 6, 3) := by decide +kernel
theorem dX0_countReached_78 : decode cX0_countReached 78 = .ok (.goto 9, 3) := by decide +kernel
theorem dX0_countReached_81 : decode cX0_countReached 81 = .ok (.iinc 4 1, 3) := by decide +kernel
theorem dX0_countReached_84 : decode cX0_countReached 84 = .ok (.goto (-77), 3) := by decide +kernel
theorem dX0_countReached_87 : decode cX0_countReached 87 = .ok (.lload_n 2, 1) := by decide +kernel
theorem dX0_countReached_88 : decode cX0_countReached 88 = .ok (.invokestatic 78, 3) := by decide +kernel
theorem dX0_countReached_91 : decode cX0_countReached 91 = .ok (.ireturn, 1) := by decide +kernel
theorem q10_0 : pm_V d 10 0 [l0, l1, l2, l3, l4, l5, l6, l7] st S Q = pm_V d 10 1 [l0, l1, l2, l3, l4, l5, l6, l7] (.long 1 :: st) S Q := pv_lconst (pm_cdi rfl dX0_countReached_0) (by decide +kernel)
theorem q10_1 : pm_V d 10 1 [l0, .int xi, l2, l3, l4, l5, l6, l7] st S Q = pm_V d 10 2 [l0, .int xi, l2, l3, l4, l5, l6, l7] (.int xi :: st) S Q := pv_iload_n (pm_cdi rfl dX0_countReached_1) rfl
theorem q10_2 : pm_V d 10 2 [l0, l1, l2, l3, l4, l5, l6, l7] (.int yi :: .long xj :: st) S Q = pm_V d 10 3 [l0, l1, l2, l3, l4, l5, l6, l7] (.long (xj <<< (yi.toInt64 &&& 63)) :: st) S Q := pv_lshl (pm_cdi rfl dX0_countReached_2)
theorem q10_3 : pm_V d 10 3 [l0, .int yi, l2, l3, l4, l5, l6, l7] (.long xj :: st) S Q = pm_V d 10 4 [l0, .int yi, .long xj, pm_j, l4, l5, l6, l7] st S Q := pv_lstore_n (pm_cdi rfl dX0_countReached_3) rfl
theorem q10_4 : pm_V d 10 4 [l0, l1, l2, l3, l4, l5, l6, l7] st S Q = pm_V d 10 5 [l0, l1, l2, l3, l4, l5, l6, l7] (.int 0 :: st) S Q := pv_iconst (pm_cdi rfl dX0_countReached_4) (by decide +kernel)
theorem q10_5 : pm_V d 10 5 [l0, l1, l2, pm_j, l4, l5, l6, l7] (.int xi :: st) S Q = pm_V d 10 7 [l0, l1, l2, pm_j, .int xi, l5, l6, l7] st S Q := pv_istore (pm_cdi rfl dX0_countReached_5) rfl
theorem q10_7 : pm_V d 10 7 [l0, l1, l2, l3, .int xi, l5, l6, l7] st S Q = pm_V d 10 9 [l0, l1, l2, l3, .int xi, l5, l6, l7] (.int xi :: st) S Q := pv_iload (pm_cdi rfl dX0_countReached_7) rfl
theorem q10_9 : pm_V d 10 9 [.ref xn, l1, l2, l3, l4, l5, l6, l7] st S Q = pm_V d 10 10 [.ref xn, l1, l2, l3, l4, l5, l6, l7] (.ref xn :: st) S Q := pv_aload_n (pm_cdi rfl dX0_countReached_9) rfl
theorem q10_10 (hs : pm_sh S an = .inr 0) : pm_V d 10 10 [l0, l1, l2, l3, l4, l5, l6, l7] (.ref an :: st) S Q = pm_V d 10 13 [l0, l1, l2, l3, l4, l5, l6, l7] (va_rf (pm_gr S an 0) :: st) S Q := pv_getA (pm_cdi rfl dX0_countReached_10) (by decide +kernel) (by decide +kernel) (by decide +kernel) hs
theorem q10_13 (hs : pm_sh S an = .inr 3) : pm_V d 10 13 [l0, l1, l2, l3, l4, l5, l6, l7] (.ref an :: st) S Q = pm_V d 10 16 [l0, l1, l2, l3, l4, l5, l6, l7] (.int (pm_gi S an 3) :: st) S Q := pv_getI (pm_cdi rfl dX0_countReached_13) (by decide +kernel) (by decide +kernel) (by decide +kernel) hs
theorem q10_16 : pm_V d 10 16 [l0, l1, l2, l3, l4, l5, l6, l7] (.int yi :: .int xi :: st) S Q = if xi < yi then pm_V d 10 19 [l0, l1, l2, l3, l4, l5, l6, l7] st S Q else pm_V d 10 87 [l0, l1, l2, l3, l4, l5, l6, l7] st S Q := pv_icmp_ge (pm_cdi rfl dX0_countReached_16) rfl
theorem q10_19 : pm_V d 10 19 [l0, l1, .long xj, l3, l4, l5, l6, l7] st S Q = pm_V d 10 20 [l0, l1, .long xj, l3, l4, l5, l6, l7] (.long xj :: st) S Q := pv_lload_n (pm_cdi rfl dX0_countReached_19) rfl
theorem q10_20 : pm_V d 10 20 [l0, l1, l2, l3, .int yi, l5, l6, l7] (.long xj :: st) S Q = pm_V d 10 22 [l0, l1, l2, l3, .int yi, .long xj, pm_j, l7] st S Q := pv_lstore (pm_cdi rfl dX0_countReached_20) rfl
theorem q10_22 : pm_V d 10 22 [l0, l1, l2, l3, l4, l5, l6, l7] st S Q = pm_V d 10 23 [l0, l1, l2, l3, l4, l5, l6, l7] (.int 0 :: st) S Q := pv_iconst (pm_cdi rfl dX0_countReached_22) (by decide +kernel)
theorem q10_23 : pm_V d 10 23 [l0, l1, l2, l3, l4, l5, pm_j, l7] (.int xi :: st) S Q = pm_V d 10 25 [l0, l1, l2, l3, l4, l5, pm_j, .int xi] st S Q := pv_istore (pm_cdi rfl dX0_countReached_23) rfl
theorem q10_25 : pm_V d 10 25 [l0, l1, l2, l3, l4, l5, l6, .int xi] st S Q = pm_V d 10 27 [l0, l1, l2, l3, l4, l5, l6, .int xi] (.int xi :: st) S Q := pv_iload (pm_cdi rfl dX0_countReached_25) rfl
theorem q10_27 : pm_V d 10 27 [.ref xn, l1, l2, l3, l4, l5, l6, l7] st S Q = pm_V d 10 28 [.ref xn, l1, l2, l3, l4, l5, l6, l7] (.ref xn :: st) S Q := pv_aload_n (pm_cdi rfl dX0_countReached_27) rfl
theorem q10_28 (hs : pm_sh S an = .inr 0) : pm_V d 10 28 [l0, l1, l2, l3, l4, l5, l6, l7] (.ref an :: st) S Q = pm_V d 10 31 [l0, l1, l2, l3, l4, l5, l6, l7] (va_rf (pm_gr S an 1) :: st) S Q := pv_getA (pm_cdi rfl dX0_countReached_28) (by decide +kernel) (by decide +kernel) (by decide +kernel) hs
theorem q10_31 (hs : pm_sh S an = .inr 3) : pm_V d 10 31 [l0, l1, l2, l3, l4, l5, l6, l7] (.ref an :: st) S Q = pm_V d 10 34 [l0, l1, l2, l3, l4, l5, l6, l7] (.int (pm_gi S an 3) :: st) S Q := pv_getI (pm_cdi rfl dX0_countReached_31) (by decide +kernel) (by decide +kernel) (by decide +kernel) hs
theorem q10_34 : pm_V d 10 34 [l0, l1, l2, l3, l4, l5, l6, l7] (.int yi :: .int xi :: st) S Q = if xi < yi then pm_V d 10 37 [l0, l1, l2, l3, l4, l5, l6, l7] st S Q else pm_V d 10 71 [l0, l1, l2, l3, l4, l5, l6, l7] st S Q := pv_icmp_ge (pm_cdi rfl dX0_countReached_34) rfl
theorem q10_37 : pm_V d 10 37 [l0, l1, .long xj, l3, l4, l5, l6, l7] st S Q = pm_V d 10 38 [l0, l1, .long xj, l3, l4, l5, l6, l7] (.long xj :: st) S Q := pv_lload_n (pm_cdi rfl dX0_countReached_37) rfl
theorem q10_38 : pm_V d 10 38 [.ref xn, l1, l2, l3, l4, l5, l6, l7] st S Q = pm_V d 10 39 [.ref xn, l1, l2, l3, l4, l5, l6, l7] (.ref xn :: st) S Q := pv_aload_n (pm_cdi rfl dX0_countReached_38) rfl
theorem q10_39 (hs : pm_sh S an = .inr 0) : pm_V d 10 39 [l0, l1, l2, l3, l4, l5, l6, l7] (.ref an :: st) S Q = pm_V d 10 42 [l0, l1, l2, l3, l4, l5, l6, l7] (va_rf (pm_gr S an 2) :: st) S Q := pv_getA (pm_cdi rfl dX0_countReached_39) (by decide +kernel) (by decide +kernel) (by decide +kernel) hs
theorem q10_42 : pm_V d 10 42 [l0, l1, l2, l3, l4, l5, l6, .int xi] st S Q = pm_V d 10 44 [l0, l1, l2, l3, l4, l5, l6, .int xi] (.int xi :: st) S Q := pv_iload (pm_cdi rfl dX0_countReached_42) rfl
theorem q10_44 (hs : pm_ar S an 0 xi = true) : pm_V d 10 44 [l0, l1, l2, l3, l4, l5, l6, l7] (.int xi :: .ref an :: st) S Q = pm_V d 10 45 [l0, l1, l2, l3, l4, l5, l6, l7] (.int (pm_zi S an xi.toNatClampNeg) :: st) S Q := pv_iald (pm_cdi rfl dX0_countReached_44) hs
theorem q10_45 : pm_V d 10 45 [l0, l1, l2, l3, l4, l5, l6, l7] (.int yi :: .long xj :: st) S Q = pm_V d 10 46 [l0, l1, l2, l3, l4, l5, l6, l7] (.long ((xj.toUInt64 >>> (yi.toInt64.toUInt64 &&& Int64.toUInt64 63)).toInt64) :: st) S Q := pv_lushr (pm_cdi rfl dX0_countReached_45)
theorem q10_46 : pm_V d 10 46 [l0, l1, l2, l3, l4, l5, l6, l7] st S Q = pm_V d 10 47 [l0, l1, l2, l3, l4, l5, l6, l7] (.long 1 :: st) S Q := pv_lconst (pm_cdi rfl dX0_countReached_46) (by decide +kernel)
theorem q10_47 : pm_V d 10 47 [l0, l1, l2, l3, l4, l5, l6, l7] (.long yj :: .long xj :: st) S Q = pm_V d 10 48 [l0, l1, l2, l3, l4, l5, l6, l7] (.long (xj &&& yj) :: st) S Q := pv_land (pm_cdi rfl dX0_countReached_47)
theorem q10_48 : pm_V d 10 48 [l0, l1, l2, l3, l4, l5, l6, l7] st S Q = pm_V d 10 49 [l0, l1, l2, l3, l4, l5, l6, l7] (.long 1 :: st) S Q := pv_lconst (pm_cdi rfl dX0_countReached_48) (by decide +kernel)
theorem q10_49 : pm_V d 10 49 [l0, l1, l2, l3, l4, l5, l6, l7] (.long yj :: .long xj :: st) S Q = pm_V d 10 50 [l0, l1, l2, l3, l4, l5, l6, l7] (.int (lg_cmp xj yj) :: st) S Q := pv_lcmp (pm_cdi rfl dX0_countReached_49)
theorem q10_50 : pm_V d 10 50 [l0, l1, l2, l3, l4, l5, l6, l7] (.int xi :: st) S Q = if xi = 0 then pm_V d 10 53 [l0, l1, l2, l3, l4, l5, l6, l7] st S Q else pm_V d 10 65 [l0, l1, l2, l3, l4, l5, l6, l7] st S Q := pv_if_ne (pm_cdi rfl dX0_countReached_50) rfl
theorem q10_53 : pm_V d 10 53 [l0, l1, .long xj, l3, l4, l5, l6, l7] st S Q = pm_V d 10 54 [l0, l1, .long xj, l3, l4, l5, l6, l7] (.long xj :: st) S Q := pv_lload_n (pm_cdi rfl dX0_countReached_53) rfl
theorem q10_54 : pm_V d 10 54 [l0, l1, l2, l3, l4, l5, l6, l7] st S Q = pm_V d 10 55 [l0, l1, l2, l3, l4, l5, l6, l7] (.long 1 :: st) S Q := pv_lconst (pm_cdi rfl dX0_countReached_54) (by decide +kernel)
theorem q10_55 : pm_V d 10 55 [.ref xn, l1, l2, l3, l4, l5, l6, l7] st S Q = pm_V d 10 56 [.ref xn, l1, l2, l3, l4, l5, l6, l7] (.ref xn :: st) S Q := pv_aload_n (pm_cdi rfl dX0_countReached_55) rfl
theorem q10_56 (hs : pm_sh S an = .inr 0) : pm_V d 10 56 [l0, l1, l2, l3, l4, l5, l6, l7] (.ref an :: st) S Q = pm_V d 10 59 [l0, l1, l2, l3, l4, l5, l6, l7] (va_rf (pm_gr S an 3) :: st) S Q := pv_getA (pm_cdi rfl dX0_countReached_56) (by decide +kernel) (by decide +kernel) (by decide +kernel) hs
theorem q10_59 : pm_V d 10 59 [l0, l1, l2, l3, l4, l5, l6, .int xi] st S Q = pm_V d 10 61 [l0, l1, l2, l3, l4, l5, l6, .int xi] (.int xi :: st) S Q := pv_iload (pm_cdi rfl dX0_countReached_59) rfl
theorem q10_61 (hs : pm_ar S an 0 xi = true) : pm_V d 10 61 [l0, l1, l2, l3, l4, l5, l6, l7] (.int xi :: .ref an :: st) S Q = pm_V d 10 62 [l0, l1, l2, l3, l4, l5, l6, l7] (.int (pm_zi S an xi.toNatClampNeg) :: st) S Q := pv_iald (pm_cdi rfl dX0_countReached_61) hs
theorem q10_62 : pm_V d 10 62 [l0, l1, l2, l3, l4, l5, l6, l7] (.int yi :: .long xj :: st) S Q = pm_V d 10 63 [l0, l1, l2, l3, l4, l5, l6, l7] (.long (xj <<< (yi.toInt64 &&& 63)) :: st) S Q := pv_lshl (pm_cdi rfl dX0_countReached_62)
theorem q10_63 : pm_V d 10 63 [l0, l1, l2, l3, l4, l5, l6, l7] (.long yj :: .long xj :: st) S Q = pm_V d 10 64 [l0, l1, l2, l3, l4, l5, l6, l7] (.long (xj ||| yj) :: st) S Q := pv_lor (pm_cdi rfl dX0_countReached_63)
theorem q10_64 : pm_V d 10 64 [l0, .int yi, l2, l3, l4, l5, l6, l7] (.long xj :: st) S Q = pm_V d 10 65 [l0, .int yi, .long xj, pm_j, l4, l5, l6, l7] st S Q := pv_lstore_n (pm_cdi rfl dX0_countReached_64) rfl
theorem q10_65 : pm_V d 10 65 [l0, l1, l2, l3, l4, l5, pm_j, .int xi] st S Q = pm_V d 10 68 [l0, l1, l2, l3, l4, l5, pm_j, .int (xi + 1)] st S Q := pv_iinc (pm_cdi rfl dX0_countReached_65) rfl (by decide +kernel) rfl
theorem q10_68 : pm_V d 10 68 [l0, l1, l2, l3, l4, l5, l6, l7] st S Q = pm_V d 10 25 [l0, l1, l2, l3, l4, l5, l6, l7] st S Q := pv_goto (pm_cdi rfl dX0_countReached_68) rfl
theorem q10_71 : pm_V d 10 71 [l0, l1, .long xj, l3, l4, l5, l6, l7] st S Q = pm_V d 10 72 [l0, l1, .long xj, l3, l4, l5, l6, l7] (.long xj :: st) S Q := pv_lload_n (pm_cdi rfl dX0_countReached_71) rfl
theorem q10_72 : pm_V d 10 72 [l0, l1, l2, l3, l4, .long xj, l6, l7] st S Q = pm_V d 10 74 [l0, l1, l2, l3, l4, .long xj, l6, l7] (.long xj :: st) S Q := pv_lload (pm_cdi rfl dX0_countReached_72) rfl
theorem q10_74 : pm_V d 10 74 [l0, l1, l2, l3, l4, l5, l6, l7] (.long yj :: .long xj :: st) S Q = pm_V d 10 75 [l0, l1, l2, l3, l4, l5, l6, l7] (.int (lg_cmp xj yj) :: st) S Q := pv_lcmp (pm_cdi rfl dX0_countReached_74)
theorem q10_75 : pm_V d 10 75 [l0, l1, l2, l3, l4, l5, l6, l7] (.int xi :: st) S Q = if xi = 0 then pm_V d 10 78 [l0, l1, l2, l3, l4, l5, l6, l7] st S Q else pm_V d 10 81 [l0, l1, l2, l3, l4, l5, l6, l7] st S Q := pv_if_ne (pm_cdi rfl dX0_countReached_75) rfl
theorem q10_78 : pm_V d 10 78 [l0, l1, l2, l3, l4, l5, l6, l7] st S Q = pm_V d 10 87 [l0, l1, l2, l3, l4, l5, l6, l7] st S Q := pv_goto (pm_cdi rfl dX0_countReached_78) rfl
theorem q10_81 : pm_V d 10 81 [l0, l1, l2, pm_j, .int xi, l5, l6, l7] st S Q = pm_V d 10 84 [l0, l1, l2, pm_j, .int (xi + 1), l5, l6, l7] st S Q := pv_iinc (pm_cdi rfl dX0_countReached_81) rfl (by decide +kernel) rfl
theorem q10_84 : pm_V d 10 84 [l0, l1, l2, l3, l4, l5, l6, l7] st S Q = pm_V d 10 7 [l0, l1, l2, l3, l4, l5, l6, l7] st S Q := pv_goto (pm_cdi rfl dX0_countReached_84) rfl
theorem q10_87 : pm_V d 10 87 [l0, l1, .long xj, l3, l4, l5, l6, l7] st S Q = pm_V d 10 88 [l0, l1, .long xj, l3, l4, l5, l6, l7] (.long xj :: st) S Q := pv_lload_n (pm_cdi rfl dX0_countReached_87) rfl
theorem q10_88 : pm_V (d + 1) 10 88 [l0, l1, l2, l3, l4, l5, l6, l7] [.long v0j] S Q = pm_N d 142 [.long v0j] S (fun r S' => pm_V (d + 1) 10 91 [l0, l1, l2, l3, l4, l5, l6, l7] (r.toList ++ []) S' Q) := pv_callS (as := [.long v0j]) (pm_cdi rfl dX0_countReached_88) (by decide +kernel) (by decide +kernel) (show _ = _ from (by decide +kernel : 1 = pm_np 142)) rfl (Nat.le_of_ble_eq_true rfl)
theorem q10_91 : pm_V d 10 91 [l0, l1, l2, l3, l4, l5, l6, l7] [.int xi] S Q = Q (some (.int xi)) S := pv_rI (pm_cdi rfl dX0_countReached_91) (by decide +kernel)
theorem q10_e : pm_N d 10 [.ref an, .int v0i] S Q = pm_V d 10 0 [.ref an, .int v0i, pm_j, pm_j, pm_j, pm_j, pm_j, pm_j] [] S Q := pv_ent (Nat.le_of_ble_eq_true rfl) rfl
/-! 11: ViewsJoins$Graph.isLike(LViewsJoins$Graph;)Z -/
theorem dX0_isLike_0 : decode cX0_isLike 0 = .ok (.aload_n 0, 1) := by decide +kernel
theorem dX0_isLike_1 : decode cX0_isLike 1 = .ok (.getfield 14, 3) := by decide +kernel
theorem dX0_isLike_4 : decode cX0_isLike 4 = .ok (.getfield 70, 3) := by decide +kernel
theorem dX0_isLike_7 : decode cX0_isLike 7 = .ok (.aload_n 1, 1) := by decide +kernel
theorem dX0_isLike_8 : decode cX0_isLike 8 = .ok (.getfield 14, 3) := by decide +kernel
theorem dX0_isLike_11 : decode cX0_isLike 11 = .ok (.getfield 70, 3) := by decide +kernel
theorem dX0_isLike_14 : decode cX0_isLike 14 = .ok (.if_icmp .ne 20, 3) := by decide +kernel
theorem dX0_isLike_17 : decode cX0_isLike 17 = .ok (.aload_n 0, 1) := by decide +kernel
theorem dX0_isLike_18 : decode cX0_isLike 18 = .ok (.getfield 20, 3) := by decide +kernel
theorem dX0_isLike_21 : decode cX0_isLike 21 = .ok (.getfield 70, 3) := by decide +kernel
theorem dX0_isLike_24 : decode cX0_isLike 24 = .ok (.aload_n 1, 1) := by decide +kernel
theorem dX0_isLike_25 : decode cX0_isLike 25 = .ok (.getfield 20, 3) := by decide +kernel
theorem dX0_isLike_28 : decode cX0_isLike 28 = .ok (.getfield 70, 3) := by decide +kernel
theorem dX0_isLike_31 : decode cX0_isLike 31 = .ok (.if_icmp .eq 5, 3) := by decide +kernel
theorem dX0_isLike_34 : decode cX0_isLike 34 = .ok (.iconst 0, 1) := by decide +kernel
theorem dX0_isLike_35 : decode cX0_isLike 35 = .ok (.ireturn, 1) := by decide +kernel
theorem dX0_isLike_36 : decode cX0_isLike 36 = .ok (.iconst 0, 1) := by decide +kernel
theorem dX0_isLike_37 : decode cX0_isLike 37 = .ok (.istore_n 2, 1) := by decide +kernel
theorem dX0_isLike_38 : decode cX0_isLike 38 = .ok (.iload_n 2, 1) := by decide +kernel
theorem dX0_isLike_39 : decode cX0_isLike 39 = .ok (.aload_n 0, 1) := by decide +kernel
theorem dX0_isLike_40 : decode cX0_isLike 40 = .ok (.getfield 14, 3) := by decide +kernel
theorem dX0_isLike_43 : decode cX0_isLike 43 = .ok (.getfield 70, 3) := by decide +kernel
theorem dX0_isLike_46 : decode cX0_isLike 46 = .ok (.if_icmp .ge 33, 3) := by decide +kernel
theorem dX0_isLike_49 : decode cX0_isLike 49 = .ok (.aload_n 0, 1) := by decide +kernel
theorem dX0_isLike_50 : decode cX0_isLike 50 = .ok (.getfield 14, 3) := by decide +kernel
theorem dX0_isLike_53 : decode cX0_isLike 53 = .ok (.getfield 84, 3) := by decide +kernel
theorem dX0_isLike_56 : decode cX0_isLike 56 = .ok (.iload_n 2, 1) := by decide +kernel
theorem dX0_isLike_57 : decode cX0_isLike 57 = .ok (.laload, 1) := by decide +kernel
theorem dX0_isLike_58 : decode cX0_isLike 58 = .ok (.aload_n 1, 1) := by decide +kernel
theorem dX0_isLike_59 : decode cX0_isLike 59 = .ok (.getfield 14, 3) := by decide +kernel
theorem dX0_isLike_62 : decode cX0_isLike 62 = .ok (.getfield 84, 3) := by decide +kernel
theorem dX0_isLike_65 : decode cX0_isLike 65 = .ok (.iload_n 2, 1) := by decide +kernel
theorem dX0_isLike_66 : decode cX0_isLike 66 = .ok (.laload, 1) := by decide +kernel
theorem dX0_isLike_67 : decode cX0_isLike 67 = .ok (.lcmp, 1) := by decide +kernel
theorem dX0_isLike_68 : decode cX0_isLike 68 = .ok (.ifCond .eq 5, 3) := by decide +kernel
theorem dX0_isLike_71 : decode cX0_isLike 71 = .ok (.iconst 0, 1) := by decide +kernel
theorem dX0_isLike_72 : decode cX0_isLike 72 = .ok (.ireturn, 1) := by decide +kernel
theorem dX0_isLike_73 : decode cX0_isLike 73 = .ok (.iinc 2 1, 3) := by decide +kernel
theorem dX0_isLike_76 : decode cX0_isLike 76 = .ok (.goto (-38), 3) := by decide +kernel
theorem dX0_isLike_79 : decode cX0_isLike 79 = .ok (.iconst 0, 1) := by decide +kernel
theorem dX0_isLike_80 : decode cX0_isLike 80 = .ok (.istore_n 2, 1) := by decide +kernel
theorem dX0_isLike_81 : decode cX0_isLike 81 = .ok (.iload_n 2, 1) := by decide +kernel
theorem dX0_isLike_82 : decode cX0_isLike 82 = .ok (.aload_n 0, 1) := by decide +kernel
theorem dX0_isLike_83 : decode cX0_isLike 83 = .ok (.getfield 20, 3) := by decide +kernel
theorem dX0_isLike_86 : decode cX0_isLike 86 = .ok (.getfield 70, 3) := by decide +kernel
theorem dX0_isLike_89 : decode cX0_isLike 89 = .ok (.if_icmp .ge 63, 3) := by decide +kernel
theorem dX0_isLike_92 : decode cX0_isLike 92 = .ok (.aload_n 0, 1) := by decide +kernel
theorem dX0_isLike_93 : decode cX0_isLike 93 = .ok (.getfield 23, 3) := by decide +kernel
theorem dX0_isLike_96 : decode cX0_isLike 96 = .ok (.iload_n 2, 1) := by decide +kernel
theorem dX0_isLike_97 : decode cX0_isLike 97 = .ok (.iaload, 1) := by decide +kernel
theorem dX0_isLike_98 : decode cX0_isLike 98 = .ok (.aload_n 1, 1) := by decide +kernel
theorem dX0_isLike_99 : decode cX0_isLike 99 = .ok (.getfield 23, 3) := by decide +kernel
theorem dX0_isLike_102 : decode cX0_isLike 102 = .ok (.iload_n 2, 1) := by decide +kernel
theorem dX0_isLike_103 : decode cX0_isLike 103 = .ok (.iaload, 1) := by decide +kernel
theorem dX0_isLike_104 : decode cX0_isLike 104 = .ok (.if_icmp .ne 40, 3) := by decide +kernel
theorem dX0_isLike_107 : decode cX0_isLike 107 = .ok (.aload_n 0, 1) := by decide +kernel
theorem dX0_isLike_108 : decode cX0_isLike 108 = .ok (.getfield 27, 3) := by decide +kernel
theorem dX0_isLike_111 : decode cX0_isLike 111 = .ok (.iload_n 2, 1) := by decide +kernel
theorem dX0_isLike_112 : decode cX0_isLike 112 = .ok (.iaload, 1) := by decide +kernel
theorem dX0_isLike_113 : decode cX0_isLike 113 = .ok (.aload_n 1, 1) := by decide +kernel
theorem dX0_isLike_114 : decode cX0_isLike 114 = .ok (.getfield 27, 3) := by decide +kernel
theorem dX0_isLike_117 : decode cX0_isLike 117 = .ok (.iload_n 2, 1) := by decide +kernel
theorem dX0_isLike_118 : decode cX0_isLike 118 = .ok (.iaload, 1) := by decide +kernel
theorem dX0_isLike_119 : decode cX0_isLike 119 = .ok (.if_icmp .ne 25, 3) := by decide +kernel
theorem dX0_isLike_122 : decode cX0_isLike 122 = .ok (.aload_n 0, 1) := by decide +kernel
theorem dX0_isLike_123 : decode cX0_isLike 123 = .ok (.getfield 20, 3) := by decide +kernel
theorem dX0_isLike_126 : decode cX0_isLike 126 = .ok (.getfield 84, 3) := by decide +kernel
theorem dX0_isLike_129 : decode cX0_isLike 129 = .ok (.iload_n 2, 1) := by decide +kernel
theorem dX0_isLike_130 : decode cX0_isLike 130 = .ok (.laload, 1) := by decide +kernel
theorem dX0_isLike_131 : decode cX0_isLike 131 = .ok (.aload_n 1, 1) := by decide +kernel
theorem dX0_isLike_132 : decode cX0_isLike 132 = .ok (.getfield 20, 3) := by decide +kernel
theorem dX0_isLike_135 : decode cX0_isLike 135 = .ok (.getfield 84, 3) := by decide +kernel
theorem dX0_isLike_138 : decode cX0_isLike 138 = .ok (.iload_n 2, 1) := by decide +kernel
theorem dX0_isLike_139 : decode cX0_isLike 139 = .ok (.laload, 1) := by decide +kernel
theorem dX0_isLike_140 : decode cX0_isLike 140 = .ok (.lcmp, 1) := by decide +kernel
theorem dX0_isLike_141 : decode cX0_isLike 141 = .ok (.ifCond .eq 5, 3) := by decide +kernel
theorem dX0_isLike_144 : decode cX0_isLike 144 = .ok (.iconst 0, 1) := by decide +kernel
theorem dX0_isLike_145 : decode cX0_isLike 145 = .ok (.ireturn, 1) := by decide +kernel
theorem dX0_isLike_146 : decode cX0_isLike 146 = .ok (.iinc 2 1, 3) := by decide +kernel
theorem dX0_isLike_149 : decode cX0_isLike 149 = .ok (.goto (-68), 3) := by decide +kernel
theorem dX0_isLike_152 : decode cX0_isLike 152 = .ok (.iconst 1, 1) := by decide +kernel
theorem dX0_isLike_153 : decode cX0_isLike 153 = .ok (.ireturn, 1) := by decide +kernel
theorem q11_0 : pm_V d 11 0 [.ref xn, l1, l2] st S Q = pm_V d 11 1 [.ref xn, l1, l2] (.ref xn :: st) S Q := pv_aload_n (pm_cdi rfl dX0_isLike_0) rfl
theorem q11_1 (hs : pm_sh S an = .inr 0) : pm_V d 11 1 [l0, l1, l2] (.ref an :: st) S Q = pm_V d 11 4 [l0, l1, l2] (va_rf (pm_gr S an 0) :: st) S Q := pv_getA (pm_cdi rfl dX0_isLike_1) (by decide +kernel) (by decide +kernel) (by decide +kernel) hs
theorem q11_4 (hs : pm_sh S an = .inr 3) : pm_V d 11 4 [l0, l1, l2] (.ref an :: st) S Q = pm_V d 11 7 [l0, l1, l2] (.int (pm_gi S an 3) :: st) S Q := pv_getI (pm_cdi rfl dX0_isLike_4) (by decide +kernel) (by decide +kernel) (by decide +kernel) hs
theorem q11_7 : pm_V d 11 7 [l0, .ref xn, l2] st S Q = pm_V d 11 8 [l0, .ref xn, l2] (.ref xn :: st) S Q := pv_aload_n (pm_cdi rfl dX0_isLike_7) rfl
theorem q11_7N : pm_V d 11 7 [l0, .null, l2] st S Q = pm_V d 11 8 [l0, .null, l2] (.null :: st) S Q := pv_aload_nN (pm_cdi rfl dX0_isLike_7) rfl
theorem q11_8 (hs : pm_sh S an = .inr 0) : pm_V d 11 8 [l0, l1, l2] (.ref an :: st) S Q = pm_V d 11 11 [l0, l1, l2] (va_rf (pm_gr S an 0) :: st) S Q := pv_getA (pm_cdi rfl dX0_isLike_8) (by decide +kernel) (by decide +kernel) (by decide +kernel) hs
theorem q11_11 (hs : pm_sh S an = .inr 3) : pm_V d 11 11 [l0, l1, l2] (.ref an :: st) S Q = pm_V d 11 14 [l0, l1, l2] (.int (pm_gi S an 3) :: st) S Q := pv_getI (pm_cdi rfl dX0_isLike_11) (by decide +kernel) (by decide +kernel) (by decide +kernel) hs
theorem q11_14 : pm_V d 11 14 [l0, l1, l2] (.int yi :: .int xi :: st) S Q = if xi = yi then pm_V d 11 17 [l0, l1, l2] st S Q else pm_V d 11 34 [l0, l1, l2] st S Q := pv_icmp_ne (pm_cdi rfl dX0_isLike_14) rfl
theorem q11_17 : pm_V d 11 17 [.ref xn, l1, l2] st S Q = pm_V d 11 18 [.ref xn, l1, l2] (.ref xn :: st) S Q := pv_aload_n (pm_cdi rfl dX0_isLike_17) rfl
theorem q11_18 (hs : pm_sh S an = .inr 0) : pm_V d 11 18 [l0, l1, l2] (.ref an :: st) S Q = pm_V d 11 21 [l0, l1, l2] (va_rf (pm_gr S an 1) :: st) S Q := pv_getA (pm_cdi rfl dX0_isLike_18) (by decide +kernel) (by decide +kernel) (by decide +kernel) hs
theorem q11_21 (hs : pm_sh S an = .inr 3) : pm_V d 11 21 [l0, l1, l2] (.ref an :: st) S Q = pm_V d 11 24 [l0, l1, l2] (.int (pm_gi S an 3) :: st) S Q := pv_getI (pm_cdi rfl dX0_isLike_21) (by decide +kernel) (by decide +kernel) (by decide +kernel) hs
theorem q11_24 : pm_V d 11 24 [l0, .ref xn, l2] st S Q = pm_V d 11 25 [l0, .ref xn, l2] (.ref xn :: st) S Q := pv_aload_n (pm_cdi rfl dX0_isLike_24) rfl
theorem q11_24N : pm_V d 11 24 [l0, .null, l2] st S Q = pm_V d 11 25 [l0, .null, l2] (.null :: st) S Q := pv_aload_nN (pm_cdi rfl dX0_isLike_24) rfl
theorem q11_25 (hs : pm_sh S an = .inr 0) : pm_V d 11 25 [l0, l1, l2] (.ref an :: st) S Q = pm_V d 11 28 [l0, l1, l2] (va_rf (pm_gr S an 1) :: st) S Q := pv_getA (pm_cdi rfl dX0_isLike_25) (by decide +kernel) (by decide +kernel) (by decide +kernel) hs
theorem q11_28 (hs : pm_sh S an = .inr 3) : pm_V d 11 28 [l0, l1, l2] (.ref an :: st) S Q = pm_V d 11 31 [l0, l1, l2] (.int (pm_gi S an 3) :: st) S Q := pv_getI (pm_cdi rfl dX0_isLike_28) (by decide +kernel) (by decide +kernel) (by decide +kernel) hs
theorem q11_31 : pm_V d 11 31 [l0, l1, l2] (.int yi :: .int xi :: st) S Q = if xi = yi then pm_V d 11 36 [l0, l1, l2] st S Q else pm_V d 11 34 [l0, l1, l2] st S Q := pv_icmp_eq (pm_cdi rfl dX0_isLike_31) rfl
theorem q11_34 : pm_V d 11 34 [l0, l1, l2] st S Q = pm_V d 11 35 [l0, l1, l2] (.int 0 :: st) S Q := pv_iconst (pm_cdi rfl dX0_isLike_34) (by decide +kernel)
theorem q11_35 (hx : xi = 0 ∨ xi = 1) : pm_V d 11 35 [l0, l1, l2] [.int xi] S Q = Q (some (.int xi)) S := pv_rZ (pm_cdi rfl dX0_isLike_35) (by decide +kernel) hx
theorem q11_36 : pm_V d 11 36 [l0, l1, l2] st S Q = pm_V d 11 37 [l0, l1, l2] (.int 0 :: st) S Q := pv_iconst (pm_cdi rfl dX0_isLike_36) (by decide +kernel)
theorem q11_37 : pm_V d 11 37 [l0, .ref yn, l2] (.int xi :: st) S Q = pm_V d 11 38 [l0, .ref yn, .int xi] st S Q := pv_istore_n (pm_cdi rfl dX0_isLike_37) rfl
theorem q11_38 : pm_V d 11 38 [l0, l1, .int xi] st S Q = pm_V d 11 39 [l0, l1, .int xi] (.int xi :: st) S Q := pv_iload_n (pm_cdi rfl dX0_isLike_38) rfl
theorem q11_39 : pm_V d 11 39 [.ref xn, l1, l2] st S Q = pm_V d 11 40 [.ref xn, l1, l2] (.ref xn :: st) S Q := pv_aload_n (pm_cdi rfl dX0_isLike_39) rfl
theorem q11_40 (hs : pm_sh S an = .inr 0) : pm_V d 11 40 [l0, l1, l2] (.ref an :: st) S Q = pm_V d 11 43 [l0, l1, l2] (va_rf (pm_gr S an 0) :: st) S Q := pv_getA (pm_cdi rfl dX0_isLike_40) (by decide +kernel) (by decide +kernel) (by decide +kernel) hs
theorem q11_43 (hs : pm_sh S an = .inr 3) : pm_V d 11 43 [l0, l1, l2] (.ref an :: st) S Q = pm_V d 11 46 [l0, l1, l2] (.int (pm_gi S an 3) :: st) S Q := pv_getI (pm_cdi rfl dX0_isLike_43) (by decide +kernel) (by decide +kernel) (by decide +kernel) hs
theorem q11_46 : pm_V d 11 46 [l0, l1, l2] (.int yi :: .int xi :: st) S Q = if xi < yi then pm_V d 11 49 [l0, l1, l2] st S Q else pm_V d 11 79 [l0, l1, l2] st S Q := pv_icmp_ge (pm_cdi rfl dX0_isLike_46) rfl
theorem q11_49 : pm_V d 11 49 [.ref xn, l1, l2] st S Q = pm_V d 11 50 [.ref xn, l1, l2] (.ref xn :: st) S Q := pv_aload_n (pm_cdi rfl dX0_isLike_49) rfl
theorem q11_50 (hs : pm_sh S an = .inr 0) : pm_V d 11 50 [l0, l1, l2] (.ref an :: st) S Q = pm_V d 11 53 [l0, l1, l2] (va_rf (pm_gr S an 0) :: st) S Q := pv_getA (pm_cdi rfl dX0_isLike_50) (by decide +kernel) (by decide +kernel) (by decide +kernel) hs
theorem q11_53 (hs : pm_sh S an = .inr 3) : pm_V d 11 53 [l0, l1, l2] (.ref an :: st) S Q = pm_V d 11 56 [l0, l1, l2] (va_rf (pm_gr S an 0) :: st) S Q := pv_getA (pm_cdi rfl dX0_isLike_53) (by decide +kernel) (by decide +kernel) (by decide +kernel) hs
theorem q11_56 : pm_V d 11 56 [l0, l1, .int xi] st S Q = pm_V d 11 57 [l0, l1, .int xi] (.int xi :: st) S Q := pv_iload_n (pm_cdi rfl dX0_isLike_56) rfl
theorem q11_57 (hs : pm_ar S an 1 xi = true) : pm_V d 11 57 [l0, l1, l2] (.int xi :: .ref an :: st) S Q = pm_V d 11 58 [l0, l1, l2] (.long (pm_zl S an xi.toNatClampNeg) :: st) S Q := pv_lald (pm_cdi rfl dX0_isLike_57) hs
theorem q11_58 : pm_V d 11 58 [l0, .ref xn, l2] st S Q = pm_V d 11 59 [l0, .ref xn, l2] (.ref xn :: st) S Q := pv_aload_n (pm_cdi rfl dX0_isLike_58) rfl
theorem q11_58N : pm_V d 11 58 [l0, .null, l2] st S Q = pm_V d 11 59 [l0, .null, l2] (.null :: st) S Q := pv_aload_nN (pm_cdi rfl dX0_isLike_58) rfl
theorem q11_59 (hs : pm_sh S an = .inr 0) : pm_V d 11 59 [l0, l1, l2] (.ref an :: st) S Q = pm_V d 11 62 [l0, l1, l2] (va_rf (pm_gr S an 0) :: st) S Q := pv_getA (pm_cdi rfl dX0_isLike_59) (by decide +kernel) (by decide +kernel) (by decide +kernel) hs
theorem q11_62 (hs : pm_sh S an = .inr 3) : pm_V d 11 62 [l0, l1, l2] (.ref an :: st) S Q = pm_V d 11 65 [l0, l1, l2] (va_rf (pm_gr S an 0) :: st) S Q := pv_getA (pm_cdi rfl dX0_isLike_62) (by decide +kernel) (by decide +kernel) (by decide +kernel) hs
theorem q11_65 : pm_V d 11 65 [l0, l1, .int xi] st S Q = pm_V d 11 66 [l0, l1, .int xi] (.int xi :: st) S Q := pv_iload_n (pm_cdi rfl dX0_isLike_65) rfl
theorem q11_66 (hs : pm_ar S an 1 xi = true) : pm_V d 11 66 [l0, l1, l2] (.int xi :: .ref an :: st) S Q = pm_V d 11 67 [l0, l1, l2] (.long (pm_zl S an xi.toNatClampNeg) :: st) S Q := pv_lald (pm_cdi rfl dX0_isLike_66) hs
theorem q11_67 : pm_V d 11 67 [l0, l1, l2] (.long yj :: .long xj :: st) S Q = pm_V d 11 68 [l0, l1, l2] (.int (lg_cmp xj yj) :: st) S Q := pv_lcmp (pm_cdi rfl dX0_isLike_67)
theorem q11_68 : pm_V d 11 68 [l0, l1, l2] (.int xi :: st) S Q = if xi = 0 then pm_V d 11 73 [l0, l1, l2] st S Q else pm_V d 11 71 [l0, l1, l2] st S Q := pv_if_eq (pm_cdi rfl dX0_isLike_68) rfl
theorem q11_71 : pm_V d 11 71 [l0, l1, l2] st S Q = pm_V d 11 72 [l0, l1, l2] (.int 0 :: st) S Q := pv_iconst (pm_cdi rfl dX0_isLike_71) (by decide +kernel)
theorem q11_72 (hx : xi = 0 ∨ xi = 1) : pm_V d 11 72 [l0, l1, l2] [.int xi] S Q = Q (some (.int xi)) S := pv_rZ (pm_cdi rfl dX0_isLike_72) (by decide +kernel) hx
theorem q11_73 : pm_V d 11 73 [l0, .ref yn, .int xi] st S Q = pm_V d 11 76 [l0, .ref yn, .int (xi + 1)] st S Q := pv_iinc (pm_cdi rfl dX0_isLike_73) rfl (by decide +kernel) rfl
theorem q11_76 : pm_V d 11 76 [l0, l1, l2] st S Q = pm_V d 11 38 [l0, l1, l2] st S Q := pv_goto (pm_cdi rfl dX0_isLike_76) rfl
theorem q11_79 : pm_V d 11 79 [l0, l1, l2] st S Q = pm_V d 11 80 [l0, l1, l2] (.int 0 :: st) S Q := pv_iconst (pm_cdi rfl dX0_isLike_79) (by decide +kernel)
theorem q11_80 : pm_V d 11 80 [l0, .ref yn, l2] (.int xi :: st) S Q = pm_V d 11 81 [l0, .ref yn, .int xi] st S Q := pv_istore_n (pm_cdi rfl dX0_isLike_80) rfl
theorem q11_81 : pm_V d 11 81 [l0, l1, .int xi] st S Q = pm_V d 11 82 [l0, l1, .int xi] (.int xi :: st) S Q := pv_iload_n (pm_cdi rfl dX0_isLike_81) rfl
theorem q11_82 : pm_V d 11 82 [.ref xn, l1, l2] st S Q = pm_V d 11 83 [.ref xn, l1, l2] (.ref xn :: st) S Q := pv_aload_n (pm_cdi rfl dX0_isLike_82) rfl
theorem q11_83 (hs : pm_sh S an = .inr 0) : pm_V d 11 83 [l0, l1, l2] (.ref an :: st) S Q = pm_V d 11 86 [l0, l1, l2] (va_rf (pm_gr S an 1) :: st) S Q := pv_getA (pm_cdi rfl dX0_isLike_83) (by decide +kernel) (by decide +kernel) (by decide +kernel) hs
theorem q11_86 (hs : pm_sh S an = .inr 3) : pm_V d 11 86 [l0, l1, l2] (.ref an :: st) S Q = pm_V d 11 89 [l0, l1, l2] (.int (pm_gi S an 3) :: st) S Q := pv_getI (pm_cdi rfl dX0_isLike_86) (by decide +kernel) (by decide +kernel) (by decide +kernel) hs
theorem q11_89 : pm_V d 11 89 [l0, l1, l2] (.int yi :: .int xi :: st) S Q = if xi < yi then pm_V d 11 92 [l0, l1, l2] st S Q else pm_V d 11 152 [l0, l1, l2] st S Q := pv_icmp_ge (pm_cdi rfl dX0_isLike_89) rfl
theorem q11_92 : pm_V d 11 92 [.ref xn, l1, l2] st S Q = pm_V d 11 93 [.ref xn, l1, l2] (.ref xn :: st) S Q := pv_aload_n (pm_cdi rfl dX0_isLike_92) rfl
theorem q11_93 (hs : pm_sh S an = .inr 0) : pm_V d 11 93 [l0, l1, l2] (.ref an :: st) S Q = pm_V d 11 96 [l0, l1, l2] (va_rf (pm_gr S an 2) :: st) S Q := pv_getA (pm_cdi rfl dX0_isLike_93) (by decide +kernel) (by decide +kernel) (by decide +kernel) hs
theorem q11_96 : pm_V d 11 96 [l0, l1, .int xi] st S Q = pm_V d 11 97 [l0, l1, .int xi] (.int xi :: st) S Q := pv_iload_n (pm_cdi rfl dX0_isLike_96) rfl
theorem q11_97 (hs : pm_ar S an 0 xi = true) : pm_V d 11 97 [l0, l1, l2] (.int xi :: .ref an :: st) S Q = pm_V d 11 98 [l0, l1, l2] (.int (pm_zi S an xi.toNatClampNeg) :: st) S Q := pv_iald (pm_cdi rfl dX0_isLike_97) hs
theorem q11_98 : pm_V d 11 98 [l0, .ref xn, l2] st S Q = pm_V d 11 99 [l0, .ref xn, l2] (.ref xn :: st) S Q := pv_aload_n (pm_cdi rfl dX0_isLike_98) rfl
theorem q11_98N : pm_V d 11 98 [l0, .null, l2] st S Q = pm_V d 11 99 [l0, .null, l2] (.null :: st) S Q := pv_aload_nN (pm_cdi rfl dX0_isLike_98) rfl
theorem q11_99 (hs : pm_sh S an = .inr 0) : pm_V d 11 99 [l0, l1, l2] (.ref an :: st) S Q = pm_V d 11 102 [l0, l1, l2] (va_rf (pm_gr S an 2) :: st) S Q := pv_getA (pm_cdi rfl dX0_isLike_99) (by decide +kernel) (by decide +kernel) (by decide +kernel) hs
theorem q11_102 : pm_V d 11 102 [l0, l1, .int xi] st S Q = pm_V d 11 103 [l0, l1, .int xi] (.int xi :: st) S Q := pv_iload_n (pm_cdi rfl dX0_isLike_102) rfl
theorem q11_103 (hs : pm_ar S an 0 xi = true) : pm_V d 11 103 [l0, l1, l2] (.int xi :: .ref an :: st) S Q = pm_V d 11 104 [l0, l1, l2] (.int (pm_zi S an xi.toNatClampNeg) :: st) S Q := pv_iald (pm_cdi rfl dX0_isLike_103) hs
theorem q11_104 : pm_V d 11 104 [l0, l1, l2] (.int yi :: .int xi :: st) S Q = if xi = yi then pm_V d 11 107 [l0, l1, l2] st S Q else pm_V d 11 144 [l0, l1, l2] st S Q := pv_icmp_ne (pm_cdi rfl dX0_isLike_104) rfl
theorem q11_107 : pm_V d 11 107 [.ref xn, l1, l2] st S Q = pm_V d 11 108 [.ref xn, l1, l2] (.ref xn :: st) S Q := pv_aload_n (pm_cdi rfl dX0_isLike_107) rfl
theorem q11_108 (hs : pm_sh S an = .inr 0) : pm_V d 11 108 [l0, l1, l2] (.ref an :: st) S Q = pm_V d 11 111 [l0, l1, l2] (va_rf (pm_gr S an 3) :: st) S Q := pv_getA (pm_cdi rfl dX0_isLike_108) (by decide +kernel) (by decide +kernel) (by decide +kernel) hs
theorem q11_111 : pm_V d 11 111 [l0, l1, .int xi] st S Q = pm_V d 11 112 [l0, l1, .int xi] (.int xi :: st) S Q := pv_iload_n (pm_cdi rfl dX0_isLike_111) rfl
theorem q11_112 (hs : pm_ar S an 0 xi = true) : pm_V d 11 112 [l0, l1, l2] (.int xi :: .ref an :: st) S Q = pm_V d 11 113 [l0, l1, l2] (.int (pm_zi S an xi.toNatClampNeg) :: st) S Q := pv_iald (pm_cdi rfl dX0_isLike_112) hs
theorem q11_113 : pm_V d 11 113 [l0, .ref xn, l2] st S Q = pm_V d 11 114 [l0, .ref xn, l2] (.ref xn :: st) S Q := pv_aload_n (pm_cdi rfl dX0_isLike_113) rfl
theorem q11_113N : pm_V d 11 113 [l0, .null, l2] st S Q = pm_V d 11 114 [l0, .null, l2] (.null :: st) S Q := pv_aload_nN (pm_cdi rfl dX0_isLike_113) rfl
theorem q11_114 (hs : pm_sh S an = .inr 0) : pm_V d 11 114 [l0, l1, l2] (.ref an :: st) S Q = pm_V d 11 117 [l0, l1, l2] (va_rf (pm_gr S an 3) :: st) S Q := pv_getA (pm_cdi rfl dX0_isLike_114) (by decide +kernel) (by decide +kernel) (by decide +kernel) hs
theorem q11_117 : pm_V d 11 117 [l0, l1, .int xi] st S Q = pm_V d 11 118 [l0, l1, .int xi] (.int xi :: st) S Q := pv_iload_n (pm_cdi rfl dX0_isLike_117) rfl
theorem q11_118 (hs : pm_ar S an 0 xi = true) : pm_V d 11 118 [l0, l1, l2] (.int xi :: .ref an :: st) S Q = pm_V d 11 119 [l0, l1, l2] (.int (pm_zi S an xi.toNatClampNeg) :: st) S Q := pv_iald (pm_cdi rfl dX0_isLike_118) hs
theorem q11_119 : pm_V d 11 119 [l0, l1, l2] (.int yi :: .int xi :: st) S Q = if xi = yi then pm_V d 11 122 [l0, l1, l2] st S Q else pm_V d 11 144 [l0, l1, l2] st S Q := pv_icmp_ne (pm_cdi rfl dX0_isLike_119) rfl
theorem q11_122 : pm_V d 11 122 [.ref xn, l1, l2] st S Q = pm_V d 11 123 [.ref xn, l1, l2] (.ref xn :: st) S Q := pv_aload_n (pm_cdi rfl dX0_isLike_122) rfl
theorem q11_123 (hs : pm_sh S an = .inr 0) : pm_V d 11 123 [l0, l1, l2] (.ref an :: st) S Q = pm_V d 11 126 [l0, l1, l2] (va_rf (pm_gr S an 1) :: st) S Q := pv_getA (pm_cdi rfl dX0_isLike_123) (by decide +kernel) (by decide +kernel) (by decide +kernel) hs
theorem q11_126 (hs : pm_sh S an = .inr 3) : pm_V d 11 126 [l0, l1, l2] (.ref an :: st) S Q = pm_V d 11 129 [l0, l1, l2] (va_rf (pm_gr S an 0) :: st) S Q := pv_getA (pm_cdi rfl dX0_isLike_126) (by decide +kernel) (by decide +kernel) (by decide +kernel) hs
theorem q11_129 : pm_V d 11 129 [l0, l1, .int xi] st S Q = pm_V d 11 130 [l0, l1, .int xi] (.int xi :: st) S Q := pv_iload_n (pm_cdi rfl dX0_isLike_129) rfl
theorem q11_130 (hs : pm_ar S an 1 xi = true) : pm_V d 11 130 [l0, l1, l2] (.int xi :: .ref an :: st) S Q = pm_V d 11 131 [l0, l1, l2] (.long (pm_zl S an xi.toNatClampNeg) :: st) S Q := pv_lald (pm_cdi rfl dX0_isLike_130) hs
theorem q11_131 : pm_V d 11 131 [l0, .ref xn, l2] st S Q = pm_V d 11 132 [l0, .ref xn, l2] (.ref xn :: st) S Q := pv_aload_n (pm_cdi rfl dX0_isLike_131) rfl
theorem q11_131N : pm_V d 11 131 [l0, .null, l2] st S Q = pm_V d 11 132 [l0, .null, l2] (.null :: st) S Q := pv_aload_nN (pm_cdi rfl dX0_isLike_131) rfl
theorem q11_132 (hs : pm_sh S an = .inr 0) : pm_V d 11 132 [l0, l1, l2] (.ref an :: st) S Q = pm_V d 11 135 [l0, l1, l2] (va_rf (pm_gr S an 1) :: st) S Q := pv_getA (pm_cdi rfl dX0_isLike_132) (by decide +kernel) (by decide +kernel) (by decide +kernel) hs
theorem q11_135 (hs : pm_sh S an = .inr 3) : pm_V d 11 135 [l0, l1, l2] (.ref an :: st) S Q = pm_V d 11 138 [l0, l1, l2] (va_rf (pm_gr S an 0) :: st) S Q := pv_getA (pm_cdi rfl dX0_isLike_135) (by decide +kernel) (by decide +kernel) (by decide +kernel) hs
theorem q11_138 : pm_V d 11 138 [l0, l1, .int xi] st S Q = pm_V d 11 139 [l0, l1, .int xi] (.int xi :: st) S Q := pv_iload_n (pm_cdi rfl dX0_isLike_138) rfl
theorem q11_139 (hs : pm_ar S an 1 xi = true) : pm_V d 11 139 [l0, l1, l2] (.int xi :: .ref an :: st) S Q = pm_V d 11 140 [l0, l1, l2] (.long (pm_zl S an xi.toNatClampNeg) :: st) S Q := pv_lald (pm_cdi rfl dX0_isLike_139) hs
theorem q11_140 : pm_V d 11 140 [l0, l1, l2] (.long yj :: .long xj :: st) S Q = pm_V d 11 141 [l0, l1, l2] (.int (lg_cmp xj yj) :: st) S Q := pv_lcmp (pm_cdi rfl dX0_isLike_140)
theorem q11_141 : pm_V d 11 141 [l0, l1, l2] (.int xi :: st) S Q = if xi = 0 then pm_V d 11 146 [l0, l1, l2] st S Q else pm_V d 11 144 [l0, l1, l2] st S Q := pv_if_eq (pm_cdi rfl dX0_isLike_141) rfl
theorem q11_144 : pm_V d 11 144 [l0, l1, l2] st S Q = pm_V d 11 145 [l0, l1, l2] (.int 0 :: st) S Q := pv_iconst (pm_cdi rfl dX0_isLike_144) (by decide +kernel)
theorem q11_145 (hx : xi = 0 ∨ xi = 1) : pm_V d 11 145 [l0, l1, l2] [.int xi] S Q = Q (some (.int xi)) S := pv_rZ (pm_cdi rfl dX0_isLike_145) (by decide +kernel) hx
theorem q11_146 : pm_V d 11 146 [l0, .ref yn, .int xi] st S Q = pm_V d 11 149 [l0, .ref yn, .int (xi + 1)] st S Q := pv_iinc (pm_cdi rfl dX0_isLike_146) rfl (by decide +kernel) rfl
theorem q11_149 : pm_V d 11 149 [l0, l1, l2] st S Q = pm_V d 11 81 [l0, l1, l2] st S Q := pv_goto (pm_cdi rfl dX0_isLike_149) rfl
theorem q11_152 : pm_V d 11 152 [l0, l1, l2] st S Q = pm_V d 11 153 [l0, l1, l2] (.int 1 :: st) S Q := pv_iconst (pm_cdi rfl dX0_isLike_152) (by decide +kernel)
theorem q11_153 (hx : xi = 0 ∨ xi = 1) : pm_V d 11 153 [l0, l1, l2] [.int xi] S Q = Q (some (.int xi)) S := pv_rZ (pm_cdi rfl dX0_isLike_153) (by decide +kernel) hx
theorem q11_e : pm_N d 11 [.ref an, .ref v0n] S Q = pm_V d 11 0 [.ref an, .ref v0n, pm_j] [] S Q := pv_ent (Nat.le_of_ble_eq_true rfl) rfl
/-! 12: ViewsJoins$Heaps.<init>()V -/
theorem dX1_init_0 : decode cX1_init 0 = .ok (.aload_n 0, 1) := by decide +kernel
theorem dX1_init_1 : decode cX1_init 1 = .ok (.invokespecial 3, 3) := by decide +kernel
theorem dX1_init_4 : decode cX1_init 4 = .ok (.aload_n 0, 1) := by decide +kernel
theorem dX1_init_5 : decode cX1_init 5 = .ok (.bipush 100, 2) := by decide +kernel
theorem dX1_init_7 : decode cX1_init 7 = .ok (.newarray .long, 2) := by decide +kernel
theorem dX1_init_9 : decode cX1_init 9 = .ok (.putfield 9, 3) := by decide +kernel
theorem dX1_init_12 : decode cX1_init 12 = .ok (.aload_n 0, 1) := by decide +kernel
theorem dX1_init_13 : decode cX1_init 13 = .ok (.bipush 100, 2) := by decide +kernel
theorem dX1_init_15 : decode cX1_init 15 = .ok (.newarray .int, 2) := by decide +kernel
theorem dX1_init_17 : decode cX1_init 17 = .ok (.putfield 15, 3) := by decide +kernel
theorem dX1_init_20 : decode cX1_init 20 = .ok (.aload_n 0, 1) := by decide +kernel
theorem dX1_init_21 : decode cX1_init 21 = .ok (.iconst 0, 1) := by decide +kernel
theorem dX1_init_22 : decode cX1_init 22 = .ok (.putfield 19, 3) := by decide +kernel
theorem dX1_init_25 : decode cX1_init 25 = .ok (.return_, 1) := by decide +kernel
theorem q12_0 : pm_V d 12 0 [.ref xn] st S Q = pm_V d 12 1 [.ref xn] (.ref xn :: st) S Q := pv_aload_n (pm_cdi rfl dX1_init_0) rfl
theorem q12_1 : pm_V d 12 1 [l0] [.ref an] S Q = pm_V d 12 4 [l0] [] S Q := pv_obj (pm_cdi rfl dX1_init_1) (by decide +kernel) (Nat.le_of_ble_eq_true rfl)
theorem q12_4 : pm_V d 12 4 [.ref xn] st S Q = pm_V d 12 5 [.ref xn] (.ref xn :: st) S Q := pv_aload_n (pm_cdi rfl dX1_init_4) rfl
theorem q12_5 : pm_V d 12 5 [l0] st S Q = pm_V d 12 7 [l0] (.int 100 :: st) S Q := pv_bipush (pm_cdi rfl dX1_init_5) (by decide +kernel)
theorem q12_7 (h : 0 ≤ xi ∧ xi.toNatClampNeg ≤ 60000) : pm_V d 12 7 [l0] (.int xi :: st) S Q = pm_V d 12 9 [l0] (.ref (pm_nx S) :: st) (pm_mka S 1 xi.toNatClampNeg) Q := pv_newL (pm_cdi rfl dX1_init_7) h
theorem q12_9 (hs : pm_sh S an = .inr 1) : pm_V d 12 9 [l0] (.ref xn :: .ref an :: st) S Q = pm_V d 12 12 [l0] st (pm_sgr S an 0 (some xn)) Q := pv_putA (pm_cdi rfl dX1_init_9) (by decide +kernel) (by decide +kernel) (by decide +kernel) hs
theorem q12_9N (hs : pm_sh S an = .inr 1) : pm_V d 12 9 [l0] (.null :: .ref an :: st) S Q = pm_V d 12 12 [l0] st (pm_sgr S an 0 none) Q := pv_putN (pm_cdi rfl dX1_init_9) (by decide +kernel) (by decide +kernel) (by decide +kernel) hs
theorem q12_12 : pm_V d 12 12 [.ref xn] st S Q = pm_V d 12 13 [.ref xn] (.ref xn :: st) S Q := pv_aload_n (pm_cdi rfl dX1_init_12) rfl
theorem q12_13 : pm_V d 12 13 [l0] st S Q = pm_V d 12 15 [l0] (.int 100 :: st) S Q := pv_bipush (pm_cdi rfl dX1_init_13) (by decide +kernel)
theorem q12_15 (h : 0 ≤ xi ∧ xi.toNatClampNeg ≤ 60000) : pm_V d 12 15 [l0] (.int xi :: st) S Q = pm_V d 12 17 [l0] (.ref (pm_nx S) :: st) (pm_mka S 0 xi.toNatClampNeg) Q := pv_newI (pm_cdi rfl dX1_init_15) h
theorem q12_17 (hs : pm_sh S an = .inr 1) : pm_V d 12 17 [l0] (.ref xn :: .ref an :: st) S Q = pm_V d 12 20 [l0] st (pm_sgr S an 1 (some xn)) Q := pv_putA (pm_cdi rfl dX1_init_17) (by decide +kernel) (by decide +kernel) (by decide +kernel) hs
theorem q12_17N (hs : pm_sh S an = .inr 1) : pm_V d 12 17 [l0] (.null :: .ref an :: st) S Q = pm_V d 12 20 [l0] st (pm_sgr S an 1 none) Q := pv_putN (pm_cdi rfl dX1_init_17) (by decide +kernel) (by decide +kernel) (by decide +kernel) hs
theorem q12_20 : pm_V d 12 20 [.ref xn] st S Q = pm_V d 12 21 [.ref xn] (.ref xn :: st) S Q := pv_aload_n (pm_cdi rfl dX1_init_20) rfl
theorem q12_21 : pm_V d 12 21 [l0] st S Q = pm_V d 12 22 [l0] (.int 0 :: st) S Q := pv_iconst (pm_cdi rfl dX1_init_21) (by decide +kernel)
theorem q12_22 (hs : pm_sh S an = .inr 1) (hx : xi = 0 ∨ xi = 1) : pm_V d 12 22 [l0] (.int xi :: .ref an :: st) S Q = pm_V d 12 25 [l0] st (pm_sgi S an 2 xi) Q := pv_putZ (pm_cdi rfl dX1_init_22) (by decide +kernel) (by decide +kernel) (by decide +kernel) hs hx
theorem q12_25 : pm_V d 12 25 [l0] [] S Q = Q none S := pv_rV (pm_cdi rfl dX1_init_25) (by decide +kernel)
theorem q12_e : pm_N d 12 [.ref an] S Q = pm_V d 12 0 [.ref an] [] S Q := pv_ent (Nat.le_of_ble_eq_true rfl) rfl
/-! 13: ViewsJoins$Heaps.begin()V -/
theorem dX1_begin_0 : decode cX1_begin 0 = .ok (.aload_n 0, 1) := by decide +kernel
theorem dX1_begin_1 : decode cX1_begin 1 = .ok (.iconst 0, 1) := by decide +kernel
theorem dX1_begin_2 : decode cX1_begin 2 = .ok (.putfield 19, 3) := by decide +kernel
theorem dX1_begin_5 : decode cX1_begin 5 = .ok (.iconst 0, 1) := by decide +kernel
theorem dX1_begin_6 : decode cX1_begin 6 = .ok (.istore_n 1, 1) := by decide +kernel
theorem dX1_begin_7 : decode cX1_begin 7 = .ok (.iload_n 1, 1) := by decide +kernel
theorem dX1_begin_8 : decode cX1_begin 8 = .ok (.aload_n 0, 1) := by decide +kernel
theorem dX1_begin_9 : decode cX1_begin 9 = .ok (.getfield 15, 3) := by decide +kernel
theorem dX1_begin_12 : decode cX1_begin 12 = .ok (.arraylength, 1) := by decide +kernel
theorem dX1_begin_13 : decode cX1_begin 13 = .ok (.if_icmp .ge 16, 3) := by decide +kernel
theorem dX1_begin_16 : decode cX1_begin 16 = .ok (.aload_n 0, 1) := by decide +kernel
theorem dX1_begin_17 : decode cX1_begin 17 = .ok (.getfield 15, 3) := by decide +kernel
theorem dX1_begin_20 : decode cX1_begin 20 = .ok (.iload_n 1, 1) := by decide +kernel
theorem dX1_begin_21 : decode cX1_begin 21 = .ok (.iconst (-1), 1) := by decide +kernel
theorem dX1_begin_22 : decode cX1_begin 22 = .ok (.iastore, 1) := by decide +kernel
theorem dX1_begin_23 : decode cX1_begin 23 = .ok (.iinc 1 1, 3) := by decide +kernel
theorem dX1_begin_26 : decode cX1_begin 26 = .ok (.goto (-19), 3) := by decide +kernel
theorem dX1_begin_29 : decode cX1_begin 29 = .ok (.return_, 1) := by decide +kernel
theorem q13_0 : pm_V d 13 0 [.ref xn, l1] st S Q = pm_V d 13 1 [.ref xn, l1] (.ref xn :: st) S Q := pv_aload_n (pm_cdi rfl dX1_begin_0) rfl
theorem q13_1 : pm_V d 13 1 [l0, l1] st S Q = pm_V d 13 2 [l0, l1] (.int 0 :: st) S Q := pv_iconst (pm_cdi rfl dX1_begin_1) (by decide +kernel)
theorem q13_2 (hs : pm_sh S an = .inr 1) (hx : xi = 0 ∨ xi = 1) : pm_V d 13 2 [l0, l1] (.int xi :: .ref an :: st) S Q = pm_V d 13 5 [l0, l1] st (pm_sgi S an 2 xi) Q := pv_putZ (pm_cdi rfl dX1_begin_2) (by decide +kernel) (by decide +kernel) (by decide +kernel) hs hx
theorem q13_5 : pm_V d 13 5 [l0, l1] st S Q = pm_V d 13 6 [l0, l1] (.int 0 :: st) S Q := pv_iconst (pm_cdi rfl dX1_begin_5) (by decide +kernel)
theorem q13_6 : pm_V d 13 6 [.ref yn, l1] (.int xi :: st) S Q = pm_V d 13 7 [.ref yn, .int xi] st S Q := pv_istore_n (pm_cdi rfl dX1_begin_6) rfl
theorem q13_7 : pm_V d 13 7 [l0, .int xi] st S Q = pm_V d 13 8 [l0, .int xi] (.int xi :: st) S Q := pv_iload_n (pm_cdi rfl dX1_begin_7) rfl
theorem q13_8 : pm_V d 13 8 [.ref xn, l1] st S Q = pm_V d 13 9 [.ref xn, l1] (.ref xn :: st) S Q := pv_aload_n (pm_cdi rfl dX1_begin_8) rfl
theorem q13_9 (hs : pm_sh S an = .inr 1) : pm_V d 13 9 [l0, l1] (.ref an :: st) S Q = pm_V d 13 12 [l0, l1] (va_rf (pm_gr S an 1) :: st) S Q := pv_getA (pm_cdi rfl dX1_begin_9) (by decide +kernel) (by decide +kernel) (by decide +kernel) hs
theorem q13_12 (hs : (pm_al S an).isSome = true) : pm_V d 13 12 [l0, l1] (.ref an :: st) S Q = pm_V d 13 13 [l0, l1] (.int (nI ((pm_al S an).getD 0)) :: st) S Q := pv_alen (pm_cdi rfl dX1_begin_12) hs
theorem q13_13 : pm_V d 13 13 [l0, l1] (.int yi :: .int xi :: st) S Q = if xi < yi then pm_V d 13 16 [l0, l1] st S Q else pm_V d 13 29 [l0, l1] st S Q := pv_icmp_ge (pm_cdi rfl dX1_begin_13) rfl
theorem q13_16 : pm_V d 13 16 [.ref xn, l1] st S Q = pm_V d 13 17 [.ref xn, l1] (.ref xn :: st) S Q := pv_aload_n (pm_cdi rfl dX1_begin_16) rfl
theorem q13_17 (hs : pm_sh S an = .inr 1) : pm_V d 13 17 [l0, l1] (.ref an :: st) S Q = pm_V d 13 20 [l0, l1] (va_rf (pm_gr S an 1) :: st) S Q := pv_getA (pm_cdi rfl dX1_begin_17) (by decide +kernel) (by decide +kernel) (by decide +kernel) hs
theorem q13_20 : pm_V d 13 20 [l0, .int xi] st S Q = pm_V d 13 21 [l0, .int xi] (.int xi :: st) S Q := pv_iload_n (pm_cdi rfl dX1_begin_20) rfl
theorem q13_21 : pm_V d 13 21 [l0, l1] st S Q = pm_V d 13 22 [l0, l1] (.int (-1) :: st) S Q := pv_iconst (pm_cdi rfl dX1_begin_21) (by decide +kernel)
theorem q13_22 (hs : pm_ar S an 0 xi = true) : pm_V d 13 22 [l0, l1] (.int vi :: .int xi :: .ref an :: st) S Q = pm_V d 13 23 [l0, l1] st (pm_szi S an xi.toNatClampNeg vi) Q := pv_iast (pm_cdi rfl dX1_begin_22) hs
theorem q13_23 : pm_V d 13 23 [.ref yn, .int xi] st S Q = pm_V d 13 26 [.ref yn, .int (xi + 1)] st S Q := pv_iinc (pm_cdi rfl dX1_begin_23) rfl (by decide +kernel) rfl
theorem q13_26 : pm_V d 13 26 [l0, l1] st S Q = pm_V d 13 7 [l0, l1] st S Q := pv_goto (pm_cdi rfl dX1_begin_26) rfl
theorem q13_29 : pm_V d 13 29 [l0, l1] [] S Q = Q none S := pv_rV (pm_cdi rfl dX1_begin_29) (by decide +kernel)
theorem q13_e : pm_N d 13 [.ref an] S Q = pm_V d 13 0 [.ref an, pm_j] [] S Q := pv_ent (Nat.le_of_ble_eq_true rfl) rfl
/-! 14: ViewsJoins$Heaps.hasAny(I)Z -/
theorem dX1_hasAny_0 : decode cX1_hasAny 0 = .ok (.iload_n 1, 1) := by decide +kernel
theorem dX1_hasAny_1 : decode cX1_hasAny 1 = .ok (.ifCond .lt 26, 3) := by decide +kernel
theorem dX1_hasAny_4 : decode cX1_hasAny 4 = .ok (.iload_n 1, 1) := by decide +kernel
theorem dX1_hasAny_5 : decode cX1_hasAny 5 = .ok (.aload_n 0, 1) := by decide +kernel
theorem dX1_hasAny_6 : decode cX1_hasAny 6 = .ok (.getfield 15, 3) := by decide +kernel
theorem dX1_hasAny_9 : decode cX1_hasAny 9 = .ok (.arraylength, 1) := by decide +kernel
theorem dX1_hasAny_10 : decode cX1_hasAny 10 = .ok (.if_icmp .ge 17, 3) := by decide +kernel
theorem dX1_hasAny_13 : decode cX1_hasAny 13 = .ok (.aload_n 0, 1) := by decide +kernel
theorem dX1_hasAny_14 : decode cX1_hasAny 14 = .ok (.getfield 15, 3) := by decide +kernel
theorem dX1_hasAny_17 : decode cX1_hasAny 17 = .ok (.iload_n 1, 1) := by decide +kernel
theorem dX1_hasAny_18 : decode cX1_hasAny 18 = .ok (.iaload, 1) := by decide +kernel
theorem dX1_hasAny_19 : decode cX1_hasAny 19 = .ok (.iconst (-1), 1) := by decide +kernel
theorem dX1_hasAny_20 : decode cX1_hasAny 20 = .ok (.if_icmp .eq 7, 3) := by decide +kernel
theorem dX1_hasAny_23 : decode cX1_hasAny 23 = .ok (.iconst 1, 1) := by decide +kernel
theorem dX1_hasAny_24 : decode cX1_hasAny 24 = .ok (.goto 4, 3) := by decide +kernel
theorem dX1_hasAny_27 : decode cX1_hasAny 27 = .ok (.iconst 0, 1) := by decide +kernel
theorem dX1_hasAny_28 : decode cX1_hasAny 28 = .ok (.ireturn, 1) := by decide +kernel
theorem q14_0 : pm_V d 14 0 [l0, .int xi] st S Q = pm_V d 14 1 [l0, .int xi] (.int xi :: st) S Q := pv_iload_n (pm_cdi rfl dX1_hasAny_0) rfl
theorem q14_1 : pm_V d 14 1 [l0, l1] (.int xi :: st) S Q = if xi < 0 then pm_V d 14 27 [l0, l1] st S Q else pm_V d 14 4 [l0, l1] st S Q := pv_if_lt (pm_cdi rfl dX1_hasAny_1) rfl
theorem q14_4 : pm_V d 14 4 [l0, .int xi] st S Q = pm_V d 14 5 [l0, .int xi] (.int xi :: st) S Q := pv_iload_n (pm_cdi rfl dX1_hasAny_4) rfl
theorem q14_5 : pm_V d 14 5 [.ref xn, l1] st S Q = pm_V d 14 6 [.ref xn, l1] (.ref xn :: st) S Q := pv_aload_n (pm_cdi rfl dX1_hasAny_5) rfl
theorem q14_6 (hs : pm_sh S an = .inr 1) : pm_V d 14 6 [l0, l1] (.ref an :: st) S Q = pm_V d 14 9 [l0, l1] (va_rf (pm_gr S an 1) :: st) S Q := pv_getA (pm_cdi rfl dX1_hasAny_6) (by decide +kernel) (by decide +kernel) (by decide +kernel) hs
theorem q14_9 (hs : (pm_al S an).isSome = true) : pm_V d 14 9 [l0, l1] (.ref an :: st) S Q = pm_V d 14 10 [l0, l1] (.int (nI ((pm_al S an).getD 0)) :: st) S Q := pv_alen (pm_cdi rfl dX1_hasAny_9) hs
theorem q14_10 : pm_V d 14 10 [l0, l1] (.int yi :: .int xi :: st) S Q = if xi < yi then pm_V d 14 13 [l0, l1] st S Q else pm_V d 14 27 [l0, l1] st S Q := pv_icmp_ge (pm_cdi rfl dX1_hasAny_10) rfl
theorem q14_13 : pm_V d 14 13 [.ref xn, l1] st S Q = pm_V d 14 14 [.ref xn, l1] (.ref xn :: st) S Q := pv_aload_n (pm_cdi rfl dX1_hasAny_13) rfl
theorem q14_14 (hs : pm_sh S an = .inr 1) : pm_V d 14 14 [l0, l1] (.ref an :: st) S Q = pm_V d 14 17 [l0, l1] (va_rf (pm_gr S an 1) :: st) S Q := pv_getA (pm_cdi rfl dX1_hasAny_14) (by decide +kernel) (by decide +kernel) (by decide +kernel) hs
theorem q14_17 : pm_V d 14 17 [l0, .int xi] st S Q = pm_V d 14 18 [l0, .int xi] (.int xi :: st) S Q := pv_iload_n (pm_cdi rfl dX1_hasAny_17) rfl
theorem q14_18 (hs : pm_ar S an 0 xi = true) : pm_V d 14 18 [l0, l1] (.int xi :: .ref an :: st) S Q = pm_V d 14 19 [l0, l1] (.int (pm_zi S an xi.toNatClampNeg) :: st) S Q := pv_iald (pm_cdi rfl dX1_hasAny_18) hs
theorem q14_19 : pm_V d 14 19 [l0, l1] st S Q = pm_V d 14 20 [l0, l1] (.int (-1) :: st) S Q := pv_iconst (pm_cdi rfl dX1_hasAny_19) (by decide +kernel)
theorem q14_20 : pm_V d 14 20 [l0, l1] (.int yi :: .int xi :: st) S Q = if xi = yi then pm_V d 14 27 [l0, l1] st S Q else pm_V d 14 23 [l0, l1] st S Q := pv_icmp_eq (pm_cdi rfl dX1_hasAny_20) rfl
theorem q14_23 : pm_V d 14 23 [l0, l1] st S Q = pm_V d 14 24 [l0, l1] (.int 1 :: st) S Q := pv_iconst (pm_cdi rfl dX1_hasAny_23) (by decide +kernel)
theorem q14_24 : pm_V d 14 24 [l0, l1] st S Q = pm_V d 14 28 [l0, l1] st S Q := pv_goto (pm_cdi rfl dX1_hasAny_24) rfl
theorem q14_27 : pm_V d 14 27 [l0, l1] st S Q = pm_V d 14 28 [l0, l1] (.int 0 :: st) S Q := pv_iconst (pm_cdi rfl dX1_hasAny_27) (by decide +kernel)
theorem q14_28 (hx : xi = 0 ∨ xi = 1) : pm_V d 14 28 [l0, l1] [.int xi] S Q = Q (some (.int xi)) S := pv_rZ (pm_cdi rfl dX1_hasAny_28) (by decide +kernel) hx
theorem q14_e : pm_N d 14 [.ref an, .int v0i] S Q = pm_V d 14 0 [.ref an, .int v0i] [] S Q := pv_ent (Nat.le_of_ble_eq_true rfl) rfl
/-! 15: ViewsJoins$Heaps.put(IIJI)V -/
theorem dX1_put_0 : decode cX1_put 0 = .ok (.iload_n 1, 1) := by decide +kernel
theorem dX1_put_1 : decode cX1_put 1 = .ok (.ifCond .lt 12, 3) := by decide +kernel
theorem dX1_put_4 : decode cX1_put 4 = .ok (.iload_n 1, 1) := by decide +kernel
theorem dX1_put_5 : decode cX1_put 5 = .ok (.aload_n 0, 1) := by decide +kernel
theorem dX1_put_6 : decode cX1_put 6 = .ok (.getfield 15, 3) := by decide +kernel
theorem dX1_put_9 : decode cX1_put 9 = .ok (.arraylength, 1) := by decide +kernel
theorem dX1_put_10 : decode cX1_put 10 = .ok (.if_icmp .lt 4, 3) := by decide +kernel
theorem dX1_put_13 : decode cX1_put 13 = .ok (.return_, 1) := by decide +kernel
theorem dX1_put_14 : decode cX1_put 14 = .ok (.aload_n 0, 1) := by decide +kernel
theorem dX1_put_15 : decode cX1_put 15 = .ok (.getfield 15, 3) := by decide +kernel
theorem dX1_put_18 : decode cX1_put 18 = .ok (.iload_n 1, 1) := by decide +kernel
theorem dX1_put_19 : decode cX1_put 19 = .ok (.iaload, 1) := by decide +kernel
theorem dX1_put_20 : decode cX1_put 20 = .ok (.iconst (-1), 1) := by decide +kernel
theorem dX1_put_21 : decode cX1_put 21 = .ok (.if_icmp .ne 35, 3) := by decide +kernel
theorem dX1_put_24 : decode cX1_put 24 = .ok (.aload_n 0, 1) := by decide +kernel
theorem dX1_put_25 : decode cX1_put 25 = .ok (.getfield 15, 3) := by decide +kernel
theorem dX1_put_28 : decode cX1_put 28 = .ok (.iload_n 1, 1) := by decide +kernel
theorem dX1_put_29 : decode cX1_put 29 = .ok (.iload_n 2, 1) := by decide +kernel
theorem dX1_put_30 : decode cX1_put 30 = .ok (.iastore, 1) := by decide +kernel
theorem dX1_put_31 : decode cX1_put 31 = .ok (.aload_n 0, 1) := by decide +kernel
theorem dX1_put_32 : decode cX1_put 32 = .ok (.getfield 9, 3) := by decide +kernel
theorem dX1_put_35 : decode cX1_put 35 = .ok (.iload_n 1, 1) := by decide +kernel
theorem dX1_put_36 : decode cX1_put 36 = .ok (.iload 5, 2) := by decide +kernel
theorem dX1_put_38 : decode cX1_put 38 = .ok (.ifCond .eq 9, 3) := by decide +kernel
theorem dX1_put_41 : decode cX1_put 41 = .ok (.iload 5, 2) := by decide +kernel
theorem dX1_put_43 : decode cX1_put 43 = .ok (.iconst 1, 1) := by decide +kernel
theorem dX1_put_44 : decode cX1_put 44 = .ok (.if_icmp .ne 7, 3) := by decide +kernel
theorem dX1_put_47 : decode cX1_put 47 = .ok (.lload_n 3, 1) := by decide +kernel
theorem dX1_put_48 : decode cX1_put 48 = .ok (.goto 4, 3) := by decide +kernel
theorem dX1_put_51 : decode cX1_put 51 = .ok (.lconst 1, 1) := by decide +kernel
theorem dX1_put_52 : decode cX1_put 52 = .ok (.lastore, 1) := by decide +kernel
theorem dX1_put_53 : decode cX1_put 53 = .ok (.goto 52, 3) := by decide +kernel
theorem dX1_put_56 : decode cX1_put 56 = .ok (.iload 5, 2) := by decide +kernel
theorem dX1_put_58 : decode cX1_put 58 = .ok (.ifCond .ne 12, 3) := by decide +kernel
theorem dX1_put_61 : decode cX1_put 61 = .ok (.aload_n 0, 1) := by decide +kernel
theorem dX1_put_62 : decode cX1_put 62 = .ok (.iload_n 1, 1) := by decide +kernel
theorem dX1_put_63 : decode cX1_put 63 = .ok (.lload_n 3, 1) := by decide +kernel
theorem dX1_put_64 : decode cX1_put 64 = .ok (.invokevirtual 23, 3) := by decide +kernel
theorem dX1_put_67 : decode cX1_put 67 = .ok (.goto 38, 3) := by decide +kernel
theorem dX1_put_70 : decode cX1_put 70 = .ok (.iload 5, 2) := by decide +kernel
theorem dX1_put_72 : decode cX1_put 72 = .ok (.iconst 1, 1) := by decide +kernel
theorem dX1_put_73 : decode cX1_put 73 = .ok (.if_icmp .ne 22, 3) := by decide +kernel
theorem dX1_put_76 : decode cX1_put 76 = .ok (.aload_n 0, 1) := by decide +kernel
theorem dX1_put_77 : decode cX1_put 77 = .ok (.getfield 9, 3) := by decide +kernel
theorem dX1_put_80 : decode cX1_put 80 = .ok (.iload_n 1, 1) := by decide +kernel
theorem dX1_put_81 : decode cX1_put 81 = .ok (.aload_n 0, 1) := by decide +kernel
theorem dX1_put_82 : decode cX1_put 82 = .ok (.getfield 9, 3) := by decide +kernel
theorem dX1_put_85 : decode cX1_put 85 = .ok (.iload_n 1, 1) := by decide +kernel
theorem dX1_put_86 : decode cX1_put 86 = .ok (.laload, 1) := by decide +kernel
theorem dX1_put_87 : decode cX1_put 87 = .ok (.lload_n 3, 1) := by decide +kernel
theorem dX1_put_88 : decode cX1_put 88 = .ok (.invokestatic 27, 3) := by decide +kernel
theorem dX1_put_91 : decode cX1_put 91 = .ok (.lastore, 1) := by decide +kernel
theorem dX1_put_92 : decode cX1_put 92 = .ok (.goto 13, 3) := by decide +kernel
theorem dX1_put_95 : decode cX1_put 95 = .ok (.aload_n 0, 1) := by decide +kernel
theorem dX1_put_96 : decode cX1_put 96 = .ok (.getfield 9, 3) := by decide +kernel
theorem dX1_put_99 : decode cX1_put 99 = .ok (.iload_n 1, 1) := by decide +kernel
theorem dX1_put_100 : decode cX1_put 100 = .ok (.dup2, 1) := by decide +kernel
theorem dX1_put_101 : decode cX1_put 101 = .ok (.laload, 1) := by decide +kernel
theorem dX1_put_102 : decode cX1_put 102 = .ok (.lconst 1, 1) := by decide +kernel
theorem dX1_put_103 : decode cX1_put 103 = .ok (.ladd, 1) := by decide +kernel
theorem dX1_put_104 : decode cX1_put 104 = .ok (.lastore, 1) := by decide +kernel
theorem dX1_put_105 : decode cX1_put 105 = .ok (.return_, 1) := by decide +kernel
theorem q15_0 : pm_V d 15 0 [l0, .int xi, l2, l3, l4, l5] st S Q = pm_V d 15 1 [l0, .int xi, l2, l3, l4, l5] (.int xi :: st) S Q := pv_iload_n (pm_cdi rfl dX1_put_0) rfl
theorem q15_1 : pm_V d 15 1 [l0, l1, l2, l3, l4, l5] (.int xi :: st) S Q = if xi < 0 then pm_V d 15 13 [l0, l1, l2, l3, l4, l5] st S Q else pm_V d 15 4 [l0, l1, l2, l3, l4, l5] st S Q := pv_if_lt (pm_cdi rfl dX1_put_1) rfl
theorem q15_4 : pm_V d 15 4 [l0, .int xi, l2, l3, l4, l5] st S Q = pm_V d 15 5 [l0, .int xi, l2, l3, l4, l5] (.int xi :: st) S Q := pv_iload_n (pm_cdi rfl dX1_put_4) rfl
theorem q15_5 : pm_V d 15 5 [.ref xn, l1, l2, l3, l4, l5] st S Q = pm_V d 15 6 [.ref xn, l1, l2, l3, l4, l5] (.ref xn :: st) S Q := pv_aload_n (pm_cdi rfl dX1_put_5) rfl
theorem q15_6 (hs : pm_sh S an = .inr 1) : pm_V d 15 6 [l0, l1, l2, l3, l4, l5] (.ref an :: st) S Q = pm_V d 15 9 [l0, l1, l2, l3, l4, l5] (va_rf (pm_gr S an 1) :: st) S Q := pv_getA (pm_cdi rfl dX1_put_6) (by decide +kernel) (by decide +kernel) (by decide +kernel) hs
theorem q15_9 (hs : (pm_al S an).isSome = true) : pm_V d 15 9 [l0, l1, l2, l3, l4, l5] (.ref an :: st) S Q = pm_V d 15 10 [l0, l1, l2, l3, l4, l5] (.int (nI ((pm_al S an).getD 0)) :: st) S Q := pv_alen (pm_cdi rfl dX1_put_9) hs
theorem q15_10 : pm_V d 15 10 [l0, l1, l2, l3, l4, l5] (.int yi :: .int xi :: st) S Q = if xi < yi then pm_V d 15 14 [l0, l1, l2, l3, l4, l5] st S Q else pm_V d 15 13 [l0, l1, l2, l3, l4, l5] st S Q := pv_icmp_lt (pm_cdi rfl dX1_put_10) rfl
theorem q15_13 : pm_V d 15 13 [l0, l1, l2, l3, l4, l5] [] S Q = Q none S := pv_rV (pm_cdi rfl dX1_put_13) (by decide +kernel)
theorem q15_14 : pm_V d 15 14 [.ref xn, l1, l2, l3, l4, l5] st S Q = pm_V d 15 15 [.ref xn, l1, l2, l3, l4, l5] (.ref xn :: st) S Q := pv_aload_n (pm_cdi rfl dX1_put_14) rfl
theorem q15_15 (hs : pm_sh S an = .inr 1) : pm_V d 15 15 [l0, l1, l2, l3, l4, l5] (.ref an :: st) S Q = pm_V d 15 18 [l0, l1, l2, l3, l4, l5] (va_rf (pm_gr S an 1) :: st) S Q := pv_getA (pm_cdi rfl dX1_put_15) (by decide +kernel) (by decide +kernel) (by decide +kernel) hs
theorem q15_18 : pm_V d 15 18 [l0, .int xi, l2, l3, l4, l5] st S Q = pm_V d 15 19 [l0, .int xi, l2, l3, l4, l5] (.int xi :: st) S Q := pv_iload_n (pm_cdi rfl dX1_put_18) rfl
theorem q15_19 (hs : pm_ar S an 0 xi = true) : pm_V d 15 19 [l0, l1, l2, l3, l4, l5] (.int xi :: .ref an :: st) S Q = pm_V d 15 20 [l0, l1, l2, l3, l4, l5] (.int (pm_zi S an xi.toNatClampNeg) :: st) S Q := pv_iald (pm_cdi rfl dX1_put_19) hs
theorem q15_20 : pm_V d 15 20 [l0, l1, l2, l3, l4, l5] st S Q = pm_V d 15 21 [l0, l1, l2, l3, l4, l5] (.int (-1) :: st) S Q := pv_iconst (pm_cdi rfl dX1_put_20) (by decide +kernel)
theorem q15_21 : pm_V d 15 21 [l0, l1, l2, l3, l4, l5] (.int yi :: .int xi :: st) S Q = if xi = yi then pm_V d 15 24 [l0, l1, l2, l3, l4, l5] st S Q else pm_V d 15 56 [l0, l1, l2, l3, l4, l5] st S Q := pv_icmp_ne (pm_cdi rfl dX1_put_21) rfl
theorem q15_24 : pm_V d 15 24 [.ref xn, l1, l2, l3, l4, l5] st S Q = pm_V d 15 25 [.ref xn, l1, l2, l3, l4, l5] (.ref xn :: st) S Q := pv_aload_n (pm_cdi rfl dX1_put_24) rfl
theorem q15_25 (hs : pm_sh S an = .inr 1) : pm_V d 15 25 [l0, l1, l2, l3, l4, l5] (.ref an :: st) S Q = pm_V d 15 28 [l0, l1, l2, l3, l4, l5] (va_rf (pm_gr S an 1) :: st) S Q := pv_getA (pm_cdi rfl dX1_put_25) (by decide +kernel) (by decide +kernel) (by decide +kernel) hs
theorem q15_28 : pm_V d 15 28 [l0, .int xi, l2, l3, l4, l5] st S Q = pm_V d 15 29 [l0, .int xi, l2, l3, l4, l5] (.int xi :: st) S Q := pv_iload_n (pm_cdi rfl dX1_put_28) rfl
theorem q15_29 : pm_V d 15 29 [l0, l1, .int xi, l3, l4, l5] st S Q = pm_V d 15 30 [l0, l1, .int xi, l3, l4, l5] (.int xi :: st) S Q := pv_iload_n (pm_cdi rfl dX1_put_29) rfl
theorem q15_30 (hs : pm_ar S an 0 xi = true) : pm_V d 15 30 [l0, l1, l2, l3, l4, l5] (.int vi :: .int xi :: .ref an :: st) S Q = pm_V d 15 31 [l0, l1, l2, l3, l4, l5] st (pm_szi S an xi.toNatClampNeg vi) Q := pv_iast (pm_cdi rfl dX1_put_30) hs
theorem q15_31 : pm_V d 15 31 [.ref xn, l1, l2, l3, l4, l5] st S Q = pm_V d 15 32 [.ref xn, l1, l2, l3, l4, l5] (.ref xn :: st) S Q := pv_aload_n (pm_cdi rfl dX1_put_31) rfl
theorem q15_32 (hs : pm_sh S an = .inr 1) : pm_V d 15 32 [l0, l1, l2, l3, l4, l5] (.ref an :: st) S Q = pm_V d 15 35 [l0, l1, l2, l3, l4, l5] (va_rf (pm_gr S an 0) :: st) S Q := pv_getA (pm_cdi rfl dX1_put_32) (by decide +kernel) (by decide +kernel) (by decide +kernel) hs
theorem q15_35 : pm_V d 15 35 [l0, .int xi, l2, l3, l4, l5] st S Q = pm_V d 15 36 [l0, .int xi, l2, l3, l4, l5] (.int xi :: st) S Q := pv_iload_n (pm_cdi rfl dX1_put_35) rfl
theorem q15_36 : pm_V d 15 36 [l0, l1, l2, l3, l4, .int xi] st S Q = pm_V d 15 38 [l0, l1, l2, l3, l4, .int xi] (.int xi :: st) S Q := pv_iload (pm_cdi rfl dX1_put_36) rfl
theorem q15_38 : pm_V d 15 38 [l0, l1, l2, l3, l4, l5] (.int xi :: st) S Q = if xi = 0 then pm_V d 15 47 [l0, l1, l2, l3, l4, l5] st S Q else pm_V d 15 41 [l0, l1, l2, l3, l4, l5] st S Q := pv_if_eq (pm_cdi rfl dX1_put_38) rfl
theorem q15_41 : pm_V d 15 41 [l0, l1, l2, l3, l4, .int xi] st S Q = pm_V d 15 43 [l0, l1, l2, l3, l4, .int xi] (.int xi :: st) S Q := pv_iload (pm_cdi rfl dX1_put_41) rfl
theorem q15_43 : pm_V d 15 43 [l0, l1, l2, l3, l4, l5] st S Q = pm_V d 15 44 [l0, l1, l2, l3, l4, l5] (.int 1 :: st) S Q := pv_iconst (pm_cdi rfl dX1_put_43) (by decide +kernel)
theorem q15_44 : pm_V d 15 44 [l0, l1, l2, l3, l4, l5] (.int yi :: .int xi :: st) S Q = if xi = yi then pm_V d 15 47 [l0, l1, l2, l3, l4, l5] st S Q else pm_V d 15 51 [l0, l1, l2, l3, l4, l5] st S Q := pv_icmp_ne (pm_cdi rfl dX1_put_44) rfl
theorem q15_47 : pm_V d 15 47 [l0, l1, l2, .long xj, l4, l5] st S Q = pm_V d 15 48 [l0, l1, l2, .long xj, l4, l5] (.long xj :: st) S Q := pv_lload_n (pm_cdi rfl dX1_put_47) rfl
theorem q15_48 : pm_V d 15 48 [l0, l1, l2, l3, l4, l5] st S Q = pm_V d 15 52 [l0, l1, l2, l3, l4, l5] st S Q := pv_goto (pm_cdi rfl dX1_put_48) rfl
theorem q15_51 : pm_V d 15 51 [l0, l1, l2, l3, l4, l5] st S Q = pm_V d 15 52 [l0, l1, l2, l3, l4, l5] (.long 1 :: st) S Q := pv_lconst (pm_cdi rfl dX1_put_51) (by decide +kernel)
theorem q15_52 (hs : pm_ar S an 1 xi = true) : pm_V d 15 52 [l0, l1, l2, l3, l4, l5] (.long vj :: .int xi :: .ref an :: st) S Q = pm_V d 15 53 [l0, l1, l2, l3, l4, l5] st (pm_szl S an xi.toNatClampNeg vj) Q := pv_last (pm_cdi rfl dX1_put_52) hs
theorem q15_53 : pm_V d 15 53 [l0, l1, l2, l3, l4, l5] st S Q = pm_V d 15 105 [l0, l1, l2, l3, l4, l5] st S Q := pv_goto (pm_cdi rfl dX1_put_53) rfl
theorem q15_56 : pm_V d 15 56 [l0, l1, l2, l3, l4, .int xi] st S Q = pm_V d 15 58 [l0, l1, l2, l3, l4, .int xi] (.int xi :: st) S Q := pv_iload (pm_cdi rfl dX1_put_56) rfl
theorem q15_58 : pm_V d 15 58 [l0, l1, l2, l3, l4, l5] (.int xi :: st) S Q = if xi = 0 then pm_V d 15 61 [l0, l1, l2, l3, l4, l5] st S Q else pm_V d 15 70 [l0, l1, l2, l3, l4, l5] st S Q := pv_if_ne (pm_cdi rfl dX1_put_58) rfl
theorem q15_61 : pm_V d 15 61 [.ref xn, l1, l2, l3, l4, l5] st S Q = pm_V d 15 62 [.ref xn, l1, l2, l3, l4, l5] (.ref xn :: st) S Q := pv_aload_n (pm_cdi rfl dX1_put_61) rfl
theorem q15_62 : pm_V d 15 62 [l0, .int xi, l2, l3, l4, l5] st S Q = pm_V d 15 63 [l0, .int xi, l2, l3, l4, l5] (.int xi :: st) S Q := pv_iload_n (pm_cdi rfl dX1_put_62) rfl
theorem q15_63 : pm_V d 15 63 [l0, l1, l2, .long xj, l4, l5] st S Q = pm_V d 15 64 [l0, l1, l2, .long xj, l4, l5] (.long xj :: st) S Q := pv_lload_n (pm_cdi rfl dX1_put_63) rfl
theorem q15_64 (hs : pm_sh S an = .inr 1) : pm_V (d + 1) 15 64 [l0, l1, l2, l3, l4, l5] [.long v1j, .int v0i, .ref an] S Q = pm_N d 16 [.ref an, .int v0i, .long v1j] S (fun r S' => pm_V (d + 1) 15 67 [l0, l1, l2, l3, l4, l5] (r.toList ++ []) S' Q) := pv_callV (as := [.int v0i, .long v1j]) (pm_cdi rfl dX1_put_64) (Or.inl (by decide +kernel)) (by decide +kernel) (show _ = _ from (by decide +kernel : 2 = pm_np 16)) rfl (Nat.le_of_ble_eq_true rfl) (cl := 1) (by decide +kernel) hs
theorem q15_67 : pm_V d 15 67 [l0, l1, l2, l3, l4, l5] st S Q = pm_V d 15 105 [l0, l1, l2, l3, l4, l5] st S Q := pv_goto (pm_cdi rfl dX1_put_67) rfl
theorem q15_70 : pm_V d 15 70 [l0, l1, l2, l3, l4, .int xi] st S Q = pm_V d 15 72 [l0, l1, l2, l3, l4, .int xi] (.int xi :: st) S Q := pv_iload (pm_cdi rfl dX1_put_70) rfl
theorem q15_72 : pm_V d 15 72 [l0, l1, l2, l3, l4, l5] st S Q = pm_V d 15 73 [l0, l1, l2, l3, l4, l5] (.int 1 :: st) S Q := pv_iconst (pm_cdi rfl dX1_put_72) (by decide +kernel)
theorem q15_73 : pm_V d 15 73 [l0, l1, l2, l3, l4, l5] (.int yi :: .int xi :: st) S Q = if xi = yi then pm_V d 15 76 [l0, l1, l2, l3, l4, l5] st S Q else pm_V d 15 95 [l0, l1, l2, l3, l4, l5] st S Q := pv_icmp_ne (pm_cdi rfl dX1_put_73) rfl
theorem q15_76 : pm_V d 15 76 [.ref xn, l1, l2, l3, l4, l5] st S Q = pm_V d 15 77 [.ref xn, l1, l2, l3, l4, l5] (.ref xn :: st) S Q := pv_aload_n (pm_cdi rfl dX1_put_76) rfl
theorem q15_77 (hs : pm_sh S an = .inr 1) : pm_V d 15 77 [l0, l1, l2, l3, l4, l5] (.ref an :: st) S Q = pm_V d 15 80 [l0, l1, l2, l3, l4, l5] (va_rf (pm_gr S an 0) :: st) S Q := pv_getA (pm_cdi rfl dX1_put_77) (by decide +kernel) (by decide +kernel) (by decide +kernel) hs
theorem q15_80 : pm_V d 15 80 [l0, .int xi, l2, l3, l4, l5] st S Q = pm_V d 15 81 [l0, .int xi, l2, l3, l4, l5] (.int xi :: st) S Q := pv_iload_n (pm_cdi rfl dX1_put_80) rfl
theorem q15_81 : pm_V d 15 81 [.ref xn, l1, l2, l3, l4, l5] st S Q = pm_V d 15 82 [.ref xn, l1, l2, l3, l4, l5] (.ref xn :: st) S Q := pv_aload_n (pm_cdi rfl dX1_put_81) rfl
theorem q15_82 (hs : pm_sh S an = .inr 1) : pm_V d 15 82 [l0, l1, l2, l3, l4, l5] (.ref an :: st) S Q = pm_V d 15 85 [l0, l1, l2, l3, l4, l5] (va_rf (pm_gr S an 0) :: st) S Q := pv_getA (pm_cdi rfl dX1_put_82) (by decide +kernel) (by decide +kernel) (by decide +kernel) hs
theorem q15_85 : pm_V d 15 85 [l0, .int xi, l2, l3, l4, l5] st S Q = pm_V d 15 86 [l0, .int xi, l2, l3, l4, l5] (.int xi :: st) S Q := pv_iload_n (pm_cdi rfl dX1_put_85) rfl
theorem q15_86 (hs : pm_ar S an 1 xi = true) : pm_V d 15 86 [l0, l1, l2, l3, l4, l5] (.int xi :: .ref an :: st) S Q = pm_V d 15 87 [l0, l1, l2, l3, l4, l5] (.long (pm_zl S an xi.toNatClampNeg) :: st) S Q := pv_lald (pm_cdi rfl dX1_put_86) hs
theorem q15_87 : pm_V d 15 87 [l0, l1, l2, .long xj, l4, l5] st S Q = pm_V d 15 88 [l0, l1, l2, .long xj, l4, l5] (.long xj :: st) S Q := pv_lload_n (pm_cdi rfl dX1_put_87) rfl
theorem q15_88 : pm_V (d + 1) 15 88 [l0, l1, l2, l3, l4, l5] [.long v1j, .long v0j, .int r0i, .ref r1n] S Q = pm_N d 144 [.long v0j, .long v1j] S (fun r S' => pm_V (d + 1) 15 91 [l0, l1, l2, l3, l4, l5] (r.toList ++ [.int r0i, .ref r1n]) S' Q) := pv_callS (as := [.long v0j, .long v1j]) (pm_cdi rfl dX1_put_88) (by decide +kernel) (by decide +kernel) (show _ = _ from (by decide +kernel : 2 = pm_np 144)) rfl (Nat.le_of_ble_eq_true rfl)
theorem q15_91 (hs : pm_ar S an 1 xi = true) : pm_V d 15 91 [l0, l1, l2, l3, l4, l5] (.long vj :: .int xi :: .ref an :: st) S Q = pm_V d 15 92 [l0, l1, l2, l3, l4, l5] st (pm_szl S an xi.toNatClampNeg vj) Q := pv_last (pm_cdi rfl dX1_put_91) hs
theorem q15_92 : pm_V d 15 92 [l0, l1, l2, l3, l4, l5] st S Q = pm_V d 15 105 [l0, l1, l2, l3, l4, l5] st S Q := pv_goto (pm_cdi rfl dX1_put_92) rfl
theorem q15_95 : pm_V d 15 95 [.ref xn, l1, l2, l3, l4, l5] st S Q = pm_V d 15 96 [.ref xn, l1, l2, l3, l4, l5] (.ref xn :: st) S Q := pv_aload_n (pm_cdi rfl dX1_put_95) rfl
theorem q15_96 (hs : pm_sh S an = .inr 1) : pm_V d 15 96 [l0, l1, l2, l3, l4, l5] (.ref an :: st) S Q = pm_V d 15 99 [l0, l1, l2, l3, l4, l5] (va_rf (pm_gr S an 0) :: st) S Q := pv_getA (pm_cdi rfl dX1_put_96) (by decide +kernel) (by decide +kernel) (by decide +kernel) hs
theorem q15_99 : pm_V d 15 99 [l0, .int xi, l2, l3, l4, l5] st S Q = pm_V d 15 100 [l0, .int xi, l2, l3, l4, l5] (.int xi :: st) S Q := pv_iload_n (pm_cdi rfl dX1_put_99) rfl
theorem q15_100 : pm_V d 15 100 [l0, l1, l2, l3, l4, l5] (.int xi :: .ref an :: st) S Q = pm_V d 15 101 [l0, l1, l2, l3, l4, l5] (.int xi :: .ref an :: .int xi :: .ref an :: st) S Q := pv_dup2 (pm_cdi rfl dX1_put_100)
theorem q15_101 (hs : pm_ar S an 1 xi = true) : pm_V d 15 101 [l0, l1, l2, l3, l4, l5] (.int xi :: .ref an :: st) S Q = pm_V d 15 102 [l0, l1, l2, l3, l4, l5] (.long (pm_zl S an xi.toNatClampNeg) :: st) S Q := pv_lald (pm_cdi rfl dX1_put_101) hs
theorem q15_102 : pm_V d 15 102 [l0, l1, l2, l3, l4, l5] st S Q = pm_V d 15 103 [l0, l1, l2, l3, l4, l5] (.long 1 :: st) S Q := pv_lconst (pm_cdi rfl dX1_put_102) (by decide +kernel)
theorem q15_103 : pm_V d 15 103 [l0, l1, l2, l3, l4, l5] (.long yj :: .long xj :: st) S Q = pm_V d 15 104 [l0, l1, l2, l3, l4, l5] (.long (xj + yj) :: st) S Q := pv_ladd (pm_cdi rfl dX1_put_103)
theorem q15_104 (hs : pm_ar S an 1 xi = true) : pm_V d 15 104 [l0, l1, l2, l3, l4, l5] (.long vj :: .int xi :: .ref an :: st) S Q = pm_V d 15 105 [l0, l1, l2, l3, l4, l5] st (pm_szl S an xi.toNatClampNeg vj) Q := pv_last (pm_cdi rfl dX1_put_104) hs
theorem q15_105 : pm_V d 15 105 [l0, l1, l2, l3, l4, l5] [] S Q = Q none S := pv_rV (pm_cdi rfl dX1_put_105) (by decide +kernel)
theorem q15_e : pm_N d 15 [.ref an, .int v0i, .int v1i, .long v2j, .int v3i] S Q = pm_V d 15 0 [.ref an, .int v0i, .int v1i, .long v2j, pm_j, .int v3i] [] S Q := pv_ent (Nat.le_of_ble_eq_true rfl) rfl
/-! 16: ViewsJoins$Heaps.addTo(IJ)V -/
theorem dX1_addTo_0 : decode cX1_addTo 0 = .ok (.aload_n 0, 1) := by decide +kernel
theorem dX1_addTo_1 : decode cX1_addTo 1 = .ok (.getfield 9, 3) := by decide +kernel
theorem dX1_addTo_4 : decode cX1_addTo 4 = .ok (.iload_n 1, 1) := by decide +kernel
theorem dX1_addTo_5 : decode cX1_addTo 5 = .ok (.laload, 1) := by decide +kernel
theorem dX1_addTo_6 : decode cX1_addTo 6 = .ok (.lload_n 2, 1) := by decide +kernel
theorem dX1_addTo_7 : decode cX1_addTo 7 = .ok (.ladd, 1) := by decide +kernel
theorem dX1_addTo_8 : decode cX1_addTo 8 = .ok (.lstore 4, 2) := by decide +kernel
theorem dX1_addTo_10 : decode cX1_addTo 10 = .ok (.aload_n 0, 1) := by decide +kernel
theorem dX1_addTo_11 : decode cX1_addTo 11 = .ok (.getfield 9, 3) := by decide +kernel
theorem dX1_addTo_14 : decode cX1_addTo 14 = .ok (.iload_n 1, 1) := by decide +kernel
theorem dX1_addTo_15 : decode cX1_addTo 15 = .ok (.laload, 1) := by decide +kernel
theorem dX1_addTo_16 : decode cX1_addTo 16 = .ok (.lload 4, 2) := by decide +kernel
theorem dX1_addTo_18 : decode cX1_addTo 18 = .ok (.lxor, 1) := by decide +kernel
theorem dX1_addTo_19 : decode cX1_addTo 19 = .ok (.lload_n 2, 1) := by decide +kernel
theorem dX1_addTo_20 : decode cX1_addTo 20 = .ok (.lload 4, 2) := by decide +kernel
theorem dX1_addTo_22 : decode cX1_addTo 22 = .ok (.lxor, 1) := by decide +kernel
theorem dX1_addTo_23 : decode cX1_addTo 23 = .ok (.land, 1) := by decide +kernel
theorem dX1_addTo_24 : decode cX1_addTo 24 = .ok (.lconst 0, 1) := by decide +kernel
theorem dX1_addTo_25 : decode cX1_addTo 25 = .ok (.lcmp, 1) := by decide +kernel
theorem dX1_addTo_26 : decode cX1_addTo 26 = .ok (.ifCond .ge 8, 3) := by decide +kernel
theorem dX1_addTo_29 : decode cX1_addTo 29 = .ok (.aload_n 0, 1) := by decide +kernel
theorem dX1_addTo_30 : decode cX1_addTo 30 = .ok (.iconst 1, 1) := by decide +kernel
theorem dX1_addTo_31 : decode cX1_addTo 31 = .ok (.putfield 19, 3) := by decide +kernel
theorem dX1_addTo_34 : decode cX1_addTo 34 = .ok (.aload_n 0, 1) := by decide +kernel
theorem dX1_addTo_35 : decode cX1_addTo 35 = .ok (.getfield 9, 3) := by decide +kernel
theorem dX1_addTo_38 : decode cX1_addTo 38 = .ok (.iload_n 1, 1) := by decide +kernel
theorem dX1_addTo_39 : decode cX1_addTo 39 = .ok (.lload 4, 2) := by decide +kernel
theorem dX1_addTo_41 : decode cX1_addTo 41 = .ok (.lastore, 1) := by decide +kernel
theorem dX1_addTo_42 : decode cX1_addTo 42 = .ok (.return_, 1) := by decide +kernel
theorem q16_0 : pm_V d 16 0 [.ref xn, l1, l2, l3, l4, l5] st S Q = pm_V d 16 1 [.ref xn, l1, l2, l3, l4, l5] (.ref xn :: st) S Q := pv_aload_n (pm_cdi rfl dX1_addTo_0) rfl
theorem q16_1 (hs : pm_sh S an = .inr 1) : pm_V d 16 1 [l0, l1, l2, l3, l4, l5] (.ref an :: st) S Q = pm_V d 16 4 [l0, l1, l2, l3, l4, l5] (va_rf (pm_gr S an 0) :: st) S Q := pv_getA (pm_cdi rfl dX1_addTo_1) (by decide +kernel) (by decide +kernel) (by decide +kernel) hs
theorem q16_4 : pm_V d 16 4 [l0, .int xi, l2, l3, l4, l5] st S Q = pm_V d 16 5 [l0, .int xi, l2, l3, l4, l5] (.int xi :: st) S Q := pv_iload_n (pm_cdi rfl dX1_addTo_4) rfl
theorem q16_5 (hs : pm_ar S an 1 xi = true) : pm_V d 16 5 [l0, l1, l2, l3, l4, l5] (.int xi :: .ref an :: st) S Q = pm_V d 16 6 [l0, l1, l2, l3, l4, l5] (.long (pm_zl S an xi.toNatClampNeg) :: st) S Q := pv_lald (pm_cdi rfl dX1_addTo_5) hs
theorem q16_6 : pm_V d 16 6 [l0, l1, .long xj, l3, l4, l5] st S Q = pm_V d 16 7 [l0, l1, .long xj, l3, l4, l5] (.long xj :: st) S Q := pv_lload_n (pm_cdi rfl dX1_addTo_6) rfl
theorem q16_7 : pm_V d 16 7 [l0, l1, l2, l3, l4, l5] (.long yj :: .long xj :: st) S Q = pm_V d 16 8 [l0, l1, l2, l3, l4, l5] (.long (xj + yj) :: st) S Q := pv_ladd (pm_cdi rfl dX1_addTo_7)
theorem q16_8 : pm_V d 16 8 [l0, l1, l2, pm_j, l4, l5] (.long xj :: st) S Q = pm_V d 16 10 [l0, l1, l2, pm_j, .long xj, pm_j] st S Q := pv_lstore (pm_cdi rfl dX1_addTo_8) rfl
theorem q16_10 : pm_V d 16 10 [.ref xn, l1, l2, l3, l4, l5] st S Q = pm_V d 16 11 [.ref xn, l1, l2, l3, l4, l5] (.ref xn :: st) S Q := pv_aload_n (pm_cdi rfl dX1_addTo_10) rfl
theorem q16_11 (hs : pm_sh S an = .inr 1) : pm_V d 16 11 [l0, l1, l2, l3, l4, l5] (.ref an :: st) S Q = pm_V d 16 14 [l0, l1, l2, l3, l4, l5] (va_rf (pm_gr S an 0) :: st) S Q := pv_getA (pm_cdi rfl dX1_addTo_11) (by decide +kernel) (by decide +kernel) (by decide +kernel) hs
theorem q16_14 : pm_V d 16 14 [l0, .int xi, l2, l3, l4, l5] st S Q = pm_V d 16 15 [l0, .int xi, l2, l3, l4, l5] (.int xi :: st) S Q := pv_iload_n (pm_cdi rfl dX1_addTo_14) rfl
theorem q16_15 (hs : pm_ar S an 1 xi = true) : pm_V d 16 15 [l0, l1, l2, l3, l4, l5] (.int xi :: .ref an :: st) S Q = pm_V d 16 16 [l0, l1, l2, l3, l4, l5] (.long (pm_zl S an xi.toNatClampNeg) :: st) S Q := pv_lald (pm_cdi rfl dX1_addTo_15) hs
theorem q16_16 : pm_V d 16 16 [l0, l1, l2, l3, .long xj, l5] st S Q = pm_V d 16 18 [l0, l1, l2, l3, .long xj, l5] (.long xj :: st) S Q := pv_lload (pm_cdi rfl dX1_addTo_16) rfl
theorem q16_18 : pm_V d 16 18 [l0, l1, l2, l3, l4, l5] (.long yj :: .long xj :: st) S Q = pm_V d 16 19 [l0, l1, l2, l3, l4, l5] (.long (xj ^^^ yj) :: st) S Q := pv_lxor (pm_cdi rfl dX1_addTo_18)
theorem q16_19 : pm_V d 16 19 [l0, l1, .long xj, l3, l4, l5] st S Q = pm_V d 16 20 [l0, l1, .long xj, l3, l4, l5] (.long xj :: st) S Q := pv_lload_n (pm_cdi rfl dX1_addTo_19) rfl
theorem q16_20 : pm_V d 16 20 [l0, l1, l2, l3, .long xj, l5] st S Q = pm_V d 16 22 [l0, l1, l2, l3, .long xj, l5] (.long xj :: st) S Q := pv_lload (pm_cdi rfl dX1_addTo_20) rfl
theorem q16_22 : pm_V d 16 22 [l0, l1, l2, l3, l4, l5] (.long yj :: .long xj :: st) S Q = pm_V d 16 23 [l0, l1, l2, l3, l4, l5] (.long (xj ^^^ yj) :: st) S Q := pv_lxor (pm_cdi rfl dX1_addTo_22)
theorem q16_23 : pm_V d 16 23 [l0, l1, l2, l3, l4, l5] (.long yj :: .long xj :: st) S Q = pm_V d 16 24 [l0, l1, l2, l3, l4, l5] (.long (xj &&& yj) :: st) S Q := pv_land (pm_cdi rfl dX1_addTo_23)
theorem q16_24 : pm_V d 16 24 [l0, l1, l2, l3, l4, l5] st S Q = pm_V d 16 25 [l0, l1, l2, l3, l4, l5] (.long 0 :: st) S Q := pv_lconst (pm_cdi rfl dX1_addTo_24) (by decide +kernel)
theorem q16_25 : pm_V d 16 25 [l0, l1, l2, l3, l4, l5] (.long yj :: .long xj :: st) S Q = pm_V d 16 26 [l0, l1, l2, l3, l4, l5] (.int (lg_cmp xj yj) :: st) S Q := pv_lcmp (pm_cdi rfl dX1_addTo_25)
theorem q16_26 : pm_V d 16 26 [l0, l1, l2, l3, l4, l5] (.int xi :: st) S Q = if xi < 0 then pm_V d 16 29 [l0, l1, l2, l3, l4, l5] st S Q else pm_V d 16 34 [l0, l1, l2, l3, l4, l5] st S Q := pv_if_ge (pm_cdi rfl dX1_addTo_26) rfl
theorem q16_29 : pm_V d 16 29 [.ref xn, l1, l2, l3, l4, l5] st S Q = pm_V d 16 30 [.ref xn, l1, l2, l3, l4, l5] (.ref xn :: st) S Q := pv_aload_n (pm_cdi rfl dX1_addTo_29) rfl
theorem q16_30 : pm_V d 16 30 [l0, l1, l2, l3, l4, l5] st S Q = pm_V d 16 31 [l0, l1, l2, l3, l4, l5] (.int 1 :: st) S Q := pv_iconst (pm_cdi rfl dX1_addTo_30) (by decide +kernel)
theorem q16_31 (hs : pm_sh S an = .inr 1) (hx : xi = 0 ∨ xi = 1) : pm_V d 16 31 [l0, l1, l2, l3, l4, l5] (.int xi :: .ref an :: st) S Q = pm_V d 16 34 [l0, l1, l2, l3, l4, l5] st (pm_sgi S an 2 xi) Q := pv_putZ (pm_cdi rfl dX1_addTo_31) (by decide +kernel) (by decide +kernel) (by decide +kernel) hs hx
theorem q16_34 : pm_V d 16 34 [.ref xn, l1, l2, l3, l4, l5] st S Q = pm_V d 16 35 [.ref xn, l1, l2, l3, l4, l5] (.ref xn :: st) S Q := pv_aload_n (pm_cdi rfl dX1_addTo_34) rfl
theorem q16_35 (hs : pm_sh S an = .inr 1) : pm_V d 16 35 [l0, l1, l2, l3, l4, l5] (.ref an :: st) S Q = pm_V d 16 38 [l0, l1, l2, l3, l4, l5] (va_rf (pm_gr S an 0) :: st) S Q := pv_getA (pm_cdi rfl dX1_addTo_35) (by decide +kernel) (by decide +kernel) (by decide +kernel) hs
theorem q16_38 : pm_V d 16 38 [l0, .int xi, l2, l3, l4, l5] st S Q = pm_V d 16 39 [l0, .int xi, l2, l3, l4, l5] (.int xi :: st) S Q := pv_iload_n (pm_cdi rfl dX1_addTo_38) rfl
theorem q16_39 : pm_V d 16 39 [l0, l1, l2, l3, .long xj, l5] st S Q = pm_V d 16 41 [l0, l1, l2, l3, .long xj, l5] (.long xj :: st) S Q := pv_lload (pm_cdi rfl dX1_addTo_39) rfl
theorem q16_41 (hs : pm_ar S an 1 xi = true) : pm_V d 16 41 [l0, l1, l2, l3, l4, l5] (.long vj :: .int xi :: .ref an :: st) S Q = pm_V d 16 42 [l0, l1, l2, l3, l4, l5] st (pm_szl S an xi.toNatClampNeg vj) Q := pv_last (pm_cdi rfl dX1_addTo_41) hs
theorem q16_42 : pm_V d 16 42 [l0, l1, l2, l3, l4, l5] [] S Q = Q none S := pv_rV (pm_cdi rfl dX1_addTo_42) (by decide +kernel)
theorem q16_e : pm_N d 16 [.ref an, .int v0i, .long v1j] S Q = pm_V d 16 0 [.ref an, .int v0i, .long v1j, pm_j, pm_j, pm_j] [] S Q := pv_ent (Nat.le_of_ble_eq_true rfl) rfl
/-! 17: ViewsJoins$HiddenItems.<init>()V -/
theorem dX2_init_0 : decode cX2_init 0 = .ok (.aload_n 0, 1) := by decide +kernel
theorem dX2_init_1 : decode cX2_init 1 = .ok (.invokespecial 3, 3) := by decide +kernel
theorem dX2_init_4 : decode cX2_init 4 = .ok (.aload_n 0, 1) := by decide +kernel
theorem dX2_init_5 : decode cX2_init 5 = .ok (.bipush 8, 2) := by decide +kernel
theorem dX2_init_7 : decode cX2_init 7 = .ok (.newarray .int, 2) := by decide +kernel
theorem dX2_init_9 : decode cX2_init 9 = .ok (.putfield 9, 3) := by decide +kernel
theorem dX2_init_12 : decode cX2_init 12 = .ok (.aload_n 0, 1) := by decide +kernel
theorem dX2_init_13 : decode cX2_init 13 = .ok (.bipush 8, 2) := by decide +kernel
theorem dX2_init_15 : decode cX2_init 15 = .ok (.newarray .int, 2) := by decide +kernel
theorem dX2_init_17 : decode cX2_init 17 = .ok (.putfield 15, 3) := by decide +kernel
theorem dX2_init_20 : decode cX2_init 20 = .ok (.aload_n 0, 1) := by decide +kernel
theorem dX2_init_21 : decode cX2_init 21 = .ok (.bipush 8, 2) := by decide +kernel
theorem dX2_init_23 : decode cX2_init 23 = .ok (.newarray .int, 2) := by decide +kernel
theorem dX2_init_25 : decode cX2_init 25 = .ok (.putfield 18, 3) := by decide +kernel
theorem dX2_init_28 : decode cX2_init 28 = .ok (.aload_n 0, 1) := by decide +kernel
theorem dX2_init_29 : decode cX2_init 29 = .ok (.iconst 0, 1) := by decide +kernel
theorem dX2_init_30 : decode cX2_init 30 = .ok (.putfield 21, 3) := by decide +kernel
theorem dX2_init_33 : decode cX2_init 33 = .ok (.return_, 1) := by decide +kernel
theorem q17_0 : pm_V d 17 0 [.ref xn] st S Q = pm_V d 17 1 [.ref xn] (.ref xn :: st) S Q := pv_aload_n (pm_cdi rfl dX2_init_0) rfl
theorem q17_1 : pm_V d 17 1 [l0] [.ref an] S Q = pm_V d 17 4 [l0] [] S Q := pv_obj (pm_cdi rfl dX2_init_1) (by decide +kernel) (Nat.le_of_ble_eq_true rfl)
theorem q17_4 : pm_V d 17 4 [.ref xn] st S Q = pm_V d 17 5 [.ref xn] (.ref xn :: st) S Q := pv_aload_n (pm_cdi rfl dX2_init_4) rfl
theorem q17_5 : pm_V d 17 5 [l0] st S Q = pm_V d 17 7 [l0] (.int 8 :: st) S Q := pv_bipush (pm_cdi rfl dX2_init_5) (by decide +kernel)
theorem q17_7 (h : 0 ≤ xi ∧ xi.toNatClampNeg ≤ 60000) : pm_V d 17 7 [l0] (.int xi :: st) S Q = pm_V d 17 9 [l0] (.ref (pm_nx S) :: st) (pm_mka S 0 xi.toNatClampNeg) Q := pv_newI (pm_cdi rfl dX2_init_7) h
theorem q17_9 (hs : pm_sh S an = .inr 2) : pm_V d 17 9 [l0] (.ref xn :: .ref an :: st) S Q = pm_V d 17 12 [l0] st (pm_sgr S an 0 (some xn)) Q := pv_putA (pm_cdi rfl dX2_init_9) (by decide +kernel) (by decide +kernel) (by decide +kernel) hs
theorem q17_9N (hs : pm_sh S an = .inr 2) : pm_V d 17 9 [l0] (.null :: .ref an :: st) S Q = pm_V d 17 12 [l0] st (pm_sgr S an 0 none) Q := pv_putN (pm_cdi rfl dX2_init_9) (by decide +kernel) (by decide +kernel) (by decide +kernel) hs
theorem q17_12 : pm_V d 17 12 [.ref xn] st S Q = pm_V d 17 13 [.ref xn] (.ref xn :: st) S Q := pv_aload_n (pm_cdi rfl dX2_init_12) rfl
theorem q17_13 : pm_V d 17 13 [l0] st S Q = pm_V d 17 15 [l0] (.int 8 :: st) S Q := pv_bipush (pm_cdi rfl dX2_init_13) (by decide +kernel)
theorem q17_15 (h : 0 ≤ xi ∧ xi.toNatClampNeg ≤ 60000) : pm_V d 17 15 [l0] (.int xi :: st) S Q = pm_V d 17 17 [l0] (.ref (pm_nx S) :: st) (pm_mka S 0 xi.toNatClampNeg) Q := pv_newI (pm_cdi rfl dX2_init_15) h
theorem q17_17 (hs : pm_sh S an = .inr 2) : pm_V d 17 17 [l0] (.ref xn :: .ref an :: st) S Q = pm_V d 17 20 [l0] st (pm_sgr S an 1 (some xn)) Q := pv_putA (pm_cdi rfl dX2_init_17) (by decide +kernel) (by decide +kernel) (by decide +kernel) hs
theorem q17_17N (hs : pm_sh S an = .inr 2) : pm_V d 17 17 [l0] (.null :: .ref an :: st) S Q = pm_V d 17 20 [l0] st (pm_sgr S an 1 none) Q := pv_putN (pm_cdi rfl dX2_init_17) (by decide +kernel) (by decide +kernel) (by decide +kernel) hs
theorem q17_20 : pm_V d 17 20 [.ref xn] st S Q = pm_V d 17 21 [.ref xn] (.ref xn :: st) S Q := pv_aload_n (pm_cdi rfl dX2_init_20) rfl
theorem q17_21 : pm_V d 17 21 [l0] st S Q = pm_V d 17 23 [l0] (.int 8 :: st) S Q := pv_bipush (pm_cdi rfl dX2_init_21) (by decide +kernel)
theorem q17_23 (h : 0 ≤ xi ∧ xi.toNatClampNeg ≤ 60000) : pm_V d 17 23 [l0] (.int xi :: st) S Q = pm_V d 17 25 [l0] (.ref (pm_nx S) :: st) (pm_mka S 0 xi.toNatClampNeg) Q := pv_newI (pm_cdi rfl dX2_init_23) h
theorem q17_25 (hs : pm_sh S an = .inr 2) : pm_V d 17 25 [l0] (.ref xn :: .ref an :: st) S Q = pm_V d 17 28 [l0] st (pm_sgr S an 2 (some xn)) Q := pv_putA (pm_cdi rfl dX2_init_25) (by decide +kernel) (by decide +kernel) (by decide +kernel) hs
theorem q17_25N (hs : pm_sh S an = .inr 2) : pm_V d 17 25 [l0] (.null :: .ref an :: st) S Q = pm_V d 17 28 [l0] st (pm_sgr S an 2 none) Q := pv_putN (pm_cdi rfl dX2_init_25) (by decide +kernel) (by decide +kernel) (by decide +kernel) hs
theorem q17_28 : pm_V d 17 28 [.ref xn] st S Q = pm_V d 17 29 [.ref xn] (.ref xn :: st) S Q := pv_aload_n (pm_cdi rfl dX2_init_28) rfl
theorem q17_29 : pm_V d 17 29 [l0] st S Q = pm_V d 17 30 [l0] (.int 0 :: st) S Q := pv_iconst (pm_cdi rfl dX2_init_29) (by decide +kernel)
theorem q17_30 (hs : pm_sh S an = .inr 2) : pm_V d 17 30 [l0] (.int xi :: .ref an :: st) S Q = pm_V d 17 33 [l0] st (pm_sgi S an 3 xi) Q := pv_putI (pm_cdi rfl dX2_init_30) (by decide +kernel) (by decide +kernel) (by decide +kernel) hs
theorem q17_33 : pm_V d 17 33 [l0] [] S Q = Q none S := pv_rV (pm_cdi rfl dX2_init_33) (by decide +kernel)
theorem q17_e : pm_N d 17 [.ref an] S Q = pm_V d 17 0 [.ref an] [] S Q := pv_ent (Nat.le_of_ble_eq_true rfl) rfl
/-! 18: ViewsJoins$HiddenItems.add(III)V -/
theorem dX2_add_0 : decode cX2_add 0 = .ok (.aload_n 0, 1) := by decide +kernel
theorem dX2_add_1 : decode cX2_add 1 = .ok (.getfield 21, 3) := by decide +kernel
theorem dX2_add_4 : decode cX2_add 4 = .ok (.bipush 8, 2) := by decide +kernel
theorem dX2_add_6 : decode cX2_add 6 = .ok (.if_icmp .lt 4, 3) := by decide +kernel
theorem dX2_add_9 : decode cX2_add 9 = .ok (.return_, 1) := by decide +kernel
theorem dX2_add_10 : decode cX2_add 10 = .ok (.aload_n 0, 1) := by decide +kernel
theorem dX2_add_11 : decode cX2_add 11 = .ok (.getfield 9, 3) := by decide +kernel
theorem dX2_add_14 : decode cX2_add 14 = .ok (.aload_n 0, 1) := by decide +kernel
theorem dX2_add_15 : decode cX2_add 15 = .ok (.getfield 21, 3) := by decide +kernel
theorem dX2_add_18 : decode cX2_add 18 = .ok (.iload_n 1, 1) := by decide +kernel
theorem dX2_add_19 : decode cX2_add 19 = .ok (.iastore, 1) := by decide +kernel
theorem dX2_add_20 : decode cX2_add 20 = .ok (.aload_n 0, 1) := by decide +kernel
theorem dX2_add_21 : decode cX2_add 21 = .ok (.getfield 15, 3) := by decide +kernel
theorem dX2_add_24 : decode cX2_add 24 = .ok (.aload_n 0, 1) := by decide +kernel
theorem dX2_add_25 : decode cX2_add 25 = .ok (.getfield 21, 3) := by decide +kernel
theorem dX2_add_28 : decode cX2_add 28 = .ok (.iload_n 2, 1) := by decide +kernel
theorem dX2_add_29 : decode cX2_add 29 = .ok (.iastore, 1) := by decide +kernel
theorem dX2_add_30 : decode cX2_add 30 = .ok (.aload_n 0, 1) := by decide +kernel
theorem dX2_add_31 : decode cX2_add 31 = .ok (.getfield 18, 3) := by decide +kernel
theorem dX2_add_34 : decode cX2_add 34 = .ok (.aload_n 0, 1) := by decide +kernel
theorem dX2_add_35 : decode cX2_add 35 = .ok (.getfield 21, 3) := by decide +kernel
theorem dX2_add_38 : decode cX2_add 38 = .ok (.iload_n 3, 1) := by decide +kernel
theorem dX2_add_39 : decode cX2_add 39 = .ok (.iastore, 1) := by decide +kernel
theorem dX2_add_40 : decode cX2_add 40 = .ok (.aload_n 0, 1) := by decide +kernel
theorem dX2_add_41 : decode cX2_add 41 = .ok (.dup, 1) := by decide +kernel
theorem dX2_add_42 : decode cX2_add 42 = .ok (.getfield 21, 3) := by decide +kernel
theorem dX2_add_45 : decode cX2_add 45 = .ok (.iconst 1, 1) := by decide +kernel
theorem dX2_add_46 : decode cX2_add 46 = .ok (.iadd, 1) := by decide +kernel
theorem dX2_add_47 : decode cX2_add 47 = .ok (.putfield 21, 3) := by decide +kernel
theorem dX2_add_50 : decode cX2_add 50 = .ok (.return_, 1) := by decide +kernel
theorem q18_0 : pm_V d 18 0 [.ref xn, l1, l2, l3] st S Q = pm_V d 18 1 [.ref xn, l1, l2, l3] (.ref xn :: st) S Q := pv_aload_n (pm_cdi rfl dX2_add_0) rfl
theorem q18_1 (hs : pm_sh S an = .inr 2) : pm_V d 18 1 [l0, l1, l2, l3] (.ref an :: st) S Q = pm_V d 18 4 [l0, l1, l2, l3] (.int (pm_gi S an 3) :: st) S Q := pv_getI (pm_cdi rfl dX2_add_1) (by decide +kernel) (by decide +kernel) (by decide +kernel) hs
theorem q18_4 : pm_V d 18 4 [l0, l1, l2, l3] st S Q = pm_V d 18 6 [l0, l1, l2, l3] (.int 8 :: st) S Q := pv_bipush (pm_cdi rfl dX2_add_4) (by decide +kernel)
theorem q18_6 : pm_V d 18 6 [l0, l1, l2, l3] (.int yi :: .int xi :: st) S Q = if xi < yi then pm_V d 18 10 [l0, l1, l2, l3] st S Q else pm_V d 18 9 [l0, l1, l2, l3] st S Q := pv_icmp_lt (pm_cdi rfl dX2_add_6) rfl
theorem q18_9 : pm_V d 18 9 [l0, l1, l2, l3] [] S Q = Q none S := pv_rV (pm_cdi rfl dX2_add_9) (by decide +kernel)
theorem q18_10 : pm_V d 18 10 [.ref xn, l1, l2, l3] st S Q = pm_V d 18 11 [.ref xn, l1, l2, l3] (.ref xn :: st) S Q := pv_aload_n (pm_cdi rfl dX2_add_10) rfl
theorem q18_11 (hs : pm_sh S an = .inr 2) : pm_V d 18 11 [l0, l1, l2, l3] (.ref an :: st) S Q = pm_V d 18 14 [l0, l1, l2, l3] (va_rf (pm_gr S an 0) :: st) S Q := pv_getA (pm_cdi rfl dX2_add_11) (by decide +kernel) (by decide +kernel) (by decide +kernel) hs
theorem q18_14 : pm_V d 18 14 [.ref xn, l1, l2, l3] st S Q = pm_V d 18 15 [.ref xn, l1, l2, l3] (.ref xn :: st) S Q := pv_aload_n (pm_cdi rfl dX2_add_14) rfl
theorem q18_15 (hs : pm_sh S an = .inr 2) : pm_V d 18 15 [l0, l1, l2, l3] (.ref an :: st) S Q = pm_V d 18 18 [l0, l1, l2, l3] (.int (pm_gi S an 3) :: st) S Q := pv_getI (pm_cdi rfl dX2_add_15) (by decide +kernel) (by decide +kernel) (by decide +kernel) hs
theorem q18_18 : pm_V d 18 18 [l0, .int xi, l2, l3] st S Q = pm_V d 18 19 [l0, .int xi, l2, l3] (.int xi :: st) S Q := pv_iload_n (pm_cdi rfl dX2_add_18) rfl
theorem q18_19 (hs : pm_ar S an 0 xi = true) : pm_V d 18 19 [l0, l1, l2, l3] (.int vi :: .int xi :: .ref an :: st) S Q = pm_V d 18 20 [l0, l1, l2, l3] st (pm_szi S an xi.toNatClampNeg vi) Q := pv_iast (pm_cdi rfl dX2_add_19) hs
theorem q18_20 : pm_V d 18 20 [.ref xn, l1, l2, l3] st S Q = pm_V d 18 21 [.ref xn, l1, l2, l3] (.ref xn :: st) S Q := pv_aload_n (pm_cdi rfl dX2_add_20) rfl
theorem q18_21 (hs : pm_sh S an = .inr 2) : pm_V d 18 21 [l0, l1, l2, l3] (.ref an :: st) S Q = pm_V d 18 24 [l0, l1, l2, l3] (va_rf (pm_gr S an 1) :: st) S Q := pv_getA (pm_cdi rfl dX2_add_21) (by decide +kernel) (by decide +kernel) (by decide +kernel) hs
theorem q18_24 : pm_V d 18 24 [.ref xn, l1, l2, l3] st S Q = pm_V d 18 25 [.ref xn, l1, l2, l3] (.ref xn :: st) S Q := pv_aload_n (pm_cdi rfl dX2_add_24) rfl
theorem q18_25 (hs : pm_sh S an = .inr 2) : pm_V d 18 25 [l0, l1, l2, l3] (.ref an :: st) S Q = pm_V d 18 28 [l0, l1, l2, l3] (.int (pm_gi S an 3) :: st) S Q := pv_getI (pm_cdi rfl dX2_add_25) (by decide +kernel) (by decide +kernel) (by decide +kernel) hs
theorem q18_28 : pm_V d 18 28 [l0, l1, .int xi, l3] st S Q = pm_V d 18 29 [l0, l1, .int xi, l3] (.int xi :: st) S Q := pv_iload_n (pm_cdi rfl dX2_add_28) rfl
theorem q18_29 (hs : pm_ar S an 0 xi = true) : pm_V d 18 29 [l0, l1, l2, l3] (.int vi :: .int xi :: .ref an :: st) S Q = pm_V d 18 30 [l0, l1, l2, l3] st (pm_szi S an xi.toNatClampNeg vi) Q := pv_iast (pm_cdi rfl dX2_add_29) hs
theorem q18_30 : pm_V d 18 30 [.ref xn, l1, l2, l3] st S Q = pm_V d 18 31 [.ref xn, l1, l2, l3] (.ref xn :: st) S Q := pv_aload_n (pm_cdi rfl dX2_add_30) rfl
theorem q18_31 (hs : pm_sh S an = .inr 2) : pm_V d 18 31 [l0, l1, l2, l3] (.ref an :: st) S Q = pm_V d 18 34 [l0, l1, l2, l3] (va_rf (pm_gr S an 2) :: st) S Q := pv_getA (pm_cdi rfl dX2_add_31) (by decide +kernel) (by decide +kernel) (by decide +kernel) hs
theorem q18_34 : pm_V d 18 34 [.ref xn, l1, l2, l3] st S Q = pm_V d 18 35 [.ref xn, l1, l2, l3] (.ref xn :: st) S Q := pv_aload_n (pm_cdi rfl dX2_add_34) rfl
theorem q18_35 (hs : pm_sh S an = .inr 2) : pm_V d 18 35 [l0, l1, l2, l3] (.ref an :: st) S Q = pm_V d 18 38 [l0, l1, l2, l3] (.int (pm_gi S an 3) :: st) S Q := pv_getI (pm_cdi rfl dX2_add_35) (by decide +kernel) (by decide +kernel) (by decide +kernel) hs
theorem q18_38 : pm_V d 18 38 [l0, l1, l2, .int xi] st S Q = pm_V d 18 39 [l0, l1, l2, .int xi] (.int xi :: st) S Q := pv_iload_n (pm_cdi rfl dX2_add_38) rfl
theorem q18_39 (hs : pm_ar S an 0 xi = true) : pm_V d 18 39 [l0, l1, l2, l3] (.int vi :: .int xi :: .ref an :: st) S Q = pm_V d 18 40 [l0, l1, l2, l3] st (pm_szi S an xi.toNatClampNeg vi) Q := pv_iast (pm_cdi rfl dX2_add_39) hs
theorem q18_40 : pm_V d 18 40 [.ref xn, l1, l2, l3] st S Q = pm_V d 18 41 [.ref xn, l1, l2, l3] (.ref xn :: st) S Q := pv_aload_n (pm_cdi rfl dX2_add_40) rfl
theorem q18_41 : pm_V d 18 41 [l0, l1, l2, l3] (.ref xn :: st) S Q = pm_V d 18 42 [l0, l1, l2, l3] (.ref xn :: .ref xn :: st) S Q := pv_dupA (pm_cdi rfl dX2_add_41)
theorem q18_42 (hs : pm_sh S an = .inr 2) : pm_V d 18 42 [l0, l1, l2, l3] (.ref an :: st) S Q = pm_V d 18 45 [l0, l1, l2, l3] (.int (pm_gi S an 3) :: st) S Q := pv_getI (pm_cdi rfl dX2_add_42) (by decide +kernel) (by decide +kernel) (by decide +kernel) hs
theorem q18_45 : pm_V d 18 45 [l0, l1, l2, l3] st S Q = pm_V d 18 46 [l0, l1, l2, l3] (.int 1 :: st) S Q := pv_iconst (pm_cdi rfl dX2_add_45) (by decide +kernel)
theorem q18_46 : pm_V d 18 46 [l0, l1, l2, l3] (.int yi :: .int xi :: st) S Q = pm_V d 18 47 [l0, l1, l2, l3] (.int (xi + yi) :: st) S Q := pv_iadd (pm_cdi rfl dX2_add_46)
theorem q18_47 (hs : pm_sh S an = .inr 2) : pm_V d 18 47 [l0, l1, l2, l3] (.int xi :: .ref an :: st) S Q = pm_V d 18 50 [l0, l1, l2, l3] st (pm_sgi S an 3 xi) Q := pv_putI (pm_cdi rfl dX2_add_47) (by decide +kernel) (by decide +kernel) (by decide +kernel) hs
theorem q18_50 : pm_V d 18 50 [l0, l1, l2, l3] [] S Q = Q none S := pv_rV (pm_cdi rfl dX2_add_50) (by decide +kernel)
theorem q18_e : pm_N d 18 [.ref an, .int v0i, .int v1i, .int v2i] S Q = pm_V d 18 0 [.ref an, .int v0i, .int v1i, .int v2i] [] S Q := pv_ent (Nat.le_of_ble_eq_true rfl) rfl
/-! 19: ViewsJoins$Items.<init>(I)V -/
theorem dX3_init_0 : decode cX3_init 0 = .ok (.aload_n 0, 1) := by decide +kernel
theorem dX3_init_1 : decode cX3_init 1 = .ok (.invokespecial 3, 3) := by decide +kernel
theorem dX3_init_4 : decode cX3_init 4 = .ok (.iload_n 1, 1) := by decide +kernel
theorem dX3_init_5 : decode cX3_init 5 = .ok (.iconst 0, 1) := by decide +kernel
theorem dX3_init_6 : decode cX3_init 6 = .ok (.invokestatic 9, 3) := by decide +kernel
theorem dX3_init_9 : decode cX3_init 9 = .ok (.istore_n 2, 1) := by decide +kernel
theorem dX3_init_10 : decode cX3_init 10 = .ok (.aload_n 0, 1) := by decide +kernel
theorem dX3_init_11 : decode cX3_init 11 = .ok (.iload_n 2, 1) := by decide +kernel
theorem dX3_init_12 : decode cX3_init 12 = .ok (.newarray .long, 2) := by decide +kernel
theorem dX3_init_14 : decode cX3_init 14 = .ok (.putfield 15, 3) := by decide +kernel
theorem dX3_init_17 : decode cX3_init 17 = .ok (.aload_n 0, 1) := by decide +kernel
theorem dX3_init_18 : decode cX3_init 18 = .ok (.iload_n 2, 1) := by decide +kernel
theorem dX3_init_19 : decode cX3_init 19 = .ok (.newarray .int, 2) := by decide +kernel
theorem dX3_init_21 : decode cX3_init 21 = .ok (.putfield 21, 3) := by decide +kernel
theorem dX3_init_24 : decode cX3_init 24 = .ok (.aload_n 0, 1) := by decide +kernel
theorem dX3_init_25 : decode cX3_init 25 = .ok (.iload_n 2, 1) := by decide +kernel
theorem dX3_init_26 : decode cX3_init 26 = .ok (.newarray .int, 2) := by decide +kernel
theorem dX3_init_28 : decode cX3_init 28 = .ok (.putfield 25, 3) := by decide +kernel
theorem dX3_init_31 : decode cX3_init 31 = .ok (.aload_n 0, 1) := by decide +kernel
theorem dX3_init_32 : decode cX3_init 32 = .ok (.iconst 0, 1) := by decide +kernel
theorem dX3_init_33 : decode cX3_init 33 = .ok (.putfield 28, 3) := by decide +kernel
theorem dX3_init_36 : decode cX3_init 36 = .ok (.return_, 1) := by decide +kernel
theorem q19_0 : pm_V d 19 0 [.ref xn, l1, l2] st S Q = pm_V d 19 1 [.ref xn, l1, l2] (.ref xn :: st) S Q := pv_aload_n (pm_cdi rfl dX3_init_0) rfl
theorem q19_1 : pm_V d 19 1 [l0, l1, l2] [.ref an] S Q = pm_V d 19 4 [l0, l1, l2] [] S Q := pv_obj (pm_cdi rfl dX3_init_1) (by decide +kernel) (Nat.le_of_ble_eq_true rfl)
theorem q19_4 : pm_V d 19 4 [l0, .int xi, l2] st S Q = pm_V d 19 5 [l0, .int xi, l2] (.int xi :: st) S Q := pv_iload_n (pm_cdi rfl dX3_init_4) rfl
theorem q19_5 : pm_V d 19 5 [l0, l1, l2] st S Q = pm_V d 19 6 [l0, l1, l2] (.int 0 :: st) S Q := pv_iconst (pm_cdi rfl dX3_init_5) (by decide +kernel)
theorem q19_6 : pm_V (d + 1) 19 6 [l0, l1, l2] [.int v1i, .int v0i] S Q = pm_N d 143 [.int v0i, .int v1i] S (fun r S' => pm_V (d + 1) 19 9 [l0, l1, l2] (r.toList ++ []) S' Q) := pv_callS (as := [.int v0i, .int v1i]) (pm_cdi rfl dX3_init_6) (by decide +kernel) (by decide +kernel) (show _ = _ from (by decide +kernel : 2 = pm_np 143)) rfl (Nat.le_of_ble_eq_true rfl)
theorem q19_9 : pm_V d 19 9 [l0, .int yi, l2] (.int xi :: st) S Q = pm_V d 19 10 [l0, .int yi, .int xi] st S Q := pv_istore_n (pm_cdi rfl dX3_init_9) rfl
theorem q19_10 : pm_V d 19 10 [.ref xn, l1, l2] st S Q = pm_V d 19 11 [.ref xn, l1, l2] (.ref xn :: st) S Q := pv_aload_n (pm_cdi rfl dX3_init_10) rfl
theorem q19_11 : pm_V d 19 11 [l0, l1, .int xi] st S Q = pm_V d 19 12 [l0, l1, .int xi] (.int xi :: st) S Q := pv_iload_n (pm_cdi rfl dX3_init_11) rfl
theorem q19_12 (h : 0 ≤ xi ∧ xi.toNatClampNeg ≤ 60000) : pm_V d 19 12 [l0, l1, l2] (.int xi :: st) S Q = pm_V d 19 14 [l0, l1, l2] (.ref (pm_nx S) :: st) (pm_mka S 1 xi.toNatClampNeg) Q := pv_newL (pm_cdi rfl dX3_init_12) h
theorem q19_14 (hs : pm_sh S an = .inr 3) : pm_V d 19 14 [l0, l1, l2] (.ref xn :: .ref an :: st) S Q = pm_V d 19 17 [l0, l1, l2] st (pm_sgr S an 0 (some xn)) Q := pv_putA (pm_cdi rfl dX3_init_14) (by decide +kernel) (by decide +kernel) (by decide +kernel) hs
theorem q19_14N (hs : pm_sh S an = .inr 3) : pm_V d 19 14 [l0, l1, l2] (.null :: .ref an :: st) S Q = pm_V d 19 17 [l0, l1, l2] st (pm_sgr S an 0 none) Q := pv_putN (pm_cdi rfl dX3_init_14) (by decide +kernel) (by decide +kernel) (by decide +kernel) hs
theorem q19_17 : pm_V d 19 17 [.ref xn, l1, l2] st S Q = pm_V d 19 18 [.ref xn, l1, l2] (.ref xn :: st) S Q := pv_aload_n (pm_cdi rfl dX3_init_17) rfl
theorem q19_18 : pm_V d 19 18 [l0, l1, .int xi] st S Q = pm_V d 19 19 [l0, l1, .int xi] (.int xi :: st) S Q := pv_iload_n (pm_cdi rfl dX3_init_18) rfl
theorem q19_19 (h : 0 ≤ xi ∧ xi.toNatClampNeg ≤ 60000) : pm_V d 19 19 [l0, l1, l2] (.int xi :: st) S Q = pm_V d 19 21 [l0, l1, l2] (.ref (pm_nx S) :: st) (pm_mka S 0 xi.toNatClampNeg) Q := pv_newI (pm_cdi rfl dX3_init_19) h
theorem q19_21 (hs : pm_sh S an = .inr 3) : pm_V d 19 21 [l0, l1, l2] (.ref xn :: .ref an :: st) S Q = pm_V d 19 24 [l0, l1, l2] st (pm_sgr S an 1 (some xn)) Q := pv_putA (pm_cdi rfl dX3_init_21) (by decide +kernel) (by decide +kernel) (by decide +kernel) hs
theorem q19_21N (hs : pm_sh S an = .inr 3) : pm_V d 19 21 [l0, l1, l2] (.null :: .ref an :: st) S Q = pm_V d 19 24 [l0, l1, l2] st (pm_sgr S an 1 none) Q := pv_putN (pm_cdi rfl dX3_init_21) (by decide +kernel) (by decide +kernel) (by decide +kernel) hs
theorem q19_24 : pm_V d 19 24 [.ref xn, l1, l2] st S Q = pm_V d 19 25 [.ref xn, l1, l2] (.ref xn :: st) S Q := pv_aload_n (pm_cdi rfl dX3_init_24) rfl
theorem q19_25 : pm_V d 19 25 [l0, l1, .int xi] st S Q = pm_V d 19 26 [l0, l1, .int xi] (.int xi :: st) S Q := pv_iload_n (pm_cdi rfl dX3_init_25) rfl
theorem q19_26 (h : 0 ≤ xi ∧ xi.toNatClampNeg ≤ 60000) : pm_V d 19 26 [l0, l1, l2] (.int xi :: st) S Q = pm_V d 19 28 [l0, l1, l2] (.ref (pm_nx S) :: st) (pm_mka S 0 xi.toNatClampNeg) Q := pv_newI (pm_cdi rfl dX3_init_26) h
theorem q19_28 (hs : pm_sh S an = .inr 3) : pm_V d 19 28 [l0, l1, l2] (.ref xn :: .ref an :: st) S Q = pm_V d 19 31 [l0, l1, l2] st (pm_sgr S an 2 (some xn)) Q := pv_putA (pm_cdi rfl dX3_init_28) (by decide +kernel) (by decide +kernel) (by decide +kernel) hs
theorem q19_28N (hs : pm_sh S an = .inr 3) : pm_V d 19 28 [l0, l1, l2] (.null :: .ref an :: st) S Q = pm_V d 19 31 [l0, l1, l2] st (pm_sgr S an 2 none) Q := pv_putN (pm_cdi rfl dX3_init_28) (by decide +kernel) (by decide +kernel) (by decide +kernel) hs
theorem q19_31 : pm_V d 19 31 [.ref xn, l1, l2] st S Q = pm_V d 19 32 [.ref xn, l1, l2] (.ref xn :: st) S Q := pv_aload_n (pm_cdi rfl dX3_init_31) rfl
theorem q19_32 : pm_V d 19 32 [l0, l1, l2] st S Q = pm_V d 19 33 [l0, l1, l2] (.int 0 :: st) S Q := pv_iconst (pm_cdi rfl dX3_init_32) (by decide +kernel)
theorem q19_33 (hs : pm_sh S an = .inr 3) : pm_V d 19 33 [l0, l1, l2] (.int xi :: .ref an :: st) S Q = pm_V d 19 36 [l0, l1, l2] st (pm_sgi S an 3 xi) Q := pv_putI (pm_cdi rfl dX3_init_33) (by decide +kernel) (by decide +kernel) (by decide +kernel) hs
theorem q19_36 : pm_V d 19 36 [l0, l1, l2] [] S Q = Q none S := pv_rV (pm_cdi rfl dX3_init_36) (by decide +kernel)
theorem q19_e : pm_N d 19 [.ref an, .int v0i] S Q = pm_V d 19 0 [.ref an, .int v0i, pm_j] [] S Q := pv_ent (Nat.le_of_ble_eq_true rfl) rfl
/-! 20: ViewsJoins$Items.has(I)Z -/
theorem dX3_has_0 : decode cX3_has 0 = .ok (.iload_n 1, 1) := by decide +kernel
theorem dX3_has_1 : decode cX3_has 1 = .ok (.ifCond .lt 15, 3) := by decide +kernel
theorem dX3_has_4 : decode cX3_has 4 = .ok (.iload_n 1, 1) := by decide +kernel
theorem dX3_has_5 : decode cX3_has 5 = .ok (.aload_n 0, 1) := by decide +kernel
theorem dX3_has_6 : decode cX3_has 6 = .ok (.getfield 28, 3) := by decide +kernel
theorem dX3_has_9 : decode cX3_has 9 = .ok (.if_icmp .ge 7, 3) := by decide +kernel
theorem dX3_has_12 : decode cX3_has 12 = .ok (.iconst 1, 1) := by decide +kernel
theorem dX3_has_13 : decode cX3_has 13 = .ok (.goto 4, 3) := by decide +kernel
theorem dX3_has_16 : decode cX3_has 16 = .ok (.iconst 0, 1) := by decide +kernel
theorem dX3_has_17 : decode cX3_has 17 = .ok (.ireturn, 1) := by decide +kernel
theorem q20_0 : pm_V d 20 0 [l0, .int xi] st S Q = pm_V d 20 1 [l0, .int xi] (.int xi :: st) S Q := pv_iload_n (pm_cdi rfl dX3_has_0) rfl
theorem q20_1 : pm_V d 20 1 [l0, l1] (.int xi :: st) S Q = if xi < 0 then pm_V d 20 16 [l0, l1] st S Q else pm_V d 20 4 [l0, l1] st S Q := pv_if_lt (pm_cdi rfl dX3_has_1) rfl
theorem q20_4 : pm_V d 20 4 [l0, .int xi] st S Q = pm_V d 20 5 [l0, .int xi] (.int xi :: st) S Q := pv_iload_n (pm_cdi rfl dX3_has_4) rfl
theorem q20_5 : pm_V d 20 5 [.ref xn, l1] st S Q = pm_V d 20 6 [.ref xn, l1] (.ref xn :: st) S Q := pv_aload_n (pm_cdi rfl dX3_has_5) rfl
theorem q20_6 (hs : pm_sh S an = .inr 3) : pm_V d 20 6 [l0, l1] (.ref an :: st) S Q = pm_V d 20 9 [l0, l1] (.int (pm_gi S an 3) :: st) S Q := pv_getI (pm_cdi rfl dX3_has_6) (by decide +kernel) (by decide +kernel) (by decide +kernel) hs
theorem q20_9 : pm_V d 20 9 [l0, l1] (.int yi :: .int xi :: st) S Q = if xi < yi then pm_V d 20 12 [l0, l1] st S Q else pm_V d 20 16 [l0, l1] st S Q := pv_icmp_ge (pm_cdi rfl dX3_has_9) rfl
theorem q20_12 : pm_V d 20 12 [l0, l1] st S Q = pm_V d 20 13 [l0, l1] (.int 1 :: st) S Q := pv_iconst (pm_cdi rfl dX3_has_12) (by decide +kernel)
theorem q20_13 : pm_V d 20 13 [l0, l1] st S Q = pm_V d 20 17 [l0, l1] st S Q := pv_goto (pm_cdi rfl dX3_has_13) rfl
theorem q20_16 : pm_V d 20 16 [l0, l1] st S Q = pm_V d 20 17 [l0, l1] (.int 0 :: st) S Q := pv_iconst (pm_cdi rfl dX3_has_16) (by decide +kernel)
theorem q20_17 (hx : xi = 0 ∨ xi = 1) : pm_V d 20 17 [l0, l1] [.int xi] S Q = Q (some (.int xi)) S := pv_rZ (pm_cdi rfl dX3_has_17) (by decide +kernel) hx
theorem q20_e : pm_N d 20 [.ref an, .int v0i] S Q = pm_V d 20 0 [.ref an, .int v0i] [] S Q := pv_ent (Nat.le_of_ble_eq_true rfl) rfl
/-! 21: ViewsJoins$Items.add(JII)Z -/
theorem dX3_add_0 : decode cX3_add 0 = .ok (.aload_n 0, 1) := by decide +kernel
theorem dX3_add_1 : decode cX3_add 1 = .ok (.getfield 28, 3) := by decide +kernel
theorem dX3_add_4 : decode cX3_add 4 = .ok (.aload_n 0, 1) := by decide +kernel
theorem dX3_add_5 : decode cX3_add 5 = .ok (.getfield 15, 3) := by decide +kernel
theorem dX3_add_8 : decode cX3_add 8 = .ok (.arraylength, 1) := by decide +kernel
theorem dX3_add_9 : decode cX3_add 9 = .ok (.if_icmp .lt 5, 3) := by decide +kernel
theorem dX3_add_12 : decode cX3_add 12 = .ok (.iconst 0, 1) := by decide +kernel
theorem dX3_add_13 : decode cX3_add 13 = .ok (.ireturn, 1) := by decide +kernel
theorem dX3_add_14 : decode cX3_add 14 = .ok (.aload_n 0, 1) := by decide +kernel
theorem dX3_add_15 : decode cX3_add 15 = .ok (.getfield 15, 3) := by decide +kernel
theorem dX3_add_18 : decode cX3_add 18 = .ok (.aload_n 0, 1) := by decide +kernel
theorem dX3_add_19 : decode cX3_add 19 = .ok (.getfield 28, 3) := by decide +kernel
theorem dX3_add_22 : decode cX3_add 22 = .ok (.lload_n 1, 1) := by decide +kernel
theorem dX3_add_23 : decode cX3_add 23 = .ok (.lastore, 1) := by decide +kernel
theorem dX3_add_24 : decode cX3_add 24 = .ok (.aload_n 0, 1) := by decide +kernel
theorem dX3_add_25 : decode cX3_add 25 = .ok (.getfield 21, 3) := by decide +kernel
theorem dX3_add_28 : decode cX3_add 28 = .ok (.aload_n 0, 1) := by decide +kernel
theorem dX3_add_29 : decode cX3_add 29 = .ok (.getfield 28, 3) := by decide +kernel
theorem dX3_add_32 : decode cX3_add 32 = .ok (.iload_n 3, 1) := by decide +kernel
theorem dX3_add_33 : decode cX3_add 33 = .ok (.iastore, 1) := by decide +kernel
theorem dX3_add_34 : decode cX3_add 34 = .ok (.aload_n 0, 1) := by decide +kernel
theorem dX3_add_35 : decode cX3_add 35 = .ok (.getfield 25, 3) := by decide +kernel
theorem dX3_add_38 : decode cX3_add 38 = .ok (.aload_n 0, 1) := by decide +kernel
theorem dX3_add_39 : decode cX3_add 39 = .ok (.getfield 28, 3) := by decide +kernel
theorem dX3_add_42 : decode cX3_add 42 = .ok (.iload 4, 2) := by decide +kernel
theorem dX3_add_44 : decode cX3_add 44 = .ok (.iastore, 1) := by decide +kernel
theorem dX3_add_45 : decode cX3_add 45 = .ok (.aload_n 0, 1) := by decide +kernel
theorem dX3_add_46 : decode cX3_add 46 = .ok (.dup, 1) := by decide +kernel
theorem dX3_add_47 : decode cX3_add 47 = .ok (.getfield 28, 3) := by decide +kernel
theorem dX3_add_50 : decode cX3_add 50 = .ok (.iconst 1, 1) := by decide +kernel
theorem dX3_add_51 : decode cX3_add 51 = .ok (.iadd, 1) := by decide +kernel
theorem dX3_add_52 : decode cX3_add 52 = .ok (.putfield 28, 3) := by decide +kernel
theorem dX3_add_55 : decode cX3_add 55 = .ok (.iconst 1, 1) := by decide +kernel
theorem dX3_add_56 : decode cX3_add 56 = .ok (.ireturn, 1) := by decide +kernel
theorem q21_0 : pm_V d 21 0 [.ref xn, l1, l2, l3, l4] st S Q = pm_V d 21 1 [.ref xn, l1, l2, l3, l4] (.ref xn :: st) S Q := pv_aload_n (pm_cdi rfl dX3_add_0) rfl
theorem q21_1 (hs : pm_sh S an = .inr 3) : pm_V d 21 1 [l0, l1, l2, l3, l4] (.ref an :: st) S Q = pm_V d 21 4 [l0, l1, l2, l3, l4] (.int (pm_gi S an 3) :: st) S Q := pv_getI (pm_cdi rfl dX3_add_1) (by decide +kernel) (by decide +kernel) (by decide +kernel) hs
theorem q21_4 : pm_V d 21 4 [.ref xn, l1, l2, l3, l4] st S Q = pm_V d 21 5 [.ref xn, l1, l2, l3, l4] (.ref xn :: st) S Q := pv_aload_n (pm_cdi rfl dX3_add_4) rfl
theorem q21_5 (hs : pm_sh S an = .inr 3) : pm_V d 21 5 [l0, l1, l2, l3, l4] (.ref an :: st) S Q = pm_V d 21 8 [l0, l1, l2, l3, l4] (va_rf (pm_gr S an 0) :: st) S Q := pv_getA (pm_cdi rfl dX3_add_5) (by decide +kernel) (by decide +kernel) (by decide +kernel) hs
theorem q21_8 (hs : (pm_al S an).isSome = true) : pm_V d 21 8 [l0, l1, l2, l3, l4] (.ref an :: st) S Q = pm_V d 21 9 [l0, l1, l2, l3, l4] (.int (nI ((pm_al S an).getD 0)) :: st) S Q := pv_alen (pm_cdi rfl dX3_add_8) hs
theorem q21_9 : pm_V d 21 9 [l0, l1, l2, l3, l4] (.int yi :: .int xi :: st) S Q = if xi < yi then pm_V d 21 14 [l0, l1, l2, l3, l4] st S Q else pm_V d 21 12 [l0, l1, l2, l3, l4] st S Q := pv_icmp_lt (pm_cdi rfl dX3_add_9) rfl
theorem q21_12 : pm_V d 21 12 [l0, l1, l2, l3, l4] st S Q = pm_V d 21 13 [l0, l1, l2, l3, l4] (.int 0 :: st) S Q := pv_iconst (pm_cdi rfl dX3_add_12) (by decide +kernel)
theorem q21_13 (hx : xi = 0 ∨ xi = 1) : pm_V d 21 13 [l0, l1, l2, l3, l4] [.int xi] S Q = Q (some (.int xi)) S := pv_rZ (pm_cdi rfl dX3_add_13) (by decide +kernel) hx
theorem q21_14 : pm_V d 21 14 [.ref xn, l1, l2, l3, l4] st S Q = pm_V d 21 15 [.ref xn, l1, l2, l3, l4] (.ref xn :: st) S Q := pv_aload_n (pm_cdi rfl dX3_add_14) rfl
theorem q21_15 (hs : pm_sh S an = .inr 3) : pm_V d 21 15 [l0, l1, l2, l3, l4] (.ref an :: st) S Q = pm_V d 21 18 [l0, l1, l2, l3, l4] (va_rf (pm_gr S an 0) :: st) S Q := pv_getA (pm_cdi rfl dX3_add_15) (by decide +kernel) (by decide +kernel) (by decide +kernel) hs
theorem q21_18 : pm_V d 21 18 [.ref xn, l1, l2, l3, l4] st S Q = pm_V d 21 19 [.ref xn, l1, l2, l3, l4] (.ref xn :: st) S Q := pv_aload_n (pm_cdi rfl dX3_add_18) rfl
theorem q21_19 (hs : pm_sh S an = .inr 3) : pm_V d 21 19 [l0, l1, l2, l3, l4] (.ref an :: st) S Q = pm_V d 21 22 [l0, l1, l2, l3, l4] (.int (pm_gi S an 3) :: st) S Q := pv_getI (pm_cdi rfl dX3_add_19) (by decide +kernel) (by decide +kernel) (by decide +kernel) hs
theorem q21_22 : pm_V d 21 22 [l0, .long xj, l2, l3, l4] st S Q = pm_V d 21 23 [l0, .long xj, l2, l3, l4] (.long xj :: st) S Q := pv_lload_n (pm_cdi rfl dX3_add_22) rfl
theorem q21_23 (hs : pm_ar S an 1 xi = true) : pm_V d 21 23 [l0, l1, l2, l3, l4] (.long vj :: .int xi :: .ref an :: st) S Q = pm_V d 21 24 [l0, l1, l2, l3, l4] st (pm_szl S an xi.toNatClampNeg vj) Q := pv_last (pm_cdi rfl dX3_add_23) hs
theorem q21_24 : pm_V d 21 24 [.ref xn, l1, l2, l3, l4] st S Q = pm_V d 21 25 [.ref xn, l1, l2, l3, l4] (.ref xn :: st) S Q := pv_aload_n (pm_cdi rfl dX3_add_24) rfl
theorem q21_25 (hs : pm_sh S an = .inr 3) : pm_V d 21 25 [l0, l1, l2, l3, l4] (.ref an :: st) S Q = pm_V d 21 28 [l0, l1, l2, l3, l4] (va_rf (pm_gr S an 1) :: st) S Q := pv_getA (pm_cdi rfl dX3_add_25) (by decide +kernel) (by decide +kernel) (by decide +kernel) hs
theorem q21_28 : pm_V d 21 28 [.ref xn, l1, l2, l3, l4] st S Q = pm_V d 21 29 [.ref xn, l1, l2, l3, l4] (.ref xn :: st) S Q := pv_aload_n (pm_cdi rfl dX3_add_28) rfl
theorem q21_29 (hs : pm_sh S an = .inr 3) : pm_V d 21 29 [l0, l1, l2, l3, l4] (.ref an :: st) S Q = pm_V d 21 32 [l0, l1, l2, l3, l4] (.int (pm_gi S an 3) :: st) S Q := pv_getI (pm_cdi rfl dX3_add_29) (by decide +kernel) (by decide +kernel) (by decide +kernel) hs
theorem q21_32 : pm_V d 21 32 [l0, l1, l2, .int xi, l4] st S Q = pm_V d 21 33 [l0, l1, l2, .int xi, l4] (.int xi :: st) S Q := pv_iload_n (pm_cdi rfl dX3_add_32) rfl
theorem q21_33 (hs : pm_ar S an 0 xi = true) : pm_V d 21 33 [l0, l1, l2, l3, l4] (.int vi :: .int xi :: .ref an :: st) S Q = pm_V d 21 34 [l0, l1, l2, l3, l4] st (pm_szi S an xi.toNatClampNeg vi) Q := pv_iast (pm_cdi rfl dX3_add_33) hs
theorem q21_34 : pm_V d 21 34 [.ref xn, l1, l2, l3, l4] st S Q = pm_V d 21 35 [.ref xn, l1, l2, l3, l4] (.ref xn :: st) S Q := pv_aload_n (pm_cdi rfl dX3_add_34) rfl
theorem q21_35 (hs : pm_sh S an = .inr 3) : pm_V d 21 35 [l0, l1, l2, l3, l4] (.ref an :: st) S Q = pm_V d 21 38 [l0, l1, l2, l3, l4] (va_rf (pm_gr S an 2) :: st) S Q := pv_getA (pm_cdi rfl dX3_add_35) (by decide +kernel) (by decide +kernel) (by decide +kernel) hs
theorem q21_38 : pm_V d 21 38 [.ref xn, l1, l2, l3, l4] st S Q = pm_V d 21 39 [.ref xn, l1, l2, l3, l4] (.ref xn :: st) S Q := pv_aload_n (pm_cdi rfl dX3_add_38) rfl
theorem q21_39 (hs : pm_sh S an = .inr 3) : pm_V d 21 39 [l0, l1, l2, l3, l4] (.ref an :: st) S Q = pm_V d 21 42 [l0, l1, l2, l3, l4] (.int (pm_gi S an 3) :: st) S Q := pv_getI (pm_cdi rfl dX3_add_39) (by decide +kernel) (by decide +kernel) (by decide +kernel) hs
theorem q21_42 : pm_V d 21 42 [l0, l1, l2, l3, .int xi] st S Q = pm_V d 21 44 [l0, l1, l2, l3, .int xi] (.int xi :: st) S Q := pv_iload (pm_cdi rfl dX3_add_42) rfl
theorem q21_44 (hs : pm_ar S an 0 xi = true) : pm_V d 21 44 [l0, l1, l2, l3, l4] (.int vi :: .int xi :: .ref an :: st) S Q = pm_V d 21 45 [l0, l1, l2, l3, l4] st (pm_szi S an xi.toNatClampNeg vi) Q := pv_iast (pm_cdi rfl dX3_add_44) hs
theorem q21_45 : pm_V d 21 45 [.ref xn, l1, l2, l3, l4] st S Q = pm_V d 21 46 [.ref xn, l1, l2, l3, l4] (.ref xn :: st) S Q := pv_aload_n (pm_cdi rfl dX3_add_45) rfl
theorem q21_46 : pm_V d 21 46 [l0, l1, l2, l3, l4] (.ref xn :: st) S Q = pm_V d 21 47 [l0, l1, l2, l3, l4] (.ref xn :: .ref xn :: st) S Q := pv_dupA (pm_cdi rfl dX3_add_46)
theorem q21_47 (hs : pm_sh S an = .inr 3) : pm_V d 21 47 [l0, l1, l2, l3, l4] (.ref an :: st) S Q = pm_V d 21 50 [l0, l1, l2, l3, l4] (.int (pm_gi S an 3) :: st) S Q := pv_getI (pm_cdi rfl dX3_add_47) (by decide +kernel) (by decide +kernel) (by decide +kernel) hs
theorem q21_50 : pm_V d 21 50 [l0, l1, l2, l3, l4] st S Q = pm_V d 21 51 [l0, l1, l2, l3, l4] (.int 1 :: st) S Q := pv_iconst (pm_cdi rfl dX3_add_50) (by decide +kernel)
theorem q21_51 : pm_V d 21 51 [l0, l1, l2, l3, l4] (.int yi :: .int xi :: st) S Q = pm_V d 21 52 [l0, l1, l2, l3, l4] (.int (xi + yi) :: st) S Q := pv_iadd (pm_cdi rfl dX3_add_51)
theorem q21_52 (hs : pm_sh S an = .inr 3) : pm_V d 21 52 [l0, l1, l2, l3, l4] (.int xi :: .ref an :: st) S Q = pm_V d 21 55 [l0, l1, l2, l3, l4] st (pm_sgi S an 3 xi) Q := pv_putI (pm_cdi rfl dX3_add_52) (by decide +kernel) (by decide +kernel) (by decide +kernel) hs
theorem q21_55 : pm_V d 21 55 [l0, l1, l2, l3, l4] st S Q = pm_V d 21 56 [l0, l1, l2, l3, l4] (.int 1 :: st) S Q := pv_iconst (pm_cdi rfl dX3_add_55) (by decide +kernel)
theorem q21_56 (hx : xi = 0 ∨ xi = 1) : pm_V d 21 56 [l0, l1, l2, l3, l4] [.int xi] S Q = Q (some (.int xi)) S := pv_rZ (pm_cdi rfl dX3_add_56) (by decide +kernel) hx
theorem q21_e : pm_N d 21 [.ref an, .long v0j, .int v1i, .int v2i] S Q = pm_V d 21 0 [.ref an, .long v0j, pm_j, .int v1i, .int v2i] [] S Q := pv_ent (Nat.le_of_ble_eq_true rfl) rfl
/-! 22: ViewsJoins$Items.sources(I)[I -/
theorem dX3_sources_0 : decode cX3_sources 0 = .ok (.iload_n 1, 1) := by decide +kernel
theorem dX3_sources_1 : decode cX3_sources 1 = .ok (.ifCond .ne 10, 3) := by decide +kernel
theorem dX3_sources_4 : decode cX3_sources 4 = .ok (.aload_n 0, 1) := by decide +kernel
theorem dX3_sources_5 : decode cX3_sources 5 = .ok (.getfield 21, 3) := by decide +kernel
theorem dX3_sources_8 : decode cX3_sources 8 = .ok (.goto 7, 3) := by decide +kernel
theorem dX3_sources_11 : decode cX3_sources 11 = .ok (.aload_n 0, 1) := by decide +kernel
theorem dX3_sources_12 : decode cX3_sources 12 = .ok (.getfield 25, 3) := by decide +kernel
theorem dX3_sources_15 : decode cX3_sources 15 = .ok (.areturn, 1) := by decide +kernel
theorem q22_0 : pm_V d 22 0 [l0, .int xi] st S Q = pm_V d 22 1 [l0, .int xi] (.int xi :: st) S Q := pv_iload_n (pm_cdi rfl dX3_sources_0) rfl
theorem q22_1 : pm_V d 22 1 [l0, l1] (.int xi :: st) S Q = if xi = 0 then pm_V d 22 4 [l0, l1] st S Q else pm_V d 22 11 [l0, l1] st S Q := pv_if_ne (pm_cdi rfl dX3_sources_1) rfl
theorem q22_4 : pm_V d 22 4 [.ref xn, l1] st S Q = pm_V d 22 5 [.ref xn, l1] (.ref xn :: st) S Q := pv_aload_n (pm_cdi rfl dX3_sources_4) rfl
theorem q22_5 (hs : pm_sh S an = .inr 3) : pm_V d 22 5 [l0, l1] (.ref an :: st) S Q = pm_V d 22 8 [l0, l1] (va_rf (pm_gr S an 1) :: st) S Q := pv_getA (pm_cdi rfl dX3_sources_5) (by decide +kernel) (by decide +kernel) (by decide +kernel) hs
theorem q22_8 : pm_V d 22 8 [l0, l1] st S Q = pm_V d 22 15 [l0, l1] st S Q := pv_goto (pm_cdi rfl dX3_sources_8) rfl
theorem q22_11 : pm_V d 22 11 [.ref xn, l1] st S Q = pm_V d 22 12 [.ref xn, l1] (.ref xn :: st) S Q := pv_aload_n (pm_cdi rfl dX3_sources_11) rfl
theorem q22_12 (hs : pm_sh S an = .inr 3) : pm_V d 22 12 [l0, l1] (.ref an :: st) S Q = pm_V d 22 15 [l0, l1] (va_rf (pm_gr S an 2) :: st) S Q := pv_getA (pm_cdi rfl dX3_sources_12) (by decide +kernel) (by decide +kernel) (by decide +kernel) hs
theorem q22_15 : pm_V d 22 15 [l0, l1] [.ref xn] S Q = Q (some (.ref xn)) S := pv_rR (pm_cdi rfl dX3_sources_15) rfl
theorem q22_e : pm_N d 22 [.ref an, .int v0i] S Q = pm_V d 22 0 [.ref an, .int v0i] [] S Q := pv_ent (Nat.le_of_ble_eq_true rfl) rfl
/-! 23: ViewsJoins$Items.firstOf(II)I -/
theorem dX3_firstOf_0 : decode cX3_firstOf 0 = .ok (.iload_n 1, 1) := by decide +kernel
theorem dX3_firstOf_1 : decode cX3_firstOf 1 = .ok (.ifCond .ge 5, 3) := by decide +kernel
theorem dX3_firstOf_4 : decode cX3_firstOf 4 = .ok (.iconst (-1), 1) := by decide +kernel
theorem dX3_firstOf_5 : decode cX3_firstOf 5 = .ok (.ireturn, 1) := by decide +kernel
theorem dX3_firstOf_6 : decode cX3_firstOf 6 = .ok (.aload_n 0, 1) := by decide +kernel
theorem dX3_firstOf_7 : decode cX3_firstOf 7 = .ok (.iload_n 2, 1) := by decide +kernel
theorem dX3_firstOf_8 : decode cX3_firstOf 8 = .ok (.invokevirtual 32, 3) := by decide +kernel
theorem dX3_firstOf_11 : decode cX3_firstOf 11 = .ok (.astore_n 3, 1) := by decide +kernel
theorem dX3_firstOf_12 : decode cX3_firstOf 12 = .ok (.iconst 0, 1) := by decide +kernel
theorem dX3_firstOf_13 : decode cX3_firstOf 13 = .ok (.istore 4, 2) := by decide +kernel
theorem dX3_firstOf_15 : decode cX3_firstOf 15 = .ok (.iload 4, 2) := by decide +kernel
theorem dX3_firstOf_17 : decode cX3_firstOf 17 = .ok (.aload_n 0, 1) := by decide +kernel
theorem dX3_firstOf_18 : decode cX3_firstOf 18 = .ok (.getfield 28, 3) := by decide +kernel
theorem dX3_firstOf_21 : decode cX3_firstOf 21 = .ok (.if_icmp .ge 20, 3) := by decide +kernel
theorem dX3_firstOf_24 : decode cX3_firstOf 24 = .ok (.aload_n 3, 1) := by decide +kernel
theorem dX3_firstOf_25 : decode cX3_firstOf 25 = .ok (.iload 4, 2) := by decide +kernel
theorem dX3_firstOf_27 : decode cX3_firstOf 27 = .ok (.iaload, 1) := by decide +kernel
theorem dX3_firstOf_28 : decode cX3_firstOf 28 = .ok (.iload_n 1, 1) := by decide +kernel
theorem dX3_firstOf_29 : decode cX3_firstOf 29 = .ok (.if_icmp .ne 6, 3) := by decide +kernel
theorem dX3_firstOf_32 : decode cX3_firstOf 32 = .ok (.iload 4, 2) := by decide +kernel
theorem dX3_firstOf_34 : decode cX3_firstOf 34 = .ok (.ireturn, 1) := by decide +kernel
theorem dX3_firstOf_35 : decode cX3_firstOf 35 = .ok (.iinc 4 1, 3) := by decide +kernel
theorem dX3_firstOf_38 : decode cX3_firstOf 38 = .ok (.goto (-23), 3) := by decide +kernel
theorem dX3_firstOf_41 : decode cX3_firstOf 41 = .ok (.iconst (-1), 1) := by decide +kernel
theorem dX3_firstOf_42 : decode cX3_firstOf 42 = .ok (.ireturn, 1) := by decide +kernel
theorem q23_0 : pm_V d 23 0 [l0, .int xi, l2, l3, l4] st S Q = pm_V d 23 1 [l0, .int xi, l2, l3, l4] (.int xi :: st) S Q := pv_iload_n (pm_cdi rfl dX3_firstOf_0) rfl
theorem q23_1 : pm_V d 23 1 [l0, l1, l2, l3, l4] (.int xi :: st) S Q = if xi < 0 then pm_V d 23 4 [l0, l1, l2, l3, l4] st S Q else pm_V d 23 6 [l0, l1, l2, l3, l4] st S Q := pv_if_ge (pm_cdi rfl dX3_firstOf_1) rfl
theorem q23_4 : pm_V d 23 4 [l0, l1, l2, l3, l4] st S Q = pm_V d 23 5 [l0, l1, l2, l3, l4] (.int (-1) :: st) S Q := pv_iconst (pm_cdi rfl dX3_firstOf_4) (by decide +kernel)
theorem q23_5 : pm_V d 23 5 [l0, l1, l2, l3, l4] [.int xi] S Q = Q (some (.int xi)) S := pv_rI (pm_cdi rfl dX3_firstOf_5) (by decide +kernel)
theorem q23_6 : pm_V d 23 6 [.ref xn, l1, l2, l3, l4] st S Q = pm_V d 23 7 [.ref xn, l1, l2, l3, l4] (.ref xn :: st) S Q := pv_aload_n (pm_cdi rfl dX3_firstOf_6) rfl
theorem q23_7 : pm_V d 23 7 [l0, l1, .int xi, l3, l4] st S Q = pm_V d 23 8 [l0, l1, .int xi, l3, l4] (.int xi :: st) S Q := pv_iload_n (pm_cdi rfl dX3_firstOf_7) rfl
theorem q23_8 (hs : pm_sh S an = .inr 3) : pm_V (d + 1) 23 8 [l0, l1, l2, l3, l4] [.int v0i, .ref an] S Q = pm_N d 22 [.ref an, .int v0i] S (fun r S' => pm_V (d + 1) 23 11 [l0, l1, l2, l3, l4] (r.toList ++ []) S' Q) := pv_callV (as := [.int v0i]) (pm_cdi rfl dX3_firstOf_8) (Or.inl (by decide +kernel)) (by decide +kernel) (show _ = _ from (by decide +kernel : 1 = pm_np 22)) rfl (Nat.le_of_ble_eq_true rfl) (cl := 3) (by decide +kernel) hs
theorem q23_11 : pm_V d 23 11 [l0, l1, .int yi, l3, l4] (.ref xn :: st) S Q = pm_V d 23 12 [l0, l1, .int yi, .ref xn, l4] st S Q := pv_astore_n (pm_cdi rfl dX3_firstOf_11) rfl
theorem q23_11N : pm_V d 23 11 [l0, l1, .int yi, l3, l4] (.null :: st) S Q = pm_V d 23 12 [l0, l1, .int yi, .null, l4] st S Q := pv_astore_nN (pm_cdi rfl dX3_firstOf_11) rfl
theorem q23_12 : pm_V d 23 12 [l0, l1, l2, l3, l4] st S Q = pm_V d 23 13 [l0, l1, l2, l3, l4] (.int 0 :: st) S Q := pv_iconst (pm_cdi rfl dX3_firstOf_12) (by decide +kernel)
theorem q23_13 : pm_V d 23 13 [l0, l1, l2, .ref yn, l4] (.int xi :: st) S Q = pm_V d 23 15 [l0, l1, l2, .ref yn, .int xi] st S Q := pv_istore (pm_cdi rfl dX3_firstOf_13) rfl
theorem q23_15 : pm_V d 23 15 [l0, l1, l2, l3, .int xi] st S Q = pm_V d 23 17 [l0, l1, l2, l3, .int xi] (.int xi :: st) S Q := pv_iload (pm_cdi rfl dX3_firstOf_15) rfl
theorem q23_17 : pm_V d 23 17 [.ref xn, l1, l2, l3, l4] st S Q = pm_V d 23 18 [.ref xn, l1, l2, l3, l4] (.ref xn :: st) S Q := pv_aload_n (pm_cdi rfl dX3_firstOf_17) rfl
theorem q23_18 (hs : pm_sh S an = .inr 3) : pm_V d 23 18 [l0, l1, l2, l3, l4] (.ref an :: st) S Q = pm_V d 23 21 [l0, l1, l2, l3, l4] (.int (pm_gi S an 3) :: st) S Q := pv_getI (pm_cdi rfl dX3_firstOf_18) (by decide +kernel) (by decide +kernel) (by decide +kernel) hs
theorem q23_21 : pm_V d 23 21 [l0, l1, l2, l3, l4] (.int yi :: .int xi :: st) S Q = if xi < yi then pm_V d 23 24 [l0, l1, l2, l3, l4] st S Q else pm_V d 23 41 [l0, l1, l2, l3, l4] st S Q := pv_icmp_ge (pm_cdi rfl dX3_firstOf_21) rfl
theorem q23_24 : pm_V d 23 24 [l0, l1, l2, .ref xn, l4] st S Q = pm_V d 23 25 [l0, l1, l2, .ref xn, l4] (.ref xn :: st) S Q := pv_aload_n (pm_cdi rfl dX3_firstOf_24) rfl
theorem q23_24N : pm_V d 23 24 [l0, l1, l2, .null, l4] st S Q = pm_V d 23 25 [l0, l1, l2, .null, l4] (.null :: st) S Q := pv_aload_nN (pm_cdi rfl dX3_firstOf_24) rfl
theorem q23_25 : pm_V d 23 25 [l0, l1, l2, l3, .int xi] st S Q = pm_V d 23 27 [l0, l1, l2, l3, .int xi] (.int xi :: st) S Q := pv_iload (pm_cdi rfl dX3_firstOf_25) rfl
theorem q23_27 (hs : pm_ar S an 0 xi = true) : pm_V d 23 27 [l0, l1, l2, l3, l4] (.int xi :: .ref an :: st) S Q = pm_V d 23 28 [l0, l1, l2, l3, l4] (.int (pm_zi S an xi.toNatClampNeg) :: st) S Q := pv_iald (pm_cdi rfl dX3_firstOf_27) hs
theorem q23_28 : pm_V d 23 28 [l0, .int xi, l2, l3, l4] st S Q = pm_V d 23 29 [l0, .int xi, l2, l3, l4] (.int xi :: st) S Q := pv_iload_n (pm_cdi rfl dX3_firstOf_28) rfl
theorem q23_29 : pm_V d 23 29 [l0, l1, l2, l3, l4] (.int yi :: .int xi :: st) S Q = if xi = yi then pm_V d 23 32 [l0, l1, l2, l3, l4] st S Q else pm_V d 23 35 [l0, l1, l2, l3, l4] st S Q := pv_icmp_ne (pm_cdi rfl dX3_firstOf_29) rfl
theorem q23_32 : pm_V d 23 32 [l0, l1, l2, l3, .int xi] st S Q = pm_V d 23 34 [l0, l1, l2, l3, .int xi] (.int xi :: st) S Q := pv_iload (pm_cdi rfl dX3_firstOf_32) rfl
theorem q23_34 : pm_V d 23 34 [l0, l1, l2, l3, l4] [.int xi] S Q = Q (some (.int xi)) S := pv_rI (pm_cdi rfl dX3_firstOf_34) (by decide +kernel)
theorem q23_35 : pm_V d 23 35 [l0, l1, l2, .ref yn, .int xi] st S Q = pm_V d 23 38 [l0, l1, l2, .ref yn, .int (xi + 1)] st S Q := pv_iinc (pm_cdi rfl dX3_firstOf_35) rfl (by decide +kernel) rfl
theorem q23_38 : pm_V d 23 38 [l0, l1, l2, l3, l4] st S Q = pm_V d 23 15 [l0, l1, l2, l3, l4] st S Q := pv_goto (pm_cdi rfl dX3_firstOf_38) rfl
theorem q23_41 : pm_V d 23 41 [l0, l1, l2, l3, l4] st S Q = pm_V d 23 42 [l0, l1, l2, l3, l4] (.int (-1) :: st) S Q := pv_iconst (pm_cdi rfl dX3_firstOf_41) (by decide +kernel)
theorem q23_42 : pm_V d 23 42 [l0, l1, l2, l3, l4] [.int xi] S Q = Q (some (.int xi)) S := pv_rI (pm_cdi rfl dX3_firstOf_42) (by decide +kernel)
theorem q23_e : pm_N d 23 [.ref an, .int v0i, .int v1i] S Q = pm_V d 23 0 [.ref an, .int v0i, .int v1i, pm_j, pm_j] [] S Q := pv_ent (Nat.le_of_ble_eq_true rfl) rfl
/-! 24: ViewsJoins$Reckoner.<init>()V -/
theorem dX4_init_0 : decode cX4_init 0 = .ok (.aload_n 0, 1) := by decide +kernel
theorem dX4_init_1 : decode cX4_init 1 = .ok (.invokespecial 3, 3) := by decide +kernel
theorem dX4_init_4 : decode cX4_init 4 = .ok (.aload_n 0, 1) := by decide +kernel
theorem dX4_init_5 : decode cX4_init 5 = .ok (.new 9, 3) := by decide +kernel
theorem dX4_init_8 : decode cX4_init 8 = .ok (.dup, 1) := by decide +kernel
theorem dX4_init_9 : decode cX4_init 9 = .ok (.invokespecial 11, 3) := by decide +kernel
theorem dX4_init_12 : decode cX4_init 12 = .ok (.putfield 12, 3) := by decide +kernel
theorem dX4_init_15 : decode cX4_init 15 = .ok (.aload_n 0, 1) := by decide +kernel
theorem dX4_init_16 : decode cX4_init 16 = .ok (.iconst 4, 1) := by decide +kernel
theorem dX4_init_17 : decode cX4_init 17 = .ok (.bipush 40, 2) := by decide +kernel
theorem dX4_init_19 : decode cX4_init 19 = .ok (.multianewarray 18 2, 4) := by decide +kernel
theorem dX4_init_23 : decode cX4_init 23 = .ok (.putfield 20, 3) := by decide +kernel
theorem dX4_init_26 : decode cX4_init 26 = .ok (.aload_n 0, 1) := by decide +kernel
theorem dX4_init_27 : decode cX4_init 27 = .ok (.new 23, 3) := by decide +kernel
theorem dX4_init_30 : decode cX4_init 30 = .ok (.dup, 1) := by decide +kernel
theorem dX4_init_31 : decode cX4_init 31 = .ok (.invokespecial 25, 3) := by decide +kernel
theorem dX4_init_34 : decode cX4_init 34 = .ok (.putfield 26, 3) := by decide +kernel
theorem dX4_init_37 : decode cX4_init 37 = .ok (.aload_n 0, 1) := by decide +kernel
theorem dX4_init_38 : decode cX4_init 38 = .ok (.bipush 40, 2) := by decide +kernel
theorem dX4_init_40 : decode cX4_init 40 = .ok (.newarray .int, 2) := by decide +kernel
theorem dX4_init_42 : decode cX4_init 42 = .ok (.putfield 30, 3) := by decide +kernel
theorem dX4_init_45 : decode cX4_init 45 = .ok (.aload_n 0, 1) := by decide +kernel
theorem dX4_init_46 : decode cX4_init 46 = .ok (.bipush 40, 2) := by decide +kernel
theorem dX4_init_48 : decode cX4_init 48 = .ok (.newarray .long, 2) := by decide +kernel
theorem dX4_init_50 : decode cX4_init 50 = .ok (.putfield 34, 3) := by decide +kernel
theorem dX4_init_53 : decode cX4_init 53 = .ok (.return_, 1) := by decide +kernel
theorem q24_0 : pm_V d 24 0 [.ref xn] st S Q = pm_V d 24 1 [.ref xn] (.ref xn :: st) S Q := pv_aload_n (pm_cdi rfl dX4_init_0) rfl
theorem q24_1 : pm_V d 24 1 [l0] [.ref an] S Q = pm_V d 24 4 [l0] [] S Q := pv_obj (pm_cdi rfl dX4_init_1) (by decide +kernel) (Nat.le_of_ble_eq_true rfl)
theorem q24_4 : pm_V d 24 4 [.ref xn] st S Q = pm_V d 24 5 [.ref xn] (.ref xn :: st) S Q := pv_aload_n (pm_cdi rfl dX4_init_4) rfl
theorem q24_5 : pm_V d 24 5 [l0] st S Q = pm_V d 24 8 [l0] (.ref (pm_nx S) :: st) (pm_mk S 5) Q := pv_new (pm_cdi rfl dX4_init_5) (by decide +kernel) (by decide +kernel)
theorem q24_8 : pm_V d 24 8 [l0] (.ref xn :: st) S Q = pm_V d 24 9 [l0] (.ref xn :: .ref xn :: st) S Q := pv_dupA (pm_cdi rfl dX4_init_8)
theorem q24_9 : pm_V (d + 1) 24 9 [l0] [.ref an, .ref r0n, .ref r1n] S Q = pm_N d 44 [.ref an] S (fun r S' => pm_V (d + 1) 24 12 [l0] (r.toList ++ [.ref r0n, .ref r1n]) S' Q) := pv_callI (as := []) (pm_cdi rfl dX4_init_9) (Or.inr (by decide +kernel)) (by decide +kernel) (show _ = _ from (by decide +kernel : 0 = pm_np 44)) rfl (Nat.le_of_ble_eq_true rfl)
theorem q24_12 (hs : pm_sh S an = .inr 4) : pm_V d 24 12 [l0] (.ref xn :: .ref an :: st) S Q = pm_V d 24 15 [l0] st (pm_sgr S an 0 (some xn)) Q := pv_putA (pm_cdi rfl dX4_init_12) (by decide +kernel) (by decide +kernel) (by decide +kernel) hs
theorem q24_12N (hs : pm_sh S an = .inr 4) : pm_V d 24 12 [l0] (.null :: .ref an :: st) S Q = pm_V d 24 15 [l0] st (pm_sgr S an 0 none) Q := pv_putN (pm_cdi rfl dX4_init_12) (by decide +kernel) (by decide +kernel) (by decide +kernel) hs
theorem q24_15 : pm_V d 24 15 [.ref xn] st S Q = pm_V d 24 16 [.ref xn] (.ref xn :: st) S Q := pv_aload_n (pm_cdi rfl dX4_init_15) rfl
theorem q24_16 : pm_V d 24 16 [l0] st S Q = pm_V d 24 17 [l0] (.int 4 :: st) S Q := pv_iconst (pm_cdi rfl dX4_init_16) (by decide +kernel)
theorem q24_17 : pm_V d 24 17 [l0] st S Q = pm_V d 24 19 [l0] (.int 40 :: st) S Q := pv_bipush (pm_cdi rfl dX4_init_17) (by decide +kernel)
theorem q24_19 (h : 0 ≤ xi ∧ 0 ≤ ki ∧ xi.toNatClampNeg ≤ 60000 ∧ ki.toNatClampNeg ≤ 60000) : pm_V d 24 19 [l0] (.int ki :: .int xi :: st) S Q = pm_V d 24 23 [l0] (.ref (pm_nx S) :: st) (pm_mkm S xi.toNatClampNeg ki.toNatClampNeg) Q := pv_newM (pm_cdi rfl dX4_init_19) (by decide +kernel) h
theorem q24_23 (hs : pm_sh S an = .inr 4) : pm_V d 24 23 [l0] (.ref xn :: .ref an :: st) S Q = pm_V d 24 26 [l0] st (pm_sgr S an 1 (some xn)) Q := pv_putA (pm_cdi rfl dX4_init_23) (by decide +kernel) (by decide +kernel) (by decide +kernel) hs
theorem q24_23N (hs : pm_sh S an = .inr 4) : pm_V d 24 23 [l0] (.null :: .ref an :: st) S Q = pm_V d 24 26 [l0] st (pm_sgr S an 1 none) Q := pv_putN (pm_cdi rfl dX4_init_23) (by decide +kernel) (by decide +kernel) (by decide +kernel) hs
theorem q24_26 : pm_V d 24 26 [.ref xn] st S Q = pm_V d 24 27 [.ref xn] (.ref xn :: st) S Q := pv_aload_n (pm_cdi rfl dX4_init_26) rfl
theorem q24_27 : pm_V d 24 27 [l0] st S Q = pm_V d 24 30 [l0] (.ref (pm_nx S) :: st) (pm_mk S 1) Q := pv_new (pm_cdi rfl dX4_init_27) (by decide +kernel) (by decide +kernel)
theorem q24_30 : pm_V d 24 30 [l0] (.ref xn :: st) S Q = pm_V d 24 31 [l0] (.ref xn :: .ref xn :: st) S Q := pv_dupA (pm_cdi rfl dX4_init_30)
theorem q24_31 : pm_V (d + 1) 24 31 [l0] [.ref an, .ref r0n, .ref r1n] S Q = pm_N d 12 [.ref an] S (fun r S' => pm_V (d + 1) 24 34 [l0] (r.toList ++ [.ref r0n, .ref r1n]) S' Q) := pv_callI (as := []) (pm_cdi rfl dX4_init_31) (Or.inr (by decide +kernel)) (by decide +kernel) (show _ = _ from (by decide +kernel : 0 = pm_np 12)) rfl (Nat.le_of_ble_eq_true rfl)
theorem q24_34 (hs : pm_sh S an = .inr 4) : pm_V d 24 34 [l0] (.ref xn :: .ref an :: st) S Q = pm_V d 24 37 [l0] st (pm_sgr S an 2 (some xn)) Q := pv_putA (pm_cdi rfl dX4_init_34) (by decide +kernel) (by decide +kernel) (by decide +kernel) hs
theorem q24_34N (hs : pm_sh S an = .inr 4) : pm_V d 24 34 [l0] (.null :: .ref an :: st) S Q = pm_V d 24 37 [l0] st (pm_sgr S an 2 none) Q := pv_putN (pm_cdi rfl dX4_init_34) (by decide +kernel) (by decide +kernel) (by decide +kernel) hs
theorem q24_37 : pm_V d 24 37 [.ref xn] st S Q = pm_V d 24 38 [.ref xn] (.ref xn :: st) S Q := pv_aload_n (pm_cdi rfl dX4_init_37) rfl
theorem q24_38 : pm_V d 24 38 [l0] st S Q = pm_V d 24 40 [l0] (.int 40 :: st) S Q := pv_bipush (pm_cdi rfl dX4_init_38) (by decide +kernel)
theorem q24_40 (h : 0 ≤ xi ∧ xi.toNatClampNeg ≤ 60000) : pm_V d 24 40 [l0] (.int xi :: st) S Q = pm_V d 24 42 [l0] (.ref (pm_nx S) :: st) (pm_mka S 0 xi.toNatClampNeg) Q := pv_newI (pm_cdi rfl dX4_init_40) h
theorem q24_42 (hs : pm_sh S an = .inr 4) : pm_V d 24 42 [l0] (.ref xn :: .ref an :: st) S Q = pm_V d 24 45 [l0] st (pm_sgr S an 3 (some xn)) Q := pv_putA (pm_cdi rfl dX4_init_42) (by decide +kernel) (by decide +kernel) (by decide +kernel) hs
theorem q24_42N (hs : pm_sh S an = .inr 4) : pm_V d 24 42 [l0] (.null :: .ref an :: st) S Q = pm_V d 24 45 [l0] st (pm_sgr S an 3 none) Q := pv_putN (pm_cdi rfl dX4_init_42) (by decide +kernel) (by decide +kernel) (by decide +kernel) hs
theorem q24_45 : pm_V d 24 45 [.ref xn] st S Q = pm_V d 24 46 [.ref xn] (.ref xn :: st) S Q := pv_aload_n (pm_cdi rfl dX4_init_45) rfl
theorem q24_46 : pm_V d 24 46 [l0] st S Q = pm_V d 24 48 [l0] (.int 40 :: st) S Q := pv_bipush (pm_cdi rfl dX4_init_46) (by decide +kernel)
theorem q24_48 (h : 0 ≤ xi ∧ xi.toNatClampNeg ≤ 60000) : pm_V d 24 48 [l0] (.int xi :: st) S Q = pm_V d 24 50 [l0] (.ref (pm_nx S) :: st) (pm_mka S 1 xi.toNatClampNeg) Q := pv_newL (pm_cdi rfl dX4_init_48) h
theorem q24_50 (hs : pm_sh S an = .inr 4) : pm_V d 24 50 [l0] (.ref xn :: .ref an :: st) S Q = pm_V d 24 53 [l0] st (pm_sgr S an 4 (some xn)) Q := pv_putA (pm_cdi rfl dX4_init_50) (by decide +kernel) (by decide +kernel) (by decide +kernel) hs
theorem q24_50N (hs : pm_sh S an = .inr 4) : pm_V d 24 50 [l0] (.null :: .ref an :: st) S Q = pm_V d 24 53 [l0] st (pm_sgr S an 4 none) Q := pv_putN (pm_cdi rfl dX4_init_50) (by decide +kernel) (by decide +kernel) (by decide +kernel) hs
theorem q24_53 : pm_V d 24 53 [l0] [] S Q = Q none S := pv_rV (pm_cdi rfl dX4_init_53) (by decide +kernel)
theorem q24_e : pm_N d 24 [.ref an] S Q = pm_V d 24 0 [.ref an] [] S Q := pv_ent (Nat.le_of_ble_eq_true rfl) rfl
end
