section
variable {d : Nat} {S : pm_T} {Q : Option Value → pm_T → Prop} {an r0n r1n r2n r3n r4n r5n v0n v1n v2n vn xn yn : Nat} {ki r0i r1i r2i r3i r4i v0i v1i v2i v3i v4i v5i vi xi yi : Int32} {l0 l1 l10 l2 l3 l4 l5 l6 l7 l8 l9 v0v v1v v2v : Value} {r0j r1j v0j v1j v2j v3j vj xj yj : Int64} {st : List Value}
/-! 142: java/lang/Long.bitCount(J)I -/
theorem dJ13_bitCount_95d88_0 : decode cJ13_bitCount_95d88 0 = .ok (.lload_n 0, 1) := by decide +kernel
theorem dJ13_bitCount_95d88_1 : decode cJ13_bitCount_95d88 1 = .ok (.lload_n 0, 1) := by decide +kernel
theorem dJ13_bitCount_95d88_2 : decode cJ13_bitCount_95d88 2 = .ok (.iconst 1, 1) := by decide +kernel
theorem dJ13_bitCount_95d88_3 : decode cJ13_bitCount_95d88 3 = .ok (.lushr, 1) := by decide +kernel
theorem dJ13_bitCount_95d88_4 : decode cJ13_bitCount_95d88 4 = .ok (.ldc2_w 314, 3) := by decide +kernel
theorem dJ13_bitCount_95d88_7 : decode cJ13_bitCount_95d88 7 = .ok (.land, 1) := by decide +kernel
theorem dJ13_bitCount_95d88_8 : decode cJ13_bitCount_95d88 8 = .ok (.lsub, 1) := by decide +kernel
theorem dJ13_bitCount_95d88_9 : decode cJ13_bitCount_95d88 9 = .ok (.lstore_n 0, 1) := by decide +kernel
theorem dJ13_bitCount_95d88_10 : decode cJ13_bitCount_95d88 10 = .ok (.lload_n 0, 1) := by decide +kernel
theorem dJ13_bitCount_95d88_11 : decode cJ13_bitCount_95d88 11 = .ok (.ldc2_w 316, 3) := by decide +kernel
theorem dJ13_bitCount_95d88_14 : decode cJ13_bitCount_95d88 14 = .ok (.land, 1) := by decide +kernel
theorem dJ13_bitCount_95d88_15 : decode cJ13_bitCount_95d88 15 = .ok (.lload_n 0, 1) := by decide +kernel
theorem dJ13_bitCount_95d88_16 : decode cJ13_bitCount_95d88 16 = .ok (.iconst 2, 1) := by decide +kernel
theorem dJ13_bitCount_95d88_17 : decode cJ13_bitCount_95d88 17 = .ok (.lushr, 1) := by decide +kernel
theorem dJ13_bitCount_95d88_18 : decode cJ13_bitCount_95d88 18 = .ok (.ldc2_w 316, 3) := by decide +kernel
theorem dJ13_bitCount_95d88_21 : decode cJ13_bitCount_95d88 21 = .ok (.land, 1) := by decide +kernel
theorem dJ13_bitCount_95d88_22 : decode cJ13_bitCount_95d88 22 = .ok (.ladd, 1) := by decide +kernel
theorem dJ13_bitCount_95d88_23 : decode cJ13_bitCount_95d88 23 = .ok (.lstore_n 0, 1) := by decide +kernel
theorem dJ13_bitCount_95d88_24 : decode cJ13_bitCount_95d88 24 = .ok (.lload_n 0, 1) := by decide +kernel
theorem dJ13_bitCount_95d88_25 : decode cJ13_bitCount_95d88 25 = .ok (.lload_n 0, 1) := by decide +kernel
theorem dJ13_bitCount_95d88_26 : decode cJ13_bitCount_95d88 26 = .ok (.iconst 4, 1) := by decide +kernel
theorem dJ13_bitCount_95d88_27 : decode cJ13_bitCount_95d88 27 = .ok (.lushr, 1) := by decide +kernel
theorem dJ13_bitCount_95d88_28 : decode cJ13_bitCount_95d88 28 = .ok (.ladd, 1) := by decide +kernel
theorem dJ13_bitCount_95d88_29 : decode cJ13_bitCount_95d88 29 = .ok (.ldc2_w 318, 3) := by decide +kernel
theorem dJ13_bitCount_95d88_32 : decode cJ13_bitCount_95d88 32 = .ok (.land, 1) := by decide +kernel
theorem dJ13_bitCount_95d88_33 : decode cJ13_bitCount_95d88 33 = .ok (.lstore_n 0, 1) := by decide +kernel
theorem dJ13_bitCount_95d88_34 : decode cJ13_bitCount_95d88 34 = .ok (.lload_n 0, 1) := by decide +kernel
theorem dJ13_bitCount_95d88_35 : decode cJ13_bitCount_95d88 35 = .ok (.lload_n 0, 1) := by decide +kernel
theorem dJ13_bitCount_95d88_36 : decode cJ13_bitCount_95d88 36 = .ok (.bipush 8, 2) := by decide +kernel
theorem dJ13_bitCount_95d88_38 : decode cJ13_bitCount_95d88 38 = .ok (.lushr, 1) := by decide +kernel
theorem dJ13_bitCount_95d88_39 : decode cJ13_bitCount_95d88 39 = .ok (.ladd, 1) := by decide +kernel
theorem dJ13_bitCount_95d88_40 : decode cJ13_bitCount_95d88 40 = .ok (.lstore_n 0, 1) := by decide +kernel
theorem dJ13_bitCount_95d88_41 : decode cJ13_bitCount_95d88 41 = .ok (.lload_n 0, 1) := by decide +kernel
theorem dJ13_bitCount_95d88_42 : decode cJ13_bitCount_95d88 42 = .ok (.lload_n 0, 1) := by decide +kernel
theorem dJ13_bitCount_95d88_43 : decode cJ13_bitCount_95d88 43 = .ok (.bipush 16, 2) := by decide +kernel
theorem dJ13_bitCount_95d88_45 : decode cJ13_bitCount_95d88 45 = .ok (.lushr, 1) := by decide +kernel
theorem dJ13_bitCount_95d88_46 : decode cJ13_bitCount_95d88 46 = .ok (.ladd, 1) := by decide +kernel
theorem dJ13_bitCount_95d88_47 : decode cJ13_bitCount_95d88 47 = .ok (.lstore_n 0, 1) := by decide +kernel
theorem dJ13_bitCount_95d88_48 : decode cJ13_bitCount_95d88 48 = .ok (.lload_n 0, 1) := by decide +kernel
theorem dJ13_bitCount_95d88_49 : decode cJ13_bitCount_95d88 49 = .ok (.lload_n 0, 1) := by decide +kernel
theorem dJ13_bitCount_95d88_50 : decode cJ13_bitCount_95d88 50 = .ok (.bipush 32, 2) := by decide +kernel
theorem dJ13_bitCount_95d88_52 : decode cJ13_bitCount_95d88 52 = .ok (.lushr, 1) := by decide +kernel
theorem dJ13_bitCount_95d88_53 : decode cJ13_bitCount_95d88 53 = .ok (.ladd, 1) := by decide +kernel
theorem dJ13_bitCount_95d88_54 : decode cJ13_bitCount_95d88 54 = .ok (.lstore_n 0, 1) := by decide +kernel
theorem dJ13_bitCount_95d88_55 : decode cJ13_bitCount_95d88 55 = .ok (.lload_n 0, 1) := by decide +kernel
theorem dJ13_bitCount_95d88_56 : decode cJ13_bitCount_95d88 56 = .ok (.l2i, 1) := by decide +kernel
theorem dJ13_bitCount_95d88_57 : decode cJ13_bitCount_95d88 57 = .ok (.bipush 127, 2) := by decide +kernel
theorem dJ13_bitCount_95d88_59 : decode cJ13_bitCount_95d88 59 = .ok (.iand, 1) := by decide +kernel
theorem dJ13_bitCount_95d88_60 : decode cJ13_bitCount_95d88 60 = .ok (.ireturn, 1) := by decide +kernel
theorem q142_0 : pm_V d 142 0 [.long xj, l1] st S Q = pm_V d 142 1 [.long xj, l1] (.long xj :: st) S Q := pv_lload_n (pm_cdi rfl dJ13_bitCount_95d88_0) rfl
theorem q142_1 : pm_V d 142 1 [.long xj, l1] st S Q = pm_V d 142 2 [.long xj, l1] (.long xj :: st) S Q := pv_lload_n (pm_cdi rfl dJ13_bitCount_95d88_1) rfl
theorem q142_2 : pm_V d 142 2 [l0, l1] st S Q = pm_V d 142 3 [l0, l1] (.int 1 :: st) S Q := pv_iconst (pm_cdi rfl dJ13_bitCount_95d88_2) (by decide +kernel)
theorem q142_3 : pm_V d 142 3 [l0, l1] (.int yi :: .long xj :: st) S Q = pm_V d 142 4 [l0, l1] (.long ((xj.toUInt64 >>> (yi.toInt64.toUInt64 &&& Int64.toUInt64 63)).toInt64) :: st) S Q := pv_lushr (pm_cdi rfl dJ13_bitCount_95d88_3)
theorem q142_4 : pm_V d 142 4 [l0, l1] st S Q = pm_V d 142 7 [l0, l1] (.long (6148914691236517205) :: st) S Q := pv_ldc2 (pm_cdi rfl dJ13_bitCount_95d88_4) (by decide +kernel)
theorem q142_7 : pm_V d 142 7 [l0, l1] (.long yj :: .long xj :: st) S Q = pm_V d 142 8 [l0, l1] (.long (xj &&& yj) :: st) S Q := pv_land (pm_cdi rfl dJ13_bitCount_95d88_7)
theorem q142_8 : pm_V d 142 8 [l0, l1] (.long yj :: .long xj :: st) S Q = pm_V d 142 9 [l0, l1] (.long (xj - yj) :: st) S Q := pv_lsub (pm_cdi rfl dJ13_bitCount_95d88_8)
theorem q142_9 : pm_V d 142 9 [l0, l1] (.long xj :: st) S Q = pm_V d 142 10 [.long xj, pm_j] st S Q := pv_lstore_n (pm_cdi rfl dJ13_bitCount_95d88_9) rfl
theorem q142_10 : pm_V d 142 10 [.long xj, l1] st S Q = pm_V d 142 11 [.long xj, l1] (.long xj :: st) S Q := pv_lload_n (pm_cdi rfl dJ13_bitCount_95d88_10) rfl
theorem q142_11 : pm_V d 142 11 [l0, l1] st S Q = pm_V d 142 14 [l0, l1] (.long (3689348814741910323) :: st) S Q := pv_ldc2 (pm_cdi rfl dJ13_bitCount_95d88_11) (by decide +kernel)
theorem q142_14 : pm_V d 142 14 [l0, l1] (.long yj :: .long xj :: st) S Q = pm_V d 142 15 [l0, l1] (.long (xj &&& yj) :: st) S Q := pv_land (pm_cdi rfl dJ13_bitCount_95d88_14)
theorem q142_15 : pm_V d 142 15 [.long xj, l1] st S Q = pm_V d 142 16 [.long xj, l1] (.long xj :: st) S Q := pv_lload_n (pm_cdi rfl dJ13_bitCount_95d88_15) rfl
theorem q142_16 : pm_V d 142 16 [l0, l1] st S Q = pm_V d 142 17 [l0, l1] (.int 2 :: st) S Q := pv_iconst (pm_cdi rfl dJ13_bitCount_95d88_16) (by decide +kernel)
theorem q142_17 : pm_V d 142 17 [l0, l1] (.int yi :: .long xj :: st) S Q = pm_V d 142 18 [l0, l1] (.long ((xj.toUInt64 >>> (yi.toInt64.toUInt64 &&& Int64.toUInt64 63)).toInt64) :: st) S Q := pv_lushr (pm_cdi rfl dJ13_bitCount_95d88_17)
theorem q142_18 : pm_V d 142 18 [l0, l1] st S Q = pm_V d 142 21 [l0, l1] (.long (3689348814741910323) :: st) S Q := pv_ldc2 (pm_cdi rfl dJ13_bitCount_95d88_18) (by decide +kernel)
theorem q142_21 : pm_V d 142 21 [l0, l1] (.long yj :: .long xj :: st) S Q = pm_V d 142 22 [l0, l1] (.long (xj &&& yj) :: st) S Q := pv_land (pm_cdi rfl dJ13_bitCount_95d88_21)
theorem q142_22 : pm_V d 142 22 [l0, l1] (.long yj :: .long xj :: st) S Q = pm_V d 142 23 [l0, l1] (.long (xj + yj) :: st) S Q := pv_ladd (pm_cdi rfl dJ13_bitCount_95d88_22)
theorem q142_23 : pm_V d 142 23 [l0, l1] (.long xj :: st) S Q = pm_V d 142 24 [.long xj, pm_j] st S Q := pv_lstore_n (pm_cdi rfl dJ13_bitCount_95d88_23) rfl
theorem q142_24 : pm_V d 142 24 [.long xj, l1] st S Q = pm_V d 142 25 [.long xj, l1] (.long xj :: st) S Q := pv_lload_n (pm_cdi rfl dJ13_bitCount_95d88_24) rfl
theorem q142_25 : pm_V d 142 25 [.long xj, l1] st S Q = pm_V d 142 26 [.long xj, l1] (.long xj :: st) S Q := pv_lload_n (pm_cdi rfl dJ13_bitCount_95d88_25) rfl
theorem q142_26 : pm_V d 142 26 [l0, l1] st S Q = pm_V d 142 27 [l0, l1] (.int 4 :: st) S Q := pv_iconst (pm_cdi rfl dJ13_bitCount_95d88_26) (by decide +kernel)
theorem q142_27 : pm_V d 142 27 [l0, l1] (.int yi :: .long xj :: st) S Q = pm_V d 142 28 [l0, l1] (.long ((xj.toUInt64 >>> (yi.toInt64.toUInt64 &&& Int64.toUInt64 63)).toInt64) :: st) S Q := pv_lushr (pm_cdi rfl dJ13_bitCount_95d88_27)
theorem q142_28 : pm_V d 142 28 [l0, l1] (.long yj :: .long xj :: st) S Q = pm_V d 142 29 [l0, l1] (.long (xj + yj) :: st) S Q := pv_ladd (pm_cdi rfl dJ13_bitCount_95d88_28)
theorem q142_29 : pm_V d 142 29 [l0, l1] st S Q = pm_V d 142 32 [l0, l1] (.long (1085102592571150095) :: st) S Q := pv_ldc2 (pm_cdi rfl dJ13_bitCount_95d88_29) (by decide +kernel)
theorem q142_32 : pm_V d 142 32 [l0, l1] (.long yj :: .long xj :: st) S Q = pm_V d 142 33 [l0, l1] (.long (xj &&& yj) :: st) S Q := pv_land (pm_cdi rfl dJ13_bitCount_95d88_32)
theorem q142_33 : pm_V d 142 33 [l0, l1] (.long xj :: st) S Q = pm_V d 142 34 [.long xj, pm_j] st S Q := pv_lstore_n (pm_cdi rfl dJ13_bitCount_95d88_33) rfl
theorem q142_34 : pm_V d 142 34 [.long xj, l1] st S Q = pm_V d 142 35 [.long xj, l1] (.long xj :: st) S Q := pv_lload_n (pm_cdi rfl dJ13_bitCount_95d88_34) rfl
theorem q142_35 : pm_V d 142 35 [.long xj, l1] st S Q = pm_V d 142 36 [.long xj, l1] (.long xj :: st) S Q := pv_lload_n (pm_cdi rfl dJ13_bitCount_95d88_35) rfl
theorem q142_36 : pm_V d 142 36 [l0, l1] st S Q = pm_V d 142 38 [l0, l1] (.int 8 :: st) S Q := pv_bipush (pm_cdi rfl dJ13_bitCount_95d88_36) (by decide +kernel)
theorem q142_38 : pm_V d 142 38 [l0, l1] (.int yi :: .long xj :: st) S Q = pm_V d 142 39 [l0, l1] (.long ((xj.toUInt64 >>> (yi.toInt64.toUInt64 &&& Int64.toUInt64 63)).toInt64) :: st) S Q := pv_lushr (pm_cdi rfl dJ13_bitCount_95d88_38)
theorem q142_39 : pm_V d 142 39 [l0, l1] (.long yj :: .long xj :: st) S Q = pm_V d 142 40 [l0, l1] (.long (xj + yj) :: st) S Q := pv_ladd (pm_cdi rfl dJ13_bitCount_95d88_39)
theorem q142_40 : pm_V d 142 40 [l0, l1] (.long xj :: st) S Q = pm_V d 142 41 [.long xj, pm_j] st S Q := pv_lstore_n (pm_cdi rfl dJ13_bitCount_95d88_40) rfl
theorem q142_41 : pm_V d 142 41 [.long xj, l1] st S Q = pm_V d 142 42 [.long xj, l1] (.long xj :: st) S Q := pv_lload_n (pm_cdi rfl dJ13_bitCount_95d88_41) rfl
theorem q142_42 : pm_V d 142 42 [.long xj, l1] st S Q = pm_V d 142 43 [.long xj, l1] (.long xj :: st) S Q := pv_lload_n (pm_cdi rfl dJ13_bitCount_95d88_42) rfl
theorem q142_43 : pm_V d 142 43 [l0, l1] st S Q = pm_V d 142 45 [l0, l1] (.int 16 :: st) S Q := pv_bipush (pm_cdi rfl dJ13_bitCount_95d88_43) (by decide +kernel)
theorem q142_45 : pm_V d 142 45 [l0, l1] (.int yi :: .long xj :: st) S Q = pm_V d 142 46 [l0, l1] (.long ((xj.toUInt64 >>> (yi.toInt64.toUInt64 &&& Int64.toUInt64 63)).toInt64) :: st) S Q := pv_lushr (pm_cdi rfl dJ13_bitCount_95d88_45)
theorem q142_46 : pm_V d 142 46 [l0, l1] (.long yj :: .long xj :: st) S Q = pm_V d 142 47 [l0, l1] (.long (xj + yj) :: st) S Q := pv_ladd (pm_cdi rfl dJ13_bitCount_95d88_46)
theorem q142_47 : pm_V d 142 47 [l0, l1] (.long xj :: st) S Q = pm_V d 142 48 [.long xj, pm_j] st S Q := pv_lstore_n (pm_cdi rfl dJ13_bitCount_95d88_47) rfl
theorem q142_48 : pm_V d 142 48 [.long xj, l1] st S Q = pm_V d 142 49 [.long xj, l1] (.long xj :: st) S Q := pv_lload_n (pm_cdi rfl dJ13_bitCount_95d88_48) rfl
theorem q142_49 : pm_V d 142 49 [.long xj, l1] st S Q = pm_V d 142 50 [.long xj, l1] (.long xj :: st) S Q := pv_lload_n (pm_cdi rfl dJ13_bitCount_95d88_49) rfl
theorem q142_50 : pm_V d 142 50 [l0, l1] st S Q = pm_V d 142 52 [l0, l1] (.int 32 :: st) S Q := pv_bipush (pm_cdi rfl dJ13_bitCount_95d88_50) (by decide +kernel)
theorem q142_52 : pm_V d 142 52 [l0, l1] (.int yi :: .long xj :: st) S Q = pm_V d 142 53 [l0, l1] (.long ((xj.toUInt64 >>> (yi.toInt64.toUInt64 &&& Int64.toUInt64 63)).toInt64) :: st) S Q := pv_lushr (pm_cdi rfl dJ13_bitCount_95d88_52)
theorem q142_53 : pm_V d 142 53 [l0, l1] (.long yj :: .long xj :: st) S Q = pm_V d 142 54 [l0, l1] (.long (xj + yj) :: st) S Q := pv_ladd (pm_cdi rfl dJ13_bitCount_95d88_53)
theorem q142_54 : pm_V d 142 54 [l0, l1] (.long xj :: st) S Q = pm_V d 142 55 [.long xj, pm_j] st S Q := pv_lstore_n (pm_cdi rfl dJ13_bitCount_95d88_54) rfl
theorem q142_55 : pm_V d 142 55 [.long xj, l1] st S Q = pm_V d 142 56 [.long xj, l1] (.long xj :: st) S Q := pv_lload_n (pm_cdi rfl dJ13_bitCount_95d88_55) rfl
theorem q142_56 : pm_V d 142 56 [l0, l1] (.long xj :: st) S Q = pm_V d 142 57 [l0, l1] (.int xj.toInt32 :: st) S Q := pv_l2i (pm_cdi rfl dJ13_bitCount_95d88_56)
theorem q142_57 : pm_V d 142 57 [l0, l1] st S Q = pm_V d 142 59 [l0, l1] (.int 127 :: st) S Q := pv_bipush (pm_cdi rfl dJ13_bitCount_95d88_57) (by decide +kernel)
theorem q142_59 : pm_V d 142 59 [l0, l1] (.int yi :: .int xi :: st) S Q = pm_V d 142 60 [l0, l1] (.int (xi &&& yi) :: st) S Q := pv_iand (pm_cdi rfl dJ13_bitCount_95d88_59)
theorem q142_60 : pm_V d 142 60 [l0, l1] [.int xi] S Q = Q (some (.int xi)) S := pv_rI (pm_cdi rfl dJ13_bitCount_95d88_60) (by decide +kernel)
theorem q142_e : pm_N d 142 [.long v0j] S Q = pm_V d 142 0 [.long v0j, pm_j] [] S Q := pv_ent (Nat.le_of_ble_eq_true rfl) rfl
/-! 143: java/lang/Math.max(II)I -/
theorem dJ9_max_7cf53_0 : decode cJ9_max_7cf53 0 = .ok (.iload_n 0, 1) := by decide +kernel
theorem dJ9_max_7cf53_1 : decode cJ9_max_7cf53 1 = .ok (.iload_n 1, 1) := by decide +kernel
theorem dJ9_max_7cf53_2 : decode cJ9_max_7cf53 2 = .ok (.if_icmp .lt 7, 3) := by decide +kernel
theorem dJ9_max_7cf53_5 : decode cJ9_max_7cf53 5 = .ok (.iload_n 0, 1) := by decide +kernel
theorem dJ9_max_7cf53_6 : decode cJ9_max_7cf53 6 = .ok (.goto 4, 3) := by decide +kernel
theorem dJ9_max_7cf53_9 : decode cJ9_max_7cf53 9 = .ok (.iload_n 1, 1) := by decide +kernel
theorem dJ9_max_7cf53_10 : decode cJ9_max_7cf53 10 = .ok (.ireturn, 1) := by decide +kernel
theorem q143_0 : pm_V d 143 0 [.int xi, l1] st S Q = pm_V d 143 1 [.int xi, l1] (.int xi :: st) S Q := pv_iload_n (pm_cdi rfl dJ9_max_7cf53_0) rfl
theorem q143_1 : pm_V d 143 1 [l0, .int xi] st S Q = pm_V d 143 2 [l0, .int xi] (.int xi :: st) S Q := pv_iload_n (pm_cdi rfl dJ9_max_7cf53_1) rfl
theorem q143_2 : pm_V d 143 2 [l0, l1] (.int yi :: .int xi :: st) S Q = if xi < yi then pm_V d 143 9 [l0, l1] st S Q else pm_V d 143 5 [l0, l1] st S Q := pv_icmp_lt (pm_cdi rfl dJ9_max_7cf53_2) rfl
theorem q143_5 : pm_V d 143 5 [.int xi, l1] st S Q = pm_V d 143 6 [.int xi, l1] (.int xi :: st) S Q := pv_iload_n (pm_cdi rfl dJ9_max_7cf53_5) rfl
theorem q143_6 : pm_V d 143 6 [l0, l1] st S Q = pm_V d 143 10 [l0, l1] st S Q := pv_goto (pm_cdi rfl dJ9_max_7cf53_6) rfl
theorem q143_9 : pm_V d 143 9 [l0, .int xi] st S Q = pm_V d 143 10 [l0, .int xi] (.int xi :: st) S Q := pv_iload_n (pm_cdi rfl dJ9_max_7cf53_9) rfl
theorem q143_10 : pm_V d 143 10 [l0, l1] [.int xi] S Q = Q (some (.int xi)) S := pv_rI (pm_cdi rfl dJ9_max_7cf53_10) (by decide +kernel)
theorem q143_e : pm_N d 143 [.int v0i, .int v1i] S Q = pm_V d 143 0 [.int v0i, .int v1i] [] S Q := pv_ent (Nat.le_of_ble_eq_true rfl) rfl
/-! 144: java/lang/Math.max(JJ)J -/
theorem dJ9_max_f86c9_0 : decode cJ9_max_f86c9 0 = .ok (.lload_n 0, 1) := by decide +kernel
theorem dJ9_max_f86c9_1 : decode cJ9_max_f86c9 1 = .ok (.lload_n 2, 1) := by decide +kernel
theorem dJ9_max_f86c9_2 : decode cJ9_max_f86c9 2 = .ok (.lcmp, 1) := by decide +kernel
theorem dJ9_max_f86c9_3 : decode cJ9_max_f86c9 3 = .ok (.ifCond .lt 7, 3) := by decide +kernel
theorem dJ9_max_f86c9_6 : decode cJ9_max_f86c9 6 = .ok (.lload_n 0, 1) := by decide +kernel
theorem dJ9_max_f86c9_7 : decode cJ9_max_f86c9 7 = .ok (.goto 4, 3) := by decide +kernel
theorem dJ9_max_f86c9_10 : decode cJ9_max_f86c9 10 = .ok (.lload_n 2, 1) := by decide +kernel
theorem dJ9_max_f86c9_11 : decode cJ9_max_f86c9 11 = .ok (.lreturn, 1) := by decide +kernel
theorem q144_0 : pm_V d 144 0 [.long xj, l1, l2, l3] st S Q = pm_V d 144 1 [.long xj, l1, l2, l3] (.long xj :: st) S Q := pv_lload_n (pm_cdi rfl dJ9_max_f86c9_0) rfl
theorem q144_1 : pm_V d 144 1 [l0, l1, .long xj, l3] st S Q = pm_V d 144 2 [l0, l1, .long xj, l3] (.long xj :: st) S Q := pv_lload_n (pm_cdi rfl dJ9_max_f86c9_1) rfl
theorem q144_2 : pm_V d 144 2 [l0, l1, l2, l3] (.long yj :: .long xj :: st) S Q = pm_V d 144 3 [l0, l1, l2, l3] (.int (lg_cmp xj yj) :: st) S Q := pv_lcmp (pm_cdi rfl dJ9_max_f86c9_2)
theorem q144_3 : pm_V d 144 3 [l0, l1, l2, l3] (.int xi :: st) S Q = if xi < 0 then pm_V d 144 10 [l0, l1, l2, l3] st S Q else pm_V d 144 6 [l0, l1, l2, l3] st S Q := pv_if_lt (pm_cdi rfl dJ9_max_f86c9_3) rfl
theorem q144_6 : pm_V d 144 6 [.long xj, l1, l2, l3] st S Q = pm_V d 144 7 [.long xj, l1, l2, l3] (.long xj :: st) S Q := pv_lload_n (pm_cdi rfl dJ9_max_f86c9_6) rfl
theorem q144_7 : pm_V d 144 7 [l0, l1, l2, l3] st S Q = pm_V d 144 11 [l0, l1, l2, l3] st S Q := pv_goto (pm_cdi rfl dJ9_max_f86c9_7) rfl
theorem q144_10 : pm_V d 144 10 [l0, l1, .long xj, l3] st S Q = pm_V d 144 11 [l0, l1, .long xj, l3] (.long xj :: st) S Q := pv_lload_n (pm_cdi rfl dJ9_max_f86c9_10) rfl
theorem q144_11 : pm_V d 144 11 [l0, l1, l2, l3] [.long xj] S Q = Q (some (.long xj)) S := pv_rL (pm_cdi rfl dJ9_max_f86c9_11) (by decide +kernel)
theorem q144_e : pm_N d 144 [.long v0j, .long v1j] S Q = pm_V d 144 0 [.long v0j, pm_j, .long v1j, pm_j] [] S Q := pv_ent (Nat.le_of_ble_eq_true rfl) rfl
end
