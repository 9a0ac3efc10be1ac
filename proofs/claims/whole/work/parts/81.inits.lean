/-! constructors, leaves first: what each leaves -/
theorem npos {n : Nat} (h : 0 < n) (h2 : n < 2 ^ 31) : ¬ nI n ≤ 0 := by
  rw [Int32.le_iff_toInt_le, nI_toInt h2]
  simp
  omega
theorem dX0_init_0 : decode cX0_init 0 = .ok (.aload_n 0, 1) := by decide +kernel
theorem dX0_init_1 : decode cX0_init 1 = .ok (.invokespecial 3, 3) := by decide +kernel
theorem dX0_init_4 : decode cX0_init 4 = .ok (.aload_n 0, 1) := by decide +kernel
theorem dX0_init_5 : decode cX0_init 5 = .ok (.new 9, 3) := by decide +kernel
theorem dX0_init_8 : decode cX0_init 8 = .ok (.dup, 1) := by decide +kernel
theorem dX0_init_9 : decode cX0_init 9 = .ok (.bipush 6, 2) := by decide +kernel
theorem dX0_init_11 : decode cX0_init 11 = .ok (.invokespecial 11, 3) := by decide +kernel
theorem dX0_init_14 : decode cX0_init 14 = .ok (.putfield 14, 3) := by decide +kernel
theorem dX0_init_17 : decode cX0_init 17 = .ok (.aload_n 0, 1) := by decide +kernel
theorem dX0_init_18 : decode cX0_init 18 = .ok (.new 9, 3) := by decide +kernel
theorem dX0_init_21 : decode cX0_init 21 = .ok (.dup, 1) := by decide +kernel
theorem dX0_init_22 : decode cX0_init 22 = .ok (.bipush 6, 2) := by decide +kernel
theorem dX0_init_24 : decode cX0_init 24 = .ok (.invokespecial 11, 3) := by decide +kernel
theorem dX0_init_27 : decode cX0_init 27 = .ok (.putfield 20, 3) := by decide +kernel
theorem dX0_init_30 : decode cX0_init 30 = .ok (.return_, 1) := by decide +kernel
theorem df0 : ∀ j, j < 3 → defaultValue (tyX0 j) = vp_V [.null, .null, .int 0] j := fun j hj => match j, hj with | 0, _ => rfl | 1, _ => rfl | 2, _ => rfl | (k + 3), h => absurd h (by omega)
theorem dX1_init_0 : decode cX1_init 0 = .ok (.aload_n 0, 1) := by decide +kernel
theorem dX1_init_1 : decode cX1_init 1 = .ok (.invokespecial 3, 3) := by decide +kernel
theorem dX1_init_4 : decode cX1_init 4 = .ok (.aload_n 0, 1) := by decide +kernel
theorem dX1_init_5 : decode cX1_init 5 = .ok (.new 9, 3) := by decide +kernel
theorem dX1_init_8 : decode cX1_init 8 = .ok (.dup, 1) := by decide +kernel
theorem dX1_init_9 : decode cX1_init 9 = .ok (.bipush 9, 2) := by decide +kernel
theorem dX1_init_11 : decode cX1_init 11 = .ok (.invokespecial 11, 3) := by decide +kernel
theorem dX1_init_14 : decode cX1_init 14 = .ok (.putfield 14, 3) := by decide +kernel
theorem dX1_init_17 : decode cX1_init 17 = .ok (.aload_n 0, 1) := by decide +kernel
theorem dX1_init_18 : decode cX1_init 18 = .ok (.new 9, 3) := by decide +kernel
theorem dX1_init_21 : decode cX1_init 21 = .ok (.dup, 1) := by decide +kernel
theorem dX1_init_22 : decode cX1_init 22 = .ok (.bipush 9, 2) := by decide +kernel
theorem dX1_init_24 : decode cX1_init 24 = .ok (.invokespecial 11, 3) := by decide +kernel
theorem dX1_init_27 : decode cX1_init 27 = .ok (.putfield 20, 3) := by decide +kernel
theorem dX1_init_30 : decode cX1_init 30 = .ok (.aload_n 0, 1) := by decide +kernel
theorem dX1_init_31 : decode cX1_init 31 = .ok (.new 9, 3) := by decide +kernel
theorem dX1_init_34 : decode cX1_init 34 = .ok (.dup, 1) := by decide +kernel
theorem dX1_init_35 : decode cX1_init 35 = .ok (.bipush 10, 2) := by decide +kernel
theorem dX1_init_37 : decode cX1_init 37 = .ok (.invokespecial 11, 3) := by decide +kernel
theorem dX1_init_40 : decode cX1_init 40 = .ok (.putfield 23, 3) := by decide +kernel
theorem dX1_init_43 : decode cX1_init 43 = .ok (.aload_n 0, 1) := by decide +kernel
theorem dX1_init_44 : decode cX1_init 44 = .ok (.new 9, 3) := by decide +kernel
theorem dX1_init_47 : decode cX1_init 47 = .ok (.dup, 1) := by decide +kernel
theorem dX1_init_48 : decode cX1_init 48 = .ok (.bipush 10, 2) := by decide +kernel
theorem dX1_init_50 : decode cX1_init 50 = .ok (.invokespecial 11, 3) := by decide +kernel
theorem dX1_init_53 : decode cX1_init 53 = .ok (.putfield 26, 3) := by decide +kernel
theorem dX1_init_56 : decode cX1_init 56 = .ok (.aload_n 0, 1) := by decide +kernel
theorem dX1_init_57 : decode cX1_init 57 = .ok (.new 9, 3) := by decide +kernel
theorem dX1_init_60 : decode cX1_init 60 = .ok (.dup, 1) := by decide +kernel
theorem dX1_init_61 : decode cX1_init 61 = .ok (.bipush 10, 2) := by decide +kernel
theorem dX1_init_63 : decode cX1_init 63 = .ok (.invokespecial 11, 3) := by decide +kernel
theorem dX1_init_66 : decode cX1_init 66 = .ok (.putfield 29, 3) := by decide +kernel
theorem dX1_init_69 : decode cX1_init 69 = .ok (.aload_n 0, 1) := by decide +kernel
theorem dX1_init_70 : decode cX1_init 70 = .ok (.new 9, 3) := by decide +kernel
theorem dX1_init_73 : decode cX1_init 73 = .ok (.dup, 1) := by decide +kernel
theorem dX1_init_74 : decode cX1_init 74 = .ok (.iconst 4, 1) := by decide +kernel
theorem dX1_init_75 : decode cX1_init 75 = .ok (.invokespecial 11, 3) := by decide +kernel
theorem dX1_init_78 : decode cX1_init 78 = .ok (.putfield 32, 3) := by decide +kernel
theorem dX1_init_81 : decode cX1_init 81 = .ok (.aload_n 0, 1) := by decide +kernel
theorem dX1_init_82 : decode cX1_init 82 = .ok (.new 9, 3) := by decide +kernel
theorem dX1_init_85 : decode cX1_init 85 = .ok (.dup, 1) := by decide +kernel
theorem dX1_init_86 : decode cX1_init 86 = .ok (.iconst 4, 1) := by decide +kernel
theorem dX1_init_87 : decode cX1_init 87 = .ok (.invokespecial 11, 3) := by decide +kernel
theorem dX1_init_90 : decode cX1_init 90 = .ok (.putfield 35, 3) := by decide +kernel
theorem dX1_init_93 : decode cX1_init 93 = .ok (.aload_n 0, 1) := by decide +kernel
theorem dX1_init_94 : decode cX1_init 94 = .ok (.bipush 7, 2) := by decide +kernel
theorem dX1_init_96 : decode cX1_init 96 = .ok (.putfield 38, 3) := by decide +kernel
theorem dX1_init_99 : decode cX1_init 99 = .ok (.return_, 1) := by decide +kernel
theorem df1 : ∀ j, j < 11 → defaultValue (tyX1 j) = vp_V [.null, .null, .null, .null, .null, .null, .null, .int 0, .int 0, .int 0, .int 0] j := fun j hj => match j, hj with | 0, _ => rfl | 1, _ => rfl | 2, _ => rfl | 3, _ => rfl | 4, _ => rfl | 5, _ => rfl | 6, _ => rfl | 7, _ => rfl | 8, _ => rfl | 9, _ => rfl | 10, _ => rfl | (k + 11), h => absurd h (by omega)
theorem dX2_init_0 : decode cX2_init 0 = .ok (.aload_n 0, 1) := by decide +kernel
theorem dX2_init_1 : decode cX2_init 1 = .ok (.invokespecial 3, 3) := by decide +kernel
theorem dX2_init_4 : decode cX2_init 4 = .ok (.aload_n 0, 1) := by decide +kernel
theorem dX2_init_5 : decode cX2_init 5 = .ok (.new 9, 3) := by decide +kernel
theorem dX2_init_8 : decode cX2_init 8 = .ok (.dup, 1) := by decide +kernel
theorem dX2_init_9 : decode cX2_init 9 = .ok (.sipush 200, 3) := by decide +kernel
theorem dX2_init_12 : decode cX2_init 12 = .ok (.invokespecial 11, 3) := by decide +kernel
theorem dX2_init_15 : decode cX2_init 15 = .ok (.putfield 14, 3) := by decide +kernel
theorem dX2_init_18 : decode cX2_init 18 = .ok (.aload_n 0, 1) := by decide +kernel
theorem dX2_init_19 : decode cX2_init 19 = .ok (.new 9, 3) := by decide +kernel
theorem dX2_init_22 : decode cX2_init 22 = .ok (.dup, 1) := by decide +kernel
theorem dX2_init_23 : decode cX2_init 23 = .ok (.iconst 3, 1) := by decide +kernel
theorem dX2_init_24 : decode cX2_init 24 = .ok (.invokespecial 11, 3) := by decide +kernel
theorem dX2_init_27 : decode cX2_init 27 = .ok (.putfield 20, 3) := by decide +kernel
theorem dX2_init_30 : decode cX2_init 30 = .ok (.return_, 1) := by decide +kernel
theorem df2 : ∀ j, j < 4 → defaultValue (tyX2 j) = vp_V [.null, .null, .int 0, .int 0] j := fun j hj => match j, hj with | 0, _ => rfl | 1, _ => rfl | 2, _ => rfl | 3, _ => rfl | (k + 4), h => absurd h (by omega)
theorem dX3_init_0 : decode cX3_init 0 = .ok (.aload_n 0, 1) := by decide +kernel
theorem dX3_init_1 : decode cX3_init 1 = .ok (.invokespecial 1, 3) := by decide +kernel
theorem dX3_init_4 : decode cX3_init 4 = .ok (.aload_n 0, 1) := by decide +kernel
theorem dX3_init_5 : decode cX3_init 5 = .ok (.iload_n 1, 1) := by decide +kernel
theorem dX3_init_6 : decode cX3_init 6 = .ok (.ifCond .le 7, 3) := by decide +kernel
theorem dX3_init_9 : decode cX3_init 9 = .ok (.iload_n 1, 1) := by decide +kernel
theorem dX3_init_10 : decode cX3_init 10 = .ok (.goto 4, 3) := by decide +kernel
theorem dX3_init_13 : decode cX3_init 13 = .ok (.iconst 0, 1) := by decide +kernel
theorem dX3_init_14 : decode cX3_init 14 = .ok (.anewarray 7, 3) := by decide +kernel
theorem dX3_init_17 : decode cX3_init 17 = .ok (.putfield 9, 3) := by decide +kernel
theorem dX3_init_20 : decode cX3_init 20 = .ok (.iconst 0, 1) := by decide +kernel
theorem dX3_init_21 : decode cX3_init 21 = .ok (.istore_n 2, 1) := by decide +kernel
theorem dX3_init_22 : decode cX3_init 22 = .ok (.iload_n 2, 1) := by decide +kernel
theorem dX3_init_23 : decode cX3_init 23 = .ok (.aload_n 0, 1) := by decide +kernel
theorem dX3_init_24 : decode cX3_init 24 = .ok (.getfield 9, 3) := by decide +kernel
theorem dX3_init_27 : decode cX3_init 27 = .ok (.arraylength, 1) := by decide +kernel
theorem dX3_init_28 : decode cX3_init 28 = .ok (.if_icmp .ge 22, 3) := by decide +kernel
theorem dX3_init_31 : decode cX3_init 31 = .ok (.aload_n 0, 1) := by decide +kernel
theorem dX3_init_32 : decode cX3_init 32 = .ok (.getfield 9, 3) := by decide +kernel
theorem dX3_init_35 : decode cX3_init 35 = .ok (.iload_n 2, 1) := by decide +kernel
theorem dX3_init_36 : decode cX3_init 36 = .ok (.new 7, 3) := by decide +kernel
theorem dX3_init_39 : decode cX3_init 39 = .ok (.dup, 1) := by decide +kernel
theorem dX3_init_40 : decode cX3_init 40 = .ok (.invokespecial 15, 3) := by decide +kernel
theorem dX3_init_43 : decode cX3_init 43 = .ok (.aastore, 1) := by decide +kernel
theorem dX3_init_44 : decode cX3_init 44 = .ok (.iinc 2 1, 3) := by decide +kernel
theorem dX3_init_47 : decode cX3_init 47 = .ok (.goto (-25), 3) := by decide +kernel
theorem dX3_init_50 : decode cX3_init 50 = .ok (.return_, 1) := by decide +kernel
theorem df3 : ∀ j, j < 2 → defaultValue (tyX3 j) = vp_V [.null, .int 0] j := fun j hj => match j, hj with | 0, _ => rfl | 1, _ => rfl | (k + 2), h => absurd h (by omega)
theorem dX4_init_0 : decode cX4_init 0 = .ok (.aload_n 0, 1) := by decide +kernel
theorem dX4_init_1 : decode cX4_init 1 = .ok (.invokespecial 1, 3) := by decide +kernel
theorem dX4_init_4 : decode cX4_init 4 = .ok (.aload_n 0, 1) := by decide +kernel
theorem dX4_init_5 : decode cX4_init 5 = .ok (.iload_n 1, 1) := by decide +kernel
theorem dX4_init_6 : decode cX4_init 6 = .ok (.ifCond .le 7, 3) := by decide +kernel
theorem dX4_init_9 : decode cX4_init 9 = .ok (.iload_n 1, 1) := by decide +kernel
theorem dX4_init_10 : decode cX4_init 10 = .ok (.goto 4, 3) := by decide +kernel
theorem dX4_init_13 : decode cX4_init 13 = .ok (.iconst 0, 1) := by decide +kernel
theorem dX4_init_14 : decode cX4_init 14 = .ok (.newarray .int, 2) := by decide +kernel
theorem dX4_init_16 : decode cX4_init 16 = .ok (.putfield 7, 3) := by decide +kernel
theorem dX4_init_19 : decode cX4_init 19 = .ok (.return_, 1) := by decide +kernel
theorem df4 : ∀ j, j < 1 → defaultValue (tyX4 j) = vp_V [.null] j := fun j hj => match j, hj with | 0, _ => rfl | (k + 1), h => absurd h (by omega)
theorem dX5_init_0 : decode cX5_init 0 = .ok (.aload_n 0, 1) := by decide +kernel
theorem dX5_init_1 : decode cX5_init 1 = .ok (.invokespecial 3, 3) := by decide +kernel
theorem dX5_init_4 : decode cX5_init 4 = .ok (.aload_n 0, 1) := by decide +kernel
theorem dX5_init_5 : decode cX5_init 5 = .ok (.new 9, 3) := by decide +kernel
theorem dX5_init_8 : decode cX5_init 8 = .ok (.dup, 1) := by decide +kernel
theorem dX5_init_9 : decode cX5_init 9 = .ok (.bipush 9, 2) := by decide +kernel
theorem dX5_init_11 : decode cX5_init 11 = .ok (.invokespecial 11, 3) := by decide +kernel
theorem dX5_init_14 : decode cX5_init 14 = .ok (.putfield 14, 3) := by decide +kernel
theorem dX5_init_17 : decode cX5_init 17 = .ok (.return_, 1) := by decide +kernel
theorem df5 : ∀ j, j < 4 → defaultValue (tyX5 j) = vp_V [.null, .int 0, .int 0, .int 0] j := fun j hj => match j, hj with | 0, _ => rfl | 1, _ => rfl | 2, _ => rfl | 3, _ => rfl | (k + 4), h => absurd h (by omega)
theorem dX6_init_0 : decode cX6_init 0 = .ok (.aload_n 0, 1) := by decide +kernel
theorem dX6_init_1 : decode cX6_init 1 = .ok (.invokespecial 3, 3) := by decide +kernel
theorem dX6_init_4 : decode cX6_init 4 = .ok (.return_, 1) := by decide +kernel
theorem df6 : ∀ j, j < 2 → defaultValue (tyX6 j) = vp_V [.int 0, .int 0] j := fun j hj => match j, hj with | 0, _ => rfl | 1, _ => rfl | (k + 2), h => absurd h (by omega)
theorem dX7_init_0 : decode cX7_init 0 = .ok (.aload_n 0, 1) := by decide +kernel
theorem dX7_init_1 : decode cX7_init 1 = .ok (.invokespecial 1, 3) := by decide +kernel
theorem dX7_init_4 : decode cX7_init 4 = .ok (.aload_n 0, 1) := by decide +kernel
theorem dX7_init_5 : decode cX7_init 5 = .ok (.new 7, 3) := by decide +kernel
theorem dX7_init_8 : decode cX7_init 8 = .ok (.dup, 1) := by decide +kernel
theorem dX7_init_9 : decode cX7_init 9 = .ok (.invokespecial 9, 3) := by decide +kernel
theorem dX7_init_12 : decode cX7_init 12 = .ok (.putfield 10, 3) := by decide +kernel
theorem dX7_init_15 : decode cX7_init 15 = .ok (.aload_n 0, 1) := by decide +kernel
theorem dX7_init_16 : decode cX7_init 16 = .ok (.new 16, 3) := by decide +kernel
theorem dX7_init_19 : decode cX7_init 19 = .ok (.dup, 1) := by decide +kernel
theorem dX7_init_20 : decode cX7_init 20 = .ok (.invokespecial 18, 3) := by decide +kernel
theorem dX7_init_23 : decode cX7_init 23 = .ok (.putfield 19, 3) := by decide +kernel
theorem dX7_init_26 : decode cX7_init 26 = .ok (.aload_n 0, 1) := by decide +kernel
theorem dX7_init_27 : decode cX7_init 27 = .ok (.new 16, 3) := by decide +kernel
theorem dX7_init_30 : decode cX7_init 30 = .ok (.dup, 1) := by decide +kernel
theorem dX7_init_31 : decode cX7_init 31 = .ok (.invokespecial 18, 3) := by decide +kernel
theorem dX7_init_34 : decode cX7_init 34 = .ok (.putfield 23, 3) := by decide +kernel
theorem dX7_init_37 : decode cX7_init 37 = .ok (.aload_n 0, 1) := by decide +kernel
theorem dX7_init_38 : decode cX7_init 38 = .ok (.new 26, 3) := by decide +kernel
theorem dX7_init_41 : decode cX7_init 41 = .ok (.dup, 1) := by decide +kernel
theorem dX7_init_42 : decode cX7_init 42 = .ok (.invokespecial 28, 3) := by decide +kernel
theorem dX7_init_45 : decode cX7_init 45 = .ok (.putfield 29, 3) := by decide +kernel
theorem dX7_init_48 : decode cX7_init 48 = .ok (.aload_n 0, 1) := by decide +kernel
theorem dX7_init_49 : decode cX7_init 49 = .ok (.new 26, 3) := by decide +kernel
theorem dX7_init_52 : decode cX7_init 52 = .ok (.dup, 1) := by decide +kernel
theorem dX7_init_53 : decode cX7_init 53 = .ok (.invokespecial 28, 3) := by decide +kernel
theorem dX7_init_56 : decode cX7_init 56 = .ok (.putfield 33, 3) := by decide +kernel
theorem dX7_init_59 : decode cX7_init 59 = .ok (.aload_n 0, 1) := by decide +kernel
theorem dX7_init_60 : decode cX7_init 60 = .ok (.new 36, 3) := by decide +kernel
theorem dX7_init_63 : decode cX7_init 63 = .ok (.dup, 1) := by decide +kernel
theorem dX7_init_64 : decode cX7_init 64 = .ok (.bipush 8, 2) := by decide +kernel
theorem dX7_init_66 : decode cX7_init 66 = .ok (.invokespecial 38, 3) := by decide +kernel
theorem dX7_init_69 : decode cX7_init 69 = .ok (.putfield 41, 3) := by decide +kernel
theorem dX7_init_72 : decode cX7_init 72 = .ok (.aload_n 0, 1) := by decide +kernel
theorem dX7_init_73 : decode cX7_init 73 = .ok (.new 36, 3) := by decide +kernel
theorem dX7_init_76 : decode cX7_init 76 = .ok (.dup, 1) := by decide +kernel
theorem dX7_init_77 : decode cX7_init 77 = .ok (.iconst 2, 1) := by decide +kernel
theorem dX7_init_78 : decode cX7_init 78 = .ok (.invokespecial 38, 3) := by decide +kernel
theorem dX7_init_81 : decode cX7_init 81 = .ok (.putfield 45, 3) := by decide +kernel
theorem dX7_init_84 : decode cX7_init 84 = .ok (.aload_n 0, 1) := by decide +kernel
theorem dX7_init_85 : decode cX7_init 85 = .ok (.new 48, 3) := by decide +kernel
theorem dX7_init_88 : decode cX7_init 88 = .ok (.dup, 1) := by decide +kernel
theorem dX7_init_89 : decode cX7_init 89 = .ok (.invokespecial 50, 3) := by decide +kernel
theorem dX7_init_92 : decode cX7_init 92 = .ok (.putfield 51, 3) := by decide +kernel
theorem dX7_init_95 : decode cX7_init 95 = .ok (.aload_n 0, 1) := by decide +kernel
theorem dX7_init_96 : decode cX7_init 96 = .ok (.new 55, 3) := by decide +kernel
theorem dX7_init_99 : decode cX7_init 99 = .ok (.dup, 1) := by decide +kernel
theorem dX7_init_100 : decode cX7_init 100 = .ok (.invokespecial 57, 3) := by decide +kernel
theorem dX7_init_103 : decode cX7_init 103 = .ok (.putfield 58, 3) := by decide +kernel
theorem dX7_init_106 : decode cX7_init 106 = .ok (.aload_n 0, 1) := by decide +kernel
theorem dX7_init_107 : decode cX7_init 107 = .ok (.new 62, 3) := by decide +kernel
theorem dX7_init_110 : decode cX7_init 110 = .ok (.dup, 1) := by decide +kernel
theorem dX7_init_111 : decode cX7_init 111 = .ok (.iconst 3, 1) := by decide +kernel
theorem dX7_init_112 : decode cX7_init 112 = .ok (.invokespecial 64, 3) := by decide +kernel
theorem dX7_init_115 : decode cX7_init 115 = .ok (.putfield 65, 3) := by decide +kernel
theorem dX7_init_118 : decode cX7_init 118 = .ok (.aload_n 0, 1) := by decide +kernel
theorem dX7_init_119 : decode cX7_init 119 = .ok (.new 62, 3) := by decide +kernel
theorem dX7_init_122 : decode cX7_init 122 = .ok (.dup, 1) := by decide +kernel
theorem dX7_init_123 : decode cX7_init 123 = .ok (.bipush 9, 2) := by decide +kernel
theorem dX7_init_125 : decode cX7_init 125 = .ok (.invokespecial 64, 3) := by decide +kernel
theorem dX7_init_128 : decode cX7_init 128 = .ok (.putfield 69, 3) := by decide +kernel
theorem dX7_init_131 : decode cX7_init 131 = .ok (.iconst 0, 1) := by decide +kernel
theorem dX7_init_132 : decode cX7_init 132 = .ok (.istore_n 1, 1) := by decide +kernel
theorem dX7_init_133 : decode cX7_init 133 = .ok (.iload_n 1, 1) := by decide +kernel
theorem dX7_init_134 : decode cX7_init 134 = .ok (.ldc 72, 2) := by decide +kernel
theorem dX7_init_136 : decode cX7_init 136 = .ok (.invokevirtual 74, 3) := by decide +kernel
theorem dX7_init_139 : decode cX7_init 139 = .ok (.if_icmp .ge 23, 3) := by decide +kernel
theorem dX7_init_142 : decode cX7_init 142 = .ok (.aload_n 0, 1) := by decide +kernel
theorem dX7_init_143 : decode cX7_init 143 = .ok (.getfield 10, 3) := by decide +kernel
theorem dX7_init_146 : decode cX7_init 146 = .ok (.ldc 72, 2) := by decide +kernel
theorem dX7_init_148 : decode cX7_init 148 = .ok (.iload_n 1, 1) := by decide +kernel
theorem dX7_init_149 : decode cX7_init 149 = .ok (.invokevirtual 80, 3) := by decide +kernel
theorem dX7_init_152 : decode cX7_init 152 = .ok (.invokevirtual 84, 3) := by decide +kernel
theorem dX7_init_155 : decode cX7_init 155 = .ok (.pop, 1) := by decide +kernel
theorem dX7_init_156 : decode cX7_init 156 = .ok (.iinc 1 1, 3) := by decide +kernel
theorem dX7_init_159 : decode cX7_init 159 = .ok (.goto (-26), 3) := by decide +kernel
theorem dX7_init_162 : decode cX7_init 162 = .ok (.aload_n 0, 1) := by decide +kernel
theorem dX7_init_163 : decode cX7_init 163 = .ok (.invokevirtual 88, 3) := by decide +kernel
theorem dX7_init_166 : decode cX7_init 166 = .ok (.pop, 1) := by decide +kernel
theorem dX7_init_167 : decode cX7_init 167 = .ok (.aload_n 0, 1) := by decide +kernel
theorem dX7_init_168 : decode cX7_init 168 = .ok (.getfield 10, 3) := by decide +kernel
theorem dX7_init_171 : decode cX7_init 171 = .ok (.invokevirtual 92, 3) := by decide +kernel
theorem dX7_init_174 : decode cX7_init 174 = .ok (.return_, 1) := by decide +kernel
theorem df7 : ∀ j, j < 11 → defaultValue (tyX7 j) = vp_V [.null, .null, .null, .null, .null, .null, .null, .null, .null, .null, .null] j := fun j hj => match j, hj with | 0, _ => rfl | 1, _ => rfl | 2, _ => rfl | 3, _ => rfl | 4, _ => rfl | 5, _ => rfl | 6, _ => rfl | 7, _ => rfl | 8, _ => rfl | 9, _ => rfl | 10, _ => rfl | (k + 11), h => absurd h (by omega)
def wX4 (h0 : Nat) (cA : ClassId) (n : Nat) (u : Nat → Nat) : va_W := [(h0, .inr (4, [.ref (u 0)])), (u 0, .inl (cA, n, .inl (fun _ => 0)))]
set_option maxHeartbeats 4000000 in
set_option maxRecDepth 100000 in
theorem cI_X4 (l : Launch) (D : va_G) (cA cQ : ClassId) (h0 sz n : Nat) (hn0 : 0 < n) (hn : n < 1000) : Met l yX4_init (.code yX4_init cX4_init 2 none :: TI) ({ frames := 1, cells := 1, slots := n, locals := 64 }) (va_Pc [.ref h0, .int (nI n)] (BI sz D cA cQ [(h0, .inr (4, [.null]))])) (va_Qv (fun _ : Nat → Nat => True) (atI D cA cQ (va_A [(h0, .inr (4, [.null]))] sz) (wX4 h0 cA n)) (va_A [(h0, .inr (4, [.null]))] sz)) 1 n (va_A [(h0, .inr (4, [.null]))] sz) := by
  refine Met.ofW (cc := cX4_init) (maxL := 2) (ret := none) (by decide +kernel) rfl ?_
  intro p e s m args below meth c s₁ B hml hv
  obtain ⟨rfl, hsz, hP, hK, hD0, hE⟩ := hv
  have hx := B.exec
  have hb := B.bytes
  have hr := B.returns
  have hts0 := atoms_spec (ws := .code yX4_init cX4_init 2 none :: TI) B.pre
  have hts : ∀ w ∈ TI, w.before ([.ref h0, .int (nI n)] : List Value).toArray s = true := fun w hw => hts0 w (List.mem_cons_of_mem _ hw)
  have hown : s.vm.findClass RX4 = some m.cls := findClass_of_methodNamed B.named
  have hlocks := B.notSynchronized
  have hin : meth.name = "<init>" := (name_of_methodNamed B.named B.method).1
  subst hsz
  have hD := hD0.self (sz := s.heap.size)
  generalize hAe : va_A [(h0, .inr (4, [.null]))] s.heap.size = A at hD ⊢
  have hA : ∀ q : Nat, s.heap.size ≤ q → A q := fun q h => by rw [← hAe]; exact Or.inr h
  have hS : va_S A s.heap s.heap [] := va_S.rf
  have hl := lv_entry ([.ref h0, .int (nI n)]) (n := 2) (Nat.le_of_ble_eq_true rfl)
  rw [lg_entry_eq]
  generalize (lg_sl ([.ref h0, .int (nI n)]) ++ List.replicate (2 - (lg_sl ([.ref h0, .int (nI n)])).length) Slot.unset).toArray = ls at hl ⊢
  have hl : lv_has ls 2 [(0, .ref h0), (1, .int (nI n))] := hl
  refine lv_aload_n hx hb dX4_init_0 rfl (lv_at hl 0 rfl) ?_
  refine W.objInit hx hb hown (hts _ tx_oi4) (hts _ tx_oim) (hts _ tk_objectInit) rfl (by rw [hml]; exact hl.1) rfl dX4_init_1 (Nat.le_of_ble_eq_true rfl) (Nat.le_of_ble_eq_true rfl) ?_
  refine W.eq (g2 := F0 m 4 ls []) rfl ?_
  refine lv_aload_n hx hb dX4_init_4 rfl (lv_at hl 0 rfl) ?_
  refine lv_iload_n hx hb dX4_init_5 rfl (lv_at hl 1 rfl) ?_
  refine lv_if_le (tgt := 13) hx hb dX4_init_6 (by decide) (fun q => absurd q (npos hn0 (by omega))) (fun _ => ?_)
  refine lv_iload_n hx hb dX4_init_9 rfl (lv_at hl 1 rfl) ?_
  refine lv_goto (tgt := 14) hx hb dX4_init_10 (by decide) ?_
  refine va_newa (atype := .int) (a0 := (n, .inl (fun _ => 0))) hx hb (hts _ tx_ac) rfl hK hP hD hS hA (fun _ => rfl) (nI_pos (by omega)) (nI_clamp (by omega)) (by show n * 4 ≤ 536870912; omega) (Nat.le_of_ble_eq_true rfl) (by show 0 + n ≤ n; omega) dX4_init_14 (fun q14 c2 H hK2 hP hD hS => ?_)
  rw [arr_same hK2] at hP hD
  clear hK2
  have hP : va_P D vwCl [(h0, .inr (4, [.null])), (q14, .inl (cA, n, .inl (fun _ => 0)))] H := hP
  have hD : va_D A [(h0, .inr (4, [.null])), (q14, .inl (cA, n, .inl (fun _ => 0)))] := hD
  refine va_putF (D := D) (ci := 4) (v := .ref q14) (ty := (.array .int)) (C := RX4) (T := TX4) (N := 1) hx hb hts (fun w h => ti_w (in_l (c := 4) (by decide) w h)) tyX4 tyX4_ok nmX4 hown hK hP hD hS 0 rfl rfl 0 (by decide) (hts _ (ti_w (in_f (List.mem_of_getElem? (i := 21) rfl)))) (fun _ h9 => h9) rfl hin rfl (by decide +kernel) rfl rfl (Nat.le_of_ble_eq_true rfl) dX4_init_16 (fun H locs hP hD hS => ?_)
  have hP : va_P D vwCl [(h0, .inr (4, [.ref q14])), (q14, .inl (cA, n, .inl (fun _ => 0)))] H := hP
  have hD : va_D A [(h0, .inr (4, [.ref q14])), (q14, .inl (cA, n, .inl (fun _ => 0)))] := hD
  refine W.widen (k := 1) (n := n) (Nat.le_of_ble_eq_true rfl) (by omega) ?_
  exact W.vret hx hb hr (fun t ht hW => ⟨⟨(fun k => ([q14] : List Nat).getD k 0), rfl, trivial, by rw [ht]; exact hP, va_K.moved hW.alike hK, hD⟩, hS.F ht⟩) hS.2.2 dX4_init_19
def wX0 (h0 : Nat) (cA : ClassId) (u : Nat → Nat) : va_W := [(h0, .inr (0, [.ref (u 0), .ref (u 2), .int 0])), ((u 0), .inr (4, [.ref (u 1)])), ((u 1), .inl (cA, 6, .inl (fun _ => 0))), ((u 2), .inr (4, [.ref (u 3)])), ((u 3), .inl (cA, 6, .inl (fun _ => 0)))]
set_option maxHeartbeats 4000000 in
set_option maxRecDepth 100000 in
theorem cI_X0 (l : Launch) (D : va_G) (cA cQ : ClassId) (h0 sz : Nat) : Met l yX0_init (.code yX0_init cX0_init 1 none :: TI) ({ frames := 2, cells := 4, slots := 14, locals := 128 }) (va_Pc [.ref h0] (BI sz D cA cQ [(h0, .inr (0, [.null, .null, .int 0]))])) (va_Qv (fun _ : Nat → Nat => True) (atI D cA cQ (va_A [(h0, .inr (0, [.null, .null, .int 0]))] sz) (wX0 h0 cA)) (va_A [(h0, .inr (0, [.null, .null, .int 0]))] sz)) 4 14 (va_A [(h0, .inr (0, [.null, .null, .int 0]))] sz) := by
  refine Met.ofW (cc := cX0_init) (maxL := 1) (ret := none) (by decide +kernel) rfl ?_
  intro p e s m args below meth c s₁ B hml hv
  obtain ⟨rfl, hsz, hP, hK, hD0, hE⟩ := hv
  have hx := B.exec
  have hb := B.bytes
  have hr := B.returns
  have hts0 := atoms_spec (ws := .code yX0_init cX0_init 1 none :: TI) B.pre
  have hts : ∀ w ∈ TI, w.before ([.ref h0] : List Value).toArray s = true := fun w hw => hts0 w (List.mem_cons_of_mem _ hw)
  have hown : s.vm.findClass RX0 = some m.cls := findClass_of_methodNamed B.named
  have hlocks := B.notSynchronized
  have hin : meth.name = "<init>" := (name_of_methodNamed B.named B.method).1
  subst hsz
  have hD := hD0.self (sz := s.heap.size)
  generalize hAe : va_A [(h0, .inr (0, [.null, .null, .int 0]))] s.heap.size = A at hD ⊢
  have hA : ∀ q : Nat, s.heap.size ≤ q → A q := fun q h => by rw [← hAe]; exact Or.inr h
  have hS : va_S A s.heap s.heap [] := va_S.rf
  have hl := lv_entry ([.ref h0]) (n := 1) (Nat.le_of_ble_eq_true rfl)
  rw [lg_entry_eq]
  generalize (lg_sl ([.ref h0]) ++ List.replicate (1 - (lg_sl ([.ref h0])).length) Slot.unset).toArray = ls at hl ⊢
  have hl : lv_has ls 1 [(0, .ref h0)] := hl
  refine lv_aload_n hx hb dX0_init_0 rfl (lv_at hl 0 rfl) ?_
  refine W.objInit hx hb hown (hts _ tx_oi0) (hts _ tx_oim) (hts _ tk_objectInit) rfl (by rw [hml]; exact hl.1) rfl dX0_init_1 (Nat.le_of_ble_eq_true rfl) (Nat.le_of_ble_eq_true rfl) ?_
  refine W.eq (g2 := F0 m 4 ls []) rfl ?_
  refine lv_aload_n hx hb dX0_init_4 rfl (lv_at hl 0 rfl) ?_
  refine va_new (ci := 4) (fs := [.null]) (C := RX4) (T := TX4) (N := 1) hx hb hts (fun w h => ti_w (in_l (c := 4) (by decide) w h)) tyX4 tyX4_ok hown (hts _ tx_clX0_9) (hts _ tx_in4) (hts _ tx_itX4) hK hP hD hS hA rfl df4 (Nat.le_of_ble_eq_true rfl) (Nat.le_of_ble_eq_true rfl) dX0_init_5 (fun q5 H hP hD hS => ?_)
  have hP : va_P D vwCl [(h0, .inr (0, [.null, .null, .int 0])), (q5, .inr (4, [.null]))] H := hP
  have hD : va_D A [(h0, .inr (0, [.null, .null, .int 0])), (q5, .inr (4, [.null]))] := hD
  refine lv_dup hx hb dX0_init_8 rfl ?_
  refine lv_bipush (v := nI 6) hx hb dX0_init_9 (by decide) ?_
  have hPc := hP.sub (ws' := [(q5, .inr (4, [.null]))]) [1] rfl
  have hDc := hD.sub (ws' := [(q5, .inr (4, [.null]))]) [1] (by decide) rfl
  have hFc := va_free (wc := [(q5, .inr (4, [.null]))]) hD hS hA [1] rfl
  refine va_callv (va_runI (As := [.int (nI 6)]) (rest := [.ref q5, .ref h0]) ⟨hx, hb, hml, hown, hts⟩ (cI_X4 l D cA cQ q5 H.size 6 (by decide) (by decide)) (cwI 1 hts (TI_gi _ (List.forall_mem_cons.mpr ⟨tk_yX4_init, fun w h => h⟩)) rfl rfl rfl (hts _ tx_itX4) (hts _ tx_mlX0_11) (hts _ tx_imX4_init) rfl (by decide +kernel) ⟨Nat.le_of_ble_eq_true rfl, Nat.le_of_ble_eq_true rfl⟩) ⟨BI_blind, fun U hU hW => ⟨rfl, BI_pass hPc hK hDc hE U hU hW⟩⟩ rfl rfl hl.1 rfl (lv_room (Nat.le_of_ble_eq_true rfl)) dX0_init_11 ⟨Nat.le_of_ble_eq_true rfl, Nat.le_of_ble_eq_true rfl⟩) hS (fun q _ h => hFc q h) hFc (fun u5 t H1 locs ht hvm _ hB hz1 hk1 hS => ?_)
  obtain ⟨hP1, hK1, hD1⟩ := hB
  rw [ht] at hP1
  obtain ⟨hP, hD⟩ := va_join (wr := [(h0, .inr (0, [.null, .null, .int 0]))]) (w1 := [(q5, .inr (4, [.ref (u5 0)])), ((u5 0), .inl (cA, 6, .inl (fun _ => 0)))]) hP hD [1] [0] rfl rfl (by decide) (by decide) hk1 hFc hP1 hD1
  generalize H1 = H at hP hS ⊢
  have hP : va_P D vwCl [(h0, .inr (0, [.null, .null, .int 0])), (q5, .inr (4, [.ref (u5 0)])), ((u5 0), .inl (cA, 6, .inl (fun _ => 0)))] H := hP
  have hD : va_D A [(h0, .inr (0, [.null, .null, .int 0])), (q5, .inr (4, [.ref (u5 0)])), ((u5 0), .inl (cA, 6, .inl (fun _ => 0)))] := hD
  refine W.widen (k := 2) (n := 7) (Nat.le_of_ble_eq_true rfl) (Nat.le_of_ble_eq_true rfl) ?_
  refine va_putF (D := D) (ci := 0) (v := .ref q5) (ty := (.object "BlueByTouch$Row")) (C := RX0) (T := TX0) (N := 3) hx hb hts (fun w h => ti_w (in_l (c := 0) (by decide) w h)) tyX0 tyX0_ok nmX0 hown hK hP hD hS 0 rfl rfl 0 (by decide) (hts _ (ti_w (in_f (List.mem_of_getElem? (i := 0) rfl)))) (fun _ h9 => h9) rfl hin rfl (by decide +kernel) rfl rfl (Nat.le_of_ble_eq_true rfl) dX0_init_14 (fun H locs hP hD hS => ?_)
  have hP : va_P D vwCl [(h0, .inr (0, [.ref q5, .null, .int 0])), (q5, .inr (4, [.ref (u5 0)])), ((u5 0), .inl (cA, 6, .inl (fun _ => 0)))] H := hP
  have hD : va_D A [(h0, .inr (0, [.ref q5, .null, .int 0])), (q5, .inr (4, [.ref (u5 0)])), ((u5 0), .inl (cA, 6, .inl (fun _ => 0)))] := hD
  refine lv_aload_n hx hb dX0_init_17 rfl (lv_at hl 0 rfl) ?_
  refine va_new (ci := 4) (fs := [.null]) (C := RX4) (T := TX4) (N := 1) hx hb hts (fun w h => ti_w (in_l (c := 4) (by decide) w h)) tyX4 tyX4_ok hown (hts _ tx_clX0_9) (hts _ tx_in4) (hts _ tx_itX4) hK hP hD hS hA rfl df4 (Nat.le_of_ble_eq_true rfl) (Nat.le_of_ble_eq_true rfl) dX0_init_18 (fun q18 H hP hD hS => ?_)
  have hP : va_P D vwCl [(h0, .inr (0, [.ref q5, .null, .int 0])), (q5, .inr (4, [.ref (u5 0)])), ((u5 0), .inl (cA, 6, .inl (fun _ => 0))), (q18, .inr (4, [.null]))] H := hP
  have hD : va_D A [(h0, .inr (0, [.ref q5, .null, .int 0])), (q5, .inr (4, [.ref (u5 0)])), ((u5 0), .inl (cA, 6, .inl (fun _ => 0))), (q18, .inr (4, [.null]))] := hD
  refine lv_dup hx hb dX0_init_21 rfl ?_
  refine lv_bipush (v := nI 6) hx hb dX0_init_22 (by decide) ?_
  have hPc := hP.sub (ws' := [(q18, .inr (4, [.null]))]) [3] rfl
  have hDc := hD.sub (ws' := [(q18, .inr (4, [.null]))]) [3] (by decide) rfl
  have hFc := va_free (wc := [(q18, .inr (4, [.null]))]) hD hS hA [3] rfl
  refine va_callv (va_runI (As := [.int (nI 6)]) (rest := [.ref q18, .ref h0]) ⟨hx, hb, hml, hown, hts⟩ (cI_X4 l D cA cQ q18 H.size 6 (by decide) (by decide)) (cwI 1 hts (TI_gi _ (List.forall_mem_cons.mpr ⟨tk_yX4_init, fun w h => h⟩)) rfl rfl rfl (hts _ tx_itX4) (hts _ tx_mlX0_11) (hts _ tx_imX4_init) rfl (by decide +kernel) ⟨Nat.le_of_ble_eq_true rfl, Nat.le_of_ble_eq_true rfl⟩) ⟨BI_blind, fun U hU hW => ⟨rfl, BI_pass hPc hK hDc hE U hU hW⟩⟩ rfl rfl hl.1 rfl (lv_room (Nat.le_of_ble_eq_true rfl)) dX0_init_24 ⟨Nat.le_of_ble_eq_true rfl, Nat.le_of_ble_eq_true rfl⟩) hS (fun q _ h => hFc q h) hFc (fun u18 t H1 locs ht hvm _ hB hz1 hk1 hS => ?_)
  obtain ⟨hP1, hK1, hD1⟩ := hB
  rw [ht] at hP1
  obtain ⟨hP, hD⟩ := va_join (wr := [(h0, .inr (0, [.ref q5, .null, .int 0])), (q5, .inr (4, [.ref (u5 0)])), ((u5 0), .inl (cA, 6, .inl (fun _ => 0)))]) (w1 := [(q18, .inr (4, [.ref (u18 0)])), ((u18 0), .inl (cA, 6, .inl (fun _ => 0)))]) hP hD [3] [0, 1, 2] rfl rfl (by decide) (by decide) hk1 hFc hP1 hD1
  generalize H1 = H at hP hS ⊢
  have hP : va_P D vwCl [(h0, .inr (0, [.ref q5, .null, .int 0])), (q5, .inr (4, [.ref (u5 0)])), ((u5 0), .inl (cA, 6, .inl (fun _ => 0))), (q18, .inr (4, [.ref (u18 0)])), ((u18 0), .inl (cA, 6, .inl (fun _ => 0)))] H := hP
  have hD : va_D A [(h0, .inr (0, [.ref q5, .null, .int 0])), (q5, .inr (4, [.ref (u5 0)])), ((u5 0), .inl (cA, 6, .inl (fun _ => 0))), (q18, .inr (4, [.ref (u18 0)])), ((u18 0), .inl (cA, 6, .inl (fun _ => 0)))] := hD
  refine W.widen (k := 4) (n := 14) (Nat.le_of_ble_eq_true rfl) (Nat.le_of_ble_eq_true rfl) ?_
  refine va_putF (D := D) (ci := 0) (v := .ref q18) (ty := (.object "BlueByTouch$Row")) (C := RX0) (T := TX0) (N := 3) hx hb hts (fun w h => ti_w (in_l (c := 0) (by decide) w h)) tyX0 tyX0_ok nmX0 hown hK hP hD hS 0 rfl rfl 1 (by decide) (hts _ (ti_w (in_f (List.mem_of_getElem? (i := 1) rfl)))) (fun _ h9 => h9) rfl hin rfl (by decide +kernel) rfl rfl (Nat.le_of_ble_eq_true rfl) dX0_init_27 (fun H locs hP hD hS => ?_)
  have hP : va_P D vwCl [(h0, .inr (0, [.ref q5, .ref q18, .int 0])), (q5, .inr (4, [.ref (u5 0)])), ((u5 0), .inl (cA, 6, .inl (fun _ => 0))), (q18, .inr (4, [.ref (u18 0)])), ((u18 0), .inl (cA, 6, .inl (fun _ => 0)))] H := hP
  have hD : va_D A [(h0, .inr (0, [.ref q5, .ref q18, .int 0])), (q5, .inr (4, [.ref (u5 0)])), ((u5 0), .inl (cA, 6, .inl (fun _ => 0))), (q18, .inr (4, [.ref (u18 0)])), ((u18 0), .inl (cA, 6, .inl (fun _ => 0)))] := hD
  refine W.widen (k := 4) (n := 14) (Nat.le_of_ble_eq_true rfl) (Nat.le_of_ble_eq_true rfl) ?_
  exact W.vret hx hb hr (fun t ht hW => ⟨⟨(fun k => ([q5, (u5 0), q18, (u18 0)] : List Nat).getD k 0), rfl, trivial, by rw [ht]; exact hP, va_K.moved hW.alike hK, hD⟩, hS.F ht⟩) hS.2.2 dX0_init_30
def wX1 (h0 : Nat) (cA : ClassId) (u : Nat → Nat) : va_W := [(h0, .inr (1, [.ref (u 0), .ref (u 2), .ref (u 4), .ref (u 6), .ref (u 8), .ref (u 10), .ref (u 12), .int 0, .int 0, .int 0, .int (nI 7)])), ((u 0), .inr (4, [.ref (u 1)])), ((u 1), .inl (cA, 9, .inl (fun _ => 0))), ((u 2), .inr (4, [.ref (u 3)])), ((u 3), .inl (cA, 9, .inl (fun _ => 0))), ((u 4), .inr (4, [.ref (u 5)])), ((u 5), .inl (cA, 10, .inl (fun _ => 0))), ((u 6), .inr (4, [.ref (u 7)])), ((u 7), .inl (cA, 10, .inl (fun _ => 0))), ((u 8), .inr (4, [.ref (u 9)])), ((u 9), .inl (cA, 10, .inl (fun _ => 0))), ((u 10), .inr (4, [.ref (u 11)])), ((u 11), .inl (cA, 4, .inl (fun _ => 0))), ((u 12), .inr (4, [.ref (u 13)])), ((u 13), .inl (cA, 4, .inl (fun _ => 0)))]
set_option maxHeartbeats 4000000 in
set_option maxRecDepth 100000 in
theorem cI_X1 (l : Launch) (D : va_G) (cA cQ : ClassId) (h0 sz : Nat) : Met l yX1_init (.code yX1_init cX1_init 1 none :: TI) ({ frames := 2, cells := 14, slots := 63, locals := 128 }) (va_Pc [.ref h0] (BI sz D cA cQ [(h0, .inr (1, [.null, .null, .null, .null, .null, .null, .null, .int 0, .int 0, .int 0, .int 0]))])) (va_Qv (fun _ : Nat → Nat => True) (atI D cA cQ (va_A [(h0, .inr (1, [.null, .null, .null, .null, .null, .null, .null, .int 0, .int 0, .int 0, .int 0]))] sz) (wX1 h0 cA)) (va_A [(h0, .inr (1, [.null, .null, .null, .null, .null, .null, .null, .int 0, .int 0, .int 0, .int 0]))] sz)) 14 63 (va_A [(h0, .inr (1, [.null, .null, .null, .null, .null, .null, .null, .int 0, .int 0, .int 0, .int 0]))] sz) := by
  refine Met.ofW (cc := cX1_init) (maxL := 1) (ret := none) (by decide +kernel) rfl ?_
  intro p e s m args below meth c s₁ B hml hv
  obtain ⟨rfl, hsz, hP, hK, hD0, hE⟩ := hv
  have hx := B.exec
  have hb := B.bytes
  have hr := B.returns
  have hts0 := atoms_spec (ws := .code yX1_init cX1_init 1 none :: TI) B.pre
  have hts : ∀ w ∈ TI, w.before ([.ref h0] : List Value).toArray s = true := fun w hw => hts0 w (List.mem_cons_of_mem _ hw)
  have hown : s.vm.findClass RX1 = some m.cls := findClass_of_methodNamed B.named
  have hlocks := B.notSynchronized
  have hin : meth.name = "<init>" := (name_of_methodNamed B.named B.method).1
  subst hsz
  have hD := hD0.self (sz := s.heap.size)
  generalize hAe : va_A [(h0, .inr (1, [.null, .null, .null, .null, .null, .null, .null, .int 0, .int 0, .int 0, .int 0]))] s.heap.size = A at hD ⊢
  have hA : ∀ q : Nat, s.heap.size ≤ q → A q := fun q h => by rw [← hAe]; exact Or.inr h
  have hS : va_S A s.heap s.heap [] := va_S.rf
  have hl := lv_entry ([.ref h0]) (n := 1) (Nat.le_of_ble_eq_true rfl)
  rw [lg_entry_eq]
  generalize (lg_sl ([.ref h0]) ++ List.replicate (1 - (lg_sl ([.ref h0])).length) Slot.unset).toArray = ls at hl ⊢
  have hl : lv_has ls 1 [(0, .ref h0)] := hl
  refine lv_aload_n hx hb dX1_init_0 rfl (lv_at hl 0 rfl) ?_
  refine W.objInit hx hb hown (hts _ tx_oi1) (hts _ tx_oim) (hts _ tk_objectInit) rfl (by rw [hml]; exact hl.1) rfl dX1_init_1 (Nat.le_of_ble_eq_true rfl) (Nat.le_of_ble_eq_true rfl) ?_
  refine W.eq (g2 := F0 m 4 ls []) rfl ?_
  refine lv_aload_n hx hb dX1_init_4 rfl (lv_at hl 0 rfl) ?_
  refine va_new (ci := 4) (fs := [.null]) (C := RX4) (T := TX4) (N := 1) hx hb hts (fun w h => ti_w (in_l (c := 4) (by decide) w h)) tyX4 tyX4_ok hown (hts _ tx_clX1_9) (hts _ tx_in4) (hts _ tx_itX4) hK hP hD hS hA rfl df4 (Nat.le_of_ble_eq_true rfl) (Nat.le_of_ble_eq_true rfl) dX1_init_5 (fun q5 H hP hD hS => ?_)
  have hP : va_P D vwCl [(h0, .inr (1, [.null, .null, .null, .null, .null, .null, .null, .int 0, .int 0, .int 0, .int 0])), (q5, .inr (4, [.null]))] H := hP
  have hD : va_D A [(h0, .inr (1, [.null, .null, .null, .null, .null, .null, .null, .int 0, .int 0, .int 0, .int 0])), (q5, .inr (4, [.null]))] := hD
  refine lv_dup hx hb dX1_init_8 rfl ?_
  refine lv_bipush (v := nI 9) hx hb dX1_init_9 (by decide) ?_
  have hPc := hP.sub (ws' := [(q5, .inr (4, [.null]))]) [1] rfl
  have hDc := hD.sub (ws' := [(q5, .inr (4, [.null]))]) [1] (by decide) rfl
  have hFc := va_free (wc := [(q5, .inr (4, [.null]))]) hD hS hA [1] rfl
  refine va_callv (va_runI (As := [.int (nI 9)]) (rest := [.ref q5, .ref h0]) ⟨hx, hb, hml, hown, hts⟩ (cI_X4 l D cA cQ q5 H.size 9 (by decide) (by decide)) (cwI 1 hts (TI_gi _ (List.forall_mem_cons.mpr ⟨tk_yX4_init, fun w h => h⟩)) rfl rfl rfl (hts _ tx_itX4) (hts _ tx_mlX1_11) (hts _ tx_imX4_init) rfl (by decide +kernel) ⟨Nat.le_of_ble_eq_true rfl, Nat.le_of_ble_eq_true rfl⟩) ⟨BI_blind, fun U hU hW => ⟨rfl, BI_pass hPc hK hDc hE U hU hW⟩⟩ rfl rfl hl.1 rfl (lv_room (Nat.le_of_ble_eq_true rfl)) dX1_init_11 ⟨Nat.le_of_ble_eq_true rfl, Nat.le_of_ble_eq_true rfl⟩) hS (fun q _ h => hFc q h) hFc (fun u5 t H1 locs ht hvm _ hB hz1 hk1 hS => ?_)
  obtain ⟨hP1, hK1, hD1⟩ := hB
  rw [ht] at hP1
  obtain ⟨hP, hD⟩ := va_join (wr := [(h0, .inr (1, [.null, .null, .null, .null, .null, .null, .null, .int 0, .int 0, .int 0, .int 0]))]) (w1 := [(q5, .inr (4, [.ref (u5 0)])), ((u5 0), .inl (cA, 9, .inl (fun _ => 0)))]) hP hD [1] [0] rfl rfl (by decide) (by decide) hk1 hFc hP1 hD1
  generalize H1 = H at hP hS ⊢
  have hP : va_P D vwCl [(h0, .inr (1, [.null, .null, .null, .null, .null, .null, .null, .int 0, .int 0, .int 0, .int 0])), (q5, .inr (4, [.ref (u5 0)])), ((u5 0), .inl (cA, 9, .inl (fun _ => 0)))] H := hP
  have hD : va_D A [(h0, .inr (1, [.null, .null, .null, .null, .null, .null, .null, .int 0, .int 0, .int 0, .int 0])), (q5, .inr (4, [.ref (u5 0)])), ((u5 0), .inl (cA, 9, .inl (fun _ => 0)))] := hD
  refine W.widen (k := 2) (n := 10) (Nat.le_of_ble_eq_true rfl) (Nat.le_of_ble_eq_true rfl) ?_
  refine va_putF (D := D) (ci := 1) (v := .ref q5) (ty := (.object "BlueByTouch$Row")) (C := RX1) (T := TX1) (N := 11) hx hb hts (fun w h => ti_w (in_l (c := 1) (by decide) w h)) tyX1 tyX1_ok nmX1 hown hK hP hD hS 0 rfl rfl 0 (by decide) (hts _ (ti_w (in_f (List.mem_of_getElem? (i := 4) rfl)))) (fun _ h9 => h9) rfl hin rfl (by decide +kernel) rfl rfl (Nat.le_of_ble_eq_true rfl) dX1_init_14 (fun H locs hP hD hS => ?_)
  have hP : va_P D vwCl [(h0, .inr (1, [.ref q5, .null, .null, .null, .null, .null, .null, .int 0, .int 0, .int 0, .int 0])), (q5, .inr (4, [.ref (u5 0)])), ((u5 0), .inl (cA, 9, .inl (fun _ => 0)))] H := hP
  have hD : va_D A [(h0, .inr (1, [.ref q5, .null, .null, .null, .null, .null, .null, .int 0, .int 0, .int 0, .int 0])), (q5, .inr (4, [.ref (u5 0)])), ((u5 0), .inl (cA, 9, .inl (fun _ => 0)))] := hD
  refine lv_aload_n hx hb dX1_init_17 rfl (lv_at hl 0 rfl) ?_
  refine va_new (ci := 4) (fs := [.null]) (C := RX4) (T := TX4) (N := 1) hx hb hts (fun w h => ti_w (in_l (c := 4) (by decide) w h)) tyX4 tyX4_ok hown (hts _ tx_clX1_9) (hts _ tx_in4) (hts _ tx_itX4) hK hP hD hS hA rfl df4 (Nat.le_of_ble_eq_true rfl) (Nat.le_of_ble_eq_true rfl) dX1_init_18 (fun q18 H hP hD hS => ?_)
  have hP : va_P D vwCl [(h0, .inr (1, [.ref q5, .null, .null, .null, .null, .null, .null, .int 0, .int 0, .int 0, .int 0])), (q5, .inr (4, [.ref (u5 0)])), ((u5 0), .inl (cA, 9, .inl (fun _ => 0))), (q18, .inr (4, [.null]))] H := hP
  have hD : va_D A [(h0, .inr (1, [.ref q5, .null, .null, .null, .null, .null, .null, .int 0, .int 0, .int 0, .int 0])), (q5, .inr (4, [.ref (u5 0)])), ((u5 0), .inl (cA, 9, .inl (fun _ => 0))), (q18, .inr (4, [.null]))] := hD
  refine lv_dup hx hb dX1_init_21 rfl ?_
  refine lv_bipush (v := nI 9) hx hb dX1_init_22 (by decide) ?_
  have hPc := hP.sub (ws' := [(q18, .inr (4, [.null]))]) [3] rfl
  have hDc := hD.sub (ws' := [(q18, .inr (4, [.null]))]) [3] (by decide) rfl
  have hFc := va_free (wc := [(q18, .inr (4, [.null]))]) hD hS hA [3] rfl
  refine va_callv (va_runI (As := [.int (nI 9)]) (rest := [.ref q18, .ref h0]) ⟨hx, hb, hml, hown, hts⟩ (cI_X4 l D cA cQ q18 H.size 9 (by decide) (by decide)) (cwI 1 hts (TI_gi _ (List.forall_mem_cons.mpr ⟨tk_yX4_init, fun w h => h⟩)) rfl rfl rfl (hts _ tx_itX4) (hts _ tx_mlX1_11) (hts _ tx_imX4_init) rfl (by decide +kernel) ⟨Nat.le_of_ble_eq_true rfl, Nat.le_of_ble_eq_true rfl⟩) ⟨BI_blind, fun U hU hW => ⟨rfl, BI_pass hPc hK hDc hE U hU hW⟩⟩ rfl rfl hl.1 rfl (lv_room (Nat.le_of_ble_eq_true rfl)) dX1_init_24 ⟨Nat.le_of_ble_eq_true rfl, Nat.le_of_ble_eq_true rfl⟩) hS (fun q _ h => hFc q h) hFc (fun u18 t H1 locs ht hvm _ hB hz1 hk1 hS => ?_)
  obtain ⟨hP1, hK1, hD1⟩ := hB
  rw [ht] at hP1
  obtain ⟨hP, hD⟩ := va_join (wr := [(h0, .inr (1, [.ref q5, .null, .null, .null, .null, .null, .null, .int 0, .int 0, .int 0, .int 0])), (q5, .inr (4, [.ref (u5 0)])), ((u5 0), .inl (cA, 9, .inl (fun _ => 0)))]) (w1 := [(q18, .inr (4, [.ref (u18 0)])), ((u18 0), .inl (cA, 9, .inl (fun _ => 0)))]) hP hD [3] [0, 1, 2] rfl rfl (by decide) (by decide) hk1 hFc hP1 hD1
  generalize H1 = H at hP hS ⊢
  have hP : va_P D vwCl [(h0, .inr (1, [.ref q5, .null, .null, .null, .null, .null, .null, .int 0, .int 0, .int 0, .int 0])), (q5, .inr (4, [.ref (u5 0)])), ((u5 0), .inl (cA, 9, .inl (fun _ => 0))), (q18, .inr (4, [.ref (u18 0)])), ((u18 0), .inl (cA, 9, .inl (fun _ => 0)))] H := hP
  have hD : va_D A [(h0, .inr (1, [.ref q5, .null, .null, .null, .null, .null, .null, .int 0, .int 0, .int 0, .int 0])), (q5, .inr (4, [.ref (u5 0)])), ((u5 0), .inl (cA, 9, .inl (fun _ => 0))), (q18, .inr (4, [.ref (u18 0)])), ((u18 0), .inl (cA, 9, .inl (fun _ => 0)))] := hD
  refine W.widen (k := 4) (n := 20) (Nat.le_of_ble_eq_true rfl) (Nat.le_of_ble_eq_true rfl) ?_
  refine va_putF (D := D) (ci := 1) (v := .ref q18) (ty := (.object "BlueByTouch$Row")) (C := RX1) (T := TX1) (N := 11) hx hb hts (fun w h => ti_w (in_l (c := 1) (by decide) w h)) tyX1 tyX1_ok nmX1 hown hK hP hD hS 0 rfl rfl 1 (by decide) (hts _ (ti_w (in_f (List.mem_of_getElem? (i := 5) rfl)))) (fun _ h9 => h9) rfl hin rfl (by decide +kernel) rfl rfl (Nat.le_of_ble_eq_true rfl) dX1_init_27 (fun H locs hP hD hS => ?_)
  have hP : va_P D vwCl [(h0, .inr (1, [.ref q5, .ref q18, .null, .null, .null, .null, .null, .int 0, .int 0, .int 0, .int 0])), (q5, .inr (4, [.ref (u5 0)])), ((u5 0), .inl (cA, 9, .inl (fun _ => 0))), (q18, .inr (4, [.ref (u18 0)])), ((u18 0), .inl (cA, 9, .inl (fun _ => 0)))] H := hP
  have hD : va_D A [(h0, .inr (1, [.ref q5, .ref q18, .null, .null, .null, .null, .null, .int 0, .int 0, .int 0, .int 0])), (q5, .inr (4, [.ref (u5 0)])), ((u5 0), .inl (cA, 9, .inl (fun _ => 0))), (q18, .inr (4, [.ref (u18 0)])), ((u18 0), .inl (cA, 9, .inl (fun _ => 0)))] := hD
  refine lv_aload_n hx hb dX1_init_30 rfl (lv_at hl 0 rfl) ?_
  refine va_new (ci := 4) (fs := [.null]) (C := RX4) (T := TX4) (N := 1) hx hb hts (fun w h => ti_w (in_l (c := 4) (by decide) w h)) tyX4 tyX4_ok hown (hts _ tx_clX1_9) (hts _ tx_in4) (hts _ tx_itX4) hK hP hD hS hA rfl df4 (Nat.le_of_ble_eq_true rfl) (Nat.le_of_ble_eq_true rfl) dX1_init_31 (fun q31 H hP hD hS => ?_)
  have hP : va_P D vwCl [(h0, .inr (1, [.ref q5, .ref q18, .null, .null, .null, .null, .null, .int 0, .int 0, .int 0, .int 0])), (q5, .inr (4, [.ref (u5 0)])), ((u5 0), .inl (cA, 9, .inl (fun _ => 0))), (q18, .inr (4, [.ref (u18 0)])), ((u18 0), .inl (cA, 9, .inl (fun _ => 0))), (q31, .inr (4, [.null]))] H := hP
  have hD : va_D A [(h0, .inr (1, [.ref q5, .ref q18, .null, .null, .null, .null, .null, .int 0, .int 0, .int 0, .int 0])), (q5, .inr (4, [.ref (u5 0)])), ((u5 0), .inl (cA, 9, .inl (fun _ => 0))), (q18, .inr (4, [.ref (u18 0)])), ((u18 0), .inl (cA, 9, .inl (fun _ => 0))), (q31, .inr (4, [.null]))] := hD
  refine lv_dup hx hb dX1_init_34 rfl ?_
  refine lv_bipush (v := nI 10) hx hb dX1_init_35 (by decide) ?_
  have hPc := hP.sub (ws' := [(q31, .inr (4, [.null]))]) [5] rfl
  have hDc := hD.sub (ws' := [(q31, .inr (4, [.null]))]) [5] (by decide) rfl
  have hFc := va_free (wc := [(q31, .inr (4, [.null]))]) hD hS hA [5] rfl
  refine va_callv (va_runI (As := [.int (nI 10)]) (rest := [.ref q31, .ref h0]) ⟨hx, hb, hml, hown, hts⟩ (cI_X4 l D cA cQ q31 H.size 10 (by decide) (by decide)) (cwI 1 hts (TI_gi _ (List.forall_mem_cons.mpr ⟨tk_yX4_init, fun w h => h⟩)) rfl rfl rfl (hts _ tx_itX4) (hts _ tx_mlX1_11) (hts _ tx_imX4_init) rfl (by decide +kernel) ⟨Nat.le_of_ble_eq_true rfl, Nat.le_of_ble_eq_true rfl⟩) ⟨BI_blind, fun U hU hW => ⟨rfl, BI_pass hPc hK hDc hE U hU hW⟩⟩ rfl rfl hl.1 rfl (lv_room (Nat.le_of_ble_eq_true rfl)) dX1_init_37 ⟨Nat.le_of_ble_eq_true rfl, Nat.le_of_ble_eq_true rfl⟩) hS (fun q _ h => hFc q h) hFc (fun u31 t H1 locs ht hvm _ hB hz1 hk1 hS => ?_)
  obtain ⟨hP1, hK1, hD1⟩ := hB
  rw [ht] at hP1
  obtain ⟨hP, hD⟩ := va_join (wr := [(h0, .inr (1, [.ref q5, .ref q18, .null, .null, .null, .null, .null, .int 0, .int 0, .int 0, .int 0])), (q5, .inr (4, [.ref (u5 0)])), ((u5 0), .inl (cA, 9, .inl (fun _ => 0))), (q18, .inr (4, [.ref (u18 0)])), ((u18 0), .inl (cA, 9, .inl (fun _ => 0)))]) (w1 := [(q31, .inr (4, [.ref (u31 0)])), ((u31 0), .inl (cA, 10, .inl (fun _ => 0)))]) hP hD [5] [0, 1, 2, 3, 4] rfl rfl (by decide) (by decide) hk1 hFc hP1 hD1
  generalize H1 = H at hP hS ⊢
  have hP : va_P D vwCl [(h0, .inr (1, [.ref q5, .ref q18, .null, .null, .null, .null, .null, .int 0, .int 0, .int 0, .int 0])), (q5, .inr (4, [.ref (u5 0)])), ((u5 0), .inl (cA, 9, .inl (fun _ => 0))), (q18, .inr (4, [.ref (u18 0)])), ((u18 0), .inl (cA, 9, .inl (fun _ => 0))), (q31, .inr (4, [.ref (u31 0)])), ((u31 0), .inl (cA, 10, .inl (fun _ => 0)))] H := hP
  have hD : va_D A [(h0, .inr (1, [.ref q5, .ref q18, .null, .null, .null, .null, .null, .int 0, .int 0, .int 0, .int 0])), (q5, .inr (4, [.ref (u5 0)])), ((u5 0), .inl (cA, 9, .inl (fun _ => 0))), (q18, .inr (4, [.ref (u18 0)])), ((u18 0), .inl (cA, 9, .inl (fun _ => 0))), (q31, .inr (4, [.ref (u31 0)])), ((u31 0), .inl (cA, 10, .inl (fun _ => 0)))] := hD
  refine W.widen (k := 6) (n := 31) (Nat.le_of_ble_eq_true rfl) (Nat.le_of_ble_eq_true rfl) ?_
  refine va_putF (D := D) (ci := 1) (v := .ref q31) (ty := (.object "BlueByTouch$Row")) (C := RX1) (T := TX1) (N := 11) hx hb hts (fun w h => ti_w (in_l (c := 1) (by decide) w h)) tyX1 tyX1_ok nmX1 hown hK hP hD hS 0 rfl rfl 2 (by decide) (hts _ (ti_w (in_f (List.mem_of_getElem? (i := 6) rfl)))) (fun _ h9 => h9) rfl hin rfl (by decide +kernel) rfl rfl (Nat.le_of_ble_eq_true rfl) dX1_init_40 (fun H locs hP hD hS => ?_)
  have hP : va_P D vwCl [(h0, .inr (1, [.ref q5, .ref q18, .ref q31, .null, .null, .null, .null, .int 0, .int 0, .int 0, .int 0])), (q5, .inr (4, [.ref (u5 0)])), ((u5 0), .inl (cA, 9, .inl (fun _ => 0))), (q18, .inr (4, [.ref (u18 0)])), ((u18 0), .inl (cA, 9, .inl (fun _ => 0))), (q31, .inr (4, [.ref (u31 0)])), ((u31 0), .inl (cA, 10, .inl (fun _ => 0)))] H := hP
  have hD : va_D A [(h0, .inr (1, [.ref q5, .ref q18, .ref q31, .null, .null, .null, .null, .int 0, .int 0, .int 0, .int 0])), (q5, .inr (4, [.ref (u5 0)])), ((u5 0), .inl (cA, 9, .inl (fun _ => 0))), (q18, .inr (4, [.ref (u18 0)])), ((u18 0), .inl (cA, 9, .inl (fun _ => 0))), (q31, .inr (4, [.ref (u31 0)])), ((u31 0), .inl (cA, 10, .inl (fun _ => 0)))] := hD
  refine lv_aload_n hx hb dX1_init_43 rfl (lv_at hl 0 rfl) ?_
  refine va_new (ci := 4) (fs := [.null]) (C := RX4) (T := TX4) (N := 1) hx hb hts (fun w h => ti_w (in_l (c := 4) (by decide) w h)) tyX4 tyX4_ok hown (hts _ tx_clX1_9) (hts _ tx_in4) (hts _ tx_itX4) hK hP hD hS hA rfl df4 (Nat.le_of_ble_eq_true rfl) (Nat.le_of_ble_eq_true rfl) dX1_init_44 (fun q44 H hP hD hS => ?_)
  have hP : va_P D vwCl [(h0, .inr (1, [.ref q5, .ref q18, .ref q31, .null, .null, .null, .null, .int 0, .int 0, .int 0, .int 0])), (q5, .inr (4, [.ref (u5 0)])), ((u5 0), .inl (cA, 9, .inl (fun _ => 0))), (q18, .inr (4, [.ref (u18 0)])), ((u18 0), .inl (cA, 9, .inl (fun _ => 0))), (q31, .inr (4, [.ref (u31 0)])), ((u31 0), .inl (cA, 10, .inl (fun _ => 0))), (q44, .inr (4, [.null]))] H := hP
  have hD : va_D A [(h0, .inr (1, [.ref q5, .ref q18, .ref q31, .null, .null, .null, .null, .int 0, .int 0, .int 0, .int 0])), (q5, .inr (4, [.ref (u5 0)])), ((u5 0), .inl (cA, 9, .inl (fun _ => 0))), (q18, .inr (4, [.ref (u18 0)])), ((u18 0), .inl (cA, 9, .inl (fun _ => 0))), (q31, .inr (4, [.ref (u31 0)])), ((u31 0), .inl (cA, 10, .inl (fun _ => 0))), (q44, .inr (4, [.null]))] := hD
  refine lv_dup hx hb dX1_init_47 rfl ?_
  refine lv_bipush (v := nI 10) hx hb dX1_init_48 (by decide) ?_
  have hPc := hP.sub (ws' := [(q44, .inr (4, [.null]))]) [7] rfl
  have hDc := hD.sub (ws' := [(q44, .inr (4, [.null]))]) [7] (by decide) rfl
  have hFc := va_free (wc := [(q44, .inr (4, [.null]))]) hD hS hA [7] rfl
  refine va_callv (va_runI (As := [.int (nI 10)]) (rest := [.ref q44, .ref h0]) ⟨hx, hb, hml, hown, hts⟩ (cI_X4 l D cA cQ q44 H.size 10 (by decide) (by decide)) (cwI 1 hts (TI_gi _ (List.forall_mem_cons.mpr ⟨tk_yX4_init, fun w h => h⟩)) rfl rfl rfl (hts _ tx_itX4) (hts _ tx_mlX1_11) (hts _ tx_imX4_init) rfl (by decide +kernel) ⟨Nat.le_of_ble_eq_true rfl, Nat.le_of_ble_eq_true rfl⟩) ⟨BI_blind, fun U hU hW => ⟨rfl, BI_pass hPc hK hDc hE U hU hW⟩⟩ rfl rfl hl.1 rfl (lv_room (Nat.le_of_ble_eq_true rfl)) dX1_init_50 ⟨Nat.le_of_ble_eq_true rfl, Nat.le_of_ble_eq_true rfl⟩) hS (fun q _ h => hFc q h) hFc (fun u44 t H1 locs ht hvm _ hB hz1 hk1 hS => ?_)
  obtain ⟨hP1, hK1, hD1⟩ := hB
  rw [ht] at hP1
  obtain ⟨hP, hD⟩ := va_join (wr := [(h0, .inr (1, [.ref q5, .ref q18, .ref q31, .null, .null, .null, .null, .int 0, .int 0, .int 0, .int 0])), (q5, .inr (4, [.ref (u5 0)])), ((u5 0), .inl (cA, 9, .inl (fun _ => 0))), (q18, .inr (4, [.ref (u18 0)])), ((u18 0), .inl (cA, 9, .inl (fun _ => 0))), (q31, .inr (4, [.ref (u31 0)])), ((u31 0), .inl (cA, 10, .inl (fun _ => 0)))]) (w1 := [(q44, .inr (4, [.ref (u44 0)])), ((u44 0), .inl (cA, 10, .inl (fun _ => 0)))]) hP hD [7] [0, 1, 2, 3, 4, 5, 6] rfl rfl (by decide) (by decide) hk1 hFc hP1 hD1
  generalize H1 = H at hP hS ⊢
  have hP : va_P D vwCl [(h0, .inr (1, [.ref q5, .ref q18, .ref q31, .null, .null, .null, .null, .int 0, .int 0, .int 0, .int 0])), (q5, .inr (4, [.ref (u5 0)])), ((u5 0), .inl (cA, 9, .inl (fun _ => 0))), (q18, .inr (4, [.ref (u18 0)])), ((u18 0), .inl (cA, 9, .inl (fun _ => 0))), (q31, .inr (4, [.ref (u31 0)])), ((u31 0), .inl (cA, 10, .inl (fun _ => 0))), (q44, .inr (4, [.ref (u44 0)])), ((u44 0), .inl (cA, 10, .inl (fun _ => 0)))] H := hP
  have hD : va_D A [(h0, .inr (1, [.ref q5, .ref q18, .ref q31, .null, .null, .null, .null, .int 0, .int 0, .int 0, .int 0])), (q5, .inr (4, [.ref (u5 0)])), ((u5 0), .inl (cA, 9, .inl (fun _ => 0))), (q18, .inr (4, [.ref (u18 0)])), ((u18 0), .inl (cA, 9, .inl (fun _ => 0))), (q31, .inr (4, [.ref (u31 0)])), ((u31 0), .inl (cA, 10, .inl (fun _ => 0))), (q44, .inr (4, [.ref (u44 0)])), ((u44 0), .inl (cA, 10, .inl (fun _ => 0)))] := hD
  refine W.widen (k := 8) (n := 42) (Nat.le_of_ble_eq_true rfl) (Nat.le_of_ble_eq_true rfl) ?_
  refine va_putF (D := D) (ci := 1) (v := .ref q44) (ty := (.object "BlueByTouch$Row")) (C := RX1) (T := TX1) (N := 11) hx hb hts (fun w h => ti_w (in_l (c := 1) (by decide) w h)) tyX1 tyX1_ok nmX1 hown hK hP hD hS 0 rfl rfl 3 (by decide) (hts _ (ti_w (in_f (List.mem_of_getElem? (i := 7) rfl)))) (fun _ h9 => h9) rfl hin rfl (by decide +kernel) rfl rfl (Nat.le_of_ble_eq_true rfl) dX1_init_53 (fun H locs hP hD hS => ?_)
  have hP : va_P D vwCl [(h0, .inr (1, [.ref q5, .ref q18, .ref q31, .ref q44, .null, .null, .null, .int 0, .int 0, .int 0, .int 0])), (q5, .inr (4, [.ref (u5 0)])), ((u5 0), .inl (cA, 9, .inl (fun _ => 0))), (q18, .inr (4, [.ref (u18 0)])), ((u18 0), .inl (cA, 9, .inl (fun _ => 0))), (q31, .inr (4, [.ref (u31 0)])), ((u31 0), .inl (cA, 10, .inl (fun _ => 0))), (q44, .inr (4, [.ref (u44 0)])), ((u44 0), .inl (cA, 10, .inl (fun _ => 0)))] H := hP
  have hD : va_D A [(h0, .inr (1, [.ref q5, .ref q18, .ref q31, .ref q44, .null, .null, .null, .int 0, .int 0, .int 0, .int 0])), (q5, .inr (4, [.ref (u5 0)])), ((u5 0), .inl (cA, 9, .inl (fun _ => 0))), (q18, .inr (4, [.ref (u18 0)])), ((u18 0), .inl (cA, 9, .inl (fun _ => 0))), (q31, .inr (4, [.ref (u31 0)])), ((u31 0), .inl (cA, 10, .inl (fun _ => 0))), (q44, .inr (4, [.ref (u44 0)])), ((u44 0), .inl (cA, 10, .inl (fun _ => 0)))] := hD
  refine lv_aload_n hx hb dX1_init_56 rfl (lv_at hl 0 rfl) ?_
  refine va_new (ci := 4) (fs := [.null]) (C := RX4) (T := TX4) (N := 1) hx hb hts (fun w h => ti_w (in_l (c := 4) (by decide) w h)) tyX4 tyX4_ok hown (hts _ tx_clX1_9) (hts _ tx_in4) (hts _ tx_itX4) hK hP hD hS hA rfl df4 (Nat.le_of_ble_eq_true rfl) (Nat.le_of_ble_eq_true rfl) dX1_init_57 (fun q57 H hP hD hS => ?_)
  have hP : va_P D vwCl [(h0, .inr (1, [.ref q5, .ref q18, .ref q31, .ref q44, .null, .null, .null, .int 0, .int 0, .int 0, .int 0])), (q5, .inr (4, [.ref (u5 0)])), ((u5 0), .inl (cA, 9, .inl (fun _ => 0))), (q18, .inr (4, [.ref (u18 0)])), ((u18 0), .inl (cA, 9, .inl (fun _ => 0))), (q31, .inr (4, [.ref (u31 0)])), ((u31 0), .inl (cA, 10, .inl (fun _ => 0))), (q44, .inr (4, [.ref (u44 0)])), ((u44 0), .inl (cA, 10, .inl (fun _ => 0))), (q57, .inr (4, [.null]))] H := hP
  have hD : va_D A [(h0, .inr (1, [.ref q5, .ref q18, .ref q31, .ref q44, .null, .null, .null, .int 0, .int 0, .int 0, .int 0])), (q5, .inr (4, [.ref (u5 0)])), ((u5 0), .inl (cA, 9, .inl (fun _ => 0))), (q18, .inr (4, [.ref (u18 0)])), ((u18 0), .inl (cA, 9, .inl (fun _ => 0))), (q31, .inr (4, [.ref (u31 0)])), ((u31 0), .inl (cA, 10, .inl (fun _ => 0))), (q44, .inr (4, [.ref (u44 0)])), ((u44 0), .inl (cA, 10, .inl (fun _ => 0))), (q57, .inr (4, [.null]))] := hD
  refine lv_dup hx hb dX1_init_60 rfl ?_
  refine lv_bipush (v := nI 10) hx hb dX1_init_61 (by decide) ?_
  have hPc := hP.sub (ws' := [(q57, .inr (4, [.null]))]) [9] rfl
  have hDc := hD.sub (ws' := [(q57, .inr (4, [.null]))]) [9] (by decide) rfl
  have hFc := va_free (wc := [(q57, .inr (4, [.null]))]) hD hS hA [9] rfl
  refine va_callv (va_runI (As := [.int (nI 10)]) (rest := [.ref q57, .ref h0]) ⟨hx, hb, hml, hown, hts⟩ (cI_X4 l D cA cQ q57 H.size 10 (by decide) (by decide)) (cwI 1 hts (TI_gi _ (List.forall_mem_cons.mpr ⟨tk_yX4_init, fun w h => h⟩)) rfl rfl rfl (hts _ tx_itX4) (hts _ tx_mlX1_11) (hts _ tx_imX4_init) rfl (by decide +kernel) ⟨Nat.le_of_ble_eq_true rfl, Nat.le_of_ble_eq_true rfl⟩) ⟨BI_blind, fun U hU hW => ⟨rfl, BI_pass hPc hK hDc hE U hU hW⟩⟩ rfl rfl hl.1 rfl (lv_room (Nat.le_of_ble_eq_true rfl)) dX1_init_63 ⟨Nat.le_of_ble_eq_true rfl, Nat.le_of_ble_eq_true rfl⟩) hS (fun q _ h => hFc q h) hFc (fun u57 t H1 locs ht hvm _ hB hz1 hk1 hS => ?_)
  obtain ⟨hP1, hK1, hD1⟩ := hB
  rw [ht] at hP1
  obtain ⟨hP, hD⟩ := va_join (wr := [(h0, .inr (1, [.ref q5, .ref q18, .ref q31, .ref q44, .null, .null, .null, .int 0, .int 0, .int 0, .int 0])), (q5, .inr (4, [.ref (u5 0)])), ((u5 0), .inl (cA, 9, .inl (fun _ => 0))), (q18, .inr (4, [.ref (u18 0)])), ((u18 0), .inl (cA, 9, .inl (fun _ => 0))), (q31, .inr (4, [.ref (u31 0)])), ((u31 0), .inl (cA, 10, .inl (fun _ => 0))), (q44, .inr (4, [.ref (u44 0)])), ((u44 0), .inl (cA, 10, .inl (fun _ => 0)))]) (w1 := [(q57, .inr (4, [.ref (u57 0)])), ((u57 0), .inl (cA, 10, .inl (fun _ => 0)))]) hP hD [9] [0, 1, 2, 3, 4, 5, 6, 7, 8] rfl rfl (by decide) (by decide) hk1 hFc hP1 hD1
  generalize H1 = H at hP hS ⊢
  have hP : va_P D vwCl [(h0, .inr (1, [.ref q5, .ref q18, .ref q31, .ref q44, .null, .null, .null, .int 0, .int 0, .int 0, .int 0])), (q5, .inr (4, [.ref (u5 0)])), ((u5 0), .inl (cA, 9, .inl (fun _ => 0))), (q18, .inr (4, [.ref (u18 0)])), ((u18 0), .inl (cA, 9, .inl (fun _ => 0))), (q31, .inr (4, [.ref (u31 0)])), ((u31 0), .inl (cA, 10, .inl (fun _ => 0))), (q44, .inr (4, [.ref (u44 0)])), ((u44 0), .inl (cA, 10, .inl (fun _ => 0))), (q57, .inr (4, [.ref (u57 0)])), ((u57 0), .inl (cA, 10, .inl (fun _ => 0)))] H := hP
  have hD : va_D A [(h0, .inr (1, [.ref q5, .ref q18, .ref q31, .ref q44, .null, .null, .null, .int 0, .int 0, .int 0, .int 0])), (q5, .inr (4, [.ref (u5 0)])), ((u5 0), .inl (cA, 9, .inl (fun _ => 0))), (q18, .inr (4, [.ref (u18 0)])), ((u18 0), .inl (cA, 9, .inl (fun _ => 0))), (q31, .inr (4, [.ref (u31 0)])), ((u31 0), .inl (cA, 10, .inl (fun _ => 0))), (q44, .inr (4, [.ref (u44 0)])), ((u44 0), .inl (cA, 10, .inl (fun _ => 0))), (q57, .inr (4, [.ref (u57 0)])), ((u57 0), .inl (cA, 10, .inl (fun _ => 0)))] := hD
  refine W.widen (k := 10) (n := 53) (Nat.le_of_ble_eq_true rfl) (Nat.le_of_ble_eq_true rfl) ?_
  refine va_putF (D := D) (ci := 1) (v := .ref q57) (ty := (.object "BlueByTouch$Row")) (C := RX1) (T := TX1) (N := 11) hx hb hts (fun w h => ti_w (in_l (c := 1) (by decide) w h)) tyX1 tyX1_ok nmX1 hown hK hP hD hS 0 rfl rfl 4 (by decide) (hts _ (ti_w (in_f (List.mem_of_getElem? (i := 8) rfl)))) (fun _ h9 => h9) rfl hin rfl (by decide +kernel) rfl rfl (Nat.le_of_ble_eq_true rfl) dX1_init_66 (fun H locs hP hD hS => ?_)
  have hP : va_P D vwCl [(h0, .inr (1, [.ref q5, .ref q18, .ref q31, .ref q44, .ref q57, .null, .null, .int 0, .int 0, .int 0, .int 0])), (q5, .inr (4, [.ref (u5 0)])), ((u5 0), .inl (cA, 9, .inl (fun _ => 0))), (q18, .inr (4, [.ref (u18 0)])), ((u18 0), .inl (cA, 9, .inl (fun _ => 0))), (q31, .inr (4, [.ref (u31 0)])), ((u31 0), .inl (cA, 10, .inl (fun _ => 0))), (q44, .inr (4, [.ref (u44 0)])), ((u44 0), .inl (cA, 10, .inl (fun _ => 0))), (q57, .inr (4, [.ref (u57 0)])), ((u57 0), .inl (cA, 10, .inl (fun _ => 0)))] H := hP
  have hD : va_D A [(h0, .inr (1, [.ref q5, .ref q18, .ref q31, .ref q44, .ref q57, .null, .null, .int 0, .int 0, .int 0, .int 0])), (q5, .inr (4, [.ref (u5 0)])), ((u5 0), .inl (cA, 9, .inl (fun _ => 0))), (q18, .inr (4, [.ref (u18 0)])), ((u18 0), .inl (cA, 9, .inl (fun _ => 0))), (q31, .inr (4, [.ref (u31 0)])), ((u31 0), .inl (cA, 10, .inl (fun _ => 0))), (q44, .inr (4, [.ref (u44 0)])), ((u44 0), .inl (cA, 10, .inl (fun _ => 0))), (q57, .inr (4, [.ref (u57 0)])), ((u57 0), .inl (cA, 10, .inl (fun _ => 0)))] := hD
  refine lv_aload_n hx hb dX1_init_69 rfl (lv_at hl 0 rfl) ?_
  refine va_new (ci := 4) (fs := [.null]) (C := RX4) (T := TX4) (N := 1) hx hb hts (fun w h => ti_w (in_l (c := 4) (by decide) w h)) tyX4 tyX4_ok hown (hts _ tx_clX1_9) (hts _ tx_in4) (hts _ tx_itX4) hK hP hD hS hA rfl df4 (Nat.le_of_ble_eq_true rfl) (Nat.le_of_ble_eq_true rfl) dX1_init_70 (fun q70 H hP hD hS => ?_)
  have hP : va_P D vwCl [(h0, .inr (1, [.ref q5, .ref q18, .ref q31, .ref q44, .ref q57, .null, .null, .int 0, .int 0, .int 0, .int 0])), (q5, .inr (4, [.ref (u5 0)])), ((u5 0), .inl (cA, 9, .inl (fun _ => 0))), (q18, .inr (4, [.ref (u18 0)])), ((u18 0), .inl (cA, 9, .inl (fun _ => 0))), (q31, .inr (4, [.ref (u31 0)])), ((u31 0), .inl (cA, 10, .inl (fun _ => 0))), (q44, .inr (4, [.ref (u44 0)])), ((u44 0), .inl (cA, 10, .inl (fun _ => 0))), (q57, .inr (4, [.ref (u57 0)])), ((u57 0), .inl (cA, 10, .inl (fun _ => 0))), (q70, .inr (4, [.null]))] H := hP
  have hD : va_D A [(h0, .inr (1, [.ref q5, .ref q18, .ref q31, .ref q44, .ref q57, .null, .null, .int 0, .int 0, .int 0, .int 0])), (q5, .inr (4, [.ref (u5 0)])), ((u5 0), .inl (cA, 9, .inl (fun _ => 0))), (q18, .inr (4, [.ref (u18 0)])), ((u18 0), .inl (cA, 9, .inl (fun _ => 0))), (q31, .inr (4, [.ref (u31 0)])), ((u31 0), .inl (cA, 10, .inl (fun _ => 0))), (q44, .inr (4, [.ref (u44 0)])), ((u44 0), .inl (cA, 10, .inl (fun _ => 0))), (q57, .inr (4, [.ref (u57 0)])), ((u57 0), .inl (cA, 10, .inl (fun _ => 0))), (q70, .inr (4, [.null]))] := hD
  refine lv_dup hx hb dX1_init_73 rfl ?_
  refine lv_iconst (v := nI 4) hx hb dX1_init_74 (by decide) ?_
  have hPc := hP.sub (ws' := [(q70, .inr (4, [.null]))]) [11] rfl
  have hDc := hD.sub (ws' := [(q70, .inr (4, [.null]))]) [11] (by decide) rfl
  have hFc := va_free (wc := [(q70, .inr (4, [.null]))]) hD hS hA [11] rfl
  refine va_callv (va_runI (As := [.int (nI 4)]) (rest := [.ref q70, .ref h0]) ⟨hx, hb, hml, hown, hts⟩ (cI_X4 l D cA cQ q70 H.size 4 (by decide) (by decide)) (cwI 1 hts (TI_gi _ (List.forall_mem_cons.mpr ⟨tk_yX4_init, fun w h => h⟩)) rfl rfl rfl (hts _ tx_itX4) (hts _ tx_mlX1_11) (hts _ tx_imX4_init) rfl (by decide +kernel) ⟨Nat.le_of_ble_eq_true rfl, Nat.le_of_ble_eq_true rfl⟩) ⟨BI_blind, fun U hU hW => ⟨rfl, BI_pass hPc hK hDc hE U hU hW⟩⟩ rfl rfl hl.1 rfl (lv_room (Nat.le_of_ble_eq_true rfl)) dX1_init_75 ⟨Nat.le_of_ble_eq_true rfl, Nat.le_of_ble_eq_true rfl⟩) hS (fun q _ h => hFc q h) hFc (fun u70 t H1 locs ht hvm _ hB hz1 hk1 hS => ?_)
  obtain ⟨hP1, hK1, hD1⟩ := hB
  rw [ht] at hP1
  obtain ⟨hP, hD⟩ := va_join (wr := [(h0, .inr (1, [.ref q5, .ref q18, .ref q31, .ref q44, .ref q57, .null, .null, .int 0, .int 0, .int 0, .int 0])), (q5, .inr (4, [.ref (u5 0)])), ((u5 0), .inl (cA, 9, .inl (fun _ => 0))), (q18, .inr (4, [.ref (u18 0)])), ((u18 0), .inl (cA, 9, .inl (fun _ => 0))), (q31, .inr (4, [.ref (u31 0)])), ((u31 0), .inl (cA, 10, .inl (fun _ => 0))), (q44, .inr (4, [.ref (u44 0)])), ((u44 0), .inl (cA, 10, .inl (fun _ => 0))), (q57, .inr (4, [.ref (u57 0)])), ((u57 0), .inl (cA, 10, .inl (fun _ => 0)))]) (w1 := [(q70, .inr (4, [.ref (u70 0)])), ((u70 0), .inl (cA, 4, .inl (fun _ => 0)))]) hP hD [11] [0, 1, 2, 3, 4, 5, 6, 7, 8, 9, 10] rfl rfl (by decide) (by decide) hk1 hFc hP1 hD1
  generalize H1 = H at hP hS ⊢
  have hP : va_P D vwCl [(h0, .inr (1, [.ref q5, .ref q18, .ref q31, .ref q44, .ref q57, .null, .null, .int 0, .int 0, .int 0, .int 0])), (q5, .inr (4, [.ref (u5 0)])), ((u5 0), .inl (cA, 9, .inl (fun _ => 0))), (q18, .inr (4, [.ref (u18 0)])), ((u18 0), .inl (cA, 9, .inl (fun _ => 0))), (q31, .inr (4, [.ref (u31 0)])), ((u31 0), .inl (cA, 10, .inl (fun _ => 0))), (q44, .inr (4, [.ref (u44 0)])), ((u44 0), .inl (cA, 10, .inl (fun _ => 0))), (q57, .inr (4, [.ref (u57 0)])), ((u57 0), .inl (cA, 10, .inl (fun _ => 0))), (q70, .inr (4, [.ref (u70 0)])), ((u70 0), .inl (cA, 4, .inl (fun _ => 0)))] H := hP
  have hD : va_D A [(h0, .inr (1, [.ref q5, .ref q18, .ref q31, .ref q44, .ref q57, .null, .null, .int 0, .int 0, .int 0, .int 0])), (q5, .inr (4, [.ref (u5 0)])), ((u5 0), .inl (cA, 9, .inl (fun _ => 0))), (q18, .inr (4, [.ref (u18 0)])), ((u18 0), .inl (cA, 9, .inl (fun _ => 0))), (q31, .inr (4, [.ref (u31 0)])), ((u31 0), .inl (cA, 10, .inl (fun _ => 0))), (q44, .inr (4, [.ref (u44 0)])), ((u44 0), .inl (cA, 10, .inl (fun _ => 0))), (q57, .inr (4, [.ref (u57 0)])), ((u57 0), .inl (cA, 10, .inl (fun _ => 0))), (q70, .inr (4, [.ref (u70 0)])), ((u70 0), .inl (cA, 4, .inl (fun _ => 0)))] := hD
  refine W.widen (k := 12) (n := 58) (Nat.le_of_ble_eq_true rfl) (Nat.le_of_ble_eq_true rfl) ?_
  refine va_putF (D := D) (ci := 1) (v := .ref q70) (ty := (.object "BlueByTouch$Row")) (C := RX1) (T := TX1) (N := 11) hx hb hts (fun w h => ti_w (in_l (c := 1) (by decide) w h)) tyX1 tyX1_ok nmX1 hown hK hP hD hS 0 rfl rfl 5 (by decide) (hts _ (ti_w (in_f (List.mem_of_getElem? (i := 9) rfl)))) (fun _ h9 => h9) rfl hin rfl (by decide +kernel) rfl rfl (Nat.le_of_ble_eq_true rfl) dX1_init_78 (fun H locs hP hD hS => ?_)
  have hP : va_P D vwCl [(h0, .inr (1, [.ref q5, .ref q18, .ref q31, .ref q44, .ref q57, .ref q70, .null, .int 0, .int 0, .int 0, .int 0])), (q5, .inr (4, [.ref (u5 0)])), ((u5 0), .inl (cA, 9, .inl (fun _ => 0))), (q18, .inr (4, [.ref (u18 0)])), ((u18 0), .inl (cA, 9, .inl (fun _ => 0))), (q31, .inr (4, [.ref (u31 0)])), ((u31 0), .inl (cA, 10, .inl (fun _ => 0))), (q44, .inr (4, [.ref (u44 0)])), ((u44 0), .inl (cA, 10, .inl (fun _ => 0))), (q57, .inr (4, [.ref (u57 0)])), ((u57 0), .inl (cA, 10, .inl (fun _ => 0))), (q70, .inr (4, [.ref (u70 0)])), ((u70 0), .inl (cA, 4, .inl (fun _ => 0)))] H := hP
  have hD : va_D A [(h0, .inr (1, [.ref q5, .ref q18, .ref q31, .ref q44, .ref q57, .ref q70, .null, .int 0, .int 0, .int 0, .int 0])), (q5, .inr (4, [.ref (u5 0)])), ((u5 0), .inl (cA, 9, .inl (fun _ => 0))), (q18, .inr (4, [.ref (u18 0)])), ((u18 0), .inl (cA, 9, .inl (fun _ => 0))), (q31, .inr (4, [.ref (u31 0)])), ((u31 0), .inl (cA, 10, .inl (fun _ => 0))), (q44, .inr (4, [.ref (u44 0)])), ((u44 0), .inl (cA, 10, .inl (fun _ => 0))), (q57, .inr (4, [.ref (u57 0)])), ((u57 0), .inl (cA, 10, .inl (fun _ => 0))), (q70, .inr (4, [.ref (u70 0)])), ((u70 0), .inl (cA, 4, .inl (fun _ => 0)))] := hD
  refine lv_aload_n hx hb dX1_init_81 rfl (lv_at hl 0 rfl) ?_
  refine va_new (ci := 4) (fs := [.null]) (C := RX4) (T := TX4) (N := 1) hx hb hts (fun w h => ti_w (in_l (c := 4) (by decide) w h)) tyX4 tyX4_ok hown (hts _ tx_clX1_9) (hts _ tx_in4) (hts _ tx_itX4) hK hP hD hS hA rfl df4 (Nat.le_of_ble_eq_true rfl) (Nat.le_of_ble_eq_true rfl) dX1_init_82 (fun q82 H hP hD hS => ?_)
  have hP : va_P D vwCl [(h0, .inr (1, [.ref q5, .ref q18, .ref q31, .ref q44, .ref q57, .ref q70, .null, .int 0, .int 0, .int 0, .int 0])), (q5, .inr (4, [.ref (u5 0)])), ((u5 0), .inl (cA, 9, .inl (fun _ => 0))), (q18, .inr (4, [.ref (u18 0)])), ((u18 0), .inl (cA, 9, .inl (fun _ => 0))), (q31, .inr (4, [.ref (u31 0)])), ((u31 0), .inl (cA, 10, .inl (fun _ => 0))), (q44, .inr (4, [.ref (u44 0)])), ((u44 0), .inl (cA, 10, .inl (fun _ => 0))), (q57, .inr (4, [.ref (u57 0)])), ((u57 0), .inl (cA, 10, .inl (fun _ => 0))), (q70, .inr (4, [.ref (u70 0)])), ((u70 0), .inl (cA, 4, .inl (fun _ => 0))), (q82, .inr (4, [.null]))] H := hP
  have hD : va_D A [(h0, .inr (1, [.ref q5, .ref q18, .ref q31, .ref q44, .ref q57, .ref q70, .null, .int 0, .int 0, .int 0, .int 0])), (q5, .inr (4, [.ref (u5 0)])), ((u5 0), .inl (cA, 9, .inl (fun _ => 0))), (q18, .inr (4, [.ref (u18 0)])), ((u18 0), .inl (cA, 9, .inl (fun _ => 0))), (q31, .inr (4, [.ref (u31 0)])), ((u31 0), .inl (cA, 10, .inl (fun _ => 0))), (q44, .inr (4, [.ref (u44 0)])), ((u44 0), .inl (cA, 10, .inl (fun _ => 0))), (q57, .inr (4, [.ref (u57 0)])), ((u57 0), .inl (cA, 10, .inl (fun _ => 0))), (q70, .inr (4, [.ref (u70 0)])), ((u70 0), .inl (cA, 4, .inl (fun _ => 0))), (q82, .inr (4, [.null]))] := hD
  refine lv_dup hx hb dX1_init_85 rfl ?_
  refine lv_iconst (v := nI 4) hx hb dX1_init_86 (by decide) ?_
  have hPc := hP.sub (ws' := [(q82, .inr (4, [.null]))]) [13] rfl
  have hDc := hD.sub (ws' := [(q82, .inr (4, [.null]))]) [13] (by decide) rfl
  have hFc := va_free (wc := [(q82, .inr (4, [.null]))]) hD hS hA [13] rfl
  refine va_callv (va_runI (As := [.int (nI 4)]) (rest := [.ref q82, .ref h0]) ⟨hx, hb, hml, hown, hts⟩ (cI_X4 l D cA cQ q82 H.size 4 (by decide) (by decide)) (cwI 1 hts (TI_gi _ (List.forall_mem_cons.mpr ⟨tk_yX4_init, fun w h => h⟩)) rfl rfl rfl (hts _ tx_itX4) (hts _ tx_mlX1_11) (hts _ tx_imX4_init) rfl (by decide +kernel) ⟨Nat.le_of_ble_eq_true rfl, Nat.le_of_ble_eq_true rfl⟩) ⟨BI_blind, fun U hU hW => ⟨rfl, BI_pass hPc hK hDc hE U hU hW⟩⟩ rfl rfl hl.1 rfl (lv_room (Nat.le_of_ble_eq_true rfl)) dX1_init_87 ⟨Nat.le_of_ble_eq_true rfl, Nat.le_of_ble_eq_true rfl⟩) hS (fun q _ h => hFc q h) hFc (fun u82 t H1 locs ht hvm _ hB hz1 hk1 hS => ?_)
  obtain ⟨hP1, hK1, hD1⟩ := hB
  rw [ht] at hP1
  obtain ⟨hP, hD⟩ := va_join (wr := [(h0, .inr (1, [.ref q5, .ref q18, .ref q31, .ref q44, .ref q57, .ref q70, .null, .int 0, .int 0, .int 0, .int 0])), (q5, .inr (4, [.ref (u5 0)])), ((u5 0), .inl (cA, 9, .inl (fun _ => 0))), (q18, .inr (4, [.ref (u18 0)])), ((u18 0), .inl (cA, 9, .inl (fun _ => 0))), (q31, .inr (4, [.ref (u31 0)])), ((u31 0), .inl (cA, 10, .inl (fun _ => 0))), (q44, .inr (4, [.ref (u44 0)])), ((u44 0), .inl (cA, 10, .inl (fun _ => 0))), (q57, .inr (4, [.ref (u57 0)])), ((u57 0), .inl (cA, 10, .inl (fun _ => 0))), (q70, .inr (4, [.ref (u70 0)])), ((u70 0), .inl (cA, 4, .inl (fun _ => 0)))]) (w1 := [(q82, .inr (4, [.ref (u82 0)])), ((u82 0), .inl (cA, 4, .inl (fun _ => 0)))]) hP hD [13] [0, 1, 2, 3, 4, 5, 6, 7, 8, 9, 10, 11, 12] rfl rfl (by decide) (by decide) hk1 hFc hP1 hD1
  generalize H1 = H at hP hS ⊢
  have hP : va_P D vwCl [(h0, .inr (1, [.ref q5, .ref q18, .ref q31, .ref q44, .ref q57, .ref q70, .null, .int 0, .int 0, .int 0, .int 0])), (q5, .inr (4, [.ref (u5 0)])), ((u5 0), .inl (cA, 9, .inl (fun _ => 0))), (q18, .inr (4, [.ref (u18 0)])), ((u18 0), .inl (cA, 9, .inl (fun _ => 0))), (q31, .inr (4, [.ref (u31 0)])), ((u31 0), .inl (cA, 10, .inl (fun _ => 0))), (q44, .inr (4, [.ref (u44 0)])), ((u44 0), .inl (cA, 10, .inl (fun _ => 0))), (q57, .inr (4, [.ref (u57 0)])), ((u57 0), .inl (cA, 10, .inl (fun _ => 0))), (q70, .inr (4, [.ref (u70 0)])), ((u70 0), .inl (cA, 4, .inl (fun _ => 0))), (q82, .inr (4, [.ref (u82 0)])), ((u82 0), .inl (cA, 4, .inl (fun _ => 0)))] H := hP
  have hD : va_D A [(h0, .inr (1, [.ref q5, .ref q18, .ref q31, .ref q44, .ref q57, .ref q70, .null, .int 0, .int 0, .int 0, .int 0])), (q5, .inr (4, [.ref (u5 0)])), ((u5 0), .inl (cA, 9, .inl (fun _ => 0))), (q18, .inr (4, [.ref (u18 0)])), ((u18 0), .inl (cA, 9, .inl (fun _ => 0))), (q31, .inr (4, [.ref (u31 0)])), ((u31 0), .inl (cA, 10, .inl (fun _ => 0))), (q44, .inr (4, [.ref (u44 0)])), ((u44 0), .inl (cA, 10, .inl (fun _ => 0))), (q57, .inr (4, [.ref (u57 0)])), ((u57 0), .inl (cA, 10, .inl (fun _ => 0))), (q70, .inr (4, [.ref (u70 0)])), ((u70 0), .inl (cA, 4, .inl (fun _ => 0))), (q82, .inr (4, [.ref (u82 0)])), ((u82 0), .inl (cA, 4, .inl (fun _ => 0)))] := hD
  refine W.widen (k := 14) (n := 63) (Nat.le_of_ble_eq_true rfl) (Nat.le_of_ble_eq_true rfl) ?_
  refine va_putF (D := D) (ci := 1) (v := .ref q82) (ty := (.object "BlueByTouch$Row")) (C := RX1) (T := TX1) (N := 11) hx hb hts (fun w h => ti_w (in_l (c := 1) (by decide) w h)) tyX1 tyX1_ok nmX1 hown hK hP hD hS 0 rfl rfl 6 (by decide) (hts _ (ti_w (in_f (List.mem_of_getElem? (i := 10) rfl)))) (fun _ h9 => h9) rfl hin rfl (by decide +kernel) rfl rfl (Nat.le_of_ble_eq_true rfl) dX1_init_90 (fun H locs hP hD hS => ?_)
  have hP : va_P D vwCl [(h0, .inr (1, [.ref q5, .ref q18, .ref q31, .ref q44, .ref q57, .ref q70, .ref q82, .int 0, .int 0, .int 0, .int 0])), (q5, .inr (4, [.ref (u5 0)])), ((u5 0), .inl (cA, 9, .inl (fun _ => 0))), (q18, .inr (4, [.ref (u18 0)])), ((u18 0), .inl (cA, 9, .inl (fun _ => 0))), (q31, .inr (4, [.ref (u31 0)])), ((u31 0), .inl (cA, 10, .inl (fun _ => 0))), (q44, .inr (4, [.ref (u44 0)])), ((u44 0), .inl (cA, 10, .inl (fun _ => 0))), (q57, .inr (4, [.ref (u57 0)])), ((u57 0), .inl (cA, 10, .inl (fun _ => 0))), (q70, .inr (4, [.ref (u70 0)])), ((u70 0), .inl (cA, 4, .inl (fun _ => 0))), (q82, .inr (4, [.ref (u82 0)])), ((u82 0), .inl (cA, 4, .inl (fun _ => 0)))] H := hP
  have hD : va_D A [(h0, .inr (1, [.ref q5, .ref q18, .ref q31, .ref q44, .ref q57, .ref q70, .ref q82, .int 0, .int 0, .int 0, .int 0])), (q5, .inr (4, [.ref (u5 0)])), ((u5 0), .inl (cA, 9, .inl (fun _ => 0))), (q18, .inr (4, [.ref (u18 0)])), ((u18 0), .inl (cA, 9, .inl (fun _ => 0))), (q31, .inr (4, [.ref (u31 0)])), ((u31 0), .inl (cA, 10, .inl (fun _ => 0))), (q44, .inr (4, [.ref (u44 0)])), ((u44 0), .inl (cA, 10, .inl (fun _ => 0))), (q57, .inr (4, [.ref (u57 0)])), ((u57 0), .inl (cA, 10, .inl (fun _ => 0))), (q70, .inr (4, [.ref (u70 0)])), ((u70 0), .inl (cA, 4, .inl (fun _ => 0))), (q82, .inr (4, [.ref (u82 0)])), ((u82 0), .inl (cA, 4, .inl (fun _ => 0)))] := hD
  refine lv_aload_n hx hb dX1_init_93 rfl (lv_at hl 0 rfl) ?_
  refine lv_bipush (v := nI 7) hx hb dX1_init_94 (by decide) ?_
  refine va_put (D := D) (ci := 1) (v := .int (nI 7)) (ty := .int) (C := RX1) (T := TX1) (N := 11) hx hb hts (fun w h => ti_w (in_l (c := 1) (by decide) w h)) tyX1 tyX1_ok nmX1 hown hK hP hD hS 0 rfl rfl 10 (by decide) (hts _ (ti_w (in_f (List.mem_of_getElem? (i := 11) rfl)))) (fun _ h9 => h9) rfl (by decide +kernel) rfl rfl (Nat.le_of_ble_eq_true rfl) dX1_init_96 (fun H locs hP hD hS => ?_)
  have hP : va_P D vwCl [(h0, .inr (1, [.ref q5, .ref q18, .ref q31, .ref q44, .ref q57, .ref q70, .ref q82, .int 0, .int 0, .int 0, .int (nI 7)])), (q5, .inr (4, [.ref (u5 0)])), ((u5 0), .inl (cA, 9, .inl (fun _ => 0))), (q18, .inr (4, [.ref (u18 0)])), ((u18 0), .inl (cA, 9, .inl (fun _ => 0))), (q31, .inr (4, [.ref (u31 0)])), ((u31 0), .inl (cA, 10, .inl (fun _ => 0))), (q44, .inr (4, [.ref (u44 0)])), ((u44 0), .inl (cA, 10, .inl (fun _ => 0))), (q57, .inr (4, [.ref (u57 0)])), ((u57 0), .inl (cA, 10, .inl (fun _ => 0))), (q70, .inr (4, [.ref (u70 0)])), ((u70 0), .inl (cA, 4, .inl (fun _ => 0))), (q82, .inr (4, [.ref (u82 0)])), ((u82 0), .inl (cA, 4, .inl (fun _ => 0)))] H := hP
  have hD : va_D A [(h0, .inr (1, [.ref q5, .ref q18, .ref q31, .ref q44, .ref q57, .ref q70, .ref q82, .int 0, .int 0, .int 0, .int (nI 7)])), (q5, .inr (4, [.ref (u5 0)])), ((u5 0), .inl (cA, 9, .inl (fun _ => 0))), (q18, .inr (4, [.ref (u18 0)])), ((u18 0), .inl (cA, 9, .inl (fun _ => 0))), (q31, .inr (4, [.ref (u31 0)])), ((u31 0), .inl (cA, 10, .inl (fun _ => 0))), (q44, .inr (4, [.ref (u44 0)])), ((u44 0), .inl (cA, 10, .inl (fun _ => 0))), (q57, .inr (4, [.ref (u57 0)])), ((u57 0), .inl (cA, 10, .inl (fun _ => 0))), (q70, .inr (4, [.ref (u70 0)])), ((u70 0), .inl (cA, 4, .inl (fun _ => 0))), (q82, .inr (4, [.ref (u82 0)])), ((u82 0), .inl (cA, 4, .inl (fun _ => 0)))] := hD
  refine W.widen (k := 14) (n := 63) (Nat.le_of_ble_eq_true rfl) (Nat.le_of_ble_eq_true rfl) ?_
  exact W.vret hx hb hr (fun t ht hW => ⟨⟨(fun k => ([q5, (u5 0), q18, (u18 0), q31, (u31 0), q44, (u44 0), q57, (u57 0), q70, (u70 0), q82, (u82 0)] : List Nat).getD k 0), rfl, trivial, by rw [ht]; exact hP, va_K.moved hW.alike hK, hD⟩, hS.F ht⟩) hS.2.2 dX1_init_99
def wX2 (h0 : Nat) (cA : ClassId) (u : Nat → Nat) : va_W := [(h0, .inr (2, [.ref (u 0), .ref (u 2), .int 0, .int 0])), ((u 0), .inr (4, [.ref (u 1)])), ((u 1), .inl (cA, 200, .inl (fun _ => 0))), ((u 2), .inr (4, [.ref (u 3)])), ((u 3), .inl (cA, 3, .inl (fun _ => 0)))]
set_option maxHeartbeats 4000000 in
set_option maxRecDepth 100000 in
theorem cI_X2 (l : Launch) (D : va_G) (cA cQ : ClassId) (h0 sz : Nat) : Met l yX2_init (.code yX2_init cX2_init 1 none :: TI) ({ frames := 2, cells := 4, slots := 205, locals := 128 }) (va_Pc [.ref h0] (BI sz D cA cQ [(h0, .inr (2, [.null, .null, .int 0, .int 0]))])) (va_Qv (fun _ : Nat → Nat => True) (atI D cA cQ (va_A [(h0, .inr (2, [.null, .null, .int 0, .int 0]))] sz) (wX2 h0 cA)) (va_A [(h0, .inr (2, [.null, .null, .int 0, .int 0]))] sz)) 4 205 (va_A [(h0, .inr (2, [.null, .null, .int 0, .int 0]))] sz) := by
  refine Met.ofW (cc := cX2_init) (maxL := 1) (ret := none) (by decide +kernel) rfl ?_
  intro p e s m args below meth c s₁ B hml hv
  obtain ⟨rfl, hsz, hP, hK, hD0, hE⟩ := hv
  have hx := B.exec
  have hb := B.bytes
  have hr := B.returns
  have hts0 := atoms_spec (ws := .code yX2_init cX2_init 1 none :: TI) B.pre
  have hts : ∀ w ∈ TI, w.before ([.ref h0] : List Value).toArray s = true := fun w hw => hts0 w (List.mem_cons_of_mem _ hw)
  have hown : s.vm.findClass RX2 = some m.cls := findClass_of_methodNamed B.named
  have hlocks := B.notSynchronized
  have hin : meth.name = "<init>" := (name_of_methodNamed B.named B.method).1
  subst hsz
  have hD := hD0.self (sz := s.heap.size)
  generalize hAe : va_A [(h0, .inr (2, [.null, .null, .int 0, .int 0]))] s.heap.size = A at hD ⊢
  have hA : ∀ q : Nat, s.heap.size ≤ q → A q := fun q h => by rw [← hAe]; exact Or.inr h
  have hS : va_S A s.heap s.heap [] := va_S.rf
  have hl := lv_entry ([.ref h0]) (n := 1) (Nat.le_of_ble_eq_true rfl)
  rw [lg_entry_eq]
  generalize (lg_sl ([.ref h0]) ++ List.replicate (1 - (lg_sl ([.ref h0])).length) Slot.unset).toArray = ls at hl ⊢
  have hl : lv_has ls 1 [(0, .ref h0)] := hl
  refine lv_aload_n hx hb dX2_init_0 rfl (lv_at hl 0 rfl) ?_
  refine W.objInit hx hb hown (hts _ tx_oi2) (hts _ tx_oim) (hts _ tk_objectInit) rfl (by rw [hml]; exact hl.1) rfl dX2_init_1 (Nat.le_of_ble_eq_true rfl) (Nat.le_of_ble_eq_true rfl) ?_
  refine W.eq (g2 := F0 m 4 ls []) rfl ?_
  refine lv_aload_n hx hb dX2_init_4 rfl (lv_at hl 0 rfl) ?_
  refine va_new (ci := 4) (fs := [.null]) (C := RX4) (T := TX4) (N := 1) hx hb hts (fun w h => ti_w (in_l (c := 4) (by decide) w h)) tyX4 tyX4_ok hown (hts _ tx_clX2_9) (hts _ tx_in4) (hts _ tx_itX4) hK hP hD hS hA rfl df4 (Nat.le_of_ble_eq_true rfl) (Nat.le_of_ble_eq_true rfl) dX2_init_5 (fun q5 H hP hD hS => ?_)
  have hP : va_P D vwCl [(h0, .inr (2, [.null, .null, .int 0, .int 0])), (q5, .inr (4, [.null]))] H := hP
  have hD : va_D A [(h0, .inr (2, [.null, .null, .int 0, .int 0])), (q5, .inr (4, [.null]))] := hD
  refine lv_dup hx hb dX2_init_8 rfl ?_
  refine lv_sipush (v := nI 200) hx hb dX2_init_9 (by decide) ?_
  have hPc := hP.sub (ws' := [(q5, .inr (4, [.null]))]) [1] rfl
  have hDc := hD.sub (ws' := [(q5, .inr (4, [.null]))]) [1] (by decide) rfl
  have hFc := va_free (wc := [(q5, .inr (4, [.null]))]) hD hS hA [1] rfl
  refine va_callv (va_runI (As := [.int (nI 200)]) (rest := [.ref q5, .ref h0]) ⟨hx, hb, hml, hown, hts⟩ (cI_X4 l D cA cQ q5 H.size 200 (by decide) (by decide)) (cwI 1 hts (TI_gi _ (List.forall_mem_cons.mpr ⟨tk_yX4_init, fun w h => h⟩)) rfl rfl rfl (hts _ tx_itX4) (hts _ tx_mlX2_11) (hts _ tx_imX4_init) rfl (by decide +kernel) ⟨Nat.le_of_ble_eq_true rfl, Nat.le_of_ble_eq_true rfl⟩) ⟨BI_blind, fun U hU hW => ⟨rfl, BI_pass hPc hK hDc hE U hU hW⟩⟩ rfl rfl hl.1 rfl (lv_room (Nat.le_of_ble_eq_true rfl)) dX2_init_12 ⟨Nat.le_of_ble_eq_true rfl, Nat.le_of_ble_eq_true rfl⟩) hS (fun q _ h => hFc q h) hFc (fun u5 t H1 locs ht hvm _ hB hz1 hk1 hS => ?_)
  obtain ⟨hP1, hK1, hD1⟩ := hB
  rw [ht] at hP1
  obtain ⟨hP, hD⟩ := va_join (wr := [(h0, .inr (2, [.null, .null, .int 0, .int 0]))]) (w1 := [(q5, .inr (4, [.ref (u5 0)])), ((u5 0), .inl (cA, 200, .inl (fun _ => 0)))]) hP hD [1] [0] rfl rfl (by decide) (by decide) hk1 hFc hP1 hD1
  generalize H1 = H at hP hS ⊢
  have hP : va_P D vwCl [(h0, .inr (2, [.null, .null, .int 0, .int 0])), (q5, .inr (4, [.ref (u5 0)])), ((u5 0), .inl (cA, 200, .inl (fun _ => 0)))] H := hP
  have hD : va_D A [(h0, .inr (2, [.null, .null, .int 0, .int 0])), (q5, .inr (4, [.ref (u5 0)])), ((u5 0), .inl (cA, 200, .inl (fun _ => 0)))] := hD
  refine W.widen (k := 2) (n := 201) (Nat.le_of_ble_eq_true rfl) (Nat.le_of_ble_eq_true rfl) ?_
  refine va_putF (D := D) (ci := 2) (v := .ref q5) (ty := (.object "BlueByTouch$Row")) (C := RX2) (T := TX2) (N := 4) hx hb hts (fun w h => ti_w (in_l (c := 2) (by decide) w h)) tyX2 tyX2_ok nmX2 hown hK hP hD hS 0 rfl rfl 0 (by decide) (hts _ (ti_w (in_f (List.mem_of_getElem? (i := 15) rfl)))) (fun _ h9 => h9) rfl hin rfl (by decide +kernel) rfl rfl (Nat.le_of_ble_eq_true rfl) dX2_init_15 (fun H locs hP hD hS => ?_)
  have hP : va_P D vwCl [(h0, .inr (2, [.ref q5, .null, .int 0, .int 0])), (q5, .inr (4, [.ref (u5 0)])), ((u5 0), .inl (cA, 200, .inl (fun _ => 0)))] H := hP
  have hD : va_D A [(h0, .inr (2, [.ref q5, .null, .int 0, .int 0])), (q5, .inr (4, [.ref (u5 0)])), ((u5 0), .inl (cA, 200, .inl (fun _ => 0)))] := hD
  refine lv_aload_n hx hb dX2_init_18 rfl (lv_at hl 0 rfl) ?_
  refine va_new (ci := 4) (fs := [.null]) (C := RX4) (T := TX4) (N := 1) hx hb hts (fun w h => ti_w (in_l (c := 4) (by decide) w h)) tyX4 tyX4_ok hown (hts _ tx_clX2_9) (hts _ tx_in4) (hts _ tx_itX4) hK hP hD hS hA rfl df4 (Nat.le_of_ble_eq_true rfl) (Nat.le_of_ble_eq_true rfl) dX2_init_19 (fun q19 H hP hD hS => ?_)
  have hP : va_P D vwCl [(h0, .inr (2, [.ref q5, .null, .int 0, .int 0])), (q5, .inr (4, [.ref (u5 0)])), ((u5 0), .inl (cA, 200, .inl (fun _ => 0))), (q19, .inr (4, [.null]))] H := hP
  have hD : va_D A [(h0, .inr (2, [.ref q5, .null, .int 0, .int 0])), (q5, .inr (4, [.ref (u5 0)])), ((u5 0), .inl (cA, 200, .inl (fun _ => 0))), (q19, .inr (4, [.null]))] := hD
  refine lv_dup hx hb dX2_init_22 rfl ?_
  refine lv_iconst (v := nI 3) hx hb dX2_init_23 (by decide) ?_
  have hPc := hP.sub (ws' := [(q19, .inr (4, [.null]))]) [3] rfl
  have hDc := hD.sub (ws' := [(q19, .inr (4, [.null]))]) [3] (by decide) rfl
  have hFc := va_free (wc := [(q19, .inr (4, [.null]))]) hD hS hA [3] rfl
  refine va_callv (va_runI (As := [.int (nI 3)]) (rest := [.ref q19, .ref h0]) ⟨hx, hb, hml, hown, hts⟩ (cI_X4 l D cA cQ q19 H.size 3 (by decide) (by decide)) (cwI 1 hts (TI_gi _ (List.forall_mem_cons.mpr ⟨tk_yX4_init, fun w h => h⟩)) rfl rfl rfl (hts _ tx_itX4) (hts _ tx_mlX2_11) (hts _ tx_imX4_init) rfl (by decide +kernel) ⟨Nat.le_of_ble_eq_true rfl, Nat.le_of_ble_eq_true rfl⟩) ⟨BI_blind, fun U hU hW => ⟨rfl, BI_pass hPc hK hDc hE U hU hW⟩⟩ rfl rfl hl.1 rfl (lv_room (Nat.le_of_ble_eq_true rfl)) dX2_init_24 ⟨Nat.le_of_ble_eq_true rfl, Nat.le_of_ble_eq_true rfl⟩) hS (fun q _ h => hFc q h) hFc (fun u19 t H1 locs ht hvm _ hB hz1 hk1 hS => ?_)
  obtain ⟨hP1, hK1, hD1⟩ := hB
  rw [ht] at hP1
  obtain ⟨hP, hD⟩ := va_join (wr := [(h0, .inr (2, [.ref q5, .null, .int 0, .int 0])), (q5, .inr (4, [.ref (u5 0)])), ((u5 0), .inl (cA, 200, .inl (fun _ => 0)))]) (w1 := [(q19, .inr (4, [.ref (u19 0)])), ((u19 0), .inl (cA, 3, .inl (fun _ => 0)))]) hP hD [3] [0, 1, 2] rfl rfl (by decide) (by decide) hk1 hFc hP1 hD1
  generalize H1 = H at hP hS ⊢
  have hP : va_P D vwCl [(h0, .inr (2, [.ref q5, .null, .int 0, .int 0])), (q5, .inr (4, [.ref (u5 0)])), ((u5 0), .inl (cA, 200, .inl (fun _ => 0))), (q19, .inr (4, [.ref (u19 0)])), ((u19 0), .inl (cA, 3, .inl (fun _ => 0)))] H := hP
  have hD : va_D A [(h0, .inr (2, [.ref q5, .null, .int 0, .int 0])), (q5, .inr (4, [.ref (u5 0)])), ((u5 0), .inl (cA, 200, .inl (fun _ => 0))), (q19, .inr (4, [.ref (u19 0)])), ((u19 0), .inl (cA, 3, .inl (fun _ => 0)))] := hD
  refine W.widen (k := 4) (n := 205) (Nat.le_of_ble_eq_true rfl) (Nat.le_of_ble_eq_true rfl) ?_
  refine va_putF (D := D) (ci := 2) (v := .ref q19) (ty := (.object "BlueByTouch$Row")) (C := RX2) (T := TX2) (N := 4) hx hb hts (fun w h => ti_w (in_l (c := 2) (by decide) w h)) tyX2 tyX2_ok nmX2 hown hK hP hD hS 0 rfl rfl 1 (by decide) (hts _ (ti_w (in_f (List.mem_of_getElem? (i := 16) rfl)))) (fun _ h9 => h9) rfl hin rfl (by decide +kernel) rfl rfl (Nat.le_of_ble_eq_true rfl) dX2_init_27 (fun H locs hP hD hS => ?_)
  have hP : va_P D vwCl [(h0, .inr (2, [.ref q5, .ref q19, .int 0, .int 0])), (q5, .inr (4, [.ref (u5 0)])), ((u5 0), .inl (cA, 200, .inl (fun _ => 0))), (q19, .inr (4, [.ref (u19 0)])), ((u19 0), .inl (cA, 3, .inl (fun _ => 0)))] H := hP
  have hD : va_D A [(h0, .inr (2, [.ref q5, .ref q19, .int 0, .int 0])), (q5, .inr (4, [.ref (u5 0)])), ((u5 0), .inl (cA, 200, .inl (fun _ => 0))), (q19, .inr (4, [.ref (u19 0)])), ((u19 0), .inl (cA, 3, .inl (fun _ => 0)))] := hD
  refine W.widen (k := 4) (n := 205) (Nat.le_of_ble_eq_true rfl) (Nat.le_of_ble_eq_true rfl) ?_
  exact W.vret hx hb hr (fun t ht hW => ⟨⟨(fun k => ([q5, (u5 0), q19, (u19 0)] : List Nat).getD k 0), rfl, trivial, by rw [ht]; exact hP, va_K.moved hW.alike hK, hD⟩, hS.F ht⟩) hS.2.2 dX2_init_30
def wX5 (h0 : Nat) (cA : ClassId) (u : Nat → Nat) : va_W := [(h0, .inr (5, [.ref (u 0), .int 0, .int 0, .int 0])), ((u 0), .inr (4, [.ref (u 1)])), ((u 1), .inl (cA, 9, .inl (fun _ => 0)))]
set_option maxHeartbeats 4000000 in
set_option maxRecDepth 100000 in
theorem cI_X5 (l : Launch) (D : va_G) (cA cQ : ClassId) (h0 sz : Nat) : Met l yX5_init (.code yX5_init cX5_init 1 none :: TI) ({ frames := 2, cells := 2, slots := 10, locals := 128 }) (va_Pc [.ref h0] (BI sz D cA cQ [(h0, .inr (5, [.null, .int 0, .int 0, .int 0]))])) (va_Qv (fun _ : Nat → Nat => True) (atI D cA cQ (va_A [(h0, .inr (5, [.null, .int 0, .int 0, .int 0]))] sz) (wX5 h0 cA)) (va_A [(h0, .inr (5, [.null, .int 0, .int 0, .int 0]))] sz)) 2 10 (va_A [(h0, .inr (5, [.null, .int 0, .int 0, .int 0]))] sz) := by
  refine Met.ofW (cc := cX5_init) (maxL := 1) (ret := none) (by decide +kernel) rfl ?_
  intro p e s m args below meth c s₁ B hml hv
  obtain ⟨rfl, hsz, hP, hK, hD0, hE⟩ := hv
  have hx := B.exec
  have hb := B.bytes
  have hr := B.returns
  have hts0 := atoms_spec (ws := .code yX5_init cX5_init 1 none :: TI) B.pre
  have hts : ∀ w ∈ TI, w.before ([.ref h0] : List Value).toArray s = true := fun w hw => hts0 w (List.mem_cons_of_mem _ hw)
  have hown : s.vm.findClass RX5 = some m.cls := findClass_of_methodNamed B.named
  have hlocks := B.notSynchronized
  have hin : meth.name = "<init>" := (name_of_methodNamed B.named B.method).1
  subst hsz
  have hD := hD0.self (sz := s.heap.size)
  generalize hAe : va_A [(h0, .inr (5, [.null, .int 0, .int 0, .int 0]))] s.heap.size = A at hD ⊢
  have hA : ∀ q : Nat, s.heap.size ≤ q → A q := fun q h => by rw [← hAe]; exact Or.inr h
  have hS : va_S A s.heap s.heap [] := va_S.rf
  have hl := lv_entry ([.ref h0]) (n := 1) (Nat.le_of_ble_eq_true rfl)
  rw [lg_entry_eq]
  generalize (lg_sl ([.ref h0]) ++ List.replicate (1 - (lg_sl ([.ref h0])).length) Slot.unset).toArray = ls at hl ⊢
  have hl : lv_has ls 1 [(0, .ref h0)] := hl
  refine lv_aload_n hx hb dX5_init_0 rfl (lv_at hl 0 rfl) ?_
  refine W.objInit hx hb hown (hts _ tx_oi5) (hts _ tx_oim) (hts _ tk_objectInit) rfl (by rw [hml]; exact hl.1) rfl dX5_init_1 (Nat.le_of_ble_eq_true rfl) (Nat.le_of_ble_eq_true rfl) ?_
  refine W.eq (g2 := F0 m 4 ls []) rfl ?_
  refine lv_aload_n hx hb dX5_init_4 rfl (lv_at hl 0 rfl) ?_
  refine va_new (ci := 4) (fs := [.null]) (C := RX4) (T := TX4) (N := 1) hx hb hts (fun w h => ti_w (in_l (c := 4) (by decide) w h)) tyX4 tyX4_ok hown (hts _ tx_clX5_9) (hts _ tx_in4) (hts _ tx_itX4) hK hP hD hS hA rfl df4 (Nat.le_of_ble_eq_true rfl) (Nat.le_of_ble_eq_true rfl) dX5_init_5 (fun q5 H hP hD hS => ?_)
  have hP : va_P D vwCl [(h0, .inr (5, [.null, .int 0, .int 0, .int 0])), (q5, .inr (4, [.null]))] H := hP
  have hD : va_D A [(h0, .inr (5, [.null, .int 0, .int 0, .int 0])), (q5, .inr (4, [.null]))] := hD
  refine lv_dup hx hb dX5_init_8 rfl ?_
  refine lv_bipush (v := nI 9) hx hb dX5_init_9 (by decide) ?_
  have hPc := hP.sub (ws' := [(q5, .inr (4, [.null]))]) [1] rfl
  have hDc := hD.sub (ws' := [(q5, .inr (4, [.null]))]) [1] (by decide) rfl
  have hFc := va_free (wc := [(q5, .inr (4, [.null]))]) hD hS hA [1] rfl
  refine va_callv (va_runI (As := [.int (nI 9)]) (rest := [.ref q5, .ref h0]) ⟨hx, hb, hml, hown, hts⟩ (cI_X4 l D cA cQ q5 H.size 9 (by decide) (by decide)) (cwI 1 hts (TI_gi _ (List.forall_mem_cons.mpr ⟨tk_yX4_init, fun w h => h⟩)) rfl rfl rfl (hts _ tx_itX4) (hts _ tx_mlX5_11) (hts _ tx_imX4_init) rfl (by decide +kernel) ⟨Nat.le_of_ble_eq_true rfl, Nat.le_of_ble_eq_true rfl⟩) ⟨BI_blind, fun U hU hW => ⟨rfl, BI_pass hPc hK hDc hE U hU hW⟩⟩ rfl rfl hl.1 rfl (lv_room (Nat.le_of_ble_eq_true rfl)) dX5_init_11 ⟨Nat.le_of_ble_eq_true rfl, Nat.le_of_ble_eq_true rfl⟩) hS (fun q _ h => hFc q h) hFc (fun u5 t H1 locs ht hvm _ hB hz1 hk1 hS => ?_)
  obtain ⟨hP1, hK1, hD1⟩ := hB
  rw [ht] at hP1
  obtain ⟨hP, hD⟩ := va_join (wr := [(h0, .inr (5, [.null, .int 0, .int 0, .int 0]))]) (w1 := [(q5, .inr (4, [.ref (u5 0)])), ((u5 0), .inl (cA, 9, .inl (fun _ => 0)))]) hP hD [1] [0] rfl rfl (by decide) (by decide) hk1 hFc hP1 hD1
  generalize H1 = H at hP hS ⊢
  have hP : va_P D vwCl [(h0, .inr (5, [.null, .int 0, .int 0, .int 0])), (q5, .inr (4, [.ref (u5 0)])), ((u5 0), .inl (cA, 9, .inl (fun _ => 0)))] H := hP
  have hD : va_D A [(h0, .inr (5, [.null, .int 0, .int 0, .int 0])), (q5, .inr (4, [.ref (u5 0)])), ((u5 0), .inl (cA, 9, .inl (fun _ => 0)))] := hD
  refine W.widen (k := 2) (n := 10) (Nat.le_of_ble_eq_true rfl) (Nat.le_of_ble_eq_true rfl) ?_
  refine va_putF (D := D) (ci := 5) (v := .ref q5) (ty := (.object "BlueByTouch$Row")) (C := RX5) (T := TX5) (N := 4) hx hb hts (fun w h => ti_w (in_l (c := 5) (by decide) w h)) tyX5 tyX5_ok nmX5 hown hK hP hD hS 0 rfl rfl 0 (by decide) (hts _ (ti_w (in_f (List.mem_of_getElem? (i := 22) rfl)))) (fun _ h9 => h9) rfl hin rfl (by decide +kernel) rfl rfl (Nat.le_of_ble_eq_true rfl) dX5_init_14 (fun H locs hP hD hS => ?_)
  have hP : va_P D vwCl [(h0, .inr (5, [.ref q5, .int 0, .int 0, .int 0])), (q5, .inr (4, [.ref (u5 0)])), ((u5 0), .inl (cA, 9, .inl (fun _ => 0)))] H := hP
  have hD : va_D A [(h0, .inr (5, [.ref q5, .int 0, .int 0, .int 0])), (q5, .inr (4, [.ref (u5 0)])), ((u5 0), .inl (cA, 9, .inl (fun _ => 0)))] := hD
  refine W.widen (k := 2) (n := 10) (Nat.le_of_ble_eq_true rfl) (Nat.le_of_ble_eq_true rfl) ?_
  exact W.vret hx hb hr (fun t ht hW => ⟨⟨(fun k => ([q5, (u5 0)] : List Nat).getD k 0), rfl, trivial, by rw [ht]; exact hP, va_K.moved hW.alike hK, hD⟩, hS.F ht⟩) hS.2.2 dX5_init_17
def wX6 (h0 : Nat) (cA : ClassId) (u : Nat → Nat) : va_W := [(h0, .inr (6, [.int 0, .int 0]))]
set_option maxHeartbeats 4000000 in
set_option maxRecDepth 100000 in
theorem cI_X6 (l : Launch) (D : va_G) (cA cQ : ClassId) (h0 sz : Nat) : Met l yX6_init (.code yX6_init cX6_init 1 none :: TI) ({ frames := 1, cells := 0, slots := 0, locals := 64 }) (va_Pc [.ref h0] (BI sz D cA cQ [(h0, .inr (6, [.int 0, .int 0]))])) (va_Qv (fun _ : Nat → Nat => True) (atI D cA cQ (va_A [(h0, .inr (6, [.int 0, .int 0]))] sz) (wX6 h0 cA)) (va_A [(h0, .inr (6, [.int 0, .int 0]))] sz)) 0 0 (va_A [(h0, .inr (6, [.int 0, .int 0]))] sz) := by
  refine Met.ofW (cc := cX6_init) (maxL := 1) (ret := none) (by decide +kernel) rfl ?_
  intro p e s m args below meth c s₁ B hml hv
  obtain ⟨rfl, hsz, hP, hK, hD0, hE⟩ := hv
  have hx := B.exec
  have hb := B.bytes
  have hr := B.returns
  have hts0 := atoms_spec (ws := .code yX6_init cX6_init 1 none :: TI) B.pre
  have hts : ∀ w ∈ TI, w.before ([.ref h0] : List Value).toArray s = true := fun w hw => hts0 w (List.mem_cons_of_mem _ hw)
  have hown : s.vm.findClass RX6 = some m.cls := findClass_of_methodNamed B.named
  have hlocks := B.notSynchronized
  have hin : meth.name = "<init>" := (name_of_methodNamed B.named B.method).1
  subst hsz
  have hD := hD0.self (sz := s.heap.size)
  generalize hAe : va_A [(h0, .inr (6, [.int 0, .int 0]))] s.heap.size = A at hD ⊢
  have hA : ∀ q : Nat, s.heap.size ≤ q → A q := fun q h => by rw [← hAe]; exact Or.inr h
  have hS : va_S A s.heap s.heap [] := va_S.rf
  have hl := lv_entry ([.ref h0]) (n := 1) (Nat.le_of_ble_eq_true rfl)
  rw [lg_entry_eq]
  generalize (lg_sl ([.ref h0]) ++ List.replicate (1 - (lg_sl ([.ref h0])).length) Slot.unset).toArray = ls at hl ⊢
  have hl : lv_has ls 1 [(0, .ref h0)] := hl
  refine lv_aload_n hx hb dX6_init_0 rfl (lv_at hl 0 rfl) ?_
  refine W.objInit hx hb hown (hts _ tx_oi6) (hts _ tx_oim) (hts _ tk_objectInit) rfl (by rw [hml]; exact hl.1) rfl dX6_init_1 (Nat.le_of_ble_eq_true rfl) (Nat.le_of_ble_eq_true rfl) ?_
  refine W.eq (g2 := F0 m 4 ls []) rfl ?_
  refine W.widen (k := 0) (n := 0) (Nat.le_of_ble_eq_true rfl) (Nat.le_of_ble_eq_true rfl) ?_
  exact W.vret hx hb hr (fun t ht hW => ⟨⟨(fun k => ([] : List Nat).getD k 0), rfl, trivial, by rw [ht]; exact hP, va_K.moved hW.alike hK, hD⟩, hS.F ht⟩) hS.2.2 dX6_init_4
