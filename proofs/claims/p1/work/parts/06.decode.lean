theorem i32_nat {x : Int32} {n : Nat} (h0 : 0 ≤ x.toInt) (h1 : x.toInt ≤ (n : Int)) : ∃ j : Nat, j ≤ n ∧ x = nI j := by
  obtain ⟨j, hj, rfl⟩ := nI_of (x := x) (by rw [Int32.lt_iff_toInt_lt, Int32.toInt_zero]; omega)
  refine ⟨j, ?_, rfl⟩
  rw [nI_toInt hj] at h1
  omega
theorem dJ6_bitCount_0f7a4_0 : decode cJ6_bitCount_0f7a4 0 = .ok (.iload_n 0, 1) := by decide +kernel
theorem dJ6_bitCount_0f7a4_1 : decode cJ6_bitCount_0f7a4 1 = .ok (.iload_n 0, 1) := by decide +kernel
theorem dJ6_bitCount_0f7a4_2 : decode cJ6_bitCount_0f7a4 2 = .ok (.iconst 1, 1) := by decide +kernel
theorem dJ6_bitCount_0f7a4_3 : decode cJ6_bitCount_0f7a4 3 = .ok (.iushr, 1) := by decide +kernel
theorem dJ6_bitCount_0f7a4_4 : decode cJ6_bitCount_0f7a4 4 = .ok (.ldc_w 265, 3) := by decide +kernel
theorem dJ6_bitCount_0f7a4_7 : decode cJ6_bitCount_0f7a4 7 = .ok (.iand, 1) := by decide +kernel
theorem dJ6_bitCount_0f7a4_8 : decode cJ6_bitCount_0f7a4 8 = .ok (.isub, 1) := by decide +kernel
theorem dJ6_bitCount_0f7a4_9 : decode cJ6_bitCount_0f7a4 9 = .ok (.istore_n 0, 1) := by decide +kernel
theorem dJ6_bitCount_0f7a4_10 : decode cJ6_bitCount_0f7a4 10 = .ok (.iload_n 0, 1) := by decide +kernel
theorem dJ6_bitCount_0f7a4_11 : decode cJ6_bitCount_0f7a4 11 = .ok (.ldc_w 266, 3) := by decide +kernel
theorem dJ6_bitCount_0f7a4_14 : decode cJ6_bitCount_0f7a4 14 = .ok (.iand, 1) := by decide +kernel
theorem dJ6_bitCount_0f7a4_15 : decode cJ6_bitCount_0f7a4 15 = .ok (.iload_n 0, 1) := by decide +kernel
theorem dJ6_bitCount_0f7a4_16 : decode cJ6_bitCount_0f7a4 16 = .ok (.iconst 2, 1) := by decide +kernel
theorem dJ6_bitCount_0f7a4_17 : decode cJ6_bitCount_0f7a4 17 = .ok (.iushr, 1) := by decide +kernel
theorem dJ6_bitCount_0f7a4_18 : decode cJ6_bitCount_0f7a4 18 = .ok (.ldc_w 266, 3) := by decide +kernel
theorem dJ6_bitCount_0f7a4_21 : decode cJ6_bitCount_0f7a4 21 = .ok (.iand, 1) := by decide +kernel
theorem dJ6_bitCount_0f7a4_22 : decode cJ6_bitCount_0f7a4 22 = .ok (.iadd, 1) := by decide +kernel
theorem dJ6_bitCount_0f7a4_23 : decode cJ6_bitCount_0f7a4 23 = .ok (.istore_n 0, 1) := by decide +kernel
theorem dJ6_bitCount_0f7a4_24 : decode cJ6_bitCount_0f7a4 24 = .ok (.iload_n 0, 1) := by decide +kernel
theorem dJ6_bitCount_0f7a4_25 : decode cJ6_bitCount_0f7a4 25 = .ok (.iload_n 0, 1) := by decide +kernel
theorem dJ6_bitCount_0f7a4_26 : decode cJ6_bitCount_0f7a4 26 = .ok (.iconst 4, 1) := by decide +kernel
theorem dJ6_bitCount_0f7a4_27 : decode cJ6_bitCount_0f7a4 27 = .ok (.iushr, 1) := by decide +kernel
theorem dJ6_bitCount_0f7a4_28 : decode cJ6_bitCount_0f7a4 28 = .ok (.iadd, 1) := by decide +kernel
theorem dJ6_bitCount_0f7a4_29 : decode cJ6_bitCount_0f7a4 29 = .ok (.ldc_w 267, 3) := by decide +kernel
theorem dJ6_bitCount_0f7a4_32 : decode cJ6_bitCount_0f7a4 32 = .ok (.iand, 1) := by decide +kernel
theorem dJ6_bitCount_0f7a4_33 : decode cJ6_bitCount_0f7a4 33 = .ok (.istore_n 0, 1) := by decide +kernel
theorem dJ6_bitCount_0f7a4_34 : decode cJ6_bitCount_0f7a4 34 = .ok (.iload_n 0, 1) := by decide +kernel
theorem dJ6_bitCount_0f7a4_35 : decode cJ6_bitCount_0f7a4 35 = .ok (.iload_n 0, 1) := by decide +kernel
theorem dJ6_bitCount_0f7a4_36 : decode cJ6_bitCount_0f7a4 36 = .ok (.bipush 8, 2) := by decide +kernel
theorem dJ6_bitCount_0f7a4_38 : decode cJ6_bitCount_0f7a4 38 = .ok (.iushr, 1) := by decide +kernel
theorem dJ6_bitCount_0f7a4_39 : decode cJ6_bitCount_0f7a4 39 = .ok (.iadd, 1) := by decide +kernel
theorem dJ6_bitCount_0f7a4_40 : decode cJ6_bitCount_0f7a4 40 = .ok (.istore_n 0, 1) := by decide +kernel
theorem dJ6_bitCount_0f7a4_41 : decode cJ6_bitCount_0f7a4 41 = .ok (.iload_n 0, 1) := by decide +kernel
theorem dJ6_bitCount_0f7a4_42 : decode cJ6_bitCount_0f7a4 42 = .ok (.iload_n 0, 1) := by decide +kernel
theorem dJ6_bitCount_0f7a4_43 : decode cJ6_bitCount_0f7a4 43 = .ok (.bipush 16, 2) := by decide +kernel
theorem dJ6_bitCount_0f7a4_45 : decode cJ6_bitCount_0f7a4 45 = .ok (.iushr, 1) := by decide +kernel
theorem dJ6_bitCount_0f7a4_46 : decode cJ6_bitCount_0f7a4 46 = .ok (.iadd, 1) := by decide +kernel
theorem dJ6_bitCount_0f7a4_47 : decode cJ6_bitCount_0f7a4 47 = .ok (.istore_n 0, 1) := by decide +kernel
theorem dJ6_bitCount_0f7a4_48 : decode cJ6_bitCount_0f7a4 48 = .ok (.iload_n 0, 1) := by decide +kernel
theorem dJ6_bitCount_0f7a4_49 : decode cJ6_bitCount_0f7a4 49 = .ok (.bipush 63, 2) := by decide +kernel
theorem dJ6_bitCount_0f7a4_51 : decode cJ6_bitCount_0f7a4 51 = .ok (.iand, 1) := by decide +kernel
theorem dJ6_bitCount_0f7a4_52 : decode cJ6_bitCount_0f7a4 52 = .ok (.ireturn, 1) := by decide +kernel
theorem dJ7_fill_53178_0 : decode cJ7_fill_53178 0 = .ok (.iconst 0, 1) := by decide +kernel
theorem dJ7_fill_53178_1 : decode cJ7_fill_53178 1 = .ok (.istore_n 2, 1) := by decide +kernel
theorem dJ7_fill_53178_2 : decode cJ7_fill_53178 2 = .ok (.aload_n 0, 1) := by decide +kernel
theorem dJ7_fill_53178_3 : decode cJ7_fill_53178 3 = .ok (.arraylength, 1) := by decide +kernel
theorem dJ7_fill_53178_4 : decode cJ7_fill_53178 4 = .ok (.istore_n 3, 1) := by decide +kernel
theorem dJ7_fill_53178_5 : decode cJ7_fill_53178 5 = .ok (.iload_n 2, 1) := by decide +kernel
theorem dJ7_fill_53178_6 : decode cJ7_fill_53178 6 = .ok (.iload_n 3, 1) := by decide +kernel
theorem dJ7_fill_53178_7 : decode cJ7_fill_53178 7 = .ok (.if_icmp .ge 13, 3) := by decide +kernel
theorem dJ7_fill_53178_10 : decode cJ7_fill_53178 10 = .ok (.aload_n 0, 1) := by decide +kernel
theorem dJ7_fill_53178_11 : decode cJ7_fill_53178 11 = .ok (.iload_n 2, 1) := by decide +kernel
theorem dJ7_fill_53178_12 : decode cJ7_fill_53178 12 = .ok (.iload_n 1, 1) := by decide +kernel
theorem dJ7_fill_53178_13 : decode cJ7_fill_53178 13 = .ok (.iastore, 1) := by decide +kernel
theorem dJ7_fill_53178_14 : decode cJ7_fill_53178 14 = .ok (.iinc 2 1, 3) := by decide +kernel
theorem dJ7_fill_53178_17 : decode cJ7_fill_53178 17 = .ok (.goto (-12), 3) := by decide +kernel
theorem dJ7_fill_53178_20 : decode cJ7_fill_53178 20 = .ok (.return_, 1) := by decide +kernel
theorem dJ7_fill_d0a16_0 : decode cJ7_fill_d0a16 0 = .ok (.iconst 0, 1) := by decide +kernel
theorem dJ7_fill_d0a16_1 : decode cJ7_fill_d0a16 1 = .ok (.istore_n 3, 1) := by decide +kernel
theorem dJ7_fill_d0a16_2 : decode cJ7_fill_d0a16 2 = .ok (.aload_n 0, 1) := by decide +kernel
theorem dJ7_fill_d0a16_3 : decode cJ7_fill_d0a16 3 = .ok (.arraylength, 1) := by decide +kernel
theorem dJ7_fill_d0a16_4 : decode cJ7_fill_d0a16 4 = .ok (.istore 4, 2) := by decide +kernel
theorem dJ7_fill_d0a16_6 : decode cJ7_fill_d0a16 6 = .ok (.iload_n 3, 1) := by decide +kernel
theorem dJ7_fill_d0a16_7 : decode cJ7_fill_d0a16 7 = .ok (.iload 4, 2) := by decide +kernel
theorem dJ7_fill_d0a16_9 : decode cJ7_fill_d0a16 9 = .ok (.if_icmp .ge 13, 3) := by decide +kernel
theorem dJ7_fill_d0a16_12 : decode cJ7_fill_d0a16 12 = .ok (.aload_n 0, 1) := by decide +kernel
theorem dJ7_fill_d0a16_13 : decode cJ7_fill_d0a16 13 = .ok (.iload_n 3, 1) := by decide +kernel
theorem dJ7_fill_d0a16_14 : decode cJ7_fill_d0a16 14 = .ok (.lload_n 1, 1) := by decide +kernel
theorem dJ7_fill_d0a16_15 : decode cJ7_fill_d0a16 15 = .ok (.lastore, 1) := by decide +kernel
theorem dJ7_fill_d0a16_16 : decode cJ7_fill_d0a16 16 = .ok (.iinc 3 1, 3) := by decide +kernel
theorem dJ7_fill_d0a16_19 : decode cJ7_fill_d0a16 19 = .ok (.goto (-13), 3) := by decide +kernel
theorem dJ7_fill_d0a16_22 : decode cJ7_fill_d0a16 22 = .ok (.return_, 1) := by decide +kernel
theorem dJ7_fill_fda19_0 : decode cJ7_fill_fda19 0 = .ok (.aload_n 0, 1) := by decide +kernel
theorem dJ7_fill_fda19_1 : decode cJ7_fill_fda19 1 = .ok (.arraylength, 1) := by decide +kernel
theorem dJ7_fill_fda19_2 : decode cJ7_fill_fda19 2 = .ok (.iload_n 1, 1) := by decide +kernel
theorem dJ7_fill_fda19_3 : decode cJ7_fill_fda19 3 = .ok (.iload_n 2, 1) := by decide +kernel
theorem dJ7_fill_fda19_4 : decode cJ7_fill_fda19 4 = .ok (.invokestatic 13, 3) := by decide +kernel
theorem dJ7_fill_fda19_7 : decode cJ7_fill_fda19 7 = .ok (.iload_n 1, 1) := by decide +kernel
theorem dJ7_fill_fda19_8 : decode cJ7_fill_fda19 8 = .ok (.istore 4, 2) := by decide +kernel
theorem dJ7_fill_fda19_10 : decode cJ7_fill_fda19 10 = .ok (.iload 4, 2) := by decide +kernel
theorem dJ7_fill_fda19_12 : decode cJ7_fill_fda19 12 = .ok (.iload_n 2, 1) := by decide +kernel
theorem dJ7_fill_fda19_13 : decode cJ7_fill_fda19 13 = .ok (.if_icmp .ge 14, 3) := by decide +kernel
theorem dJ7_fill_fda19_16 : decode cJ7_fill_fda19 16 = .ok (.aload_n 0, 1) := by decide +kernel
theorem dJ7_fill_fda19_17 : decode cJ7_fill_fda19 17 = .ok (.iload 4, 2) := by decide +kernel
theorem dJ7_fill_fda19_19 : decode cJ7_fill_fda19 19 = .ok (.iload_n 3, 1) := by decide +kernel
theorem dJ7_fill_fda19_20 : decode cJ7_fill_fda19 20 = .ok (.iastore, 1) := by decide +kernel
theorem dJ7_fill_fda19_21 : decode cJ7_fill_fda19 21 = .ok (.iinc 4 1, 3) := by decide +kernel
theorem dJ7_fill_fda19_24 : decode cJ7_fill_fda19 24 = .ok (.goto (-14), 3) := by decide +kernel
theorem dJ7_fill_fda19_27 : decode cJ7_fill_fda19 27 = .ok (.return_, 1) := by decide +kernel
theorem dJ7_rangeCheck_23922_0 : decode cJ7_rangeCheck_23922 0 = .ok (.iload_n 1, 1) := by decide +kernel
theorem dJ7_rangeCheck_23922_1 : decode cJ7_rangeCheck_23922 1 = .ok (.iload_n 2, 1) := by decide +kernel
theorem dJ7_rangeCheck_23922_2 : decode cJ7_rangeCheck_23922 2 = .ok (.if_icmp .le 44, 3) := by decide +kernel
theorem dJ7_rangeCheck_23922_46 : decode cJ7_rangeCheck_23922 46 = .ok (.iload_n 1, 1) := by decide +kernel
theorem dJ7_rangeCheck_23922_47 : decode cJ7_rangeCheck_23922 47 = .ok (.ifCond .ge 12, 3) := by decide +kernel
theorem dJ7_rangeCheck_23922_59 : decode cJ7_rangeCheck_23922 59 = .ok (.iload_n 2, 1) := by decide +kernel
theorem dJ7_rangeCheck_23922_60 : decode cJ7_rangeCheck_23922 60 = .ok (.iload_n 0, 1) := by decide +kernel
theorem dJ7_rangeCheck_23922_61 : decode cJ7_rangeCheck_23922 61 = .ok (.if_icmp .le 12, 3) := by decide +kernel
theorem dJ7_rangeCheck_23922_73 : decode cJ7_rangeCheck_23922 73 = .ok (.return_, 1) := by decide +kernel
theorem dX0_depart_0 : decode cX0_depart 0 = .ok (.iload_n 1, 1) := by decide +kernel
theorem dX0_depart_1 : decode cX0_depart 1 = .ok (.ifCond .lt 14, 3) := by decide +kernel
theorem dX0_depart_4 : decode cX0_depart 4 = .ok (.iload_n 1, 1) := by decide +kernel
theorem dX0_depart_5 : decode cX0_depart 5 = .ok (.aload_n 0, 1) := by decide +kernel
theorem dX0_depart_6 : decode cX0_depart 6 = .ok (.getfield 29, 3) := by decide +kernel
theorem dX0_depart_9 : decode cX0_depart 9 = .ok (.getfield 45, 3) := by decide +kernel
theorem dX0_depart_12 : decode cX0_depart 12 = .ok (.if_icmp .lt 5, 3) := by decide +kernel
theorem dX0_depart_15 : decode cX0_depart 15 = .ok (.iconst 1, 1) := by decide +kernel
theorem dX0_depart_16 : decode cX0_depart 16 = .ok (.ireturn, 1) := by decide +kernel
theorem dX0_draw_0 : decode cX0_draw 0 = .ok (.aload_n 0, 1) := by decide +kernel
theorem dX0_draw_1 : decode cX0_draw 1 = .ok (.getfield 33, 3) := by decide +kernel
theorem dX0_draw_4 : decode cX0_draw 4 = .ok (.invokevirtual 57, 3) := by decide +kernel
theorem dX0_draw_7 : decode cX0_draw 7 = .ok (.aload_n 0, 1) := by decide +kernel
theorem dX0_draw_8 : decode cX0_draw 8 = .ok (.getfield 37, 3) := by decide +kernel
theorem dX0_draw_11 : decode cX0_draw 11 = .ok (.aload_n 0, 1) := by decide +kernel
theorem dX0_draw_12 : decode cX0_draw 12 = .ok (.getfield 33, 3) := by decide +kernel
theorem dX0_draw_15 : decode cX0_draw 15 = .ok (.getfield 85, 3) := by decide +kernel
theorem dX0_draw_18 : decode cX0_draw 18 = .ok (.aload_n 0, 1) := by decide +kernel
theorem dX0_draw_19 : decode cX0_draw 19 = .ok (.getfield 29, 3) := by decide +kernel
theorem dX0_draw_22 : decode cX0_draw 22 = .ok (.getfield 45, 3) := by decide +kernel
theorem dX0_draw_25 : decode cX0_draw 25 = .ok (.aload_n 0, 1) := by decide +kernel
theorem dX0_draw_26 : decode cX0_draw 26 = .ok (.getfield 29, 3) := by decide +kernel
theorem dX0_draw_29 : decode cX0_draw 29 = .ok (.getfield 50, 3) := by decide +kernel
theorem dX0_draw_32 : decode cX0_draw 32 = .ok (.invokevirtual 88, 3) := by decide +kernel
theorem dX0_draw_35 : decode cX0_draw 35 = .ok (.istore_n 3, 1) := by decide +kernel
theorem dX0_draw_36 : decode cX0_draw 36 = .ok (.iload_n 3, 1) := by decide +kernel
theorem dX0_draw_37 : decode cX0_draw 37 = .ok (.ifCond .ne 5, 3) := by decide +kernel
theorem dX0_draw_42 : decode cX0_draw 42 = .ok (.aload_n 0, 1) := by decide +kernel
theorem dX0_draw_43 : decode cX0_draw 43 = .ok (.lload_n 1, 1) := by decide +kernel
theorem dX0_draw_44 : decode cX0_draw 44 = .ok (.iload_n 3, 1) := by decide +kernel
theorem dX0_draw_45 : decode cX0_draw 45 = .ok (.i2l, 1) := by decide +kernel
theorem dX0_draw_46 : decode cX0_draw 46 = .ok (.lrem, 1) := by decide +kernel
theorem dX0_draw_47 : decode cX0_draw 47 = .ok (.l2i, 1) := by decide +kernel
theorem dX0_draw_48 : decode cX0_draw 48 = .ok (.putfield 19, 3) := by decide +kernel
theorem dX0_draw_51 : decode cX0_draw 51 = .ok (.aload_n 0, 1) := by decide +kernel
theorem dX0_draw_52 : decode cX0_draw 52 = .ok (.getfield 37, 3) := by decide +kernel
theorem dX0_draw_55 : decode cX0_draw 55 = .ok (.aload_n 0, 1) := by decide +kernel
theorem dX0_draw_56 : decode cX0_draw 56 = .ok (.getfield 19, 3) := by decide +kernel
theorem dX0_draw_59 : decode cX0_draw 59 = .ok (.aload_n 0, 1) := by decide +kernel
theorem dX0_draw_60 : decode cX0_draw 60 = .ok (.getfield 22, 3) := by decide +kernel
theorem dX0_draw_63 : decode cX0_draw 63 = .ok (.invokevirtual 94, 3) := by decide +kernel
theorem dX0_draw_66 : decode cX0_draw 66 = .ok (.iconst 0, 1) := by decide +kernel
theorem dX0_draw_67 : decode cX0_draw 67 = .ok (.istore 4, 2) := by decide +kernel
theorem dX0_draw_69 : decode cX0_draw 69 = .ok (.iload 4, 2) := by decide +kernel
theorem dX0_draw_71 : decode cX0_draw 71 = .ok (.aload_n 0, 1) := by decide +kernel
theorem dX0_draw_72 : decode cX0_draw 72 = .ok (.getfield 29, 3) := by decide +kernel
theorem dX0_draw_75 : decode cX0_draw 75 = .ok (.getfield 45, 3) := by decide +kernel
theorem dX0_draw_78 : decode cX0_draw 78 = .ok (.if_icmp .ge 53, 3) := by decide +kernel
theorem dX0_draw_131 : decode cX0_draw 131 = .ok (.aload_n 0, 1) := by decide +kernel
theorem dX0_draw_132 : decode cX0_draw 132 = .ok (.getfield 29, 3) := by decide +kernel
theorem dX0_draw_135 : decode cX0_draw 135 = .ok (.getfield 70, 3) := by decide +kernel
theorem dX0_draw_138 : decode cX0_draw 138 = .ok (.dup, 1) := by decide +kernel
theorem dX0_draw_139 : decode cX0_draw 139 = .ok (.getfield 101, 3) := by decide +kernel
theorem dX0_draw_142 : decode cX0_draw 142 = .ok (.iconst 1, 1) := by decide +kernel
theorem dX0_draw_143 : decode cX0_draw 143 = .ok (.iadd, 1) := by decide +kernel
theorem dX0_draw_144 : decode cX0_draw 144 = .ok (.putfield 101, 3) := by decide +kernel
theorem dX0_draw_147 : decode cX0_draw 147 = .ok (.aload_n 0, 1) := by decide +kernel
theorem dX0_draw_148 : decode cX0_draw 148 = .ok (.getfield 29, 3) := by decide +kernel
theorem dX0_draw_151 : decode cX0_draw 151 = .ok (.dup, 1) := by decide +kernel
theorem dX0_draw_152 : decode cX0_draw 152 = .ok (.getfield 104, 3) := by decide +kernel
theorem dX0_draw_155 : decode cX0_draw 155 = .ok (.iconst 1, 1) := by decide +kernel
theorem dX0_draw_156 : decode cX0_draw 156 = .ok (.iadd, 1) := by decide +kernel
theorem dX0_draw_157 : decode cX0_draw 157 = .ok (.putfield 104, 3) := by decide +kernel
theorem dX0_draw_160 : decode cX0_draw 160 = .ok (.iconst 0, 1) := by decide +kernel
theorem dX0_draw_161 : decode cX0_draw 161 = .ok (.ireturn, 1) := by decide +kernel
theorem dX0_init_0 : decode cX0_init 0 = .ok (.aload_n 0, 1) := by decide +kernel
theorem dX0_init_1 : decode cX0_init 1 = .ok (.invokespecial 3, 3) := by decide +kernel
theorem dX0_init_4 : decode cX0_init 4 = .ok (.aload_n 0, 1) := by decide +kernel
theorem dX0_init_5 : decode cX0_init 5 = .ok (.iconst 0, 1) := by decide +kernel
theorem dX0_init_6 : decode cX0_init 6 = .ok (.putfield 9, 3) := by decide +kernel
theorem dX0_init_9 : decode cX0_init 9 = .ok (.aload_n 0, 1) := by decide +kernel
theorem dX0_init_10 : decode cX0_init 10 = .ok (.iconst 0, 1) := by decide +kernel
theorem dX0_init_11 : decode cX0_init 11 = .ok (.putfield 15, 3) := by decide +kernel
theorem dX0_init_14 : decode cX0_init 14 = .ok (.aload_n 0, 1) := by decide +kernel
theorem dX0_init_15 : decode cX0_init 15 = .ok (.iconst (-1), 1) := by decide +kernel
theorem dX0_init_16 : decode cX0_init 16 = .ok (.putfield 19, 3) := by decide +kernel
theorem dX0_init_19 : decode cX0_init 19 = .ok (.aload_n 0, 1) := by decide +kernel
theorem dX0_init_20 : decode cX0_init 20 = .ok (.bipush 7, 2) := by decide +kernel
theorem dX0_init_22 : decode cX0_init 22 = .ok (.newarray .int, 2) := by decide +kernel
theorem dX0_init_24 : decode cX0_init 24 = .ok (.putfield 22, 3) := by decide +kernel
theorem dX0_init_27 : decode cX0_init 27 = .ok (.aload_n 0, 1) := by decide +kernel
theorem dX0_init_28 : decode cX0_init 28 = .ok (.iconst 0, 1) := by decide +kernel
theorem dX0_init_29 : decode cX0_init 29 = .ok (.putfield 26, 3) := by decide +kernel
theorem dX0_init_32 : decode cX0_init 32 = .ok (.aload_n 0, 1) := by decide +kernel
theorem dX0_init_33 : decode cX0_init 33 = .ok (.aload_n 1, 1) := by decide +kernel
theorem dX0_init_34 : decode cX0_init 34 = .ok (.putfield 29, 3) := by decide +kernel
theorem dX0_init_37 : decode cX0_init 37 = .ok (.aload_n 0, 1) := by decide +kernel
theorem dX0_init_38 : decode cX0_init 38 = .ok (.aload_n 2, 1) := by decide +kernel
theorem dX0_init_39 : decode cX0_init 39 = .ok (.putfield 33, 3) := by decide +kernel
theorem dX0_init_42 : decode cX0_init 42 = .ok (.aload_n 0, 1) := by decide +kernel
theorem dX0_init_43 : decode cX0_init 43 = .ok (.aload_n 3, 1) := by decide +kernel
theorem dX0_init_44 : decode cX0_init 44 = .ok (.putfield 37, 3) := by decide +kernel
theorem dX0_init_47 : decode cX0_init 47 = .ok (.aload_n 0, 1) := by decide +kernel
theorem dX0_init_48 : decode cX0_init 48 = .ok (.aload 4, 2) := by decide +kernel
theorem dX0_init_50 : decode cX0_init 50 = .ok (.putfield 41, 3) := by decide +kernel
theorem dX0_init_53 : decode cX0_init 53 = .ok (.return_, 1) := by decide +kernel
theorem dX0_mend_0 : decode cX0_mend 0 = .ok (.iload_n 1, 1) := by decide +kernel
theorem dX0_mend_1 : decode cX0_mend 1 = .ok (.ifCond .lt 14, 3) := by decide +kernel
theorem dX0_mend_4 : decode cX0_mend 4 = .ok (.iload_n 1, 1) := by decide +kernel
theorem dX0_mend_5 : decode cX0_mend 5 = .ok (.aload_n 0, 1) := by decide +kernel
theorem dX0_mend_6 : decode cX0_mend 6 = .ok (.getfield 29, 3) := by decide +kernel
theorem dX0_mend_9 : decode cX0_mend 9 = .ok (.getfield 50, 3) := by decide +kernel
theorem dX0_mend_12 : decode cX0_mend 12 = .ok (.if_icmp .lt 5, 3) := by decide +kernel
theorem dX0_mend_15 : decode cX0_mend 15 = .ok (.iconst 1, 1) := by decide +kernel
theorem dX0_mend_16 : decode cX0_mend 16 = .ok (.ireturn, 1) := by decide +kernel
theorem dX0_settle_0 : decode cX0_settle 0 = .ok (.iload_n 1, 1) := by decide +kernel
theorem dX0_settle_1 : decode cX0_settle 1 = .ok (.ifCond .lt 29, 3) := by decide +kernel
theorem dX0_settle_4 : decode cX0_settle 4 = .ok (.iload_n 1, 1) := by decide +kernel
theorem dX0_settle_5 : decode cX0_settle 5 = .ok (.aload_n 0, 1) := by decide +kernel
theorem dX0_settle_6 : decode cX0_settle 6 = .ok (.getfield 29, 3) := by decide +kernel
theorem dX0_settle_9 : decode cX0_settle 9 = .ok (.getfield 45, 3) := by decide +kernel
theorem dX0_settle_12 : decode cX0_settle 12 = .ok (.if_icmp .ge 18, 3) := by decide +kernel
theorem dX0_settle_30 : decode cX0_settle 30 = .ok (.iconst 1, 1) := by decide +kernel
theorem dX0_settle_31 : decode cX0_settle 31 = .ok (.ireturn, 1) := by decide +kernel
theorem dX0_spoil_0 : decode cX0_spoil 0 = .ok (.iload_n 1, 1) := by decide +kernel
theorem dX0_spoil_1 : decode cX0_spoil 1 = .ok (.ifCond .lt 14, 3) := by decide +kernel
theorem dX0_spoil_4 : decode cX0_spoil 4 = .ok (.iload_n 1, 1) := by decide +kernel
theorem dX0_spoil_5 : decode cX0_spoil 5 = .ok (.aload_n 0, 1) := by decide +kernel
theorem dX0_spoil_6 : decode cX0_spoil 6 = .ok (.getfield 29, 3) := by decide +kernel
theorem dX0_spoil_9 : decode cX0_spoil 9 = .ok (.getfield 50, 3) := by decide +kernel
theorem dX0_spoil_12 : decode cX0_spoil 12 = .ok (.if_icmp .lt 5, 3) := by decide +kernel
theorem dX0_spoil_15 : decode cX0_spoil 15 = .ok (.iconst 1, 1) := by decide +kernel
theorem dX0_spoil_16 : decode cX0_spoil 16 = .ok (.ireturn, 1) := by decide +kernel
theorem dX0_swapByRings_0 : decode cX0_swapByRings 0 = .ok (.aload_n 0, 1) := by decide +kernel
theorem dX0_swapByRings_1 : decode cX0_swapByRings 1 = .ok (.getfield 33, 3) := by decide +kernel
theorem dX0_swapByRings_4 : decode cX0_swapByRings 4 = .ok (.invokevirtual 57, 3) := by decide +kernel
theorem dX0_swapByRings_7 : decode cX0_swapByRings 7 = .ok (.aload_n 0, 1) := by decide +kernel
theorem dX0_swapByRings_8 : decode cX0_swapByRings 8 = .ok (.getfield 41, 3) := by decide +kernel
theorem dX0_swapByRings_11 : decode cX0_swapByRings 11 = .ok (.invokevirtual 107, 3) := by decide +kernel
theorem dX0_swapByRings_14 : decode cX0_swapByRings 14 = .ok (.iconst 0, 1) := by decide +kernel
theorem dX0_swapByRings_15 : decode cX0_swapByRings 15 = .ok (.istore_n 1, 1) := by decide +kernel
theorem dX0_swapByRings_16 : decode cX0_swapByRings 16 = .ok (.iload_n 1, 1) := by decide +kernel
theorem dX0_swapByRings_17 : decode cX0_swapByRings 17 = .ok (.aload_n 0, 1) := by decide +kernel
theorem dX0_swapByRings_18 : decode cX0_swapByRings 18 = .ok (.getfield 29, 3) := by decide +kernel
theorem dX0_swapByRings_21 : decode cX0_swapByRings 21 = .ok (.getfield 45, 3) := by decide +kernel
theorem dX0_swapByRings_24 : decode cX0_swapByRings 24 = .ok (.if_icmp .ge 36, 3) := by decide +kernel
theorem dX0_swapByRings_60 : decode cX0_swapByRings 60 = .ok (.iconst 0, 1) := by decide +kernel
theorem dX0_swapByRings_61 : decode cX0_swapByRings 61 = .ok (.ireturn, 1) := by decide +kernel
theorem dX10_init_0 : decode cX10_init 0 = .ok (.aload_n 0, 1) := by decide +kernel
theorem dX10_init_1 : decode cX10_init 1 = .ok (.invokespecial 3, 3) := by decide +kernel
theorem dX10_init_4 : decode cX10_init 4 = .ok (.aload_n 0, 1) := by decide +kernel
theorem dX10_init_5 : decode cX10_init 5 = .ok (.iconst (-1), 1) := by decide +kernel
theorem dX10_init_6 : decode cX10_init 6 = .ok (.putfield 9, 3) := by decide +kernel
theorem dX10_init_9 : decode cX10_init 9 = .ok (.aload_n 0, 1) := by decide +kernel
theorem dX10_init_10 : decode cX10_init 10 = .ok (.bipush 40, 2) := by decide +kernel
theorem dX10_init_12 : decode cX10_init 12 = .ok (.newarray .long, 2) := by decide +kernel
theorem dX10_init_14 : decode cX10_init 14 = .ok (.putfield 15, 3) := by decide +kernel
theorem dX10_init_17 : decode cX10_init 17 = .ok (.aload_n 0, 1) := by decide +kernel
theorem dX10_init_18 : decode cX10_init 18 = .ok (.iconst 0, 1) := by decide +kernel
theorem dX10_init_19 : decode cX10_init 19 = .ok (.putfield 19, 3) := by decide +kernel
theorem dX10_init_22 : decode cX10_init 22 = .ok (.return_, 1) := by decide +kernel
theorem dX10_isMissing_0 : decode cX10_isMissing 0 = .ok (.aload_n 0, 1) := by decide +kernel
theorem dX10_isMissing_1 : decode cX10_isMissing 1 = .ok (.getfield 9, 3) := by decide +kernel
theorem dX10_isMissing_4 : decode cX10_isMissing 4 = .ok (.iconst (-1), 1) := by decide +kernel
theorem dX10_isMissing_5 : decode cX10_isMissing 5 = .ok (.if_icmp .ne 7, 3) := by decide +kernel
theorem dX10_isMissing_8 : decode cX10_isMissing 8 = .ok (.iconst 1, 1) := by decide +kernel
theorem dX10_isMissing_9 : decode cX10_isMissing 9 = .ok (.goto 4, 3) := by decide +kernel
theorem dX10_isMissing_13 : decode cX10_isMissing 13 = .ok (.ireturn, 1) := by decide +kernel
theorem dX10_lay_0 : decode cX10_lay 0 = .ok (.aload_n 0, 1) := by decide +kernel
theorem dX10_lay_1 : decode cX10_lay 1 = .ok (.iload_n 1, 1) := by decide +kernel
theorem dX10_lay_2 : decode cX10_lay 2 = .ok (.putfield 19, 3) := by decide +kernel
theorem dX10_lay_5 : decode cX10_lay 5 = .ok (.aload_n 0, 1) := by decide +kernel
theorem dX10_lay_6 : decode cX10_lay 6 = .ok (.iload_n 2, 1) := by decide +kernel
theorem dX10_lay_7 : decode cX10_lay 7 = .ok (.putfield 9, 3) := by decide +kernel
theorem dX10_lay_10 : decode cX10_lay 10 = .ok (.aload_n 0, 1) := by decide +kernel
theorem dX10_lay_11 : decode cX10_lay 11 = .ok (.getfield 15, 3) := by decide +kernel
theorem dX10_lay_14 : decode cX10_lay 14 = .ok (.lconst 0, 1) := by decide +kernel
theorem dX10_lay_15 : decode cX10_lay 15 = .ok (.invokestatic 22, 3) := by decide +kernel
theorem dX10_lay_18 : decode cX10_lay 18 = .ok (.return_, 1) := by decide +kernel
theorem dX11_allElse_0 : decode cX11_allElse 0 = .ok (.aload_n 0, 1) := by decide +kernel
theorem dX11_allElse_1 : decode cX11_allElse 1 = .ok (.invokevirtual 283, 3) := by decide +kernel
theorem dX11_allElse_4 : decode cX11_allElse 4 = .ok (.iconst 0, 1) := by decide +kernel
theorem dX11_allElse_5 : decode cX11_allElse 5 = .ok (.istore_n 1, 1) := by decide +kernel
theorem dX11_allElse_6 : decode cX11_allElse 6 = .ok (.iload_n 1, 1) := by decide +kernel
theorem dX11_allElse_7 : decode cX11_allElse 7 = .ok (.aload_n 0, 1) := by decide +kernel
theorem dX11_allElse_8 : decode cX11_allElse 8 = .ok (.getfield 20, 3) := by decide +kernel
theorem dX11_allElse_11 : decode cX11_allElse 11 = .ok (.getfield 190, 3) := by decide +kernel
theorem dX11_allElse_14 : decode cX11_allElse 14 = .ok (.if_icmp .ge 41, 3) := by decide +kernel
theorem dX11_allElse_55 : decode cX11_allElse 55 = .ok (.aload_n 0, 1) := by decide +kernel
theorem dX11_allElse_56 : decode cX11_allElse 56 = .ok (.invokevirtual 286, 3) := by decide +kernel
theorem dX11_allElse_59 : decode cX11_allElse 59 = .ok (.ireturn, 1) := by decide +kernel
theorem dX11_asksOfMap_0 : decode cX11_asksOfMap 0 = .ok (.iload_n 0, 1) := by decide +kernel
theorem dX11_asksOfMap_1 : decode cX11_asksOfMap 1 = .ok (.ifCond .eq 15, 3) := by decide +kernel
theorem dX11_asksOfMap_4 : decode cX11_asksOfMap 4 = .ok (.iload_n 0, 1) := by decide +kernel
theorem dX11_asksOfMap_5 : decode cX11_asksOfMap 5 = .ok (.bipush 10, 2) := by decide +kernel
theorem dX11_asksOfMap_7 : decode cX11_asksOfMap 7 = .ok (.if_icmp .lt 13, 3) := by decide +kernel
theorem dX11_asksOfMap_10 : decode cX11_asksOfMap 10 = .ok (.iload_n 0, 1) := by decide +kernel
theorem dX11_asksOfMap_11 : decode cX11_asksOfMap 11 = .ok (.bipush 17, 2) := by decide +kernel
theorem dX11_asksOfMap_13 : decode cX11_asksOfMap 13 = .ok (.if_icmp .ge 7, 3) := by decide +kernel
theorem dX11_asksOfMap_16 : decode cX11_asksOfMap 16 = .ok (.iconst 1, 1) := by decide +kernel
theorem dX11_asksOfMap_17 : decode cX11_asksOfMap 17 = .ok (.goto 4, 3) := by decide +kernel
theorem dX11_asksOfMap_20 : decode cX11_asksOfMap 20 = .ok (.iconst 0, 1) := by decide +kernel
theorem dX11_asksOfMap_21 : decode cX11_asksOfMap 21 = .ok (.ireturn, 1) := by decide +kernel
theorem dX11_best_0 : decode cX11_best 0 = .ok (.iload_n 1, 1) := by decide +kernel
theorem dX11_best_1 : decode cX11_best 1 = .ok (.invokestatic 315, 3) := by decide +kernel
theorem dX11_best_4 : decode cX11_best 4 = .ok (.ifCond .ne 6, 3) := by decide +kernel
theorem dX11_best_7 : decode cX11_best 7 = .ok (.bipush (-2), 2) := by decide +kernel
theorem dX11_best_9 : decode cX11_best 9 = .ok (.ireturn, 1) := by decide +kernel
theorem dX11_best_10 : decode cX11_best 10 = .ok (.aload_n 0, 1) := by decide +kernel
theorem dX11_best_11 : decode cX11_best 11 = .ok (.invokevirtual 276, 3) := by decide +kernel
theorem dX11_best_14 : decode cX11_best 14 = .ok (.ifCond .ne 14, 3) := by decide +kernel
theorem dX11_best_28 : decode cX11_best 28 = .ok (.aload_n 0, 1) := by decide +kernel
theorem dX11_best_29 : decode cX11_best 29 = .ok (.getfield 43, 3) := by decide +kernel
theorem dX11_best_32 : decode cX11_best 32 = .ok (.aload_n 0, 1) := by decide +kernel
theorem dX11_best_33 : decode cX11_best 33 = .ok (.getfield 36, 3) := by decide +kernel
theorem dX11_best_36 : decode cX11_best 36 = .ok (.getfield 184, 3) := by decide +kernel
theorem dX11_best_39 : decode cX11_best 39 = .ok (.invokevirtual 318, 3) := by decide +kernel
theorem dX11_best_42 : decode cX11_best 42 = .ok (.istore_n 2, 1) := by decide +kernel
theorem dX11_best_43 : decode cX11_best 43 = .ok (.iload_n 1, 1) := by decide +kernel
theorem dX11_best_44 : decode cX11_best 44 = .ok (.ifCond .ne 5, 3) := by decide +kernel
theorem dX11_best_47 : decode cX11_best 47 = .ok (.iload_n 2, 1) := by decide +kernel
theorem dX11_best_48 : decode cX11_best 48 = .ok (.ireturn, 1) := by decide +kernel
theorem dX11_best_49 : decode cX11_best 49 = .ok (.aload_n 0, 1) := by decide +kernel
theorem dX11_best_50 : decode cX11_best 50 = .ok (.getfield 43, 3) := by decide +kernel
theorem dX11_best_53 : decode cX11_best 53 = .ok (.aload_n 0, 1) := by decide +kernel
theorem dX11_best_54 : decode cX11_best 54 = .ok (.getfield 36, 3) := by decide +kernel
theorem dX11_best_57 : decode cX11_best 57 = .ok (.getfield 184, 3) := by decide +kernel
theorem dX11_best_60 : decode cX11_best 60 = .ok (.aload_n 0, 1) := by decide +kernel
theorem dX11_best_61 : decode cX11_best 61 = .ok (.getfield 107, 3) := by decide +kernel
theorem dX11_best_64 : decode cX11_best 64 = .ok (.invokevirtual 322, 3) := by decide +kernel
theorem dX11_best_67 : decode cX11_best 67 = .ok (.aload_n 0, 1) := by decide +kernel
theorem dX11_best_68 : decode cX11_best 68 = .ok (.iload_n 1, 1) := by decide +kernel
theorem dX11_best_69 : decode cX11_best 69 = .ok (.invokevirtual 326, 3) := by decide +kernel
theorem dX11_best_72 : decode cX11_best 72 = .ok (.ireturn, 1) := by decide +kernel
theorem dX11_bestMending_0 : decode cX11_bestMending 0 = .ok (.aload_n 0, 1) := by decide +kernel
theorem dX11_bestMending_1 : decode cX11_bestMending 1 = .ok (.invokevirtual 276, 3) := by decide +kernel
theorem dX11_bestMending_4 : decode cX11_bestMending 4 = .ok (.ifCond .ne 5, 3) := by decide +kernel
theorem dX11_bestMending_9 : decode cX11_bestMending 9 = .ok (.aload_n 0, 1) := by decide +kernel
theorem dX11_bestMending_10 : decode cX11_bestMending 10 = .ok (.getfield 43, 3) := by decide +kernel
theorem dX11_bestMending_13 : decode cX11_bestMending 13 = .ok (.aload_n 0, 1) := by decide +kernel
theorem dX11_bestMending_14 : decode cX11_bestMending 14 = .ok (.getfield 36, 3) := by decide +kernel
theorem dX11_bestMending_17 : decode cX11_bestMending 17 = .ok (.getfield 184, 3) := by decide +kernel
theorem dX11_bestMending_20 : decode cX11_bestMending 20 = .ok (.invokevirtual 318, 3) := by decide +kernel
theorem dX11_bestMending_23 : decode cX11_bestMending 23 = .ok (.istore_n 1, 1) := by decide +kernel
theorem dX11_bestMending_24 : decode cX11_bestMending 24 = .ok (.iconst (-1), 1) := by decide +kernel
theorem dX11_bestMending_25 : decode cX11_bestMending 25 = .ok (.istore_n 2, 1) := by decide +kernel
theorem dX11_bestMending_26 : decode cX11_bestMending 26 = .ok (.iconst 0, 1) := by decide +kernel
theorem dX11_bestMending_27 : decode cX11_bestMending 27 = .ok (.istore_n 3, 1) := by decide +kernel
theorem dX11_bestMending_28 : decode cX11_bestMending 28 = .ok (.iload_n 3, 1) := by decide +kernel
theorem dX11_bestMending_29 : decode cX11_bestMending 29 = .ok (.aload_n 0, 1) := by decide +kernel
theorem dX11_bestMending_30 : decode cX11_bestMending 30 = .ok (.getfield 20, 3) := by decide +kernel
theorem dX11_bestMending_33 : decode cX11_bestMending 33 = .ok (.getfield 187, 3) := by decide +kernel
theorem dX11_bestMending_36 : decode cX11_bestMending 36 = .ok (.if_icmp .ge 76, 3) := by decide +kernel
theorem dX11_bestMending_112 : decode cX11_bestMending 112 = .ok (.iload_n 2, 1) := by decide +kernel
theorem dX11_bestMending_113 : decode cX11_bestMending 113 = .ok (.ireturn, 1) := by decide +kernel
theorem dX11_byRings_0 : decode cX11_byRings 0 = .ok (.aload_n 0, 1) := by decide +kernel
theorem dX11_byRings_1 : decode cX11_byRings 1 = .ok (.iload_n 1, 1) := by decide +kernel
theorem dX11_byRings_2 : decode cX11_byRings 2 = .ok (.invokevirtual 161, 3) := by decide +kernel
theorem dX11_byRings_5 : decode cX11_byRings 5 = .ok (.ifCond .ne 6, 3) := by decide +kernel
theorem dX11_byRings_8 : decode cX11_byRings 8 = .ok (.bipush (-2), 2) := by decide +kernel
theorem dX11_byRings_10 : decode cX11_byRings 10 = .ok (.ireturn, 1) := by decide +kernel
theorem dX11_copyRows_0 : decode cX11_copyRows 0 = .ok (.aload_n 0, 1) := by decide +kernel
theorem dX11_copyRows_1 : decode cX11_copyRows 1 = .ok (.getfield 36, 3) := by decide +kernel
theorem dX11_copyRows_4 : decode cX11_copyRows 4 = .ok (.invokevirtual 177, 3) := by decide +kernel
theorem dX11_copyRows_7 : decode cX11_copyRows 7 = .ok (.aload_n 0, 1) := by decide +kernel
theorem dX11_copyRows_8 : decode cX11_copyRows 8 = .ok (.getfield 36, 3) := by decide +kernel
theorem dX11_copyRows_11 : decode cX11_copyRows 11 = .ok (.getfield 306, 3) := by decide +kernel
theorem dX11_copyRows_14 : decode cX11_copyRows 14 = .ok (.iconst 0, 1) := by decide +kernel
theorem dX11_copyRows_15 : decode cX11_copyRows 15 = .ok (.aload_n 0, 1) := by decide +kernel
theorem dX11_copyRows_16 : decode cX11_copyRows 16 = .ok (.getfield 103, 3) := by decide +kernel
theorem dX11_copyRows_19 : decode cX11_copyRows 19 = .ok (.iconst 0, 1) := by decide +kernel
theorem dX11_copyRows_20 : decode cX11_copyRows 20 = .ok (.bipush 7, 2) := by decide +kernel
theorem dX11_copyRows_22 : decode cX11_copyRows 22 = .ok (.invokestatic 309, 3) := by decide +kernel
theorem dX11_copyRows_25 : decode cX11_copyRows 25 = .ok (.return_, 1) := by decide +kernel
theorem dX11_count_0 : decode cX11_count 0 = .ok (.iload_n 1, 1) := by decide +kernel
theorem dX11_count_1 : decode cX11_count 1 = .ok (.tableswitch 139 0 8 #[51, 59, 67, 75, 86, 110, 118, 126, 131], 51) := by decide +kernel
theorem dX11_count_52 : decode cX11_count 52 = .ok (.aload_n 0, 1) := by decide +kernel
theorem dX11_count_53 : decode cX11_count 53 = .ok (.getfield 20, 3) := by decide +kernel
theorem dX11_count_56 : decode cX11_count 56 = .ok (.getfield 187, 3) := by decide +kernel
theorem dX11_count_59 : decode cX11_count 59 = .ok (.ireturn, 1) := by decide +kernel
theorem dX11_count_60 : decode cX11_count 60 = .ok (.aload_n 0, 1) := by decide +kernel
theorem dX11_count_61 : decode cX11_count 61 = .ok (.getfield 20, 3) := by decide +kernel
theorem dX11_count_64 : decode cX11_count 64 = .ok (.getfield 190, 3) := by decide +kernel
theorem dX11_count_67 : decode cX11_count 67 = .ok (.ireturn, 1) := by decide +kernel
theorem dX11_count_68 : decode cX11_count 68 = .ok (.aload_n 0, 1) := by decide +kernel
theorem dX11_count_69 : decode cX11_count 69 = .ok (.getfield 20, 3) := by decide +kernel
theorem dX11_count_72 : decode cX11_count 72 = .ok (.invokevirtual 260, 3) := by decide +kernel
theorem dX11_count_75 : decode cX11_count 75 = .ok (.ireturn, 1) := by decide +kernel
theorem dX11_count_76 : decode cX11_count 76 = .ok (.aload_n 0, 1) := by decide +kernel
theorem dX11_count_77 : decode cX11_count 77 = .ok (.getfield 20, 3) := by decide +kernel
theorem dX11_count_80 : decode cX11_count 80 = .ok (.getfield 151, 3) := by decide +kernel
theorem dX11_count_83 : decode cX11_count 83 = .ok (.getfield 257, 3) := by decide +kernel
theorem dX11_count_86 : decode cX11_count 86 = .ok (.ireturn, 1) := by decide +kernel
theorem dX11_count_87 : decode cX11_count 87 = .ok (.aload_n 0, 1) := by decide +kernel
theorem dX11_count_88 : decode cX11_count 88 = .ok (.getfield 20, 3) := by decide +kernel
theorem dX11_count_91 : decode cX11_count 91 = .ok (.getfield 187, 3) := by decide +kernel
theorem dX11_count_94 : decode cX11_count 94 = .ok (.aload_n 0, 1) := by decide +kernel
theorem dX11_count_95 : decode cX11_count 95 = .ok (.getfield 20, 3) := by decide +kernel
theorem dX11_count_98 : decode cX11_count 98 = .ok (.getfield 190, 3) := by decide +kernel
theorem dX11_count_101 : decode cX11_count 101 = .ok (.aload_n 0, 1) := by decide +kernel
theorem dX11_count_102 : decode cX11_count 102 = .ok (.getfield 20, 3) := by decide +kernel
theorem dX11_count_105 : decode cX11_count 105 = .ok (.invokevirtual 260, 3) := by decide +kernel
theorem dX11_count_108 : decode cX11_count 108 = .ok (.isub, 1) := by decide +kernel
theorem dX11_count_109 : decode cX11_count 109 = .ok (.isub, 1) := by decide +kernel
theorem dX11_count_110 : decode cX11_count 110 = .ok (.ireturn, 1) := by decide +kernel
theorem dX11_count_111 : decode cX11_count 111 = .ok (.aload_n 0, 1) := by decide +kernel
theorem dX11_count_112 : decode cX11_count 112 = .ok (.getfield 20, 3) := by decide +kernel
theorem dX11_count_115 : decode cX11_count 115 = .ok (.invokevirtual 411, 3) := by decide +kernel
theorem dX11_count_118 : decode cX11_count 118 = .ok (.ireturn, 1) := by decide +kernel
theorem dX11_count_119 : decode cX11_count 119 = .ok (.aload_n 0, 1) := by decide +kernel
theorem dX11_count_120 : decode cX11_count 120 = .ok (.getfield 82, 3) := by decide +kernel
theorem dX11_count_123 : decode cX11_count 123 = .ok (.getfield 230, 3) := by decide +kernel
theorem dX11_count_126 : decode cX11_count 126 = .ok (.ireturn, 1) := by decide +kernel
theorem dX11_count_127 : decode cX11_count 127 = .ok (.aload_n 0, 1) := by decide +kernel
theorem dX11_count_128 : decode cX11_count 128 = .ok (.getfield 13, 3) := by decide +kernel
theorem dX11_count_131 : decode cX11_count 131 = .ok (.ireturn, 1) := by decide +kernel
theorem dX11_count_132 : decode cX11_count 132 = .ok (.aload_n 0, 1) := by decide +kernel
theorem dX11_count_133 : decode cX11_count 133 = .ok (.getfield 20, 3) := by decide +kernel
theorem dX11_count_136 : decode cX11_count 136 = .ok (.getfield 137, 3) := by decide +kernel
theorem dX11_count_139 : decode cX11_count 139 = .ok (.ireturn, 1) := by decide +kernel
theorem dX11_count_140 : decode cX11_count 140 = .ok (.iconst (-1), 1) := by decide +kernel
theorem dX11_count_141 : decode cX11_count 141 = .ok (.ireturn, 1) := by decide +kernel
theorem dX11_draws_0 : decode cX11_draws 0 = .ok (.iload_n 1, 1) := by decide +kernel
theorem dX11_draws_1 : decode cX11_draws 1 = .ok (.ifCond .ge 6, 3) := by decide +kernel
theorem dX11_draws_4 : decode cX11_draws 4 = .ok (.bipush (-3), 2) := by decide +kernel
theorem dX11_draws_6 : decode cX11_draws 6 = .ok (.ireturn, 1) := by decide +kernel
theorem dX11_draws_7 : decode cX11_draws 7 = .ok (.aload_n 0, 1) := by decide +kernel
theorem dX11_draws_8 : decode cX11_draws 8 = .ok (.getfield 89, 3) := by decide +kernel
theorem dX11_draws_11 : decode cX11_draws 11 = .ok (.aload_n 0, 1) := by decide +kernel
theorem dX11_draws_12 : decode cX11_draws 12 = .ok (.getfield 20, 3) := by decide +kernel
theorem dX11_draws_15 : decode cX11_draws 15 = .ok (.getfield 151, 3) := by decide +kernel
theorem dX11_draws_18 : decode cX11_draws 18 = .ok (.invokevirtual 193, 3) := by decide +kernel
theorem dX11_draws_21 : decode cX11_draws 21 = .ok (.aload_n 0, 1) := by decide +kernel
theorem dX11_draws_22 : decode cX11_draws 22 = .ok (.getfield 75, 3) := by decide +kernel
theorem dX11_draws_25 : decode cX11_draws 25 = .ok (.iload_n 1, 1) := by decide +kernel
theorem dX11_draws_26 : decode cX11_draws 26 = .ok (.i2l, 1) := by decide +kernel
theorem dX11_draws_27 : decode cX11_draws 27 = .ok (.invokevirtual 196, 3) := by decide +kernel
theorem dX11_draws_30 : decode cX11_draws 30 = .ok (.ifCond .eq 6, 3) := by decide +kernel
theorem dX11_draws_36 : decode cX11_draws 36 = .ok (.aload_n 0, 1) := by decide +kernel
theorem dX11_draws_37 : decode cX11_draws 37 = .ok (.getfield 82, 3) := by decide +kernel
theorem dX11_draws_40 : decode cX11_draws 40 = .ok (.aload_n 0, 1) := by decide +kernel
theorem dX11_draws_41 : decode cX11_draws 41 = .ok (.getfield 89, 3) := by decide +kernel
theorem dX11_draws_44 : decode cX11_draws 44 = .ok (.invokevirtual 200, 3) := by decide +kernel
theorem dX11_draws_47 : decode cX11_draws 47 = .ok (.aload_n 0, 1) := by decide +kernel
theorem dX11_draws_48 : decode cX11_draws 48 = .ok (.getfield 75, 3) := by decide +kernel
theorem dX11_draws_51 : decode cX11_draws 51 = .ok (.getfield 203, 3) := by decide +kernel
theorem dX11_draws_54 : decode cX11_draws 54 = .ok (.ireturn, 1) := by decide +kernel
theorem dX11_envies_0 : decode cX11_envies 0 = .ok (.aload_n 0, 1) := by decide +kernel
theorem dX11_envies_1 : decode cX11_envies 1 = .ok (.iload_n 1, 1) := by decide +kernel
theorem dX11_envies_2 : decode cX11_envies 2 = .ok (.invokevirtual 161, 3) := by decide +kernel
theorem dX11_envies_5 : decode cX11_envies 5 = .ok (.ifCond .ne 6, 3) := by decide +kernel
theorem dX11_envies_8 : decode cX11_envies 8 = .ok (.bipush (-2), 2) := by decide +kernel
theorem dX11_envies_10 : decode cX11_envies 10 = .ok (.ireturn, 1) := by decide +kernel
theorem dX11_fairest_0 : decode cX11_fairest 0 = .ok (.iload_n 1, 1) := by decide +kernel
theorem dX11_fairest_1 : decode cX11_fairest 1 = .ok (.invokestatic 315, 3) := by decide +kernel
theorem dX11_fairest_4 : decode cX11_fairest 4 = .ok (.ifCond .ne 6, 3) := by decide +kernel
theorem dX11_fairest_7 : decode cX11_fairest 7 = .ok (.bipush (-2), 2) := by decide +kernel
theorem dX11_fairest_9 : decode cX11_fairest 9 = .ok (.ireturn, 1) := by decide +kernel
theorem dX11_fairest_10 : decode cX11_fairest 10 = .ok (.aload_n 0, 1) := by decide +kernel
theorem dX11_fairest_11 : decode cX11_fairest 11 = .ok (.invokevirtual 276, 3) := by decide +kernel
theorem dX11_fairest_14 : decode cX11_fairest 14 = .ok (.ifCond .ne 14, 3) := by decide +kernel
theorem dX11_fairest_28 : decode cX11_fairest 28 = .ok (.aload_n 0, 1) := by decide +kernel
theorem dX11_fairest_29 : decode cX11_fairest 29 = .ok (.getfield 20, 3) := by decide +kernel
theorem dX11_fairest_32 : decode cX11_fairest 32 = .ok (.getfield 190, 3) := by decide +kernel
theorem dX11_fairest_35 : decode cX11_fairest 35 = .ok (.ifCond .ne 13, 3) := by decide +kernel
theorem dX11_fairest_38 : decode cX11_fairest 38 = .ok (.iload_n 1, 1) := by decide +kernel
theorem dX11_fairest_39 : decode cX11_fairest 39 = .ok (.ifCond .ne 7, 3) := by decide +kernel
theorem dX11_fairest_42 : decode cX11_fairest 42 = .ok (.iconst 0, 1) := by decide +kernel
theorem dX11_fairest_43 : decode cX11_fairest 43 = .ok (.goto 4, 3) := by decide +kernel
theorem dX11_fairest_46 : decode cX11_fairest 46 = .ok (.iconst (-1), 1) := by decide +kernel
theorem dX11_fairest_47 : decode cX11_fairest 47 = .ok (.ireturn, 1) := by decide +kernel
theorem dX11_fault_0 : decode cX11_fault 0 = .ok (.iload_n 1, 1) := by decide +kernel
theorem dX11_fault_1 : decode cX11_fault 1 = .ok (.lookupswitch 43 #[(0, 27), (1, 35)], 27) := by decide +kernel
theorem dX11_fault_28 : decode cX11_fault 28 = .ok (.aload_n 0, 1) := by decide +kernel
theorem dX11_fault_29 : decode cX11_fault 29 = .ok (.getfield 27, 3) := by decide +kernel
theorem dX11_fault_32 : decode cX11_fault 32 = .ok (.getfield 125, 3) := by decide +kernel
theorem dX11_fault_35 : decode cX11_fault 35 = .ok (.ireturn, 1) := by decide +kernel
theorem dX11_fault_36 : decode cX11_fault 36 = .ok (.aload_n 0, 1) := by decide +kernel
theorem dX11_fault_37 : decode cX11_fault 37 = .ok (.getfield 27, 3) := by decide +kernel
theorem dX11_fault_40 : decode cX11_fault 40 = .ok (.getfield 140, 3) := by decide +kernel
theorem dX11_fault_43 : decode cX11_fault 43 = .ok (.ireturn, 1) := by decide +kernel
theorem dX11_fault_44 : decode cX11_fault 44 = .ok (.iconst (-1), 1) := by decide +kernel
theorem dX11_fault_45 : decode cX11_fault 45 = .ok (.ireturn, 1) := by decide +kernel
theorem dX11_feed_0 : decode cX11_feed 0 = .ok (.aload_n 0, 1) := by decide +kernel
theorem dX11_feed_1 : decode cX11_feed 1 = .ok (.getfield 13, 3) := by decide +kernel
theorem dX11_feed_4 : decode cX11_feed 4 = .ok (.bipush 20, 2) := by decide +kernel
theorem dX11_feed_6 : decode cX11_feed 6 = .ok (.iadd, 1) := by decide +kernel
theorem dX11_feed_7 : decode cX11_feed 7 = .ok (.sipush 900, 3) := by decide +kernel
theorem dX11_feed_10 : decode cX11_feed 10 = .ok (.if_icmp .le 6, 3) := by decide +kernel
theorem dX11_feed_16 : decode cX11_feed 16 = .ok (.aload_n 0, 1) := by decide +kernel
theorem dX11_feed_17 : decode cX11_feed 17 = .ok (.iload_n 1, 1) := by decide +kernel
theorem dX11_feed_18 : decode cX11_feed 18 = .ok (.invokevirtual 117, 3) := by decide +kernel
theorem dX11_feed_21 : decode cX11_feed 21 = .ok (.aload_n 0, 1) := by decide +kernel
theorem dX11_feed_22 : decode cX11_feed 22 = .ok (.iload_n 2, 1) := by decide +kernel
theorem dX11_feed_23 : decode cX11_feed 23 = .ok (.invokevirtual 117, 3) := by decide +kernel
theorem dX11_feed_26 : decode cX11_feed 26 = .ok (.aload_n 0, 1) := by decide +kernel
theorem dX11_feed_27 : decode cX11_feed 27 = .ok (.iload_n 3, 1) := by decide +kernel
theorem dX11_feed_28 : decode cX11_feed 28 = .ok (.invokevirtual 117, 3) := by decide +kernel
theorem dX11_feed_31 : decode cX11_feed 31 = .ok (.aload_n 0, 1) := by decide +kernel
theorem dX11_feed_32 : decode cX11_feed 32 = .ok (.iload 4, 2) := by decide +kernel
theorem dX11_feed_34 : decode cX11_feed 34 = .ok (.invokevirtual 117, 3) := by decide +kernel
theorem dX11_feed_37 : decode cX11_feed 37 = .ok (.aload_n 0, 1) := by decide +kernel
theorem dX11_feed_38 : decode cX11_feed 38 = .ok (.iload 5, 2) := by decide +kernel
theorem dX11_feed_40 : decode cX11_feed 40 = .ok (.invokevirtual 117, 3) := by decide +kernel
theorem dX11_feed_43 : decode cX11_feed 43 = .ok (.aload_n 0, 1) := by decide +kernel
theorem dX11_feed_44 : decode cX11_feed 44 = .ok (.getfield 13, 3) := by decide +kernel
theorem dX11_feed_47 : decode cX11_feed 47 = .ok (.ireturn, 1) := by decide +kernel
theorem dX11_feedInt_0 : decode cX11_feedInt 0 = .ok (.bipush 24, 2) := by decide +kernel
theorem dX11_feedInt_2 : decode cX11_feedInt 2 = .ok (.istore_n 2, 1) := by decide +kernel
theorem dX11_feedInt_3 : decode cX11_feedInt 3 = .ok (.iload_n 2, 1) := by decide +kernel
theorem dX11_feedInt_4 : decode cX11_feedInt 4 = .ok (.ifCond .lt 42, 3) := by decide +kernel
theorem dX11_feedInt_7 : decode cX11_feedInt 7 = .ok (.aload_n 0, 1) := by decide +kernel
theorem dX11_feedInt_8 : decode cX11_feedInt 8 = .ok (.getfield 13, 3) := by decide +kernel
theorem dX11_feedInt_11 : decode cX11_feedInt 11 = .ok (.sipush 900, 3) := by decide +kernel
theorem dX11_feedInt_14 : decode cX11_feedInt 14 = .ok (.if_icmp .ge 32, 3) := by decide +kernel
theorem dX11_feedInt_17 : decode cX11_feedInt 17 = .ok (.aload_n 0, 1) := by decide +kernel
theorem dX11_feedInt_18 : decode cX11_feedInt 18 = .ok (.getfield 9, 3) := by decide +kernel
theorem dX11_feedInt_21 : decode cX11_feedInt 21 = .ok (.aload_n 0, 1) := by decide +kernel
theorem dX11_feedInt_22 : decode cX11_feedInt 22 = .ok (.getfield 13, 3) := by decide +kernel
theorem dX11_feedInt_25 : decode cX11_feedInt 25 = .ok (.iload_n 1, 1) := by decide +kernel
theorem dX11_feedInt_26 : decode cX11_feedInt 26 = .ok (.iload_n 2, 1) := by decide +kernel
theorem dX11_feedInt_27 : decode cX11_feedInt 27 = .ok (.ishr, 1) := by decide +kernel
theorem dX11_feedInt_28 : decode cX11_feedInt 28 = .ok (.i2b, 1) := by decide +kernel
theorem dX11_feedInt_29 : decode cX11_feedInt 29 = .ok (.bastore, 1) := by decide +kernel
theorem dX11_feedInt_30 : decode cX11_feedInt 30 = .ok (.aload_n 0, 1) := by decide +kernel
theorem dX11_feedInt_31 : decode cX11_feedInt 31 = .ok (.dup, 1) := by decide +kernel
theorem dX11_feedInt_32 : decode cX11_feedInt 32 = .ok (.getfield 13, 3) := by decide +kernel
theorem dX11_feedInt_35 : decode cX11_feedInt 35 = .ok (.iconst 1, 1) := by decide +kernel
theorem dX11_feedInt_36 : decode cX11_feedInt 36 = .ok (.iadd, 1) := by decide +kernel
theorem dX11_feedInt_37 : decode cX11_feedInt 37 = .ok (.putfield 13, 3) := by decide +kernel
theorem dX11_feedInt_40 : decode cX11_feedInt 40 = .ok (.iinc 2 (-8), 3) := by decide +kernel
theorem dX11_feedInt_43 : decode cX11_feedInt 43 = .ok (.goto (-40), 3) := by decide +kernel
theorem dX11_feedInt_46 : decode cX11_feedInt 46 = .ok (.return_, 1) := by decide +kernel
theorem dX11_flat_0 : decode cX11_flat 0 = .ok (.aload_n 0, 1) := by decide +kernel
theorem dX11_flat_1 : decode cX11_flat 1 = .ok (.iload_n 1, 1) := by decide +kernel
theorem dX11_flat_2 : decode cX11_flat 2 = .ok (.invokevirtual 143, 3) := by decide +kernel
theorem dX11_flat_5 : decode cX11_flat 5 = .ok (.ifCond .eq 12, 3) := by decide +kernel
theorem dX11_flat_17 : decode cX11_flat 17 = .ok (.bipush (-8), 2) := by decide +kernel
theorem dX11_flat_19 : decode cX11_flat 19 = .ok (.ireturn, 1) := by decide +kernel
theorem dX11_had_0 : decode cX11_had 0 = .ok (.iload_n 1, 1) := by decide +kernel
theorem dX11_had_1 : decode cX11_had 1 = .ok (.invokestatic 240, 3) := by decide +kernel
theorem dX11_had_4 : decode cX11_had 4 = .ok (.ifCond .eq 11, 3) := by decide +kernel
theorem dX11_had_7 : decode cX11_had 7 = .ok (.aload_n 0, 1) := by decide +kernel
theorem dX11_had_8 : decode cX11_had 8 = .ok (.iload_n 2, 1) := by decide +kernel
theorem dX11_had_9 : decode cX11_had 9 = .ok (.invokevirtual 161, 3) := by decide +kernel
theorem dX11_had_12 : decode cX11_had 12 = .ok (.ifCond .ne 6, 3) := by decide +kernel
theorem dX11_had_15 : decode cX11_had 15 = .ok (.bipush (-2), 2) := by decide +kernel
theorem dX11_had_17 : decode cX11_had 17 = .ok (.ireturn, 1) := by decide +kernel
theorem dX11_harm_0 : decode cX11_harm 0 = .ok (.aload_n 0, 1) := by decide +kernel
theorem dX11_harm_1 : decode cX11_harm 1 = .ok (.getfield 59, 3) := by decide +kernel
theorem dX11_harm_4 : decode cX11_harm 4 = .ok (.invokevirtual 352, 3) := by decide +kernel
theorem dX11_harm_7 : decode cX11_harm 7 = .ok (.ireturn, 1) := by decide +kernel
theorem dX11_household_0 : decode cX11_household 0 = .ok (.aload_n 0, 1) := by decide +kernel
theorem dX11_household_1 : decode cX11_household 1 = .ok (.iload_n 1, 1) := by decide +kernel
theorem dX11_household_2 : decode cX11_household 2 = .ok (.invokevirtual 161, 3) := by decide +kernel
theorem dX11_household_5 : decode cX11_household 5 = .ok (.ifCond .eq 12, 3) := by decide +kernel
theorem dX11_household_17 : decode cX11_household 17 = .ok (.bipush (-8), 2) := by decide +kernel
theorem dX11_household_19 : decode cX11_household 19 = .ok (.ireturn, 1) := by decide +kernel
theorem dX11_image_0 : decode cX11_image 0 = .ok (.iload_n 1, 1) := by decide +kernel
theorem dX11_image_1 : decode cX11_image 1 = .ok (.ifCond .lt 8, 3) := by decide +kernel
theorem dX11_image_4 : decode cX11_image 4 = .ok (.iload_n 1, 1) := by decide +kernel
theorem dX11_image_5 : decode cX11_image 5 = .ok (.iconst 2, 1) := by decide +kernel
theorem dX11_image_6 : decode cX11_image 6 = .ok (.if_icmp .lt 6, 3) := by decide +kernel
theorem dX11_image_9 : decode cX11_image 9 = .ok (.bipush (-2), 2) := by decide +kernel
theorem dX11_image_11 : decode cX11_image 11 = .ok (.ireturn, 1) := by decide +kernel
theorem dX11_image_12 : decode cX11_image 12 = .ok (.aload_n 0, 1) := by decide +kernel
theorem dX11_image_13 : decode cX11_image 13 = .ok (.getfield 99, 3) := by decide +kernel
theorem dX11_image_16 : decode cX11_image 16 = .ok (.iload_n 1, 1) := by decide +kernel
theorem dX11_image_17 : decode cX11_image 17 = .ok (.aaload, 1) := by decide +kernel
theorem dX11_image_18 : decode cX11_image 18 = .ok (.ifnonnull 16, 3) := by decide +kernel
theorem dX11_image_21 : decode cX11_image 21 = .ok (.aload_n 0, 1) := by decide +kernel
theorem dX11_image_22 : decode cX11_image 22 = .ok (.getfield 99, 3) := by decide +kernel
theorem dX11_image_25 : decode cX11_image 25 = .ok (.iload_n 1, 1) := by decide +kernel
theorem dX11_image_26 : decode cX11_image 26 = .ok (.new 17, 3) := by decide +kernel
theorem dX11_image_29 : decode cX11_image 29 = .ok (.dup, 1) := by decide +kernel
theorem dX11_image_30 : decode cX11_image 30 = .ok (.invokespecial 19, 3) := by decide +kernel
theorem dX11_image_33 : decode cX11_image 33 = .ok (.aastore, 1) := by decide +kernel
theorem dX11_image_34 : decode cX11_image 34 = .ok (.aload_n 0, 1) := by decide +kernel
theorem dX11_image_35 : decode cX11_image 35 = .ok (.getfield 99, 3) := by decide +kernel
theorem dX11_image_38 : decode cX11_image 38 = .ok (.iload_n 1, 1) := by decide +kernel
theorem dX11_image_39 : decode cX11_image 39 = .ok (.aaload, 1) := by decide +kernel
theorem dX11_image_40 : decode cX11_image 40 = .ok (.aload_n 0, 1) := by decide +kernel
theorem dX11_image_41 : decode cX11_image 41 = .ok (.getfield 20, 3) := by decide +kernel
theorem dX11_image_44 : decode cX11_image 44 = .ok (.invokevirtual 131, 3) := by decide +kernel
theorem dX11_image_47 : decode cX11_image 47 = .ok (.iconst 0, 1) := by decide +kernel
theorem dX11_image_48 : decode cX11_image 48 = .ok (.ireturn, 1) := by decide +kernel
theorem dX11_inMap_0 : decode cX11_inMap 0 = .ok (.aload_n 0, 1) := by decide +kernel
theorem dX11_inMap_1 : decode cX11_inMap 1 = .ok (.iload_n 2, 1) := by decide +kernel
theorem dX11_inMap_2 : decode cX11_inMap 2 = .ok (.invokevirtual 161, 3) := by decide +kernel
theorem dX11_inMap_5 : decode cX11_inMap 5 = .ok (.ifCond .ne 6, 3) := by decide +kernel
theorem dX11_inMap_8 : decode cX11_inMap 8 = .ok (.bipush (-2), 2) := by decide +kernel
theorem dX11_inMap_10 : decode cX11_inMap 10 = .ok (.ireturn, 1) := by decide +kernel
theorem dX11_init_0 : decode cX11_init 0 = .ok (.aload_n 0, 1) := by decide +kernel
theorem dX11_init_1 : decode cX11_init 1 = .ok (.invokespecial 3, 3) := by decide +kernel
theorem dX11_init_4 : decode cX11_init 4 = .ok (.aload_n 0, 1) := by decide +kernel
theorem dX11_init_5 : decode cX11_init 5 = .ok (.sipush 900, 3) := by decide +kernel
theorem dX11_init_8 : decode cX11_init 8 = .ok (.newarray .byte, 2) := by decide +kernel
theorem dX11_init_10 : decode cX11_init 10 = .ok (.putfield 9, 3) := by decide +kernel
theorem dX11_init_13 : decode cX11_init 13 = .ok (.aload_n 0, 1) := by decide +kernel
theorem dX11_init_14 : decode cX11_init 14 = .ok (.iconst 0, 1) := by decide +kernel
theorem dX11_init_15 : decode cX11_init 15 = .ok (.putfield 13, 3) := by decide +kernel
theorem dX11_init_18 : decode cX11_init 18 = .ok (.aload_n 0, 1) := by decide +kernel
theorem dX11_init_19 : decode cX11_init 19 = .ok (.new 17, 3) := by decide +kernel
theorem dX11_init_22 : decode cX11_init 22 = .ok (.dup, 1) := by decide +kernel
theorem dX11_init_23 : decode cX11_init 23 = .ok (.invokespecial 19, 3) := by decide +kernel
theorem dX11_init_26 : decode cX11_init 26 = .ok (.putfield 20, 3) := by decide +kernel
theorem dX11_init_29 : decode cX11_init 29 = .ok (.aload_n 0, 1) := by decide +kernel
theorem dX11_init_30 : decode cX11_init 30 = .ok (.new 24, 3) := by decide +kernel
theorem dX11_init_33 : decode cX11_init 33 = .ok (.dup, 1) := by decide +kernel
theorem dX11_init_34 : decode cX11_init 34 = .ok (.invokespecial 26, 3) := by decide +kernel
theorem dX11_init_37 : decode cX11_init 37 = .ok (.putfield 27, 3) := by decide +kernel
theorem dX11_init_40 : decode cX11_init 40 = .ok (.aload_n 0, 1) := by decide +kernel
theorem dX11_init_41 : decode cX11_init 41 = .ok (.new 31, 3) := by decide +kernel
theorem dX11_init_44 : decode cX11_init 44 = .ok (.dup, 1) := by decide +kernel
theorem dX11_init_45 : decode cX11_init 45 = .ok (.aload_n 0, 1) := by decide +kernel
theorem dX11_init_46 : decode cX11_init 46 = .ok (.getfield 20, 3) := by decide +kernel
theorem dX11_init_49 : decode cX11_init 49 = .ok (.invokespecial 33, 3) := by decide +kernel
theorem dX11_init_52 : decode cX11_init 52 = .ok (.putfield 36, 3) := by decide +kernel
theorem dX11_init_55 : decode cX11_init 55 = .ok (.aload_n 0, 1) := by decide +kernel
theorem dX11_init_56 : decode cX11_init 56 = .ok (.new 40, 3) := by decide +kernel
theorem dX11_init_59 : decode cX11_init 59 = .ok (.dup, 1) := by decide +kernel
theorem dX11_init_60 : decode cX11_init 60 = .ok (.invokespecial 42, 3) := by decide +kernel
theorem dX11_init_63 : decode cX11_init 63 = .ok (.putfield 43, 3) := by decide +kernel
theorem dX11_init_66 : decode cX11_init 66 = .ok (.aload_n 0, 1) := by decide +kernel
theorem dX11_init_67 : decode cX11_init 67 = .ok (.new 47, 3) := by decide +kernel
theorem dX11_init_70 : decode cX11_init 70 = .ok (.dup, 1) := by decide +kernel
theorem dX11_init_71 : decode cX11_init 71 = .ok (.aload_n 0, 1) := by decide +kernel
theorem dX11_init_72 : decode cX11_init 72 = .ok (.getfield 20, 3) := by decide +kernel
theorem dX11_init_75 : decode cX11_init 75 = .ok (.aload_n 0, 1) := by decide +kernel
theorem dX11_init_76 : decode cX11_init 76 = .ok (.getfield 36, 3) := by decide +kernel
theorem dX11_init_79 : decode cX11_init 79 = .ok (.invokespecial 49, 3) := by decide +kernel
theorem dX11_init_82 : decode cX11_init 82 = .ok (.putfield 52, 3) := by decide +kernel
theorem dX11_init_85 : decode cX11_init 85 = .ok (.aload_n 0, 1) := by decide +kernel
theorem dX11_init_86 : decode cX11_init 86 = .ok (.new 56, 3) := by decide +kernel
theorem dX11_init_89 : decode cX11_init 89 = .ok (.dup, 1) := by decide +kernel
theorem dX11_init_90 : decode cX11_init 90 = .ok (.aload_n 0, 1) := by decide +kernel
theorem dX11_init_91 : decode cX11_init 91 = .ok (.getfield 20, 3) := by decide +kernel
theorem dX11_init_94 : decode cX11_init 94 = .ok (.invokespecial 58, 3) := by decide +kernel
theorem dX11_init_97 : decode cX11_init 97 = .ok (.putfield 59, 3) := by decide +kernel
theorem dX11_init_100 : decode cX11_init 100 = .ok (.aload_n 0, 1) := by decide +kernel
theorem dX11_init_101 : decode cX11_init 101 = .ok (.new 63, 3) := by decide +kernel
theorem dX11_init_104 : decode cX11_init 104 = .ok (.dup, 1) := by decide +kernel
theorem dX11_init_105 : decode cX11_init 105 = .ok (.aload_n 0, 1) := by decide +kernel
theorem dX11_init_106 : decode cX11_init 106 = .ok (.getfield 20, 3) := by decide +kernel
theorem dX11_init_109 : decode cX11_init 109 = .ok (.invokespecial 65, 3) := by decide +kernel
theorem dX11_init_112 : decode cX11_init 112 = .ok (.putfield 66, 3) := by decide +kernel
theorem dX11_init_115 : decode cX11_init 115 = .ok (.aload_n 0, 1) := by decide +kernel
theorem dX11_init_116 : decode cX11_init 116 = .ok (.new 70, 3) := by decide +kernel
theorem dX11_init_119 : decode cX11_init 119 = .ok (.dup, 1) := by decide +kernel
theorem dX11_init_120 : decode cX11_init 120 = .ok (.aload_n 0, 1) := by decide +kernel
theorem dX11_init_121 : decode cX11_init 121 = .ok (.getfield 20, 3) := by decide +kernel
theorem dX11_init_124 : decode cX11_init 124 = .ok (.aload_n 0, 1) := by decide +kernel
theorem dX11_init_125 : decode cX11_init 125 = .ok (.getfield 36, 3) := by decide +kernel
theorem dX11_init_128 : decode cX11_init 128 = .ok (.aload_n 0, 1) := by decide +kernel
theorem dX11_init_129 : decode cX11_init 129 = .ok (.getfield 43, 3) := by decide +kernel
theorem dX11_init_132 : decode cX11_init 132 = .ok (.aload_n 0, 1) := by decide +kernel
theorem dX11_init_133 : decode cX11_init 133 = .ok (.getfield 52, 3) := by decide +kernel
theorem dX11_init_136 : decode cX11_init 136 = .ok (.invokespecial 72, 3) := by decide +kernel
theorem dX11_init_139 : decode cX11_init 139 = .ok (.putfield 75, 3) := by decide +kernel
theorem dX11_init_142 : decode cX11_init 142 = .ok (.aload_n 0, 1) := by decide +kernel
theorem dX11_init_143 : decode cX11_init 143 = .ok (.new 79, 3) := by decide +kernel
theorem dX11_init_146 : decode cX11_init 146 = .ok (.dup, 1) := by decide +kernel
theorem dX11_init_147 : decode cX11_init 147 = .ok (.invokespecial 81, 3) := by decide +kernel
theorem dX11_init_150 : decode cX11_init 150 = .ok (.putfield 82, 3) := by decide +kernel
theorem dX11_init_153 : decode cX11_init 153 = .ok (.aload_n 0, 1) := by decide +kernel
theorem dX11_init_154 : decode cX11_init 154 = .ok (.new 86, 3) := by decide +kernel
theorem dX11_init_157 : decode cX11_init 157 = .ok (.dup, 1) := by decide +kernel
theorem dX11_init_158 : decode cX11_init 158 = .ok (.invokespecial 88, 3) := by decide +kernel
theorem dX11_init_161 : decode cX11_init 161 = .ok (.putfield 89, 3) := by decide +kernel
theorem dX11_init_164 : decode cX11_init 164 = .ok (.aload_n 0, 1) := by decide +kernel
theorem dX11_init_165 : decode cX11_init 165 = .ok (.iconst 4, 1) := by decide +kernel
theorem dX11_init_166 : decode cX11_init 166 = .ok (.anewarray 93, 3) := by decide +kernel
theorem dX11_init_169 : decode cX11_init 169 = .ok (.putfield 95, 3) := by decide +kernel
theorem dX11_init_172 : decode cX11_init 172 = .ok (.aload_n 0, 1) := by decide +kernel
theorem dX11_init_173 : decode cX11_init 173 = .ok (.iconst 2, 1) := by decide +kernel
theorem dX11_init_174 : decode cX11_init 174 = .ok (.anewarray 17, 3) := by decide +kernel
theorem dX11_init_177 : decode cX11_init 177 = .ok (.putfield 99, 3) := by decide +kernel
theorem dX11_init_180 : decode cX11_init 180 = .ok (.aload_n 0, 1) := by decide +kernel
theorem dX11_init_181 : decode cX11_init 181 = .ok (.bipush 7, 2) := by decide +kernel
theorem dX11_init_183 : decode cX11_init 183 = .ok (.newarray .int, 2) := by decide +kernel
theorem dX11_init_185 : decode cX11_init 185 = .ok (.putfield 103, 3) := by decide +kernel
theorem dX11_init_188 : decode cX11_init 188 = .ok (.aload_n 0, 1) := by decide +kernel
theorem dX11_init_189 : decode cX11_init 189 = .ok (.bipush 7, 2) := by decide +kernel
theorem dX11_init_191 : decode cX11_init 191 = .ok (.newarray .int, 2) := by decide +kernel
theorem dX11_init_193 : decode cX11_init 193 = .ok (.putfield 107, 3) := by decide +kernel
theorem dX11_init_196 : decode cX11_init 196 = .ok (.aload_n 0, 1) := by decide +kernel
theorem dX11_init_197 : decode cX11_init 197 = .ok (.iconst (-1), 1) := by decide +kernel
theorem dX11_init_198 : decode cX11_init 198 = .ok (.putfield 110, 3) := by decide +kernel
theorem dX11_init_201 : decode cX11_init 201 = .ok (.aload_n 0, 1) := by decide +kernel
theorem dX11_init_202 : decode cX11_init 202 = .ok (.iconst (-1), 1) := by decide +kernel
theorem dX11_init_203 : decode cX11_init 203 = .ok (.putfield 113, 3) := by decide +kernel
theorem dX11_init_206 : decode cX11_init 206 = .ok (.iconst 0, 1) := by decide +kernel
theorem dX11_init_207 : decode cX11_init 207 = .ok (.istore_n 1, 1) := by decide +kernel
theorem dX11_init_208 : decode cX11_init 208 = .ok (.iload_n 1, 1) := by decide +kernel
theorem dX11_init_209 : decode cX11_init 209 = .ok (.iconst 4, 1) := by decide +kernel
theorem dX11_init_210 : decode cX11_init 210 = .ok (.if_icmp .ge 22, 3) := by decide +kernel
theorem dX11_init_213 : decode cX11_init 213 = .ok (.aload_n 0, 1) := by decide +kernel
theorem dX11_init_214 : decode cX11_init 214 = .ok (.getfield 95, 3) := by decide +kernel
theorem dX11_init_217 : decode cX11_init 217 = .ok (.iload_n 1, 1) := by decide +kernel
theorem dX11_init_218 : decode cX11_init 218 = .ok (.new 93, 3) := by decide +kernel
theorem dX11_init_221 : decode cX11_init 221 = .ok (.dup, 1) := by decide +kernel
theorem dX11_init_222 : decode cX11_init 222 = .ok (.invokespecial 116, 3) := by decide +kernel
theorem dX11_init_225 : decode cX11_init 225 = .ok (.aastore, 1) := by decide +kernel
theorem dX11_init_226 : decode cX11_init 226 = .ok (.iinc 1 1, 3) := by decide +kernel
theorem dX11_init_229 : decode cX11_init 229 = .ok (.goto (-21), 3) := by decide +kernel
theorem dX11_init_232 : decode cX11_init 232 = .ok (.return_, 1) := by decide +kernel
theorem dX11_isFlat_0 : decode cX11_isFlat 0 = .ok (.iload_n 1, 1) := by decide +kernel
theorem dX11_isFlat_1 : decode cX11_isFlat 1 = .ok (.ifCond .lt 18, 3) := by decide +kernel
theorem dX11_isFlat_4 : decode cX11_isFlat 4 = .ok (.iload_n 1, 1) := by decide +kernel
theorem dX11_isFlat_5 : decode cX11_isFlat 5 = .ok (.aload_n 0, 1) := by decide +kernel
theorem dX11_isFlat_6 : decode cX11_isFlat 6 = .ok (.getfield 20, 3) := by decide +kernel
theorem dX11_isFlat_9 : decode cX11_isFlat 9 = .ok (.getfield 187, 3) := by decide +kernel
theorem dX11_isFlat_12 : decode cX11_isFlat 12 = .ok (.if_icmp .ge 7, 3) := by decide +kernel
theorem dX11_isFlat_19 : decode cX11_isFlat 19 = .ok (.iconst 0, 1) := by decide +kernel
theorem dX11_isFlat_20 : decode cX11_isFlat 20 = .ok (.ireturn, 1) := by decide +kernel
theorem dX11_isHousehold_0 : decode cX11_isHousehold 0 = .ok (.iload_n 1, 1) := by decide +kernel
theorem dX11_isHousehold_1 : decode cX11_isHousehold 1 = .ok (.ifCond .lt 18, 3) := by decide +kernel
theorem dX11_isHousehold_4 : decode cX11_isHousehold 4 = .ok (.iload_n 1, 1) := by decide +kernel
theorem dX11_isHousehold_5 : decode cX11_isHousehold 5 = .ok (.aload_n 0, 1) := by decide +kernel
theorem dX11_isHousehold_6 : decode cX11_isHousehold 6 = .ok (.getfield 20, 3) := by decide +kernel
theorem dX11_isHousehold_9 : decode cX11_isHousehold 9 = .ok (.getfield 190, 3) := by decide +kernel
theorem dX11_isHousehold_12 : decode cX11_isHousehold 12 = .ok (.if_icmp .ge 7, 3) := by decide +kernel
theorem dX11_isHousehold_19 : decode cX11_isHousehold 19 = .ok (.iconst 0, 1) := by decide +kernel
theorem dX11_isHousehold_20 : decode cX11_isHousehold 20 = .ok (.ireturn, 1) := by decide +kernel
theorem dX11_isPair_0 : decode cX11_isPair 0 = .ok (.aload_n 0, 1) := by decide +kernel
theorem dX11_isPair_1 : decode cX11_isPair 1 = .ok (.iload_n 1, 1) := by decide +kernel
theorem dX11_isPair_2 : decode cX11_isPair 2 = .ok (.invokevirtual 161, 3) := by decide +kernel
theorem dX11_isPair_5 : decode cX11_isPair 5 = .ok (.ifCond .eq 15, 3) := by decide +kernel
theorem dX11_isPair_20 : decode cX11_isPair 20 = .ok (.iconst 0, 1) := by decide +kernel
theorem dX11_isPair_21 : decode cX11_isPair 21 = .ok (.ireturn, 1) := by decide +kernel
theorem dX11_isTray_0 : decode cX11_isTray 0 = .ok (.iload_n 0, 1) := by decide +kernel
theorem dX11_isTray_1 : decode cX11_isTray 1 = .ok (.ifCond .lt 12, 3) := by decide +kernel
theorem dX11_isTray_4 : decode cX11_isTray 4 = .ok (.iload_n 0, 1) := by decide +kernel
theorem dX11_isTray_5 : decode cX11_isTray 5 = .ok (.iconst 4, 1) := by decide +kernel
theorem dX11_isTray_6 : decode cX11_isTray 6 = .ok (.if_icmp .ge 7, 3) := by decide +kernel
theorem dX11_isTray_9 : decode cX11_isTray 9 = .ok (.iconst 1, 1) := by decide +kernel
theorem dX11_isTray_10 : decode cX11_isTray 10 = .ok (.goto 4, 3) := by decide +kernel
theorem dX11_isTray_13 : decode cX11_isTray 13 = .ok (.iconst 0, 1) := by decide +kernel
theorem dX11_isTray_14 : decode cX11_isTray 14 = .ok (.ireturn, 1) := by decide +kernel
theorem dX11_judge_0 : decode cX11_judge 0 = .ok (.iload_n 1, 1) := by decide +kernel
theorem dX11_judge_1 : decode cX11_judge 1 = .ok (.invokestatic 240, 3) := by decide +kernel
theorem dX11_judge_4 : decode cX11_judge 4 = .ok (.ifCond .eq 12, 3) := by decide +kernel
theorem dX11_judge_7 : decode cX11_judge 7 = .ok (.iload_n 2, 1) := by decide +kernel
theorem dX11_judge_8 : decode cX11_judge 8 = .ok (.ifCond .lt 8, 3) := by decide +kernel
theorem dX11_judge_11 : decode cX11_judge 11 = .ok (.iload_n 2, 1) := by decide +kernel
theorem dX11_judge_12 : decode cX11_judge 12 = .ok (.iconst 3, 1) := by decide +kernel
theorem dX11_judge_13 : decode cX11_judge 13 = .ok (.if_icmp .le 6, 3) := by decide +kernel
theorem dX11_judge_16 : decode cX11_judge 16 = .ok (.bipush (-2), 2) := by decide +kernel
theorem dX11_judge_18 : decode cX11_judge 18 = .ok (.ireturn, 1) := by decide +kernel
theorem dX11_judge_19 : decode cX11_judge 19 = .ok (.aload_n 0, 1) := by decide +kernel
theorem dX11_judge_20 : decode cX11_judge 20 = .ok (.getfield 95, 3) := by decide +kernel
theorem dX11_judge_23 : decode cX11_judge 23 = .ok (.iload_n 1, 1) := by decide +kernel
theorem dX11_judge_24 : decode cX11_judge 24 = .ok (.aaload, 1) := by decide +kernel
theorem dX11_judge_25 : decode cX11_judge 25 = .ok (.invokevirtual 243, 3) := by decide +kernel
theorem dX11_judge_28 : decode cX11_judge 28 = .ok (.ifCond .eq 6, 3) := by decide +kernel
theorem dX11_judge_31 : decode cX11_judge 31 = .ok (.bipush (-6), 2) := by decide +kernel
theorem dX11_judge_33 : decode cX11_judge 33 = .ok (.ireturn, 1) := by decide +kernel
theorem dX11_leaves_0 : decode cX11_leaves 0 = .ok (.aload_n 0, 1) := by decide +kernel
theorem dX11_leaves_1 : decode cX11_leaves 1 = .ok (.getfield 89, 3) := by decide +kernel
theorem dX11_leaves_4 : decode cX11_leaves 4 = .ok (.aload_n 0, 1) := by decide +kernel
theorem dX11_leaves_5 : decode cX11_leaves 5 = .ok (.getfield 20, 3) := by decide +kernel
theorem dX11_leaves_8 : decode cX11_leaves 8 = .ok (.getfield 151, 3) := by decide +kernel
theorem dX11_leaves_11 : decode cX11_leaves 11 = .ok (.invokevirtual 193, 3) := by decide +kernel
theorem dX11_leaves_14 : decode cX11_leaves 14 = .ok (.aload_n 0, 1) := by decide +kernel
theorem dX11_leaves_15 : decode cX11_leaves 15 = .ok (.getfield 75, 3) := by decide +kernel
theorem dX11_leaves_18 : decode cX11_leaves 18 = .ok (.iload_n 1, 1) := by decide +kernel
theorem dX11_leaves_19 : decode cX11_leaves 19 = .ok (.invokevirtual 221, 3) := by decide +kernel
theorem dX11_leaves_22 : decode cX11_leaves 22 = .ok (.istore_n 2, 1) := by decide +kernel
theorem dX11_leaves_23 : decode cX11_leaves 23 = .ok (.iload_n 2, 1) := by decide +kernel
theorem dX11_leaves_24 : decode cX11_leaves 24 = .ok (.ifCond .eq 8, 3) := by decide +kernel
theorem dX11_leaves_27 : decode cX11_leaves 27 = .ok (.bipush (-10), 2) := by decide +kernel
theorem dX11_leaves_29 : decode cX11_leaves 29 = .ok (.iload_n 2, 1) := by decide +kernel
theorem dX11_leaves_30 : decode cX11_leaves 30 = .ok (.isub, 1) := by decide +kernel
theorem dX11_leaves_31 : decode cX11_leaves 31 = .ok (.ireturn, 1) := by decide +kernel
theorem dX11_likeliest_0 : decode cX11_likeliest 0 = .ok (.aload_n 0, 1) := by decide +kernel
theorem dX11_likeliest_1 : decode cX11_likeliest 1 = .ok (.iload_n 1, 1) := by decide +kernel
theorem dX11_likeliest_2 : decode cX11_likeliest 2 = .ok (.invokevirtual 161, 3) := by decide +kernel
theorem dX11_likeliest_5 : decode cX11_likeliest 5 = .ok (.ifCond .ne 6, 3) := by decide +kernel
theorem dX11_likeliest_8 : decode cX11_likeliest 8 = .ok (.bipush (-2), 2) := by decide +kernel
theorem dX11_likeliest_10 : decode cX11_likeliest 10 = .ok (.ireturn, 1) := by decide +kernel
theorem dX11_lists_0 : decode cX11_lists 0 = .ok (.aload_n 0, 1) := by decide +kernel
theorem dX11_lists_1 : decode cX11_lists 1 = .ok (.iload_n 1, 1) := by decide +kernel
theorem dX11_lists_2 : decode cX11_lists 2 = .ok (.invokevirtual 263, 3) := by decide +kernel
theorem dX11_lists_5 : decode cX11_lists 5 = .ok (.istore_n 2, 1) := by decide +kernel
theorem dX11_lists_6 : decode cX11_lists 6 = .ok (.iload_n 2, 1) := by decide +kernel
theorem dX11_lists_7 : decode cX11_lists 7 = .ok (.ifCond .eq 5, 3) := by decide +kernel
theorem dX11_lists_10 : decode cX11_lists 10 = .ok (.iload_n 2, 1) := by decide +kernel
theorem dX11_lists_11 : decode cX11_lists 11 = .ok (.ireturn, 1) := by decide +kernel
theorem dX11_maps_0 : decode cX11_maps 0 = .ok (.aload_n 0, 1) := by decide +kernel
theorem dX11_maps_1 : decode cX11_maps 1 = .ok (.invokevirtual 276, 3) := by decide +kernel
theorem dX11_maps_4 : decode cX11_maps 4 = .ok (.ireturn, 1) := by decide +kernel
theorem dX11_may_0 : decode cX11_may 0 = .ok (.aload_n 0, 1) := by decide +kernel
theorem dX11_may_1 : decode cX11_may 1 = .ok (.iload_n 1, 1) := by decide +kernel
theorem dX11_may_2 : decode cX11_may 2 = .ok (.iload_n 2, 1) := by decide +kernel
theorem dX11_may_3 : decode cX11_may 3 = .ok (.invokevirtual 170, 3) := by decide +kernel
theorem dX11_may_6 : decode cX11_may 6 = .ok (.ifCond .ne 6, 3) := by decide +kernel
theorem dX11_may_9 : decode cX11_may 9 = .ok (.bipush (-2), 2) := by decide +kernel
theorem dX11_may_11 : decode cX11_may 11 = .ok (.ireturn, 1) := by decide +kernel
theorem dX11_mends_0 : decode cX11_mends 0 = .ok (.aload_n 0, 1) := by decide +kernel
theorem dX11_mends_1 : decode cX11_mends 1 = .ok (.getfield 89, 3) := by decide +kernel
theorem dX11_mends_4 : decode cX11_mends 4 = .ok (.aload_n 0, 1) := by decide +kernel
theorem dX11_mends_5 : decode cX11_mends 5 = .ok (.getfield 20, 3) := by decide +kernel
theorem dX11_mends_8 : decode cX11_mends 8 = .ok (.getfield 151, 3) := by decide +kernel
theorem dX11_mends_11 : decode cX11_mends 11 = .ok (.invokevirtual 193, 3) := by decide +kernel
theorem dX11_mends_14 : decode cX11_mends 14 = .ok (.aload_n 0, 1) := by decide +kernel
theorem dX11_mends_15 : decode cX11_mends 15 = .ok (.getfield 75, 3) := by decide +kernel
theorem dX11_mends_18 : decode cX11_mends 18 = .ok (.iload_n 1, 1) := by decide +kernel
theorem dX11_mends_19 : decode cX11_mends 19 = .ok (.invokevirtual 227, 3) := by decide +kernel
theorem dX11_mends_22 : decode cX11_mends 22 = .ok (.istore_n 2, 1) := by decide +kernel
theorem dX11_mends_23 : decode cX11_mends 23 = .ok (.iload_n 2, 1) := by decide +kernel
theorem dX11_mends_24 : decode cX11_mends 24 = .ok (.ifCond .eq 8, 3) := by decide +kernel
theorem dX11_mends_27 : decode cX11_mends 27 = .ok (.bipush (-10), 2) := by decide +kernel
theorem dX11_mends_29 : decode cX11_mends 29 = .ok (.iload_n 2, 1) := by decide +kernel
theorem dX11_mends_30 : decode cX11_mends 30 = .ok (.isub, 1) := by decide +kernel
theorem dX11_mends_31 : decode cX11_mends 31 = .ok (.ireturn, 1) := by decide +kernel
theorem dX11_moves_0 : decode cX11_moves 0 = .ok (.aload_n 0, 1) := by decide +kernel
theorem dX11_moves_1 : decode cX11_moves 1 = .ok (.getfield 89, 3) := by decide +kernel
theorem dX11_moves_4 : decode cX11_moves 4 = .ok (.aload_n 0, 1) := by decide +kernel
theorem dX11_moves_5 : decode cX11_moves 5 = .ok (.getfield 20, 3) := by decide +kernel
theorem dX11_moves_8 : decode cX11_moves 8 = .ok (.getfield 151, 3) := by decide +kernel
theorem dX11_moves_11 : decode cX11_moves 11 = .ok (.invokevirtual 193, 3) := by decide +kernel
theorem dX11_moves_14 : decode cX11_moves 14 = .ok (.aload_n 0, 1) := by decide +kernel
theorem dX11_moves_15 : decode cX11_moves 15 = .ok (.getfield 75, 3) := by decide +kernel
theorem dX11_moves_18 : decode cX11_moves 18 = .ok (.iload_n 1, 1) := by decide +kernel
theorem dX11_moves_19 : decode cX11_moves 19 = .ok (.iload_n 2, 1) := by decide +kernel
theorem dX11_moves_20 : decode cX11_moves 20 = .ok (.invokevirtual 213, 3) := by decide +kernel
theorem dX11_moves_23 : decode cX11_moves 23 = .ok (.istore_n 3, 1) := by decide +kernel
theorem dX11_moves_24 : decode cX11_moves 24 = .ok (.iload_n 3, 1) := by decide +kernel
theorem dX11_moves_25 : decode cX11_moves 25 = .ok (.ifCond .eq 8, 3) := by decide +kernel
theorem dX11_moves_28 : decode cX11_moves 28 = .ok (.bipush (-10), 2) := by decide +kernel
theorem dX11_moves_30 : decode cX11_moves 30 = .ok (.iload_n 3, 1) := by decide +kernel
theorem dX11_moves_31 : decode cX11_moves 31 = .ok (.isub, 1) := by decide +kernel
theorem dX11_moves_32 : decode cX11_moves 32 = .ok (.ireturn, 1) := by decide +kernel
theorem dX11_moving_0 : decode cX11_moving 0 = .ok (.iload_n 2, 1) := by decide +kernel
theorem dX11_moving_1 : decode cX11_moving 1 = .ok (.ifCond .lt 8, 3) := by decide +kernel
theorem dX11_moving_4 : decode cX11_moving 4 = .ok (.iload_n 2, 1) := by decide +kernel
theorem dX11_moving_5 : decode cX11_moving 5 = .ok (.iconst 1, 1) := by decide +kernel
theorem dX11_moving_6 : decode cX11_moving 6 = .ok (.if_icmp .le 6, 3) := by decide +kernel
theorem dX11_moving_9 : decode cX11_moving 9 = .ok (.bipush (-2), 2) := by decide +kernel
theorem dX11_moving_11 : decode cX11_moving 11 = .ok (.ireturn, 1) := by decide +kernel
theorem dX11_moving_12 : decode cX11_moving 12 = .ok (.iload_n 1, 1) := by decide +kernel
theorem dX11_moving_13 : decode cX11_moving 13 = .ok (.ifCond .ge 6, 3) := by decide +kernel
theorem dX11_moving_16 : decode cX11_moving 16 = .ok (.bipush (-3), 2) := by decide +kernel
theorem dX11_moving_18 : decode cX11_moving 18 = .ok (.ireturn, 1) := by decide +kernel
theorem dX11_moving_19 : decode cX11_moving 19 = .ok (.iload_n 1, 1) := by decide +kernel
theorem dX11_moving_20 : decode cX11_moving 20 = .ok (.aload_n 0, 1) := by decide +kernel
theorem dX11_moving_21 : decode cX11_moving 21 = .ok (.invokevirtual 276, 3) := by decide +kernel
theorem dX11_moving_24 : decode cX11_moving 24 = .ok (.if_icmp .lt 5, 3) := by decide +kernel
theorem dX11_moving_27 : decode cX11_moving 27 = .ok (.iconst (-1), 1) := by decide +kernel
theorem dX11_moving_28 : decode cX11_moving 28 = .ok (.ireturn, 1) := by decide +kernel
theorem dX11_moving_29 : decode cX11_moving 29 = .ok (.aload_n 0, 1) := by decide +kernel
theorem dX11_moving_30 : decode cX11_moving 30 = .ok (.getfield 43, 3) := by decide +kernel
theorem dX11_moving_33 : decode cX11_moving 33 = .ok (.iload_n 1, 1) := by decide +kernel
theorem dX11_moving_34 : decode cX11_moving 34 = .ok (.aload_n 0, 1) := by decide +kernel
theorem dX11_moving_35 : decode cX11_moving 35 = .ok (.getfield 107, 3) := by decide +kernel
theorem dX11_moving_38 : decode cX11_moving 38 = .ok (.invokevirtual 279, 3) := by decide +kernel
theorem dX11_moving_41 : decode cX11_moving 41 = .ok (.aload_n 0, 1) := by decide +kernel
theorem dX11_moving_42 : decode cX11_moving 42 = .ok (.getfield 66, 3) := by decide +kernel
theorem dX11_moving_45 : decode cX11_moving 45 = .ok (.aload_n 0, 1) := by decide +kernel
theorem dX11_moving_46 : decode cX11_moving 46 = .ok (.getfield 107, 3) := by decide +kernel
theorem dX11_moving_49 : decode cX11_moving 49 = .ok (.ldc_w 367, 3) := by decide +kernel
theorem dX11_moving_52 : decode cX11_moving 52 = .ok (.invokevirtual 368, 3) := by decide +kernel
theorem dX11_moving_55 : decode cX11_moving 55 = .ok (.istore_n 3, 1) := by decide +kernel
theorem dX11_moving_56 : decode cX11_moving 56 = .ok (.iload_n 2, 1) := by decide +kernel
theorem dX11_moving_57 : decode cX11_moving 57 = .ok (.ifCond .ne 10, 3) := by decide +kernel
theorem dX11_moving_60 : decode cX11_moving 60 = .ok (.iload_n 3, 1) := by decide +kernel
theorem dX11_moving_61 : decode cX11_moving 61 = .ok (.bipush 32, 2) := by decide +kernel
theorem dX11_moving_63 : decode cX11_moving 63 = .ok (.idiv, 1) := by decide +kernel
theorem dX11_moving_64 : decode cX11_moving 64 = .ok (.goto 7, 3) := by decide +kernel
theorem dX11_moving_67 : decode cX11_moving 67 = .ok (.iload_n 3, 1) := by decide +kernel
theorem dX11_moving_68 : decode cX11_moving 68 = .ok (.bipush 32, 2) := by decide +kernel
theorem dX11_moving_70 : decode cX11_moving 70 = .ok (.irem, 1) := by decide +kernel
theorem dX11_moving_71 : decode cX11_moving 71 = .ok (.ireturn, 1) := by decide +kernel
theorem dX11_near_0 : decode cX11_near 0 = .ok (.aload_n 0, 1) := by decide +kernel
theorem dX11_near_1 : decode cX11_near 1 = .ok (.iload_n 1, 1) := by decide +kernel
theorem dX11_near_2 : decode cX11_near 2 = .ok (.invokevirtual 161, 3) := by decide +kernel
theorem dX11_near_5 : decode cX11_near 5 = .ok (.ifCond .eq 16, 3) := by decide +kernel
theorem dX11_near_21 : decode cX11_near 21 = .ok (.bipush (-2), 2) := by decide +kernel
theorem dX11_near_23 : decode cX11_near 23 = .ok (.ireturn, 1) := by decide +kernel
theorem dX11_nearest_0 : decode cX11_nearest 0 = .ok (.aload_n 0, 1) := by decide +kernel
theorem dX11_nearest_1 : decode cX11_nearest 1 = .ok (.invokevirtual 276, 3) := by decide +kernel
theorem dX11_nearest_4 : decode cX11_nearest 4 = .ok (.istore_n 1, 1) := by decide +kernel
theorem dX11_nearest_5 : decode cX11_nearest 5 = .ok (.iload_n 1, 1) := by decide +kernel
theorem dX11_nearest_6 : decode cX11_nearest 6 = .ok (.bipush 100, 2) := by decide +kernel
theorem dX11_nearest_8 : decode cX11_nearest 8 = .ok (.if_icmp .le 6, 3) := by decide +kernel
theorem dX11_nearest_14 : decode cX11_nearest 14 = .ok (.aload_n 0, 1) := by decide +kernel
theorem dX11_nearest_15 : decode cX11_nearest 15 = .ok (.getfield 113, 3) := by decide +kernel
theorem dX11_nearest_18 : decode cX11_nearest 18 = .ok (.aload_n 0, 1) := by decide +kernel
theorem dX11_nearest_19 : decode cX11_nearest 19 = .ok (.getfield 20, 3) := by decide +kernel
theorem dX11_nearest_22 : decode cX11_nearest 22 = .ok (.getfield 372, 3) := by decide +kernel
theorem dX11_nearest_25 : decode cX11_nearest 25 = .ok (.if_icmp .eq 23, 3) := by decide +kernel
theorem dX11_nearest_28 : decode cX11_nearest 28 = .ok (.aload_n 0, 1) := by decide +kernel
theorem dX11_nearest_29 : decode cX11_nearest 29 = .ok (.aload_n 0, 1) := by decide +kernel
theorem dX11_nearest_30 : decode cX11_nearest 30 = .ok (.iload_n 1, 1) := by decide +kernel
theorem dX11_nearest_31 : decode cX11_nearest 31 = .ok (.invokevirtual 375, 3) := by decide +kernel
theorem dX11_nearest_34 : decode cX11_nearest 34 = .ok (.putfield 110, 3) := by decide +kernel
theorem dX11_nearest_37 : decode cX11_nearest 37 = .ok (.aload_n 0, 1) := by decide +kernel
theorem dX11_nearest_38 : decode cX11_nearest 38 = .ok (.aload_n 0, 1) := by decide +kernel
theorem dX11_nearest_39 : decode cX11_nearest 39 = .ok (.getfield 20, 3) := by decide +kernel
theorem dX11_nearest_42 : decode cX11_nearest 42 = .ok (.getfield 372, 3) := by decide +kernel
theorem dX11_nearest_45 : decode cX11_nearest 45 = .ok (.putfield 113, 3) := by decide +kernel
theorem dX11_nearest_48 : decode cX11_nearest 48 = .ok (.aload_n 0, 1) := by decide +kernel
theorem dX11_nearest_49 : decode cX11_nearest 49 = .ok (.getfield 110, 3) := by decide +kernel
theorem dX11_nearest_52 : decode cX11_nearest 52 = .ok (.ireturn, 1) := by decide +kernel
theorem dX11_numbers_0 : decode cX11_numbers 0 = .ok (.iload_n 1, 1) := by decide +kernel
theorem dX11_numbers_1 : decode cX11_numbers 1 = .ok (.invokestatic 240, 3) := by decide +kernel
theorem dX11_numbers_4 : decode cX11_numbers 4 = .ok (.ifCond .eq 12, 3) := by decide +kernel
theorem dX11_numbers_7 : decode cX11_numbers 7 = .ok (.iload_n 2, 1) := by decide +kernel
theorem dX11_numbers_8 : decode cX11_numbers 8 = .ok (.ifCond .lt 8, 3) := by decide +kernel
theorem dX11_numbers_11 : decode cX11_numbers 11 = .ok (.iload_n 2, 1) := by decide +kernel
theorem dX11_numbers_12 : decode cX11_numbers 12 = .ok (.iconst 4, 1) := by decide +kernel
theorem dX11_numbers_13 : decode cX11_numbers 13 = .ok (.if_icmp .lt 6, 3) := by decide +kernel
theorem dX11_numbers_16 : decode cX11_numbers 16 = .ok (.bipush (-2), 2) := by decide +kernel
theorem dX11_numbers_18 : decode cX11_numbers 18 = .ok (.ireturn, 1) := by decide +kernel
theorem dX11_numbers_19 : decode cX11_numbers 19 = .ok (.iload_n 3, 1) := by decide +kernel
theorem dX11_numbers_20 : decode cX11_numbers 20 = .ok (.ifCond .lt 9, 3) := by decide +kernel
theorem dX11_numbers_23 : decode cX11_numbers 23 = .ok (.iload_n 3, 1) := by decide +kernel
theorem dX11_numbers_24 : decode cX11_numbers 24 = .ok (.bipush 40, 2) := by decide +kernel
theorem dX11_numbers_26 : decode cX11_numbers 26 = .ok (.if_icmp .le 6, 3) := by decide +kernel
theorem dX11_numbers_29 : decode cX11_numbers 29 = .ok (.bipush (-3), 2) := by decide +kernel
theorem dX11_numbers_31 : decode cX11_numbers 31 = .ok (.ireturn, 1) := by decide +kernel
theorem dX11_numbers_32 : decode cX11_numbers 32 = .ok (.aload_n 0, 1) := by decide +kernel
theorem dX11_numbers_33 : decode cX11_numbers 33 = .ok (.getfield 95, 3) := by decide +kernel
theorem dX11_numbers_36 : decode cX11_numbers 36 = .ok (.iload_n 1, 1) := by decide +kernel
theorem dX11_numbers_37 : decode cX11_numbers 37 = .ok (.aaload, 1) := by decide +kernel
theorem dX11_numbers_38 : decode cX11_numbers 38 = .ok (.iload_n 2, 1) := by decide +kernel
theorem dX11_numbers_39 : decode cX11_numbers 39 = .ok (.iload_n 3, 1) := by decide +kernel
theorem dX11_numbers_40 : decode cX11_numbers 40 = .ok (.invokevirtual 399, 3) := by decide +kernel
theorem dX11_numbers_43 : decode cX11_numbers 43 = .ok (.iconst 0, 1) := by decide +kernel
theorem dX11_numbers_44 : decode cX11_numbers 44 = .ok (.ireturn, 1) := by decide +kernel
theorem dX11_perform_0 : decode cX11_perform 0 = .ok (.aload_n 0, 1) := by decide +kernel
theorem dX11_perform_1 : decode cX11_perform 1 = .ok (.iload_n 1, 1) := by decide +kernel
theorem dX11_perform_2 : decode cX11_perform 2 = .ok (.invokevirtual 263, 3) := by decide +kernel
theorem dX11_perform_5 : decode cX11_perform 5 = .ok (.istore_n 2, 1) := by decide +kernel
theorem dX11_perform_6 : decode cX11_perform 6 = .ok (.iload_n 2, 1) := by decide +kernel
theorem dX11_perform_7 : decode cX11_perform 7 = .ok (.ifCond .eq 5, 3) := by decide +kernel
theorem dX11_perform_10 : decode cX11_perform 10 = .ok (.iload_n 2, 1) := by decide +kernel
theorem dX11_perform_11 : decode cX11_perform 11 = .ok (.ireturn, 1) := by decide +kernel
theorem dX11_pickedFlat_0 : decode cX11_pickedFlat 0 = .ok (.iload_n 1, 1) := by decide +kernel
theorem dX11_pickedFlat_1 : decode cX11_pickedFlat 1 = .ok (.bipush 10, 2) := by decide +kernel
theorem dX11_pickedFlat_3 : decode cX11_pickedFlat 3 = .ok (.isub, 1) := by decide +kernel
theorem dX11_pickedFlat_4 : decode cX11_pickedFlat 4 = .ok (.istore_n 2, 1) := by decide +kernel
theorem dX11_pickedFlat_5 : decode cX11_pickedFlat 5 = .ok (.aload_n 0, 1) := by decide +kernel
theorem dX11_pickedFlat_6 : decode cX11_pickedFlat 6 = .ok (.iload_n 2, 1) := by decide +kernel
theorem dX11_pickedFlat_7 : decode cX11_pickedFlat 7 = .ok (.invokevirtual 161, 3) := by decide +kernel
theorem dX11_pickedFlat_10 : decode cX11_pickedFlat 10 = .ok (.ifCond .eq 12, 3) := by decide +kernel
theorem dX11_pickedFlat_22 : decode cX11_pickedFlat 22 = .ok (.iconst (-1), 1) := by decide +kernel
theorem dX11_pickedFlat_23 : decode cX11_pickedFlat 23 = .ok (.ireturn, 1) := by decide +kernel
theorem dX11_restore_0 : decode cX11_restore 0 = .ok (.iload_n 1, 1) := by decide +kernel
theorem dX11_restore_1 : decode cX11_restore 1 = .ok (.ifCond .lt 8, 3) := by decide +kernel
theorem dX11_restore_4 : decode cX11_restore 4 = .ok (.iload_n 1, 1) := by decide +kernel
theorem dX11_restore_5 : decode cX11_restore 5 = .ok (.iconst 2, 1) := by decide +kernel
theorem dX11_restore_6 : decode cX11_restore 6 = .ok (.if_icmp .lt 6, 3) := by decide +kernel
theorem dX11_restore_9 : decode cX11_restore 9 = .ok (.bipush (-2), 2) := by decide +kernel
theorem dX11_restore_11 : decode cX11_restore 11 = .ok (.ireturn, 1) := by decide +kernel
theorem dX11_restore_12 : decode cX11_restore 12 = .ok (.aload_n 0, 1) := by decide +kernel
theorem dX11_restore_13 : decode cX11_restore 13 = .ok (.getfield 99, 3) := by decide +kernel
theorem dX11_restore_16 : decode cX11_restore 16 = .ok (.iload_n 1, 1) := by decide +kernel
theorem dX11_restore_17 : decode cX11_restore 17 = .ok (.aaload, 1) := by decide +kernel
theorem dX11_restore_18 : decode cX11_restore 18 = .ok (.ifnonnull 6, 3) := by decide +kernel
theorem dX11_restore_21 : decode cX11_restore 21 = .ok (.bipush (-5), 2) := by decide +kernel
theorem dX11_restore_23 : decode cX11_restore 23 = .ok (.ireturn, 1) := by decide +kernel
theorem dX11_rings_0 : decode cX11_rings 0 = .ok (.aload_n 0, 1) := by decide +kernel
theorem dX11_rings_1 : decode cX11_rings 1 = .ok (.getfield 89, 3) := by decide +kernel
theorem dX11_rings_4 : decode cX11_rings 4 = .ok (.aload_n 0, 1) := by decide +kernel
theorem dX11_rings_5 : decode cX11_rings 5 = .ok (.getfield 20, 3) := by decide +kernel
theorem dX11_rings_8 : decode cX11_rings 8 = .ok (.getfield 151, 3) := by decide +kernel
theorem dX11_rings_11 : decode cX11_rings 11 = .ok (.invokevirtual 193, 3) := by decide +kernel
theorem dX11_rings_14 : decode cX11_rings 14 = .ok (.aload_n 0, 1) := by decide +kernel
theorem dX11_rings_15 : decode cX11_rings 15 = .ok (.getfield 75, 3) := by decide +kernel
theorem dX11_rings_18 : decode cX11_rings 18 = .ok (.invokevirtual 206, 3) := by decide +kernel
theorem dX11_rings_21 : decode cX11_rings 21 = .ok (.pop, 1) := by decide +kernel
theorem dX11_rings_22 : decode cX11_rings 22 = .ok (.aload_n 0, 1) := by decide +kernel
theorem dX11_rings_23 : decode cX11_rings 23 = .ok (.getfield 52, 3) := by decide +kernel
theorem dX11_rings_26 : decode cX11_rings 26 = .ok (.getfield 210, 3) := by decide +kernel
theorem dX11_rings_29 : decode cX11_rings 29 = .ok (.ifCond .le 14, 3) := by decide +kernel
theorem dX11_rings_43 : decode cX11_rings 43 = .ok (.aload_n 0, 1) := by decide +kernel
theorem dX11_rings_44 : decode cX11_rings 44 = .ok (.getfield 52, 3) := by decide +kernel
theorem dX11_rings_47 : decode cX11_rings 47 = .ok (.getfield 210, 3) := by decide +kernel
theorem dX11_rings_50 : decode cX11_rings 50 = .ok (.ireturn, 1) := by decide +kernel
theorem dX11_ringsMany_0 : decode cX11_ringsMany 0 = .ok (.aload_n 0, 1) := by decide +kernel
theorem dX11_ringsMany_1 : decode cX11_ringsMany 1 = .ok (.getfield 36, 3) := by decide +kernel
theorem dX11_ringsMany_4 : decode cX11_ringsMany 4 = .ok (.invokevirtual 177, 3) := by decide +kernel
theorem dX11_ringsMany_7 : decode cX11_ringsMany 7 = .ok (.aload_n 0, 1) := by decide +kernel
theorem dX11_ringsMany_8 : decode cX11_ringsMany 8 = .ok (.getfield 52, 3) := by decide +kernel
theorem dX11_ringsMany_11 : decode cX11_ringsMany 11 = .ok (.invokevirtual 358, 3) := by decide +kernel
theorem dX11_ringsMany_14 : decode cX11_ringsMany 14 = .ok (.aload_n 0, 1) := by decide +kernel
theorem dX11_ringsMany_15 : decode cX11_ringsMany 15 = .ok (.getfield 52, 3) := by decide +kernel
theorem dX11_ringsMany_18 : decode cX11_ringsMany 18 = .ok (.getfield 364, 3) := by decide +kernel
theorem dX11_ringsMany_21 : decode cX11_ringsMany 21 = .ok (.ireturn, 1) := by decide +kernel
theorem dX11_seekNearest_0 : decode cX11_seekNearest 0 = .ok (.iconst (-1), 1) := by decide +kernel
theorem dX11_seekNearest_1 : decode cX11_seekNearest 1 = .ok (.istore_n 2, 1) := by decide +kernel
theorem dX11_seekNearest_2 : decode cX11_seekNearest 2 = .ok (.ldc_w 367, 3) := by decide +kernel
theorem dX11_seekNearest_5 : decode cX11_seekNearest 5 = .ok (.istore_n 3, 1) := by decide +kernel
theorem dX11_seekNearest_6 : decode cX11_seekNearest 6 = .ok (.iconst 0, 1) := by decide +kernel
theorem dX11_seekNearest_7 : decode cX11_seekNearest 7 = .ok (.istore 4, 2) := by decide +kernel
theorem dX11_seekNearest_9 : decode cX11_seekNearest 9 = .ok (.iload 4, 2) := by decide +kernel
theorem dX11_seekNearest_11 : decode cX11_seekNearest 11 = .ok (.iload_n 1, 1) := by decide +kernel
theorem dX11_seekNearest_12 : decode cX11_seekNearest 12 = .ok (.if_icmp .ge 55, 3) := by decide +kernel
theorem dX11_seekNearest_15 : decode cX11_seekNearest 15 = .ok (.iload_n 3, 1) := by decide +kernel
theorem dX11_seekNearest_16 : decode cX11_seekNearest 16 = .ok (.ifCond .le 51, 3) := by decide +kernel
theorem dX11_seekNearest_19 : decode cX11_seekNearest 19 = .ok (.aload_n 0, 1) := by decide +kernel
theorem dX11_seekNearest_20 : decode cX11_seekNearest 20 = .ok (.getfield 43, 3) := by decide +kernel
theorem dX11_seekNearest_23 : decode cX11_seekNearest 23 = .ok (.iload 4, 2) := by decide +kernel
theorem dX11_seekNearest_25 : decode cX11_seekNearest 25 = .ok (.aload_n 0, 1) := by decide +kernel
theorem dX11_seekNearest_26 : decode cX11_seekNearest 26 = .ok (.getfield 107, 3) := by decide +kernel
theorem dX11_seekNearest_29 : decode cX11_seekNearest 29 = .ok (.invokevirtual 279, 3) := by decide +kernel
theorem dX11_seekNearest_32 : decode cX11_seekNearest 32 = .ok (.aload_n 0, 1) := by decide +kernel
theorem dX11_seekNearest_33 : decode cX11_seekNearest 33 = .ok (.getfield 66, 3) := by decide +kernel
theorem dX11_seekNearest_36 : decode cX11_seekNearest 36 = .ok (.aload_n 0, 1) := by decide +kernel
theorem dX11_seekNearest_37 : decode cX11_seekNearest 37 = .ok (.getfield 107, 3) := by decide +kernel
theorem dX11_seekNearest_40 : decode cX11_seekNearest 40 = .ok (.iload_n 3, 1) := by decide +kernel
theorem dX11_seekNearest_41 : decode cX11_seekNearest 41 = .ok (.invokevirtual 368, 3) := by decide +kernel
theorem dX11_seekNearest_44 : decode cX11_seekNearest 44 = .ok (.bipush 32, 2) := by decide +kernel
theorem dX11_seekNearest_46 : decode cX11_seekNearest 46 = .ok (.idiv, 1) := by decide +kernel
theorem dX11_seekNearest_47 : decode cX11_seekNearest 47 = .ok (.istore 5, 2) := by decide +kernel
theorem dX11_seekNearest_49 : decode cX11_seekNearest 49 = .ok (.iload 5, 2) := by decide +kernel
theorem dX11_seekNearest_51 : decode cX11_seekNearest 51 = .ok (.iload_n 3, 1) := by decide +kernel
theorem dX11_seekNearest_52 : decode cX11_seekNearest 52 = .ok (.if_icmp .ge 9, 3) := by decide +kernel
theorem dX11_seekNearest_55 : decode cX11_seekNearest 55 = .ok (.iload 5, 2) := by decide +kernel
theorem dX11_seekNearest_57 : decode cX11_seekNearest 57 = .ok (.istore_n 3, 1) := by decide +kernel
theorem dX11_seekNearest_58 : decode cX11_seekNearest 58 = .ok (.iload 4, 2) := by decide +kernel
theorem dX11_seekNearest_60 : decode cX11_seekNearest 60 = .ok (.istore_n 2, 1) := by decide +kernel
theorem dX11_seekNearest_61 : decode cX11_seekNearest 61 = .ok (.iinc 4 1, 3) := by decide +kernel
theorem dX11_seekNearest_64 : decode cX11_seekNearest 64 = .ok (.goto (-55), 3) := by decide +kernel
theorem dX11_seekNearest_67 : decode cX11_seekNearest 67 = .ok (.iload_n 2, 1) := by decide +kernel
theorem dX11_seekNearest_68 : decode cX11_seekNearest 68 = .ok (.ireturn, 1) := by decide +kernel
theorem dX11_seen_0 : decode cX11_seen 0 = .ok (.aload_n 0, 1) := by decide +kernel
theorem dX11_seen_1 : decode cX11_seen 1 = .ok (.iload_n 1, 1) := by decide +kernel
theorem dX11_seen_2 : decode cX11_seen 2 = .ok (.invokevirtual 378, 3) := by decide +kernel
theorem dX11_seen_5 : decode cX11_seen 5 = .ok (.istore_n 2, 1) := by decide +kernel
theorem dX11_seen_6 : decode cX11_seen 6 = .ok (.iload_n 2, 1) := by decide +kernel
theorem dX11_seen_7 : decode cX11_seen 7 = .ok (.ifCond .eq 7, 3) := by decide +kernel
theorem dX11_seen_10 : decode cX11_seen 10 = .ok (.iload_n 2, 1) := by decide +kernel
theorem dX11_seen_11 : decode cX11_seen 11 = .ok (.goto 13, 3) := by decide +kernel
theorem dX11_seen_24 : decode cX11_seen 24 = .ok (.ireturn, 1) := by decide +kernel
theorem dX11_seenCode_0 : decode cX11_seenCode 0 = .ok (.aload_n 0, 1) := by decide +kernel
theorem dX11_seenCode_1 : decode cX11_seenCode 1 = .ok (.iload_n 1, 1) := by decide +kernel
theorem dX11_seenCode_2 : decode cX11_seenCode 2 = .ok (.invokevirtual 263, 3) := by decide +kernel
theorem dX11_seenCode_5 : decode cX11_seenCode 5 = .ok (.istore_n 2, 1) := by decide +kernel
theorem dX11_seenCode_6 : decode cX11_seenCode 6 = .ok (.iload_n 2, 1) := by decide +kernel
theorem dX11_seenCode_7 : decode cX11_seenCode 7 = .ok (.ifCond .eq 5, 3) := by decide +kernel
theorem dX11_seenCode_10 : decode cX11_seenCode 10 = .ok (.iload_n 2, 1) := by decide +kernel
theorem dX11_seenCode_11 : decode cX11_seenCode 11 = .ok (.ireturn, 1) := by decide +kernel
theorem dX11_spoils_0 : decode cX11_spoils 0 = .ok (.aload_n 0, 1) := by decide +kernel
theorem dX11_spoils_1 : decode cX11_spoils 1 = .ok (.getfield 89, 3) := by decide +kernel
theorem dX11_spoils_4 : decode cX11_spoils 4 = .ok (.aload_n 0, 1) := by decide +kernel
theorem dX11_spoils_5 : decode cX11_spoils 5 = .ok (.getfield 20, 3) := by decide +kernel
theorem dX11_spoils_8 : decode cX11_spoils 8 = .ok (.getfield 151, 3) := by decide +kernel
theorem dX11_spoils_11 : decode cX11_spoils 11 = .ok (.invokevirtual 193, 3) := by decide +kernel
theorem dX11_spoils_14 : decode cX11_spoils 14 = .ok (.aload_n 0, 1) := by decide +kernel
theorem dX11_spoils_15 : decode cX11_spoils 15 = .ok (.getfield 75, 3) := by decide +kernel
theorem dX11_spoils_18 : decode cX11_spoils 18 = .ok (.iload_n 1, 1) := by decide +kernel
theorem dX11_spoils_19 : decode cX11_spoils 19 = .ok (.invokevirtual 224, 3) := by decide +kernel
theorem dX11_spoils_22 : decode cX11_spoils 22 = .ok (.istore_n 2, 1) := by decide +kernel
theorem dX11_spoils_23 : decode cX11_spoils 23 = .ok (.iload_n 2, 1) := by decide +kernel
theorem dX11_spoils_24 : decode cX11_spoils 24 = .ok (.ifCond .eq 8, 3) := by decide +kernel
theorem dX11_spoils_27 : decode cX11_spoils 27 = .ok (.bipush (-10), 2) := by decide +kernel
theorem dX11_spoils_29 : decode cX11_spoils 29 = .ok (.iload_n 2, 1) := by decide +kernel
theorem dX11_spoils_30 : decode cX11_spoils 30 = .ok (.isub, 1) := by decide +kernel
theorem dX11_spoils_31 : decode cX11_spoils 31 = .ok (.ireturn, 1) := by decide +kernel
theorem dX11_stillest_0 : decode cX11_stillest 0 = .ok (.iload_n 1, 1) := by decide +kernel
theorem dX11_stillest_1 : decode cX11_stillest 1 = .ok (.invokestatic 315, 3) := by decide +kernel
theorem dX11_stillest_4 : decode cX11_stillest 4 = .ok (.ifCond .ne 6, 3) := by decide +kernel
theorem dX11_stillest_7 : decode cX11_stillest 7 = .ok (.bipush (-2), 2) := by decide +kernel
theorem dX11_stillest_9 : decode cX11_stillest 9 = .ok (.ireturn, 1) := by decide +kernel
theorem dX11_stillest_10 : decode cX11_stillest 10 = .ok (.aload_n 0, 1) := by decide +kernel
theorem dX11_stillest_11 : decode cX11_stillest 11 = .ok (.invokevirtual 276, 3) := by decide +kernel
theorem dX11_stillest_14 : decode cX11_stillest 14 = .ok (.ifCond .ne 5, 3) := by decide +kernel
theorem dX11_stillest_19 : decode cX11_stillest 19 = .ok (.aload_n 0, 1) := by decide +kernel
theorem dX11_stillest_20 : decode cX11_stillest 20 = .ok (.getfield 59, 3) := by decide +kernel
theorem dX11_stillest_23 : decode cX11_stillest 23 = .ok (.aload_n 0, 1) := by decide +kernel
theorem dX11_stillest_24 : decode cX11_stillest 24 = .ok (.getfield 43, 3) := by decide +kernel
theorem dX11_stillest_27 : decode cX11_stillest 27 = .ok (.invokevirtual 335, 3) := by decide +kernel
theorem dX11_stillest_30 : decode cX11_stillest 30 = .ok (.iload_n 1, 1) := by decide +kernel
theorem dX11_stillest_31 : decode cX11_stillest 31 = .ok (.ifCond .ne 11, 3) := by decide +kernel
theorem dX11_stillest_34 : decode cX11_stillest 34 = .ok (.aload_n 0, 1) := by decide +kernel
theorem dX11_stillest_35 : decode cX11_stillest 35 = .ok (.getfield 59, 3) := by decide +kernel
theorem dX11_stillest_38 : decode cX11_stillest 38 = .ok (.getfield 339, 3) := by decide +kernel
theorem dX11_stillest_41 : decode cX11_stillest 41 = .ok (.ireturn, 1) := by decide +kernel
theorem dX11_stillest_42 : decode cX11_stillest 42 = .ok (.aload_n 0, 1) := by decide +kernel
theorem dX11_stillest_43 : decode cX11_stillest 43 = .ok (.getfield 59, 3) := by decide +kernel
theorem dX11_stillest_46 : decode cX11_stillest 46 = .ok (.getfield 342, 3) := by decide +kernel
theorem dX11_stillest_49 : decode cX11_stillest 49 = .ok (.iconst 0, 1) := by decide +kernel
theorem dX11_stillest_50 : decode cX11_stillest 50 = .ok (.aload_n 0, 1) := by decide +kernel
theorem dX11_stillest_51 : decode cX11_stillest 51 = .ok (.getfield 107, 3) := by decide +kernel
theorem dX11_stillest_54 : decode cX11_stillest 54 = .ok (.iconst 0, 1) := by decide +kernel
theorem dX11_stillest_55 : decode cX11_stillest 55 = .ok (.bipush 7, 2) := by decide +kernel
theorem dX11_stillest_57 : decode cX11_stillest 57 = .ok (.invokestatic 309, 3) := by decide +kernel
theorem dX11_stillest_60 : decode cX11_stillest 60 = .ok (.aload_n 0, 1) := by decide +kernel
theorem dX11_stillest_61 : decode cX11_stillest 61 = .ok (.iload_n 1, 1) := by decide +kernel
theorem dX11_stillest_62 : decode cX11_stillest 62 = .ok (.invokevirtual 326, 3) := by decide +kernel
theorem dX11_stillest_65 : decode cX11_stillest 65 = .ok (.ireturn, 1) := by decide +kernel
theorem dX11_sure_0 : decode cX11_sure 0 = .ok (.aload_n 0, 1) := by decide +kernel
theorem dX11_sure_1 : decode cX11_sure 1 = .ok (.iload_n 1, 1) := by decide +kernel
theorem dX11_sure_2 : decode cX11_sure 2 = .ok (.invokevirtual 161, 3) := by decide +kernel
theorem dX11_sure_5 : decode cX11_sure 5 = .ok (.ifCond .eq 12, 3) := by decide +kernel
theorem dX11_sure_17 : decode cX11_sure 17 = .ok (.bipush (-2), 2) := by decide +kernel
theorem dX11_sure_19 : decode cX11_sure 19 = .ok (.ireturn, 1) := by decide +kernel
theorem dX11_tallyAll_0 : decode cX11_tallyAll 0 = .ok (.aload_n 0, 1) := by decide +kernel
theorem dX11_tallyAll_1 : decode cX11_tallyAll 1 = .ok (.getfield 36, 3) := by decide +kernel
theorem dX11_tallyAll_4 : decode cX11_tallyAll 4 = .ok (.invokevirtual 177, 3) := by decide +kernel
theorem dX11_tallyAll_7 : decode cX11_tallyAll 7 = .ok (.aload_n 0, 1) := by decide +kernel
theorem dX11_tallyAll_8 : decode cX11_tallyAll 8 = .ok (.getfield 43, 3) := by decide +kernel
theorem dX11_tallyAll_11 : decode cX11_tallyAll 11 = .ok (.aload_n 0, 1) := by decide +kernel
theorem dX11_tallyAll_12 : decode cX11_tallyAll 12 = .ok (.getfield 36, 3) := by decide +kernel
theorem dX11_tallyAll_15 : decode cX11_tallyAll 15 = .ok (.getfield 306, 3) := by decide +kernel
theorem dX11_tallyAll_18 : decode cX11_tallyAll 18 = .ok (.aload_n 0, 1) := by decide +kernel
theorem dX11_tallyAll_19 : decode cX11_tallyAll 19 = .ok (.getfield 20, 3) := by decide +kernel
theorem dX11_tallyAll_22 : decode cX11_tallyAll 22 = .ok (.getfield 190, 3) := by decide +kernel
theorem dX11_tallyAll_25 : decode cX11_tallyAll 25 = .ok (.aload_n 0, 1) := by decide +kernel
theorem dX11_tallyAll_26 : decode cX11_tallyAll 26 = .ok (.getfield 20, 3) := by decide +kernel
theorem dX11_tallyAll_29 : decode cX11_tallyAll 29 = .ok (.getfield 187, 3) := by decide +kernel
theorem dX11_tallyAll_32 : decode cX11_tallyAll 32 = .ok (.invokevirtual 302, 3) := by decide +kernel
theorem dX11_tallyAll_35 : decode cX11_tallyAll 35 = .ok (.ireturn, 1) := by decide +kernel
theorem dX11_tallyRows_0 : decode cX11_tallyRows 0 = .ok (.aload_n 0, 1) := by decide +kernel
theorem dX11_tallyRows_1 : decode cX11_tallyRows 1 = .ok (.getfield 43, 3) := by decide +kernel
theorem dX11_tallyRows_4 : decode cX11_tallyRows 4 = .ok (.aload_n 0, 1) := by decide +kernel
theorem dX11_tallyRows_5 : decode cX11_tallyRows 5 = .ok (.getfield 103, 3) := by decide +kernel
theorem dX11_tallyRows_8 : decode cX11_tallyRows 8 = .ok (.aload_n 0, 1) := by decide +kernel
theorem dX11_tallyRows_9 : decode cX11_tallyRows 9 = .ok (.getfield 20, 3) := by decide +kernel
theorem dX11_tallyRows_12 : decode cX11_tallyRows 12 = .ok (.getfield 190, 3) := by decide +kernel
theorem dX11_tallyRows_15 : decode cX11_tallyRows 15 = .ok (.aload_n 0, 1) := by decide +kernel
theorem dX11_tallyRows_16 : decode cX11_tallyRows 16 = .ok (.getfield 20, 3) := by decide +kernel
theorem dX11_tallyRows_19 : decode cX11_tallyRows 19 = .ok (.getfield 187, 3) := by decide +kernel
theorem dX11_tallyRows_22 : decode cX11_tallyRows 22 = .ok (.invokevirtual 302, 3) := by decide +kernel
theorem dX11_tallyRows_25 : decode cX11_tallyRows 25 = .ok (.ireturn, 1) := by decide +kernel
theorem dX11_thisMap_0 : decode cX11_thisMap 0 = .ok (.aload_n 0, 1) := by decide +kernel
theorem dX11_thisMap_1 : decode cX11_thisMap 1 = .ok (.invokevirtual 276, 3) := by decide +kernel
theorem dX11_thisMap_4 : decode cX11_thisMap 4 = .ok (.pop, 1) := by decide +kernel
theorem dX11_thisMap_5 : decode cX11_thisMap 5 = .ok (.iconst 0, 1) := by decide +kernel
theorem dX11_thisMap_6 : decode cX11_thisMap 6 = .ok (.istore_n 1, 1) := by decide +kernel
theorem dX11_thisMap_7 : decode cX11_thisMap 7 = .ok (.iload_n 1, 1) := by decide +kernel
theorem dX11_thisMap_8 : decode cX11_thisMap 8 = .ok (.aload_n 0, 1) := by decide +kernel
theorem dX11_thisMap_9 : decode cX11_thisMap 9 = .ok (.getfield 20, 3) := by decide +kernel
theorem dX11_thisMap_12 : decode cX11_thisMap 12 = .ok (.getfield 190, 3) := by decide +kernel
theorem dX11_thisMap_15 : decode cX11_thisMap 15 = .ok (.if_icmp .ge 41, 3) := by decide +kernel
theorem dX11_thisMap_56 : decode cX11_thisMap 56 = .ok (.aload_n 0, 1) := by decide +kernel
theorem dX11_thisMap_57 : decode cX11_thisMap 57 = .ok (.getfield 43, 3) := by decide +kernel
theorem dX11_thisMap_60 : decode cX11_thisMap 60 = .ok (.aload_n 0, 1) := by decide +kernel
theorem dX11_thisMap_61 : decode cX11_thisMap 61 = .ok (.getfield 20, 3) := by decide +kernel
theorem dX11_thisMap_64 : decode cX11_thisMap 64 = .ok (.getfield 151, 3) := by decide +kernel
theorem dX11_thisMap_67 : decode cX11_thisMap 67 = .ok (.getfield 167, 3) := by decide +kernel
theorem dX11_thisMap_70 : decode cX11_thisMap 70 = .ok (.invokevirtual 349, 3) := by decide +kernel
theorem dX11_thisMap_73 : decode cX11_thisMap 73 = .ok (.ireturn, 1) := by decide +kernel
theorem dX11_times_0 : decode cX11_times 0 = .ok (.aload_n 0, 1) := by decide +kernel
theorem dX11_times_1 : decode cX11_times 1 = .ok (.iload_n 1, 1) := by decide +kernel
theorem dX11_times_2 : decode cX11_times 2 = .ok (.iload_n 2, 1) := by decide +kernel
theorem dX11_times_3 : decode cX11_times 3 = .ok (.invokevirtual 170, 3) := by decide +kernel
theorem dX11_times_6 : decode cX11_times 6 = .ok (.ifCond .eq 23, 3) := by decide +kernel
theorem dX11_times_29 : decode cX11_times 29 = .ok (.bipush (-2), 2) := by decide +kernel
theorem dX11_times_31 : decode cX11_times 31 = .ok (.ireturn, 1) := by decide +kernel
theorem dX11_tooMany_0 : decode cX11_tooMany 0 = .ok (.aload_n 0, 1) := by decide +kernel
theorem dX11_tooMany_1 : decode cX11_tooMany 1 = .ok (.invokevirtual 276, 3) := by decide +kernel
theorem dX11_tooMany_4 : decode cX11_tooMany 4 = .ok (.ifCond .le 5, 3) := by decide +kernel
theorem dX11_tooMany_7 : decode cX11_tooMany 7 = .ok (.iconst 0, 1) := by decide +kernel
theorem dX11_tooMany_8 : decode cX11_tooMany 8 = .ok (.ireturn, 1) := by decide +kernel
theorem dX11_tower_0 : decode cX11_tower 0 = .ok (.iload_n 1, 1) := by decide +kernel
theorem dX11_tower_1 : decode cX11_tower 1 = .ok (.ifCond .lt 11, 3) := by decide +kernel
theorem dX11_tower_4 : decode cX11_tower 4 = .ok (.iload_n 1, 1) := by decide +kernel
theorem dX11_tower_5 : decode cX11_tower 5 = .ok (.aload_n 0, 1) := by decide +kernel
theorem dX11_tower_6 : decode cX11_tower 6 = .ok (.getfield 13, 3) := by decide +kernel
theorem dX11_tower_9 : decode cX11_tower 9 = .ok (.if_icmp .le 6, 3) := by decide +kernel
theorem dX11_tower_12 : decode cX11_tower 12 = .ok (.bipush (-3), 2) := by decide +kernel
theorem dX11_tower_14 : decode cX11_tower 14 = .ok (.ireturn, 1) := by decide +kernel
theorem dX11_tower_15 : decode cX11_tower 15 = .ok (.aload_n 0, 1) := by decide +kernel
theorem dX11_tower_16 : decode cX11_tower 16 = .ok (.iconst 0, 1) := by decide +kernel
theorem dX11_tower_17 : decode cX11_tower 17 = .ok (.putfield 13, 3) := by decide +kernel
theorem dX11_tower_20 : decode cX11_tower 20 = .ok (.aload_n 0, 1) := by decide +kernel
theorem dX11_tower_21 : decode cX11_tower 21 = .ok (.getfield 27, 3) := by decide +kernel
theorem dX11_tower_24 : decode cX11_tower 24 = .ok (.aload_n 0, 1) := by decide +kernel
theorem dX11_tower_25 : decode cX11_tower 25 = .ok (.getfield 9, 3) := by decide +kernel
theorem dX11_tower_28 : decode cX11_tower 28 = .ok (.iload_n 1, 1) := by decide +kernel
theorem dX11_tower_29 : decode cX11_tower 29 = .ok (.invokevirtual 121, 3) := by decide +kernel
theorem dX11_tower_32 : decode cX11_tower 32 = .ok (.ifCond .ne 14, 3) := by decide +kernel
theorem dX11_tower_46 : decode cX11_tower 46 = .ok (.aload_n 0, 1) := by decide +kernel
theorem dX11_tower_47 : decode cX11_tower 47 = .ok (.getfield 20, 3) := by decide +kernel
theorem dX11_tower_50 : decode cX11_tower 50 = .ok (.aload_n 0, 1) := by decide +kernel
theorem dX11_tower_51 : decode cX11_tower 51 = .ok (.getfield 27, 3) := by decide +kernel
theorem dX11_tower_54 : decode cX11_tower 54 = .ok (.getfield 128, 3) := by decide +kernel
theorem dX11_tower_57 : decode cX11_tower 57 = .ok (.invokevirtual 131, 3) := by decide +kernel
theorem dX11_tower_60 : decode cX11_tower 60 = .ok (.aload_n 0, 1) := by decide +kernel
theorem dX11_tower_61 : decode cX11_tower 61 = .ok (.getfield 82, 3) := by decide +kernel
theorem dX11_tower_64 : decode cX11_tower 64 = .ok (.invokevirtual 134, 3) := by decide +kernel
theorem dX11_tower_67 : decode cX11_tower 67 = .ok (.aload_n 0, 1) := by decide +kernel
theorem dX11_tower_68 : decode cX11_tower 68 = .ok (.getfield 20, 3) := by decide +kernel
theorem dX11_tower_71 : decode cX11_tower 71 = .ok (.getfield 137, 3) := by decide +kernel
theorem dX11_tower_74 : decode cX11_tower 74 = .ok (.ireturn, 1) := by decide +kernel
theorem dX11_trayCode_0 : decode cX11_trayCode 0 = .ok (.iload_n 1, 1) := by decide +kernel
theorem dX11_trayCode_1 : decode cX11_trayCode 1 = .ok (.invokestatic 240, 3) := by decide +kernel
theorem dX11_trayCode_4 : decode cX11_trayCode 4 = .ok (.ifCond .ne 6, 3) := by decide +kernel
theorem dX11_trayCode_7 : decode cX11_trayCode 7 = .ok (.bipush (-2), 2) := by decide +kernel
theorem dX11_trayCode_9 : decode cX11_trayCode 9 = .ok (.ireturn, 1) := by decide +kernel
theorem dX11_trayCode_10 : decode cX11_trayCode 10 = .ok (.aload_n 0, 1) := by decide +kernel
theorem dX11_trayCode_11 : decode cX11_trayCode 11 = .ok (.getfield 95, 3) := by decide +kernel
theorem dX11_trayCode_14 : decode cX11_trayCode 14 = .ok (.iload_n 1, 1) := by decide +kernel
theorem dX11_trayCode_15 : decode cX11_trayCode 15 = .ok (.aaload, 1) := by decide +kernel
theorem dX11_trayCode_16 : decode cX11_trayCode 16 = .ok (.invokevirtual 243, 3) := by decide +kernel
theorem dX11_trayCode_19 : decode cX11_trayCode 19 = .ok (.ifCond .eq 8, 3) := by decide +kernel
theorem dX11_trayCode_22 : decode cX11_trayCode 22 = .ok (.bipush (-6), 2) := by decide +kernel
theorem dX11_trayCode_24 : decode cX11_trayCode 24 = .ok (.goto 4, 3) := by decide +kernel
theorem dX11_trayCode_28 : decode cX11_trayCode 28 = .ok (.ireturn, 1) := by decide +kernel
theorem dX11_undo_0 : decode cX11_undo 0 = .ok (.iload_n 1, 1) := by decide +kernel
theorem dX11_undo_1 : decode cX11_undo 1 = .ok (.iconst 1, 1) := by decide +kernel
theorem dX11_undo_2 : decode cX11_undo 2 = .ok (.if_icmp .lt 14, 3) := by decide +kernel
theorem dX11_undo_5 : decode cX11_undo 5 = .ok (.iload_n 1, 1) := by decide +kernel
theorem dX11_undo_6 : decode cX11_undo 6 = .ok (.aload_n 0, 1) := by decide +kernel
theorem dX11_undo_7 : decode cX11_undo 7 = .ok (.getfield 82, 3) := by decide +kernel
theorem dX11_undo_10 : decode cX11_undo 10 = .ok (.getfield 230, 3) := by decide +kernel
theorem dX11_undo_13 : decode cX11_undo 13 = .ok (.if_icmp .le 6, 3) := by decide +kernel
theorem dX11_undo_16 : decode cX11_undo 16 = .ok (.bipush (-3), 2) := by decide +kernel
theorem dX11_undo_18 : decode cX11_undo 18 = .ok (.ireturn, 1) := by decide +kernel
theorem dX11_wall_0 : decode cX11_wall 0 = .ok (.aload_n 0, 1) := by decide +kernel
theorem dX11_wall_1 : decode cX11_wall 1 = .ok (.iload_n 1, 1) := by decide +kernel
theorem dX11_wall_2 : decode cX11_wall 2 = .ok (.invokevirtual 378, 3) := by decide +kernel
theorem dX11_wall_5 : decode cX11_wall 5 = .ok (.istore_n 2, 1) := by decide +kernel
theorem dX11_wall_6 : decode cX11_wall 6 = .ok (.iload_n 2, 1) := by decide +kernel
theorem dX11_wall_7 : decode cX11_wall 7 = .ok (.ifCond .eq 5, 3) := by decide +kernel
theorem dX11_wall_10 : decode cX11_wall 10 = .ok (.iload_n 2, 1) := by decide +kernel
theorem dX11_wall_11 : decode cX11_wall 11 = .ok (.ireturn, 1) := by decide +kernel
theorem dX11_with_0 : decode cX11_with 0 = .ok (.aload_n 0, 1) := by decide +kernel
theorem dX11_with_1 : decode cX11_with 1 = .ok (.iload_n 1, 1) := by decide +kernel
theorem dX11_with_2 : decode cX11_with 2 = .ok (.iload_n 2, 1) := by decide +kernel
theorem dX11_with_3 : decode cX11_with 3 = .ok (.invokevirtual 170, 3) := by decide +kernel
theorem dX11_with_6 : decode cX11_with 6 = .ok (.ifCond .ne 6, 3) := by decide +kernel
theorem dX11_with_9 : decode cX11_with 9 = .ok (.bipush (-2), 2) := by decide +kernel
theorem dX11_with_11 : decode cX11_with 11 = .ok (.ireturn, 1) := by decide +kernel
theorem dX11_worth_0 : decode cX11_worth 0 = .ok (.aload_n 0, 1) := by decide +kernel
theorem dX11_worth_1 : decode cX11_worth 1 = .ok (.iload_n 1, 1) := by decide +kernel
theorem dX11_worth_2 : decode cX11_worth 2 = .ok (.iload_n 2, 1) := by decide +kernel
theorem dX11_worth_3 : decode cX11_worth 3 = .ok (.invokevirtual 170, 3) := by decide +kernel
theorem dX11_worth_6 : decode cX11_worth 6 = .ok (.ifCond .ne 6, 3) := by decide +kernel
theorem dX11_worth_9 : decode cX11_worth 9 = .ok (.ldc 183, 2) := by decide +kernel
theorem dX11_worth_11 : decode cX11_worth 11 = .ok (.ireturn, 1) := by decide +kernel
theorem dX11_wouldSwap_0 : decode cX11_wouldSwap 0 = .ok (.aload_n 0, 1) := by decide +kernel
theorem dX11_wouldSwap_1 : decode cX11_wouldSwap 1 = .ok (.getfield 36, 3) := by decide +kernel
theorem dX11_wouldSwap_4 : decode cX11_wouldSwap 4 = .ok (.invokevirtual 177, 3) := by decide +kernel
theorem dX11_wouldSwap_7 : decode cX11_wouldSwap 7 = .ok (.iconst 0, 1) := by decide +kernel
theorem dX11_wouldSwap_8 : decode cX11_wouldSwap 8 = .ok (.istore_n 1, 1) := by decide +kernel
theorem dX11_wouldSwap_9 : decode cX11_wouldSwap 9 = .ok (.iload_n 1, 1) := by decide +kernel
theorem dX11_wouldSwap_10 : decode cX11_wouldSwap 10 = .ok (.aload_n 0, 1) := by decide +kernel
theorem dX11_wouldSwap_11 : decode cX11_wouldSwap 11 = .ok (.getfield 20, 3) := by decide +kernel
theorem dX11_wouldSwap_14 : decode cX11_wouldSwap 14 = .ok (.getfield 190, 3) := by decide +kernel
theorem dX11_wouldSwap_17 : decode cX11_wouldSwap 17 = .ok (.if_icmp .ge 61, 3) := by decide +kernel
theorem dX11_wouldSwap_78 : decode cX11_wouldSwap 78 = .ok (.iconst (-1), 1) := by decide +kernel
theorem dX11_wouldSwap_79 : decode cX11_wouldSwap 79 = .ok (.ireturn, 1) := by decide +kernel
theorem dX11_write_0 : decode cX11_write 0 = .ok (.aload_n 0, 1) := by decide +kernel
theorem dX11_write_1 : decode cX11_write 1 = .ok (.iload_n 1, 1) := by decide +kernel
theorem dX11_write_2 : decode cX11_write 2 = .ok (.invokevirtual 263, 3) := by decide +kernel
theorem dX11_write_5 : decode cX11_write 5 = .ok (.istore 5, 2) := by decide +kernel
theorem dX11_write_7 : decode cX11_write 7 = .ok (.iload 5, 2) := by decide +kernel
theorem dX11_write_9 : decode cX11_write 9 = .ok (.ifCond .eq 7, 3) := by decide +kernel
theorem dX11_write_12 : decode cX11_write 12 = .ok (.iload 5, 2) := by decide +kernel
theorem dX11_write_14 : decode cX11_write 14 = .ok (.i2l, 1) := by decide +kernel
theorem dX11_write_15 : decode cX11_write 15 = .ok (.lreturn, 1) := by decide +kernel
theorem dX11_year_0 : decode cX11_year 0 = .ok (.iload_n 2, 1) := by decide +kernel
theorem dX11_year_1 : decode cX11_year 1 = .ok (.iconst 1, 1) := by decide +kernel
theorem dX11_year_2 : decode cX11_year 2 = .ok (.if_icmp .lt 9, 3) := by decide +kernel
theorem dX11_year_5 : decode cX11_year 5 = .ok (.iload_n 2, 1) := by decide +kernel
theorem dX11_year_6 : decode cX11_year 6 = .ok (.bipush 30, 2) := by decide +kernel
theorem dX11_year_8 : decode cX11_year 8 = .ok (.if_icmp .le 6, 3) := by decide +kernel
theorem dX11_year_11 : decode cX11_year 11 = .ok (.bipush (-3), 2) := by decide +kernel
theorem dX11_year_13 : decode cX11_year 13 = .ok (.ireturn, 1) := by decide +kernel
theorem dX11_year_14 : decode cX11_year 14 = .ok (.aload_n 0, 1) := by decide +kernel
theorem dX11_year_15 : decode cX11_year 15 = .ok (.getfield 20, 3) := by decide +kernel
theorem dX11_year_18 : decode cX11_year 18 = .ok (.getfield 187, 3) := by decide +kernel
theorem dX11_year_21 : decode cX11_year 21 = .ok (.ifCond .eq 13, 3) := by decide +kernel
theorem dX11_year_34 : decode cX11_year 34 = .ok (.bipush (-5), 2) := by decide +kernel
theorem dX11_year_36 : decode cX11_year 36 = .ok (.ireturn, 1) := by decide +kernel
theorem dX12_allElse_0 : decode cX12_allElse 0 = .ok (.aload_n 0, 1) := by decide +kernel
theorem dX12_allElse_1 : decode cX12_allElse 1 = .ok (.iconst 0, 1) := by decide +kernel
theorem dX12_allElse_2 : decode cX12_allElse 2 = .ok (.putfield 1, 3) := by decide +kernel
theorem dX12_allElse_5 : decode cX12_allElse 5 = .ok (.aload_n 0, 1) := by decide +kernel
theorem dX12_allElse_6 : decode cX12_allElse 6 = .ok (.iconst (-1), 1) := by decide +kernel
theorem dX12_allElse_7 : decode cX12_allElse 7 = .ok (.invokevirtual 258, 3) := by decide +kernel
theorem dX12_allElse_10 : decode cX12_allElse 10 = .ok (.iconst 0, 1) := by decide +kernel
theorem dX12_allElse_11 : decode cX12_allElse 11 = .ok (.istore_n 1, 1) := by decide +kernel
theorem dX12_allElse_12 : decode cX12_allElse 12 = .ok (.iconst 0, 1) := by decide +kernel
theorem dX12_allElse_13 : decode cX12_allElse 13 = .ok (.istore_n 2, 1) := by decide +kernel
theorem dX12_allElse_14 : decode cX12_allElse 14 = .ok (.iload_n 2, 1) := by decide +kernel
theorem dX12_allElse_15 : decode cX12_allElse 15 = .ok (.aload_n 0, 1) := by decide +kernel
theorem dX12_allElse_16 : decode cX12_allElse 16 = .ok (.getfield 244, 3) := by decide +kernel
theorem dX12_allElse_19 : decode cX12_allElse 19 = .ok (.if_icmp .ge 75, 3) := by decide +kernel
theorem dX12_allElse_22 : decode cX12_allElse 22 = .ok (.iconst 1, 1) := by decide +kernel
theorem dX12_allElse_23 : decode cX12_allElse 23 = .ok (.istore_n 3, 1) := by decide +kernel
theorem dX12_allElse_24 : decode cX12_allElse 24 = .ok (.iconst 0, 1) := by decide +kernel
theorem dX12_allElse_25 : decode cX12_allElse 25 = .ok (.istore 4, 2) := by decide +kernel
theorem dX12_allElse_27 : decode cX12_allElse 27 = .ok (.iload 4, 2) := by decide +kernel
theorem dX12_allElse_29 : decode cX12_allElse 29 = .ok (.aload_n 0, 1) := by decide +kernel
theorem dX12_allElse_30 : decode cX12_allElse 30 = .ok (.getfield 13, 3) := by decide +kernel
theorem dX12_allElse_33 : decode cX12_allElse 33 = .ok (.iconst 2, 1) := by decide +kernel
theorem dX12_allElse_34 : decode cX12_allElse 34 = .ok (.iaload, 1) := by decide +kernel
theorem dX12_allElse_35 : decode cX12_allElse 35 = .ok (.if_icmp .ge 41, 3) := by decide +kernel
theorem dX12_allElse_76 : decode cX12_allElse 76 = .ok (.iload_n 1, 1) := by decide +kernel
theorem dX12_allElse_77 : decode cX12_allElse 77 = .ok (.iload_n 3, 1) := by decide +kernel
theorem dX12_allElse_78 : decode cX12_allElse 78 = .ok (.ifCond .eq 7, 3) := by decide +kernel
theorem dX12_allElse_81 : decode cX12_allElse 81 = .ok (.iconst 1, 1) := by decide +kernel
theorem dX12_allElse_82 : decode cX12_allElse 82 = .ok (.goto 4, 3) := by decide +kernel
theorem dX12_allElse_86 : decode cX12_allElse 86 = .ok (.iadd, 1) := by decide +kernel
theorem dX12_allElse_87 : decode cX12_allElse 87 = .ok (.istore_n 1, 1) := by decide +kernel
theorem dX12_allElse_88 : decode cX12_allElse 88 = .ok (.iinc 2 1, 3) := by decide +kernel
theorem dX12_allElse_91 : decode cX12_allElse 91 = .ok (.goto (-77), 3) := by decide +kernel
theorem dX12_allElse_94 : decode cX12_allElse 94 = .ok (.iload_n 1, 1) := by decide +kernel
theorem dX12_allElse_95 : decode cX12_allElse 95 = .ok (.ireturn, 1) := by decide +kernel
theorem dX12_areBoth_0 : decode cX12_areBoth 0 = .ok (.aload_n 0, 1) := by decide +kernel
theorem dX12_areBoth_1 : decode cX12_areBoth 1 = .ok (.iload_n 1, 1) := by decide +kernel
theorem dX12_areBoth_2 : decode cX12_areBoth 2 = .ok (.i2l, 1) := by decide +kernel
theorem dX12_areBoth_3 : decode cX12_areBoth 3 = .ok (.invokevirtual 225, 3) := by decide +kernel
theorem dX12_areBoth_6 : decode cX12_areBoth 6 = .ok (.ifCond .eq 16, 3) := by decide +kernel
theorem dX12_areBoth_22 : decode cX12_areBoth 22 = .ok (.iconst 0, 1) := by decide +kernel
theorem dX12_areBoth_23 : decode cX12_areBoth 23 = .ok (.ireturn, 1) := by decide +kernel
theorem dX12_asked_0 : decode cX12_asked 0 = .ok (.iload_n 2, 1) := by decide +kernel
theorem dX12_asked_1 : decode cX12_asked 1 = .ok (.ifCond .eq 20, 3) := by decide +kernel
theorem dX12_asked_4 : decode cX12_asked 4 = .ok (.iload_n 2, 1) := by decide +kernel
theorem dX12_asked_5 : decode cX12_asked 5 = .ok (.i2l, 1) := by decide +kernel
theorem dX12_asked_6 : decode cX12_asked 6 = .ok (.ldc2_w 300, 3) := by decide +kernel
theorem dX12_asked_9 : decode cX12_asked 9 = .ok (.ldc2_w 382, 3) := by decide +kernel
theorem dX12_asked_12 : decode cX12_asked 12 = .ok (.invokestatic 134, 3) := by decide +kernel
theorem dX12_asked_15 : decode cX12_asked 15 = .ok (.ifCond .ne 6, 3) := by decide +kernel
theorem dX12_asked_18 : decode cX12_asked 18 = .ok (.bipush (-2), 2) := by decide +kernel
theorem dX12_asked_20 : decode cX12_asked 20 = .ok (.ireturn, 1) := by decide +kernel
theorem dX12_asked_21 : decode cX12_asked 21 = .ok (.aload_n 0, 1) := by decide +kernel
theorem dX12_asked_22 : decode cX12_asked 22 = .ok (.iload_n 1, 1) := by decide +kernel
theorem dX12_asked_23 : decode cX12_asked 23 = .ok (.invokevirtual 384, 3) := by decide +kernel
theorem dX12_asked_26 : decode cX12_asked 26 = .ok (.istore 4, 2) := by decide +kernel
theorem dX12_asked_28 : decode cX12_asked 28 = .ok (.iload 4, 2) := by decide +kernel
theorem dX12_asked_30 : decode cX12_asked 30 = .ok (.iconst (-1), 1) := by decide +kernel
theorem dX12_asked_31 : decode cX12_asked 31 = .ok (.if_icmp .ne 13, 3) := by decide +kernel
theorem dX12_asked_44 : decode cX12_asked 44 = .ok (.iload_n 2, 1) := by decide +kernel
theorem dX12_asked_45 : decode cX12_asked 45 = .ok (.ifCond .le 35, 3) := by decide +kernel
theorem dX12_asked_48 : decode cX12_asked 48 = .ok (.iload_n 2, 1) := by decide +kernel
theorem dX12_asked_49 : decode cX12_asked 49 = .ok (.bipush 10, 2) := by decide +kernel
theorem dX12_asked_51 : decode cX12_asked 51 = .ok (.isub, 1) := by decide +kernel
theorem dX12_asked_52 : decode cX12_asked 52 = .ok (.aload_n 0, 1) := by decide +kernel
theorem dX12_asked_53 : decode cX12_asked 53 = .ok (.getfield 13, 3) := by decide +kernel
theorem dX12_asked_56 : decode cX12_asked 56 = .ok (.iconst 2, 1) := by decide +kernel
theorem dX12_asked_57 : decode cX12_asked 57 = .ok (.iaload, 1) := by decide +kernel
theorem dX12_asked_58 : decode cX12_asked 58 = .ok (.if_icmp .ge 20, 3) := by decide +kernel
theorem dX12_asked_78 : decode cX12_asked 78 = .ok (.iconst (-1), 1) := by decide +kernel
theorem dX12_asked_79 : decode cX12_asked 79 = .ok (.ireturn, 1) := by decide +kernel
theorem dX12_asked_80 : decode cX12_asked 80 = .ok (.iload_n 1, 1) := by decide +kernel
theorem dX12_asked_81 : decode cX12_asked 81 = .ok (.iconst 2, 1) := by decide +kernel
theorem dX12_asked_82 : decode cX12_asked 82 = .ok (.if_icmp .ne 17, 3) := by decide +kernel
theorem dX12_asked_85 : decode cX12_asked 85 = .ok (.aload_n 0, 1) := by decide +kernel
theorem dX12_asked_86 : decode cX12_asked 86 = .ok (.aload_n 0, 1) := by decide +kernel
theorem dX12_asked_87 : decode cX12_asked 87 = .ok (.getfield 40, 3) := by decide +kernel
theorem dX12_asked_90 : decode cX12_asked 90 = .ok (.iload 4, 2) := by decide +kernel
theorem dX12_asked_92 : decode cX12_asked 92 = .ok (.iaload, 1) := by decide +kernel
theorem dX12_asked_93 : decode cX12_asked 93 = .ok (.invokevirtual 376, 3) := by decide +kernel
theorem dX12_asked_96 : decode cX12_asked 96 = .ok (.goto 15, 3) := by decide +kernel
theorem dX12_asked_99 : decode cX12_asked 99 = .ok (.aload_n 0, 1) := by decide +kernel
theorem dX12_asked_100 : decode cX12_asked 100 = .ok (.aload_n 0, 1) := by decide +kernel
theorem dX12_asked_101 : decode cX12_asked 101 = .ok (.getfield 40, 3) := by decide +kernel
theorem dX12_asked_104 : decode cX12_asked 104 = .ok (.iload 4, 2) := by decide +kernel
theorem dX12_asked_106 : decode cX12_asked 106 = .ok (.iaload, 1) := by decide +kernel
theorem dX12_asked_107 : decode cX12_asked 107 = .ok (.iload_n 1, 1) := by decide +kernel
theorem dX12_asked_108 : decode cX12_asked 108 = .ok (.invokevirtual 379, 3) := by decide +kernel
theorem dX12_asked_111 : decode cX12_asked 111 = .ok (.ireturn, 1) := by decide +kernel
theorem dX12_away_0 : decode cX12_away 0 = .ok (.iconst 0, 1) := by decide +kernel
theorem dX12_away_1 : decode cX12_away 1 = .ok (.istore_n 1, 1) := by decide +kernel
theorem dX12_away_2 : decode cX12_away 2 = .ok (.iconst 0, 1) := by decide +kernel
theorem dX12_away_3 : decode cX12_away 3 = .ok (.istore_n 2, 1) := by decide +kernel
theorem dX12_away_4 : decode cX12_away 4 = .ok (.iload_n 2, 1) := by decide +kernel
theorem dX12_away_5 : decode cX12_away 5 = .ok (.aload_n 0, 1) := by decide +kernel
theorem dX12_away_6 : decode cX12_away 6 = .ok (.getfield 13, 3) := by decide +kernel
theorem dX12_away_9 : decode cX12_away 9 = .ok (.iconst 2, 1) := by decide +kernel
theorem dX12_away_10 : decode cX12_away 10 = .ok (.iaload, 1) := by decide +kernel
theorem dX12_away_11 : decode cX12_away 11 = .ok (.if_icmp .ge 30, 3) := by decide +kernel
theorem dX12_away_41 : decode cX12_away 41 = .ok (.iload_n 1, 1) := by decide +kernel
theorem dX12_away_42 : decode cX12_away 42 = .ok (.ireturn, 1) := by decide +kernel
theorem dX12_best_0 : decode cX12_best 0 = .ok (.aload_n 0, 1) := by decide +kernel
theorem dX12_best_1 : decode cX12_best 1 = .ok (.iconst 0, 1) := by decide +kernel
theorem dX12_best_2 : decode cX12_best 2 = .ok (.putfield 1, 3) := by decide +kernel
theorem dX12_best_5 : decode cX12_best 5 = .ok (.aload_n 0, 1) := by decide +kernel
theorem dX12_best_6 : decode cX12_best 6 = .ok (.iconst 0, 1) := by decide +kernel
theorem dX12_best_7 : decode cX12_best 7 = .ok (.iload_n 1, 1) := by decide +kernel
theorem dX12_best_8 : decode cX12_best 8 = .ok (.ldc 240, 2) := by decide +kernel
theorem dX12_best_10 : decode cX12_best 10 = .ok (.invokevirtual 387, 3) := by decide +kernel
theorem dX12_best_13 : decode cX12_best 13 = .ok (.ireturn, 1) := by decide +kernel
theorem dX12_bestMap_0 : decode cX12_bestMap 0 = .ok (.aload_n 0, 1) := by decide +kernel
theorem dX12_bestMap_1 : decode cX12_bestMap 1 = .ok (.iconst (-1), 1) := by decide +kernel
theorem dX12_bestMap_2 : decode cX12_bestMap 2 = .ok (.invokevirtual 258, 3) := by decide +kernel
theorem dX12_bestMap_5 : decode cX12_bestMap 5 = .ok (.iconst (-1), 1) := by decide +kernel
theorem dX12_bestMap_6 : decode cX12_bestMap 6 = .ok (.istore_n 2, 1) := by decide +kernel
theorem dX12_bestMap_7 : decode cX12_bestMap 7 = .ok (.iconst 0, 1) := by decide +kernel
theorem dX12_bestMap_8 : decode cX12_bestMap 8 = .ok (.istore_n 3, 1) := by decide +kernel
theorem dX12_bestMap_9 : decode cX12_bestMap 9 = .ok (.iconst 0, 1) := by decide +kernel
theorem dX12_bestMap_10 : decode cX12_bestMap 10 = .ok (.istore 4, 2) := by decide +kernel
theorem dX12_bestMap_12 : decode cX12_bestMap 12 = .ok (.iload 4, 2) := by decide +kernel
theorem dX12_bestMap_14 : decode cX12_bestMap 14 = .ok (.aload_n 0, 1) := by decide +kernel
theorem dX12_bestMap_15 : decode cX12_bestMap 15 = .ok (.getfield 244, 3) := by decide +kernel
theorem dX12_bestMap_18 : decode cX12_bestMap 18 = .ok (.if_icmp .ge 43, 3) := by decide +kernel
theorem dX12_bestMap_21 : decode cX12_bestMap 21 = .ok (.aload_n 0, 1) := by decide +kernel
theorem dX12_bestMap_22 : decode cX12_bestMap 22 = .ok (.aload_n 0, 1) := by decide +kernel
theorem dX12_bestMap_23 : decode cX12_bestMap 23 = .ok (.getfield 40, 3) := by decide +kernel
theorem dX12_bestMap_26 : decode cX12_bestMap 26 = .ok (.iload 4, 2) := by decide +kernel
theorem dX12_bestMap_28 : decode cX12_bestMap 28 = .ok (.iaload, 1) := by decide +kernel
theorem dX12_bestMap_29 : decode cX12_bestMap 29 = .ok (.iload_n 1, 1) := by decide +kernel
theorem dX12_bestMap_30 : decode cX12_bestMap 30 = .ok (.invokevirtual 379, 3) := by decide +kernel
theorem dX12_bestMap_33 : decode cX12_bestMap 33 = .ok (.istore 5, 2) := by decide +kernel
theorem dX12_bestMap_35 : decode cX12_bestMap 35 = .ok (.iload_n 2, 1) := by decide +kernel
theorem dX12_bestMap_36 : decode cX12_bestMap 36 = .ok (.iconst (-1), 1) := by decide +kernel
theorem dX12_bestMap_37 : decode cX12_bestMap 37 = .ok (.if_icmp .eq 12, 3) := by decide +kernel
theorem dX12_bestMap_49 : decode cX12_bestMap 49 = .ok (.iload 4, 2) := by decide +kernel
theorem dX12_bestMap_51 : decode cX12_bestMap 51 = .ok (.istore_n 2, 1) := by decide +kernel
theorem dX12_bestMap_52 : decode cX12_bestMap 52 = .ok (.iload 5, 2) := by decide +kernel
theorem dX12_bestMap_54 : decode cX12_bestMap 54 = .ok (.istore_n 3, 1) := by decide +kernel
theorem dX12_bestMap_55 : decode cX12_bestMap 55 = .ok (.iinc 4 1, 3) := by decide +kernel
theorem dX12_bestMap_58 : decode cX12_bestMap 58 = .ok (.goto (-46), 3) := by decide +kernel
theorem dX12_bestMap_61 : decode cX12_bestMap 61 = .ok (.iload_n 2, 1) := by decide +kernel
theorem dX12_bestMap_62 : decode cX12_bestMap 62 = .ok (.ireturn, 1) := by decide +kernel
theorem dX12_bestMending_0 : decode cX12_bestMending 0 = .ok (.aload_n 0, 1) := by decide +kernel
theorem dX12_bestMending_1 : decode cX12_bestMending 1 = .ok (.iconst 0, 1) := by decide +kernel
theorem dX12_bestMending_2 : decode cX12_bestMending 2 = .ok (.putfield 1, 3) := by decide +kernel
theorem dX12_bestMending_5 : decode cX12_bestMending 5 = .ok (.aload_n 0, 1) := by decide +kernel
theorem dX12_bestMending_6 : decode cX12_bestMending 6 = .ok (.iconst 0, 1) := by decide +kernel
theorem dX12_bestMending_7 : decode cX12_bestMending 7 = .ok (.invokevirtual 384, 3) := by decide +kernel
theorem dX12_bestMending_10 : decode cX12_bestMending 10 = .ok (.istore_n 1, 1) := by decide +kernel
theorem dX12_bestMending_11 : decode cX12_bestMending 11 = .ok (.iload_n 1, 1) := by decide +kernel
theorem dX12_bestMending_12 : decode cX12_bestMending 12 = .ok (.iconst (-1), 1) := by decide +kernel
theorem dX12_bestMending_13 : decode cX12_bestMending 13 = .ok (.if_icmp .ne 5, 3) := by decide +kernel
theorem dX12_bestMending_18 : decode cX12_bestMending 18 = .ok (.aload_n 0, 1) := by decide +kernel
theorem dX12_bestMending_19 : decode cX12_bestMending 19 = .ok (.aload_n 0, 1) := by decide +kernel
theorem dX12_bestMending_20 : decode cX12_bestMending 20 = .ok (.getfield 40, 3) := by decide +kernel
theorem dX12_bestMending_23 : decode cX12_bestMending 23 = .ok (.iload_n 1, 1) := by decide +kernel
theorem dX12_bestMending_24 : decode cX12_bestMending 24 = .ok (.iaload, 1) := by decide +kernel
theorem dX12_bestMending_25 : decode cX12_bestMending 25 = .ok (.invokevirtual 370, 3) := by decide +kernel
theorem dX12_bestMending_28 : decode cX12_bestMending 28 = .ok (.istore_n 2, 1) := by decide +kernel
theorem dX12_bestMending_29 : decode cX12_bestMending 29 = .ok (.iconst (-1), 1) := by decide +kernel
theorem dX12_bestMending_30 : decode cX12_bestMending 30 = .ok (.istore_n 3, 1) := by decide +kernel
theorem dX12_bestMending_31 : decode cX12_bestMending 31 = .ok (.iconst 0, 1) := by decide +kernel
theorem dX12_bestMending_32 : decode cX12_bestMending 32 = .ok (.istore 4, 2) := by decide +kernel
theorem dX12_bestMending_34 : decode cX12_bestMending 34 = .ok (.iload 4, 2) := by decide +kernel
theorem dX12_bestMending_36 : decode cX12_bestMending 36 = .ok (.aload_n 0, 1) := by decide +kernel
theorem dX12_bestMending_37 : decode cX12_bestMending 37 = .ok (.getfield 13, 3) := by decide +kernel
theorem dX12_bestMending_40 : decode cX12_bestMending 40 = .ok (.iconst 1, 1) := by decide +kernel
theorem dX12_bestMending_41 : decode cX12_bestMending 41 = .ok (.iaload, 1) := by decide +kernel
theorem dX12_bestMending_42 : decode cX12_bestMending 42 = .ok (.if_icmp .ge 93, 3) := by decide +kernel
theorem dX12_bestMending_135 : decode cX12_bestMending 135 = .ok (.iload_n 3, 1) := by decide +kernel
theorem dX12_bestMending_136 : decode cX12_bestMending 136 = .ok (.ireturn, 1) := by decide +kernel
theorem dX12_byRings_0 : decode cX12_byRings 0 = .ok (.aload_n 0, 1) := by decide +kernel
theorem dX12_byRings_1 : decode cX12_byRings 1 = .ok (.iconst 0, 1) := by decide +kernel
theorem dX12_byRings_2 : decode cX12_byRings 2 = .ok (.putfield 1, 3) := by decide +kernel
theorem dX12_byRings_5 : decode cX12_byRings 5 = .ok (.aload_n 0, 1) := by decide +kernel
theorem dX12_byRings_6 : decode cX12_byRings 6 = .ok (.iload_n 1, 1) := by decide +kernel
theorem dX12_byRings_7 : decode cX12_byRings 7 = .ok (.i2l, 1) := by decide +kernel
theorem dX12_byRings_8 : decode cX12_byRings 8 = .ok (.invokevirtual 225, 3) := by decide +kernel
theorem dX12_byRings_11 : decode cX12_byRings 11 = .ok (.ifCond .ne 6, 3) := by decide +kernel
theorem dX12_byRings_14 : decode cX12_byRings 14 = .ok (.bipush (-2), 2) := by decide +kernel
theorem dX12_byRings_16 : decode cX12_byRings 16 = .ok (.ireturn, 1) := by decide +kernel
theorem dX12_count_0 : decode cX12_count 0 = .ok (.aload_n 0, 1) := by decide +kernel
theorem dX12_count_1 : decode cX12_count 1 = .ok (.iconst 0, 1) := by decide +kernel
theorem dX12_count_2 : decode cX12_count 2 = .ok (.putfield 1, 3) := by decide +kernel
theorem dX12_count_5 : decode cX12_count 5 = .ok (.iload_n 1, 1) := by decide +kernel
theorem dX12_count_6 : decode cX12_count 6 = .ok (.tableswitch 123 0 8 #[50, 57, 64, 69, 78, 97, 102, 111, 116], 50) := by decide +kernel
theorem dX12_count_56 : decode cX12_count 56 = .ok (.aload_n 0, 1) := by decide +kernel
theorem dX12_count_57 : decode cX12_count 57 = .ok (.getfield 13, 3) := by decide +kernel
theorem dX12_count_60 : decode cX12_count 60 = .ok (.iconst 1, 1) := by decide +kernel
theorem dX12_count_61 : decode cX12_count 61 = .ok (.iaload, 1) := by decide +kernel
theorem dX12_count_62 : decode cX12_count 62 = .ok (.ireturn, 1) := by decide +kernel
theorem dX12_count_63 : decode cX12_count 63 = .ok (.aload_n 0, 1) := by decide +kernel
theorem dX12_count_64 : decode cX12_count 64 = .ok (.getfield 13, 3) := by decide +kernel
theorem dX12_count_67 : decode cX12_count 67 = .ok (.iconst 2, 1) := by decide +kernel
theorem dX12_count_68 : decode cX12_count 68 = .ok (.iaload, 1) := by decide +kernel
theorem dX12_count_69 : decode cX12_count 69 = .ok (.ireturn, 1) := by decide +kernel
theorem dX12_count_70 : decode cX12_count 70 = .ok (.aload_n 0, 1) := by decide +kernel
theorem dX12_count_71 : decode cX12_count 71 = .ok (.invokevirtual 338, 3) := by decide +kernel
theorem dX12_count_74 : decode cX12_count 74 = .ok (.ireturn, 1) := by decide +kernel
theorem dX12_count_75 : decode cX12_count 75 = .ok (.aload_n 0, 1) := by decide +kernel
theorem dX12_count_76 : decode cX12_count 76 = .ok (.getfield 13, 3) := by decide +kernel
theorem dX12_count_79 : decode cX12_count 79 = .ok (.sipush 147, 3) := by decide +kernel
theorem dX12_count_82 : decode cX12_count 82 = .ok (.iaload, 1) := by decide +kernel
theorem dX12_count_83 : decode cX12_count 83 = .ok (.ireturn, 1) := by decide +kernel
theorem dX12_count_84 : decode cX12_count 84 = .ok (.aload_n 0, 1) := by decide +kernel
theorem dX12_count_85 : decode cX12_count 85 = .ok (.getfield 13, 3) := by decide +kernel
theorem dX12_count_88 : decode cX12_count 88 = .ok (.iconst 1, 1) := by decide +kernel
theorem dX12_count_89 : decode cX12_count 89 = .ok (.iaload, 1) := by decide +kernel
theorem dX12_count_90 : decode cX12_count 90 = .ok (.aload_n 0, 1) := by decide +kernel
theorem dX12_count_91 : decode cX12_count 91 = .ok (.getfield 13, 3) := by decide +kernel
theorem dX12_count_94 : decode cX12_count 94 = .ok (.iconst 2, 1) := by decide +kernel
theorem dX12_count_95 : decode cX12_count 95 = .ok (.iaload, 1) := by decide +kernel
theorem dX12_count_96 : decode cX12_count 96 = .ok (.aload_n 0, 1) := by decide +kernel
theorem dX12_count_97 : decode cX12_count 97 = .ok (.invokevirtual 338, 3) := by decide +kernel
theorem dX12_count_100 : decode cX12_count 100 = .ok (.isub, 1) := by decide +kernel
theorem dX12_count_101 : decode cX12_count 101 = .ok (.isub, 1) := by decide +kernel
theorem dX12_count_102 : decode cX12_count 102 = .ok (.ireturn, 1) := by decide +kernel
theorem dX12_count_103 : decode cX12_count 103 = .ok (.aload_n 0, 1) := by decide +kernel
theorem dX12_count_104 : decode cX12_count 104 = .ok (.invokevirtual 430, 3) := by decide +kernel
theorem dX12_count_107 : decode cX12_count 107 = .ok (.ireturn, 1) := by decide +kernel
theorem dX12_count_108 : decode cX12_count 108 = .ok (.aload_n 0, 1) := by decide +kernel
theorem dX12_count_109 : decode cX12_count 109 = .ok (.getfield 13, 3) := by decide +kernel
theorem dX12_count_112 : decode cX12_count 112 = .ok (.sipush 148, 3) := by decide +kernel
theorem dX12_count_115 : decode cX12_count 115 = .ok (.iaload, 1) := by decide +kernel
theorem dX12_count_116 : decode cX12_count 116 = .ok (.ireturn, 1) := by decide +kernel
theorem dX12_count_117 : decode cX12_count 117 = .ok (.aload_n 0, 1) := by decide +kernel
theorem dX12_count_118 : decode cX12_count 118 = .ok (.getfield 72, 3) := by decide +kernel
theorem dX12_count_121 : decode cX12_count 121 = .ok (.ireturn, 1) := by decide +kernel
theorem dX12_count_122 : decode cX12_count 122 = .ok (.aload_n 0, 1) := by decide +kernel
theorem dX12_count_123 : decode cX12_count 123 = .ok (.getfield 13, 3) := by decide +kernel
theorem dX12_count_126 : decode cX12_count 126 = .ok (.iconst 0, 1) := by decide +kernel
theorem dX12_count_127 : decode cX12_count 127 = .ok (.iaload, 1) := by decide +kernel
theorem dX12_count_128 : decode cX12_count 128 = .ok (.ireturn, 1) := by decide +kernel
theorem dX12_count_129 : decode cX12_count 129 = .ok (.iconst (-1), 1) := by decide +kernel
theorem dX12_count_130 : decode cX12_count 130 = .ok (.ireturn, 1) := by decide +kernel
theorem dX12_draws_0 : decode cX12_draws 0 = .ok (.aload_n 0, 1) := by decide +kernel
theorem dX12_draws_1 : decode cX12_draws 1 = .ok (.iconst 0, 1) := by decide +kernel
theorem dX12_draws_2 : decode cX12_draws 2 = .ok (.putfield 1, 3) := by decide +kernel
theorem dX12_draws_5 : decode cX12_draws 5 = .ok (.iload_n 1, 1) := by decide +kernel
theorem dX12_draws_6 : decode cX12_draws 6 = .ok (.ifCond .ge 6, 3) := by decide +kernel
theorem dX12_draws_9 : decode cX12_draws 9 = .ok (.bipush (-3), 2) := by decide +kernel
theorem dX12_draws_11 : decode cX12_draws 11 = .ok (.ireturn, 1) := by decide +kernel
theorem dX12_draws_12 : decode cX12_draws 12 = .ok (.aload_n 0, 1) := by decide +kernel
theorem dX12_draws_13 : decode cX12_draws 13 = .ok (.iconst (-1), 1) := by decide +kernel
theorem dX12_draws_14 : decode cX12_draws 14 = .ok (.invokevirtual 258, 3) := by decide +kernel
theorem dX12_draws_17 : decode cX12_draws 17 = .ok (.aload_n 0, 1) := by decide +kernel
theorem dX12_draws_18 : decode cX12_draws 18 = .ok (.getfield 244, 3) := by decide +kernel
theorem dX12_draws_21 : decode cX12_draws 21 = .ok (.ifCond .ne 6, 3) := by decide +kernel
theorem dX12_draws_27 : decode cX12_draws 27 = .ok (.aload_n 0, 1) := by decide +kernel
theorem dX12_draws_28 : decode cX12_draws 28 = .ok (.invokevirtual 261, 3) := by decide +kernel
theorem dX12_draws_31 : decode cX12_draws 31 = .ok (.aload_n 0, 1) := by decide +kernel
theorem dX12_draws_32 : decode cX12_draws 32 = .ok (.iload_n 1, 1) := by decide +kernel
theorem dX12_draws_33 : decode cX12_draws 33 = .ok (.i2l, 1) := by decide +kernel
theorem dX12_draws_34 : decode cX12_draws 34 = .ok (.invokevirtual 264, 3) := by decide +kernel
theorem dX12_draws_37 : decode cX12_draws 37 = .ok (.istore_n 2, 1) := by decide +kernel
theorem dX12_draws_38 : decode cX12_draws 38 = .ok (.aload_n 0, 1) := by decide +kernel
theorem dX12_draws_39 : decode cX12_draws 39 = .ok (.invokevirtual 268, 3) := by decide +kernel
theorem dX12_draws_42 : decode cX12_draws 42 = .ok (.iload_n 2, 1) := by decide +kernel
theorem dX12_draws_43 : decode cX12_draws 43 = .ok (.ireturn, 1) := by decide +kernel
theorem dX12_drawsBy_0 : decode cX12_drawsBy 0 = .ok (.lload_n 1, 1) := by decide +kernel
theorem dX12_drawsBy_1 : decode cX12_drawsBy 1 = .ok (.aload_n 0, 1) := by decide +kernel
theorem dX12_drawsBy_2 : decode cX12_drawsBy 2 = .ok (.getfield 244, 3) := by decide +kernel
theorem dX12_drawsBy_5 : decode cX12_drawsBy 5 = .ok (.i2l, 1) := by decide +kernel
theorem dX12_drawsBy_6 : decode cX12_drawsBy 6 = .ok (.lrem, 1) := by decide +kernel
theorem dX12_drawsBy_7 : decode cX12_drawsBy 7 = .ok (.l2i, 1) := by decide +kernel
theorem dX12_drawsBy_8 : decode cX12_drawsBy 8 = .ok (.istore_n 3, 1) := by decide +kernel
theorem dX12_drawsBy_9 : decode cX12_drawsBy 9 = .ok (.iconst 0, 1) := by decide +kernel
theorem dX12_drawsBy_10 : decode cX12_drawsBy 10 = .ok (.istore 4, 2) := by decide +kernel
theorem dX12_drawsBy_12 : decode cX12_drawsBy 12 = .ok (.iload 4, 2) := by decide +kernel
theorem dX12_drawsBy_14 : decode cX12_drawsBy 14 = .ok (.aload_n 0, 1) := by decide +kernel
theorem dX12_drawsBy_15 : decode cX12_drawsBy 15 = .ok (.getfield 13, 3) := by decide +kernel
theorem dX12_drawsBy_18 : decode cX12_drawsBy 18 = .ok (.iconst 2, 1) := by decide +kernel
theorem dX12_drawsBy_19 : decode cX12_drawsBy 19 = .ok (.iaload, 1) := by decide +kernel
theorem dX12_drawsBy_20 : decode cX12_drawsBy 20 = .ok (.if_icmp .ge 54, 3) := by decide +kernel
theorem dX12_drawsBy_74 : decode cX12_drawsBy 74 = .ok (.aload_n 0, 1) := by decide +kernel
theorem dX12_drawsBy_75 : decode cX12_drawsBy 75 = .ok (.getfield 13, 3) := by decide +kernel
theorem dX12_drawsBy_78 : decode cX12_drawsBy 78 = .ok (.sipush 147, 3) := by decide +kernel
theorem dX12_drawsBy_81 : decode cX12_drawsBy 81 = .ok (.dup2, 1) := by decide +kernel
theorem dX12_drawsBy_82 : decode cX12_drawsBy 82 = .ok (.iaload, 1) := by decide +kernel
theorem dX12_drawsBy_83 : decode cX12_drawsBy 83 = .ok (.iconst 1, 1) := by decide +kernel
theorem dX12_drawsBy_84 : decode cX12_drawsBy 84 = .ok (.iadd, 1) := by decide +kernel
theorem dX12_drawsBy_85 : decode cX12_drawsBy 85 = .ok (.iastore, 1) := by decide +kernel
theorem dX12_drawsBy_86 : decode cX12_drawsBy 86 = .ok (.iload_n 3, 1) := by decide +kernel
theorem dX12_drawsBy_87 : decode cX12_drawsBy 87 = .ok (.ireturn, 1) := by decide +kernel
theorem dX12_envies_0 : decode cX12_envies 0 = .ok (.aload_n 0, 1) := by decide +kernel
theorem dX12_envies_1 : decode cX12_envies 1 = .ok (.iconst 0, 1) := by decide +kernel
theorem dX12_envies_2 : decode cX12_envies 2 = .ok (.putfield 1, 3) := by decide +kernel
theorem dX12_envies_5 : decode cX12_envies 5 = .ok (.aload_n 0, 1) := by decide +kernel
theorem dX12_envies_6 : decode cX12_envies 6 = .ok (.iload_n 1, 1) := by decide +kernel
theorem dX12_envies_7 : decode cX12_envies 7 = .ok (.i2l, 1) := by decide +kernel
theorem dX12_envies_8 : decode cX12_envies 8 = .ok (.invokevirtual 225, 3) := by decide +kernel
theorem dX12_envies_11 : decode cX12_envies 11 = .ok (.ifCond .ne 6, 3) := by decide +kernel
theorem dX12_envies_14 : decode cX12_envies 14 = .ok (.bipush (-2), 2) := by decide +kernel
theorem dX12_envies_16 : decode cX12_envies 16 = .ok (.ireturn, 1) := by decide +kernel
theorem dX12_fairest_0 : decode cX12_fairest 0 = .ok (.aload_n 0, 1) := by decide +kernel
theorem dX12_fairest_1 : decode cX12_fairest 1 = .ok (.iconst 0, 1) := by decide +kernel
theorem dX12_fairest_2 : decode cX12_fairest 2 = .ok (.putfield 1, 3) := by decide +kernel
theorem dX12_fairest_5 : decode cX12_fairest 5 = .ok (.aload_n 0, 1) := by decide +kernel
theorem dX12_fairest_6 : decode cX12_fairest 6 = .ok (.iconst 1, 1) := by decide +kernel
theorem dX12_fairest_7 : decode cX12_fairest 7 = .ok (.iload_n 1, 1) := by decide +kernel
theorem dX12_fairest_8 : decode cX12_fairest 8 = .ok (.ldc 240, 2) := by decide +kernel
theorem dX12_fairest_10 : decode cX12_fairest 10 = .ok (.invokevirtual 387, 3) := by decide +kernel
theorem dX12_fairest_13 : decode cX12_fairest 13 = .ok (.ireturn, 1) := by decide +kernel
theorem dX12_fault_0 : decode cX12_fault 0 = .ok (.aload_n 0, 1) := by decide +kernel
theorem dX12_fault_1 : decode cX12_fault 1 = .ok (.iconst 0, 1) := by decide +kernel
theorem dX12_fault_2 : decode cX12_fault 2 = .ok (.putfield 1, 3) := by decide +kernel
theorem dX12_fault_5 : decode cX12_fault 5 = .ok (.iload_n 1, 1) := by decide +kernel
theorem dX12_fault_6 : decode cX12_fault 6 = .ok (.ifCond .ne 10, 3) := by decide +kernel
theorem dX12_fault_9 : decode cX12_fault 9 = .ok (.aload_n 0, 1) := by decide +kernel
theorem dX12_fault_10 : decode cX12_fault 10 = .ok (.getfield 195, 3) := by decide +kernel
theorem dX12_fault_13 : decode cX12_fault 13 = .ok (.goto 16, 3) := by decide +kernel
theorem dX12_fault_16 : decode cX12_fault 16 = .ok (.iload_n 1, 1) := by decide +kernel
theorem dX12_fault_17 : decode cX12_fault 17 = .ok (.iconst 1, 1) := by decide +kernel
theorem dX12_fault_18 : decode cX12_fault 18 = .ok (.if_icmp .ne 10, 3) := by decide +kernel
theorem dX12_fault_21 : decode cX12_fault 21 = .ok (.aload_n 0, 1) := by decide +kernel
theorem dX12_fault_22 : decode cX12_fault 22 = .ok (.getfield 27, 3) := by decide +kernel
theorem dX12_fault_25 : decode cX12_fault 25 = .ok (.goto 4, 3) := by decide +kernel
theorem dX12_fault_28 : decode cX12_fault 28 = .ok (.iconst (-1), 1) := by decide +kernel
theorem dX12_fault_29 : decode cX12_fault 29 = .ok (.ireturn, 1) := by decide +kernel
theorem dX12_faultsMany_0 : decode cX12_faultsMany 0 = .ok (.iconst 0, 1) := by decide +kernel
theorem dX12_faultsMany_1 : decode cX12_faultsMany 1 = .ok (.istore_n 1, 1) := by decide +kernel
theorem dX12_faultsMany_2 : decode cX12_faultsMany 2 = .ok (.iconst 0, 1) := by decide +kernel
theorem dX12_faultsMany_3 : decode cX12_faultsMany 3 = .ok (.istore_n 2, 1) := by decide +kernel
theorem dX12_faultsMany_4 : decode cX12_faultsMany 4 = .ok (.iload_n 2, 1) := by decide +kernel
theorem dX12_faultsMany_5 : decode cX12_faultsMany 5 = .ok (.aload_n 0, 1) := by decide +kernel
theorem dX12_faultsMany_6 : decode cX12_faultsMany 6 = .ok (.getfield 13, 3) := by decide +kernel
theorem dX12_faultsMany_9 : decode cX12_faultsMany 9 = .ok (.iconst 1, 1) := by decide +kernel
theorem dX12_faultsMany_10 : decode cX12_faultsMany 10 = .ok (.iaload, 1) := by decide +kernel
theorem dX12_faultsMany_11 : decode cX12_faultsMany 11 = .ok (.if_icmp .ge 22, 3) := by decide +kernel
theorem dX12_faultsMany_33 : decode cX12_faultsMany 33 = .ok (.iload_n 1, 1) := by decide +kernel
theorem dX12_faultsMany_34 : decode cX12_faultsMany 34 = .ok (.ireturn, 1) := by decide +kernel
theorem dX12_feed_0 : decode cX12_feed 0 = .ok (.aload_n 0, 1) := by decide +kernel
theorem dX12_feed_1 : decode cX12_feed 1 = .ok (.iconst 0, 1) := by decide +kernel
theorem dX12_feed_2 : decode cX12_feed 2 = .ok (.putfield 1, 3) := by decide +kernel
theorem dX12_feed_5 : decode cX12_feed 5 = .ok (.aload_n 0, 1) := by decide +kernel
theorem dX12_feed_6 : decode cX12_feed 6 = .ok (.getfield 72, 3) := by decide +kernel
theorem dX12_feed_9 : decode cX12_feed 9 = .ok (.bipush 20, 2) := by decide +kernel
theorem dX12_feed_11 : decode cX12_feed 11 = .ok (.iadd, 1) := by decide +kernel
theorem dX12_feed_12 : decode cX12_feed 12 = .ok (.sipush 900, 3) := by decide +kernel
theorem dX12_feed_15 : decode cX12_feed 15 = .ok (.if_icmp .le 6, 3) := by decide +kernel
theorem dX12_feed_21 : decode cX12_feed 21 = .ok (.iconst 0, 1) := by decide +kernel
theorem dX12_feed_22 : decode cX12_feed 22 = .ok (.istore 6, 2) := by decide +kernel
theorem dX12_feed_24 : decode cX12_feed 24 = .ok (.iload 6, 2) := by decide +kernel
theorem dX12_feed_26 : decode cX12_feed 26 = .ok (.bipush 20, 2) := by decide +kernel
theorem dX12_feed_28 : decode cX12_feed 28 = .ok (.if_icmp .ge 93, 3) := by decide +kernel
theorem dX12_feed_31 : decode cX12_feed 31 = .ok (.iload 6, 2) := by decide +kernel
theorem dX12_feed_33 : decode cX12_feed 33 = .ok (.iconst 4, 1) := by decide +kernel
theorem dX12_feed_34 : decode cX12_feed 34 = .ok (.if_icmp .ge 7, 3) := by decide +kernel
theorem dX12_feed_37 : decode cX12_feed 37 = .ok (.iload_n 1, 1) := by decide +kernel
theorem dX12_feed_38 : decode cX12_feed 38 = .ok (.goto 39, 3) := by decide +kernel
theorem dX12_feed_41 : decode cX12_feed 41 = .ok (.iload 6, 2) := by decide +kernel
theorem dX12_feed_43 : decode cX12_feed 43 = .ok (.bipush 8, 2) := by decide +kernel
theorem dX12_feed_45 : decode cX12_feed 45 = .ok (.if_icmp .ge 7, 3) := by decide +kernel
theorem dX12_feed_48 : decode cX12_feed 48 = .ok (.iload_n 2, 1) := by decide +kernel
theorem dX12_feed_49 : decode cX12_feed 49 = .ok (.goto 28, 3) := by decide +kernel
theorem dX12_feed_52 : decode cX12_feed 52 = .ok (.iload 6, 2) := by decide +kernel
theorem dX12_feed_54 : decode cX12_feed 54 = .ok (.bipush 12, 2) := by decide +kernel
theorem dX12_feed_56 : decode cX12_feed 56 = .ok (.if_icmp .ge 7, 3) := by decide +kernel
theorem dX12_feed_59 : decode cX12_feed 59 = .ok (.iload_n 3, 1) := by decide +kernel
theorem dX12_feed_60 : decode cX12_feed 60 = .ok (.goto 17, 3) := by decide +kernel
theorem dX12_feed_63 : decode cX12_feed 63 = .ok (.iload 6, 2) := by decide +kernel
theorem dX12_feed_65 : decode cX12_feed 65 = .ok (.bipush 16, 2) := by decide +kernel
theorem dX12_feed_67 : decode cX12_feed 67 = .ok (.if_icmp .ge 8, 3) := by decide +kernel
theorem dX12_feed_70 : decode cX12_feed 70 = .ok (.iload 4, 2) := by decide +kernel
theorem dX12_feed_72 : decode cX12_feed 72 = .ok (.goto 5, 3) := by decide +kernel
theorem dX12_feed_75 : decode cX12_feed 75 = .ok (.iload 5, 2) := by decide +kernel
theorem dX12_feed_77 : decode cX12_feed 77 = .ok (.istore 7, 2) := by decide +kernel
theorem dX12_feed_79 : decode cX12_feed 79 = .ok (.aload_n 0, 1) := by decide +kernel
theorem dX12_feed_80 : decode cX12_feed 80 = .ok (.getfield 21, 3) := by decide +kernel
theorem dX12_feed_83 : decode cX12_feed 83 = .ok (.aload_n 0, 1) := by decide +kernel
theorem dX12_feed_84 : decode cX12_feed 84 = .ok (.getfield 72, 3) := by decide +kernel
theorem dX12_feed_87 : decode cX12_feed 87 = .ok (.iload 7, 2) := by decide +kernel
theorem dX12_feed_89 : decode cX12_feed 89 = .ok (.bipush 24, 2) := by decide +kernel
theorem dX12_feed_91 : decode cX12_feed 91 = .ok (.bipush 8, 2) := by decide +kernel
theorem dX12_feed_93 : decode cX12_feed 93 = .ok (.iload 6, 2) := by decide +kernel
theorem dX12_feed_95 : decode cX12_feed 95 = .ok (.iconst 4, 1) := by decide +kernel
theorem dX12_feed_96 : decode cX12_feed 96 = .ok (.irem, 1) := by decide +kernel
theorem dX12_feed_97 : decode cX12_feed 97 = .ok (.imul, 1) := by decide +kernel
theorem dX12_feed_98 : decode cX12_feed 98 = .ok (.isub, 1) := by decide +kernel
theorem dX12_feed_99 : decode cX12_feed 99 = .ok (.ishr, 1) := by decide +kernel
theorem dX12_feed_100 : decode cX12_feed 100 = .ok (.sipush 255, 3) := by decide +kernel
theorem dX12_feed_103 : decode cX12_feed 103 = .ok (.iand, 1) := by decide +kernel
theorem dX12_feed_104 : decode cX12_feed 104 = .ok (.iastore, 1) := by decide +kernel
theorem dX12_feed_105 : decode cX12_feed 105 = .ok (.aload_n 0, 1) := by decide +kernel
theorem dX12_feed_106 : decode cX12_feed 106 = .ok (.dup, 1) := by decide +kernel
theorem dX12_feed_107 : decode cX12_feed 107 = .ok (.getfield 72, 3) := by decide +kernel
theorem dX12_feed_110 : decode cX12_feed 110 = .ok (.iconst 1, 1) := by decide +kernel
theorem dX12_feed_111 : decode cX12_feed 111 = .ok (.iadd, 1) := by decide +kernel
theorem dX12_feed_112 : decode cX12_feed 112 = .ok (.putfield 72, 3) := by decide +kernel
theorem dX12_feed_115 : decode cX12_feed 115 = .ok (.iinc 6 1, 3) := by decide +kernel
theorem dX12_feed_118 : decode cX12_feed 118 = .ok (.goto (-94), 3) := by decide +kernel
theorem dX12_feed_121 : decode cX12_feed 121 = .ok (.aload_n 0, 1) := by decide +kernel
theorem dX12_feed_122 : decode cX12_feed 122 = .ok (.getfield 72, 3) := by decide +kernel
theorem dX12_feed_125 : decode cX12_feed 125 = .ok (.ireturn, 1) := by decide +kernel
theorem dX12_flat_0 : decode cX12_flat 0 = .ok (.aload_n 0, 1) := by decide +kernel
theorem dX12_flat_1 : decode cX12_flat 1 = .ok (.iconst 0, 1) := by decide +kernel
theorem dX12_flat_2 : decode cX12_flat 2 = .ok (.putfield 1, 3) := by decide +kernel
theorem dX12_flat_5 : decode cX12_flat 5 = .ok (.aload_n 0, 1) := by decide +kernel
theorem dX12_flat_6 : decode cX12_flat 6 = .ok (.iload_n 1, 1) := by decide +kernel
theorem dX12_flat_7 : decode cX12_flat 7 = .ok (.i2l, 1) := by decide +kernel
theorem dX12_flat_8 : decode cX12_flat 8 = .ok (.invokevirtual 216, 3) := by decide +kernel
theorem dX12_flat_11 : decode cX12_flat 11 = .ok (.ifCond .ne 6, 3) := by decide +kernel
theorem dX12_flat_14 : decode cX12_flat 14 = .ok (.bipush (-8), 2) := by decide +kernel
theorem dX12_flat_16 : decode cX12_flat 16 = .ok (.ireturn, 1) := by decide +kernel
theorem dX12_goesMaps_0 : decode cX12_goesMaps 0 = .ok (.iload_n 1, 1) := by decide +kernel
theorem dX12_goesMaps_1 : decode cX12_goesMaps 1 = .ok (.aload_n 0, 1) := by decide +kernel
theorem dX12_goesMaps_2 : decode cX12_goesMaps 2 = .ok (.getfield 13, 3) := by decide +kernel
theorem dX12_goesMaps_5 : decode cX12_goesMaps 5 = .ok (.iconst 2, 1) := by decide +kernel
theorem dX12_goesMaps_6 : decode cX12_goesMaps 6 = .ok (.iaload, 1) := by decide +kernel
theorem dX12_goesMaps_7 : decode cX12_goesMaps 7 = .ok (.if_icmp .ne 24, 3) := by decide +kernel
theorem dX12_goesMaps_10 : decode cX12_goesMaps 10 = .ok (.aload_n 0, 1) := by decide +kernel
theorem dX12_goesMaps_11 : decode cX12_goesMaps 11 = .ok (.getfield 40, 3) := by decide +kernel
theorem dX12_goesMaps_14 : decode cX12_goesMaps 14 = .ok (.aload_n 0, 1) := by decide +kernel
theorem dX12_goesMaps_15 : decode cX12_goesMaps 15 = .ok (.getfield 244, 3) := by decide +kernel
theorem dX12_goesMaps_18 : decode cX12_goesMaps 18 = .ok (.iload_n 3, 1) := by decide +kernel
theorem dX12_goesMaps_19 : decode cX12_goesMaps 19 = .ok (.iastore, 1) := by decide +kernel
theorem dX12_goesMaps_20 : decode cX12_goesMaps 20 = .ok (.aload_n 0, 1) := by decide +kernel
theorem dX12_goesMaps_21 : decode cX12_goesMaps 21 = .ok (.dup, 1) := by decide +kernel
theorem dX12_goesMaps_22 : decode cX12_goesMaps 22 = .ok (.getfield 244, 3) := by decide +kernel
theorem dX12_goesMaps_25 : decode cX12_goesMaps 25 = .ok (.iconst 1, 1) := by decide +kernel
theorem dX12_goesMaps_26 : decode cX12_goesMaps 26 = .ok (.iadd, 1) := by decide +kernel
theorem dX12_goesMaps_27 : decode cX12_goesMaps 27 = .ok (.putfield 244, 3) := by decide +kernel
theorem dX12_goesMaps_30 : decode cX12_goesMaps 30 = .ok (.return_, 1) := by decide +kernel
theorem dX12_goesRings_0 : decode cX12_goesRings 0 = .ok (.aload_n 0, 1) := by decide +kernel
theorem dX12_goesRings_1 : decode cX12_goesRings 1 = .ok (.invokevirtual 277, 3) := by decide +kernel
theorem dX12_goesRings_4 : decode cX12_goesRings 4 = .ok (.iconst 0, 1) := by decide +kernel
theorem dX12_goesRings_5 : decode cX12_goesRings 5 = .ok (.istore_n 1, 1) := by decide +kernel
theorem dX12_goesRings_6 : decode cX12_goesRings 6 = .ok (.iconst 0, 1) := by decide +kernel
theorem dX12_goesRings_7 : decode cX12_goesRings 7 = .ok (.istore_n 2, 1) := by decide +kernel
theorem dX12_goesRings_8 : decode cX12_goesRings 8 = .ok (.iload_n 2, 1) := by decide +kernel
theorem dX12_goesRings_9 : decode cX12_goesRings 9 = .ok (.aload_n 0, 1) := by decide +kernel
theorem dX12_goesRings_10 : decode cX12_goesRings 10 = .ok (.getfield 13, 3) := by decide +kernel
theorem dX12_goesRings_13 : decode cX12_goesRings 13 = .ok (.iconst 2, 1) := by decide +kernel
theorem dX12_goesRings_14 : decode cX12_goesRings 14 = .ok (.iaload, 1) := by decide +kernel
theorem dX12_goesRings_15 : decode cX12_goesRings 15 = .ok (.if_icmp .ge 50, 3) := by decide +kernel
theorem dX12_goesRings_65 : decode cX12_goesRings 65 = .ok (.iload_n 1, 1) := by decide +kernel
theorem dX12_goesRings_66 : decode cX12_goesRings 66 = .ok (.ireturn, 1) := by decide +kernel
theorem dX12_had_0 : decode cX12_had 0 = .ok (.aload_n 0, 1) := by decide +kernel
theorem dX12_had_1 : decode cX12_had 1 = .ok (.iconst 0, 1) := by decide +kernel
theorem dX12_had_2 : decode cX12_had 2 = .ok (.putfield 1, 3) := by decide +kernel
theorem dX12_had_5 : decode cX12_had 5 = .ok (.iload_n 1, 1) := by decide +kernel
theorem dX12_had_6 : decode cX12_had 6 = .ok (.i2l, 1) := by decide +kernel
theorem dX12_had_7 : decode cX12_had 7 = .ok (.lconst 0, 1) := by decide +kernel
theorem dX12_had_8 : decode cX12_had 8 = .ok (.ldc2_w 220, 3) := by decide +kernel
theorem dX12_had_11 : decode cX12_had 11 = .ok (.invokestatic 134, 3) := by decide +kernel
theorem dX12_had_14 : decode cX12_had 14 = .ok (.ifCond .eq 12, 3) := by decide +kernel
theorem dX12_had_17 : decode cX12_had 17 = .ok (.aload_n 0, 1) := by decide +kernel
theorem dX12_had_18 : decode cX12_had 18 = .ok (.iload_n 2, 1) := by decide +kernel
theorem dX12_had_19 : decode cX12_had 19 = .ok (.i2l, 1) := by decide +kernel
theorem dX12_had_20 : decode cX12_had 20 = .ok (.invokevirtual 225, 3) := by decide +kernel
theorem dX12_had_23 : decode cX12_had 23 = .ok (.ifCond .ne 6, 3) := by decide +kernel
theorem dX12_had_26 : decode cX12_had 26 = .ok (.bipush (-2), 2) := by decide +kernel
theorem dX12_had_28 : decode cX12_had 28 = .ok (.ireturn, 1) := by decide +kernel
theorem dX12_harm_0 : decode cX12_harm 0 = .ok (.aload_n 0, 1) := by decide +kernel
theorem dX12_harm_1 : decode cX12_harm 1 = .ok (.iconst 0, 1) := by decide +kernel
theorem dX12_harm_2 : decode cX12_harm 2 = .ok (.putfield 1, 3) := by decide +kernel
theorem dX12_harm_5 : decode cX12_harm 5 = .ok (.iconst 0, 1) := by decide +kernel
theorem dX12_harm_6 : decode cX12_harm 6 = .ok (.istore_n 1, 1) := by decide +kernel
theorem dX12_harm_7 : decode cX12_harm 7 = .ok (.iconst 0, 1) := by decide +kernel
theorem dX12_harm_8 : decode cX12_harm 8 = .ok (.istore_n 2, 1) := by decide +kernel
theorem dX12_harm_9 : decode cX12_harm 9 = .ok (.iload_n 2, 1) := by decide +kernel
theorem dX12_harm_10 : decode cX12_harm 10 = .ok (.aload_n 0, 1) := by decide +kernel
theorem dX12_harm_11 : decode cX12_harm 11 = .ok (.getfield 13, 3) := by decide +kernel
theorem dX12_harm_14 : decode cX12_harm 14 = .ok (.iconst 2, 1) := by decide +kernel
theorem dX12_harm_15 : decode cX12_harm 15 = .ok (.iaload, 1) := by decide +kernel
theorem dX12_harm_16 : decode cX12_harm 16 = .ok (.if_icmp .ge 49, 3) := by decide +kernel
theorem dX12_harm_65 : decode cX12_harm 65 = .ok (.iload_n 1, 1) := by decide +kernel
theorem dX12_harm_66 : decode cX12_harm 66 = .ok (.ireturn, 1) := by decide +kernel
theorem dX12_harmIn_0 : decode cX12_harmIn 0 = .ok (.iconst 0, 1) := by decide +kernel
theorem dX12_harmIn_1 : decode cX12_harmIn 1 = .ok (.istore_n 2, 1) := by decide +kernel
theorem dX12_harmIn_2 : decode cX12_harmIn 2 = .ok (.iconst 0, 1) := by decide +kernel
theorem dX12_harmIn_3 : decode cX12_harmIn 3 = .ok (.istore_n 3, 1) := by decide +kernel
theorem dX12_harmIn_4 : decode cX12_harmIn 4 = .ok (.iload_n 3, 1) := by decide +kernel
theorem dX12_harmIn_5 : decode cX12_harmIn 5 = .ok (.aload_n 0, 1) := by decide +kernel
theorem dX12_harmIn_6 : decode cX12_harmIn 6 = .ok (.getfield 13, 3) := by decide +kernel
theorem dX12_harmIn_9 : decode cX12_harmIn 9 = .ok (.iconst 2, 1) := by decide +kernel
theorem dX12_harmIn_10 : decode cX12_harmIn 10 = .ok (.iaload, 1) := by decide +kernel
theorem dX12_harmIn_11 : decode cX12_harmIn 11 = .ok (.if_icmp .ge 45, 3) := by decide +kernel
theorem dX12_harmIn_56 : decode cX12_harmIn 56 = .ok (.iload_n 2, 1) := by decide +kernel
theorem dX12_harmIn_57 : decode cX12_harmIn 57 = .ok (.ireturn, 1) := by decide +kernel
theorem dX12_household_0 : decode cX12_household 0 = .ok (.aload_n 0, 1) := by decide +kernel
theorem dX12_household_1 : decode cX12_household 1 = .ok (.iconst 0, 1) := by decide +kernel
theorem dX12_household_2 : decode cX12_household 2 = .ok (.putfield 1, 3) := by decide +kernel
theorem dX12_household_5 : decode cX12_household 5 = .ok (.aload_n 0, 1) := by decide +kernel
theorem dX12_household_6 : decode cX12_household 6 = .ok (.iload_n 1, 1) := by decide +kernel
theorem dX12_household_7 : decode cX12_household 7 = .ok (.i2l, 1) := by decide +kernel
theorem dX12_household_8 : decode cX12_household 8 = .ok (.invokevirtual 225, 3) := by decide +kernel
theorem dX12_household_11 : decode cX12_household 11 = .ok (.ifCond .ne 6, 3) := by decide +kernel
theorem dX12_household_14 : decode cX12_household 14 = .ok (.bipush (-8), 2) := by decide +kernel
theorem dX12_household_16 : decode cX12_household 16 = .ok (.ireturn, 1) := by decide +kernel
theorem dX12_image_0 : decode cX12_image 0 = .ok (.aload_n 0, 1) := by decide +kernel
theorem dX12_image_1 : decode cX12_image 1 = .ok (.iconst 0, 1) := by decide +kernel
theorem dX12_image_2 : decode cX12_image 2 = .ok (.putfield 1, 3) := by decide +kernel
theorem dX12_image_5 : decode cX12_image 5 = .ok (.iload_n 1, 1) := by decide +kernel
theorem dX12_image_6 : decode cX12_image 6 = .ok (.i2l, 1) := by decide +kernel
theorem dX12_image_7 : decode cX12_image 7 = .ok (.lconst 0, 1) := by decide +kernel
theorem dX12_image_8 : decode cX12_image 8 = .ok (.lconst 1, 1) := by decide +kernel
theorem dX12_image_9 : decode cX12_image 9 = .ok (.invokestatic 134, 3) := by decide +kernel
theorem dX12_image_12 : decode cX12_image 12 = .ok (.ifCond .ne 6, 3) := by decide +kernel
theorem dX12_image_15 : decode cX12_image 15 = .ok (.bipush (-2), 2) := by decide +kernel
theorem dX12_image_17 : decode cX12_image 17 = .ok (.ireturn, 1) := by decide +kernel
theorem dX12_image_18 : decode cX12_image 18 = .ok (.iconst 0, 1) := by decide +kernel
theorem dX12_image_19 : decode cX12_image 19 = .ok (.istore_n 2, 1) := by decide +kernel
theorem dX12_image_20 : decode cX12_image 20 = .ok (.iload_n 2, 1) := by decide +kernel
theorem dX12_image_21 : decode cX12_image 21 = .ok (.sipush 1770, 3) := by decide +kernel
theorem dX12_image_24 : decode cX12_image 24 = .ok (.if_icmp .ge 29, 3) := by decide +kernel
theorem dX12_image_27 : decode cX12_image 27 = .ok (.aload_n 0, 1) := by decide +kernel
theorem dX12_image_28 : decode cX12_image 28 = .ok (.getfield 13, 3) := by decide +kernel
theorem dX12_image_31 : decode cX12_image 31 = .ok (.sipush 1770, 3) := by decide +kernel
theorem dX12_image_34 : decode cX12_image 34 = .ok (.iload_n 1, 1) := by decide +kernel
theorem dX12_image_35 : decode cX12_image 35 = .ok (.iconst 1, 1) := by decide +kernel
theorem dX12_image_36 : decode cX12_image 36 = .ok (.iadd, 1) := by decide +kernel
theorem dX12_image_37 : decode cX12_image 37 = .ok (.imul, 1) := by decide +kernel
theorem dX12_image_38 : decode cX12_image 38 = .ok (.iload_n 2, 1) := by decide +kernel
theorem dX12_image_39 : decode cX12_image 39 = .ok (.iadd, 1) := by decide +kernel
theorem dX12_image_40 : decode cX12_image 40 = .ok (.aload_n 0, 1) := by decide +kernel
theorem dX12_image_41 : decode cX12_image 41 = .ok (.getfield 13, 3) := by decide +kernel
theorem dX12_image_44 : decode cX12_image 44 = .ok (.iload_n 2, 1) := by decide +kernel
theorem dX12_image_45 : decode cX12_image 45 = .ok (.iaload, 1) := by decide +kernel
theorem dX12_image_46 : decode cX12_image 46 = .ok (.iastore, 1) := by decide +kernel
theorem dX12_image_47 : decode cX12_image 47 = .ok (.iinc 2 1, 3) := by decide +kernel
theorem dX12_image_50 : decode cX12_image 50 = .ok (.goto (-30), 3) := by decide +kernel
theorem dX12_image_53 : decode cX12_image 53 = .ok (.aload_n 0, 1) := by decide +kernel
theorem dX12_image_54 : decode cX12_image 54 = .ok (.getfield 17, 3) := by decide +kernel
theorem dX12_image_57 : decode cX12_image 57 = .ok (.iload_n 1, 1) := by decide +kernel
theorem dX12_image_58 : decode cX12_image 58 = .ok (.iconst 1, 1) := by decide +kernel
theorem dX12_image_59 : decode cX12_image 59 = .ok (.bastore, 1) := by decide +kernel
theorem dX12_image_60 : decode cX12_image 60 = .ok (.iconst 0, 1) := by decide +kernel
theorem dX12_image_61 : decode cX12_image 61 = .ok (.ireturn, 1) := by decide +kernel
theorem dX12_inMap_0 : decode cX12_inMap 0 = .ok (.aload_n 0, 1) := by decide +kernel
theorem dX12_inMap_1 : decode cX12_inMap 1 = .ok (.iconst 0, 1) := by decide +kernel
theorem dX12_inMap_2 : decode cX12_inMap 2 = .ok (.putfield 1, 3) := by decide +kernel
theorem dX12_inMap_5 : decode cX12_inMap 5 = .ok (.aload_n 0, 1) := by decide +kernel
theorem dX12_inMap_6 : decode cX12_inMap 6 = .ok (.iload_n 2, 1) := by decide +kernel
theorem dX12_inMap_7 : decode cX12_inMap 7 = .ok (.i2l, 1) := by decide +kernel
theorem dX12_inMap_8 : decode cX12_inMap 8 = .ok (.invokevirtual 225, 3) := by decide +kernel
theorem dX12_inMap_11 : decode cX12_inMap 11 = .ok (.ifCond .ne 6, 3) := by decide +kernel
theorem dX12_inMap_14 : decode cX12_inMap 14 = .ok (.bipush (-2), 2) := by decide +kernel
theorem dX12_inMap_16 : decode cX12_inMap 16 = .ok (.ireturn, 1) := by decide +kernel
theorem dX12_init_0 : decode cX12_init 0 = .ok (.aload_n 0, 1) := by decide +kernel
theorem dX12_init_1 : decode cX12_init 1 = .ok (.invokespecial 7, 3) := by decide +kernel
theorem dX12_init_4 : decode cX12_init 4 = .ok (.aload_n 0, 1) := by decide +kernel
theorem dX12_init_5 : decode cX12_init 5 = .ok (.sipush 5310, 3) := by decide +kernel
theorem dX12_init_8 : decode cX12_init 8 = .ok (.newarray .int, 2) := by decide +kernel
theorem dX12_init_10 : decode cX12_init 10 = .ok (.putfield 13, 3) := by decide +kernel
theorem dX12_init_13 : decode cX12_init 13 = .ok (.aload_n 0, 1) := by decide +kernel
theorem dX12_init_14 : decode cX12_init 14 = .ok (.iconst 2, 1) := by decide +kernel
theorem dX12_init_15 : decode cX12_init 15 = .ok (.newarray .boolean, 2) := by decide +kernel
theorem dX12_init_17 : decode cX12_init 17 = .ok (.putfield 17, 3) := by decide +kernel
theorem dX12_init_20 : decode cX12_init 20 = .ok (.aload_n 0, 1) := by decide +kernel
theorem dX12_init_21 : decode cX12_init 21 = .ok (.sipush 900, 3) := by decide +kernel
theorem dX12_init_24 : decode cX12_init 24 = .ok (.newarray .int, 2) := by decide +kernel
theorem dX12_init_26 : decode cX12_init 26 = .ok (.putfield 21, 3) := by decide +kernel
theorem dX12_init_29 : decode cX12_init 29 = .ok (.aload_n 0, 1) := by decide +kernel
theorem dX12_init_30 : decode cX12_init 30 = .ok (.sipush 1770, 3) := by decide +kernel
theorem dX12_init_33 : decode cX12_init 33 = .ok (.newarray .int, 2) := by decide +kernel
theorem dX12_init_35 : decode cX12_init 35 = .ok (.putfield 24, 3) := by decide +kernel
theorem dX12_init_38 : decode cX12_init 38 = .ok (.aload_n 0, 1) := by decide +kernel
theorem dX12_init_39 : decode cX12_init 39 = .ok (.iconst (-1), 1) := by decide +kernel
theorem dX12_init_40 : decode cX12_init 40 = .ok (.putfield 27, 3) := by decide +kernel
theorem dX12_init_43 : decode cX12_init 43 = .ok (.aload_n 0, 1) := by decide +kernel
theorem dX12_init_44 : decode cX12_init 44 = .ok (.sipush 900, 3) := by decide +kernel
theorem dX12_init_47 : decode cX12_init 47 = .ok (.newarray .int, 2) := by decide +kernel
theorem dX12_init_49 : decode cX12_init 49 = .ok (.putfield 30, 3) := by decide +kernel
theorem dX12_init_52 : decode cX12_init 52 = .ok (.aload_n 0, 1) := by decide +kernel
theorem dX12_init_53 : decode cX12_init 53 = .ok (.bipush 7, 2) := by decide +kernel
theorem dX12_init_55 : decode cX12_init 55 = .ok (.newarray .int, 2) := by decide +kernel
theorem dX12_init_57 : decode cX12_init 57 = .ok (.putfield 33, 3) := by decide +kernel
theorem dX12_init_60 : decode cX12_init 60 = .ok (.aload_n 0, 1) := by decide +kernel
theorem dX12_init_61 : decode cX12_init 61 = .ok (.bipush 56, 2) := by decide +kernel
theorem dX12_init_63 : decode cX12_init 63 = .ok (.newarray .int, 2) := by decide +kernel
theorem dX12_init_65 : decode cX12_init 65 = .ok (.putfield 36, 3) := by decide +kernel
theorem dX12_init_68 : decode cX12_init 68 = .ok (.aload_n 0, 1) := by decide +kernel
theorem dX12_init_69 : decode cX12_init 69 = .ok (.ldc 39, 2) := by decide +kernel
theorem dX12_init_71 : decode cX12_init 71 = .ok (.newarray .int, 2) := by decide +kernel
theorem dX12_init_73 : decode cX12_init 73 = .ok (.putfield 40, 3) := by decide +kernel
theorem dX12_init_76 : decode cX12_init 76 = .ok (.aload_n 0, 1) := by decide +kernel
theorem dX12_init_77 : decode cX12_init 77 = .ok (.bipush 72, 2) := by decide +kernel
theorem dX12_init_79 : decode cX12_init 79 = .ok (.newarray .int, 2) := by decide +kernel
theorem dX12_init_81 : decode cX12_init 81 = .ok (.putfield 43, 3) := by decide +kernel
theorem dX12_init_84 : decode cX12_init 84 = .ok (.aload_n 0, 1) := by decide +kernel
theorem dX12_init_85 : decode cX12_init 85 = .ok (.bipush 7, 2) := by decide +kernel
theorem dX12_init_87 : decode cX12_init 87 = .ok (.newarray .int, 2) := by decide +kernel
theorem dX12_init_89 : decode cX12_init 89 = .ok (.putfield 46, 3) := by decide +kernel
theorem dX12_init_92 : decode cX12_init 92 = .ok (.aload_n 0, 1) := by decide +kernel
theorem dX12_init_93 : decode cX12_init 93 = .ok (.sipush 21870, 3) := by decide +kernel
theorem dX12_init_96 : decode cX12_init 96 = .ok (.newarray .int, 2) := by decide +kernel
theorem dX12_init_98 : decode cX12_init 98 = .ok (.putfield 49, 3) := by decide +kernel
theorem dX12_init_101 : decode cX12_init 101 = .ok (.aload_n 0, 1) := by decide +kernel
theorem dX12_init_102 : decode cX12_init 102 = .ok (.bipush 7, 2) := by decide +kernel
theorem dX12_init_104 : decode cX12_init 104 = .ok (.newarray .int, 2) := by decide +kernel
theorem dX12_init_106 : decode cX12_init 106 = .ok (.dup, 1) := by decide +kernel
theorem dX12_init_107 : decode cX12_init 107 = .ok (.iconst 0, 1) := by decide +kernel
theorem dX12_init_108 : decode cX12_init 108 = .ok (.iconst 1, 1) := by decide +kernel
theorem dX12_init_109 : decode cX12_init 109 = .ok (.iastore, 1) := by decide +kernel
theorem dX12_init_110 : decode cX12_init 110 = .ok (.dup, 1) := by decide +kernel
theorem dX12_init_111 : decode cX12_init 111 = .ok (.iconst 1, 1) := by decide +kernel
theorem dX12_init_112 : decode cX12_init 112 = .ok (.iconst 3, 1) := by decide +kernel
theorem dX12_init_113 : decode cX12_init 113 = .ok (.iastore, 1) := by decide +kernel
theorem dX12_init_114 : decode cX12_init 114 = .ok (.dup, 1) := by decide +kernel
theorem dX12_init_115 : decode cX12_init 115 = .ok (.iconst 2, 1) := by decide +kernel
theorem dX12_init_116 : decode cX12_init 116 = .ok (.bipush 9, 2) := by decide +kernel
theorem dX12_init_118 : decode cX12_init 118 = .ok (.iastore, 1) := by decide +kernel
theorem dX12_init_119 : decode cX12_init 119 = .ok (.dup, 1) := by decide +kernel
theorem dX12_init_120 : decode cX12_init 120 = .ok (.iconst 3, 1) := by decide +kernel
theorem dX12_init_121 : decode cX12_init 121 = .ok (.bipush 27, 2) := by decide +kernel
theorem dX12_init_123 : decode cX12_init 123 = .ok (.iastore, 1) := by decide +kernel
theorem dX12_init_124 : decode cX12_init 124 = .ok (.dup, 1) := by decide +kernel
theorem dX12_init_125 : decode cX12_init 125 = .ok (.iconst 4, 1) := by decide +kernel
theorem dX12_init_126 : decode cX12_init 126 = .ok (.bipush 81, 2) := by decide +kernel
theorem dX12_init_128 : decode cX12_init 128 = .ok (.iastore, 1) := by decide +kernel
theorem dX12_init_129 : decode cX12_init 129 = .ok (.dup, 1) := by decide +kernel
theorem dX12_init_130 : decode cX12_init 130 = .ok (.iconst 5, 1) := by decide +kernel
theorem dX12_init_131 : decode cX12_init 131 = .ok (.sipush 243, 3) := by decide +kernel
theorem dX12_init_134 : decode cX12_init 134 = .ok (.iastore, 1) := by decide +kernel
theorem dX12_init_135 : decode cX12_init 135 = .ok (.dup, 1) := by decide +kernel
theorem dX12_init_136 : decode cX12_init 136 = .ok (.bipush 6, 2) := by decide +kernel
theorem dX12_init_138 : decode cX12_init 138 = .ok (.sipush 729, 3) := by decide +kernel
theorem dX12_init_141 : decode cX12_init 141 = .ok (.iastore, 1) := by decide +kernel
theorem dX12_init_142 : decode cX12_init 142 = .ok (.putfield 52, 3) := by decide +kernel
theorem dX12_init_145 : decode cX12_init 145 = .ok (.aload_n 0, 1) := by decide +kernel
theorem dX12_init_146 : decode cX12_init 146 = .ok (.bipush 8, 2) := by decide +kernel
theorem dX12_init_148 : decode cX12_init 148 = .ok (.newarray .int, 2) := by decide +kernel
theorem dX12_init_150 : decode cX12_init 150 = .ok (.putfield 55, 3) := by decide +kernel
theorem dX12_init_153 : decode cX12_init 153 = .ok (.aload_n 0, 1) := by decide +kernel
theorem dX12_init_154 : decode cX12_init 154 = .ok (.iconst 4, 1) := by decide +kernel
theorem dX12_init_155 : decode cX12_init 155 = .ok (.newarray .int, 2) := by decide +kernel
theorem dX12_init_157 : decode cX12_init 157 = .ok (.dup, 1) := by decide +kernel
theorem dX12_init_158 : decode cX12_init 158 = .ok (.iconst 0, 1) := by decide +kernel
theorem dX12_init_159 : decode cX12_init 159 = .ok (.iconst (-1), 1) := by decide +kernel
theorem dX12_init_160 : decode cX12_init 160 = .ok (.iastore, 1) := by decide +kernel
theorem dX12_init_161 : decode cX12_init 161 = .ok (.dup, 1) := by decide +kernel
theorem dX12_init_162 : decode cX12_init 162 = .ok (.iconst 1, 1) := by decide +kernel
theorem dX12_init_163 : decode cX12_init 163 = .ok (.iconst (-1), 1) := by decide +kernel
theorem dX12_init_164 : decode cX12_init 164 = .ok (.iastore, 1) := by decide +kernel
theorem dX12_init_165 : decode cX12_init 165 = .ok (.dup, 1) := by decide +kernel
theorem dX12_init_166 : decode cX12_init 166 = .ok (.iconst 2, 1) := by decide +kernel
theorem dX12_init_167 : decode cX12_init 167 = .ok (.iconst (-1), 1) := by decide +kernel
theorem dX12_init_168 : decode cX12_init 168 = .ok (.iastore, 1) := by decide +kernel
theorem dX12_init_169 : decode cX12_init 169 = .ok (.dup, 1) := by decide +kernel
theorem dX12_init_170 : decode cX12_init 170 = .ok (.iconst 3, 1) := by decide +kernel
theorem dX12_init_171 : decode cX12_init 171 = .ok (.iconst (-1), 1) := by decide +kernel
theorem dX12_init_172 : decode cX12_init 172 = .ok (.iastore, 1) := by decide +kernel
theorem dX12_init_173 : decode cX12_init 173 = .ok (.putfield 58, 3) := by decide +kernel
theorem dX12_init_176 : decode cX12_init 176 = .ok (.aload_n 0, 1) := by decide +kernel
theorem dX12_init_177 : decode cX12_init 177 = .ok (.iconst 4, 1) := by decide +kernel
theorem dX12_init_178 : decode cX12_init 178 = .ok (.newarray .int, 2) := by decide +kernel
theorem dX12_init_180 : decode cX12_init 180 = .ok (.putfield 61, 3) := by decide +kernel
theorem dX12_init_183 : decode cX12_init 183 = .ok (.aload_n 0, 1) := by decide +kernel
theorem dX12_init_184 : decode cX12_init 184 = .ok (.sipush 160, 3) := by decide +kernel
theorem dX12_init_187 : decode cX12_init 187 = .ok (.newarray .long, 2) := by decide +kernel
theorem dX12_init_189 : decode cX12_init 189 = .ok (.putfield 64, 3) := by decide +kernel
theorem dX12_init_192 : decode cX12_init 192 = .ok (.aload_n 0, 1) := by decide +kernel
theorem dX12_init_193 : decode cX12_init 193 = .ok (.getfield 13, 3) := by decide +kernel
theorem dX12_init_196 : decode cX12_init 196 = .ok (.invokestatic 68, 3) := by decide +kernel
theorem dX12_init_199 : decode cX12_init 199 = .ok (.return_, 1) := by decide +kernel
theorem dX12_isFlat_0 : decode cX12_isFlat 0 = .ok (.lload_n 1, 1) := by decide +kernel
theorem dX12_isFlat_1 : decode cX12_isFlat 1 = .ok (.lconst 0, 1) := by decide +kernel
theorem dX12_isFlat_2 : decode cX12_isFlat 2 = .ok (.aload_n 0, 1) := by decide +kernel
theorem dX12_isFlat_3 : decode cX12_isFlat 3 = .ok (.getfield 13, 3) := by decide +kernel
theorem dX12_isFlat_6 : decode cX12_isFlat 6 = .ok (.iconst 1, 1) := by decide +kernel
theorem dX12_isFlat_7 : decode cX12_isFlat 7 = .ok (.iaload, 1) := by decide +kernel
theorem dX12_isFlat_8 : decode cX12_isFlat 8 = .ok (.iconst 1, 1) := by decide +kernel
theorem dX12_isFlat_9 : decode cX12_isFlat 9 = .ok (.isub, 1) := by decide +kernel
theorem dX12_isFlat_10 : decode cX12_isFlat 10 = .ok (.i2l, 1) := by decide +kernel
theorem dX12_isFlat_11 : decode cX12_isFlat 11 = .ok (.invokestatic 134, 3) := by decide +kernel
theorem dX12_isFlat_14 : decode cX12_isFlat 14 = .ok (.ireturn, 1) := by decide +kernel
theorem dX12_isHousehold_0 : decode cX12_isHousehold 0 = .ok (.lload_n 1, 1) := by decide +kernel
theorem dX12_isHousehold_1 : decode cX12_isHousehold 1 = .ok (.lconst 0, 1) := by decide +kernel
theorem dX12_isHousehold_2 : decode cX12_isHousehold 2 = .ok (.aload_n 0, 1) := by decide +kernel
theorem dX12_isHousehold_3 : decode cX12_isHousehold 3 = .ok (.getfield 13, 3) := by decide +kernel
theorem dX12_isHousehold_6 : decode cX12_isHousehold 6 = .ok (.iconst 2, 1) := by decide +kernel
theorem dX12_isHousehold_7 : decode cX12_isHousehold 7 = .ok (.iaload, 1) := by decide +kernel
theorem dX12_isHousehold_8 : decode cX12_isHousehold 8 = .ok (.iconst 1, 1) := by decide +kernel
theorem dX12_isHousehold_9 : decode cX12_isHousehold 9 = .ok (.isub, 1) := by decide +kernel
theorem dX12_isHousehold_10 : decode cX12_isHousehold 10 = .ok (.i2l, 1) := by decide +kernel
theorem dX12_isHousehold_11 : decode cX12_isHousehold 11 = .ok (.invokestatic 134, 3) := by decide +kernel
theorem dX12_isHousehold_14 : decode cX12_isHousehold 14 = .ok (.ireturn, 1) := by decide +kernel
theorem dX12_judge_0 : decode cX12_judge 0 = .ok (.aload_n 0, 1) := by decide +kernel
theorem dX12_judge_1 : decode cX12_judge 1 = .ok (.iconst 0, 1) := by decide +kernel
theorem dX12_judge_2 : decode cX12_judge 2 = .ok (.putfield 1, 3) := by decide +kernel
theorem dX12_judge_5 : decode cX12_judge 5 = .ok (.iload_n 2, 1) := by decide +kernel
theorem dX12_judge_6 : decode cX12_judge 6 = .ok (.i2l, 1) := by decide +kernel
theorem dX12_judge_7 : decode cX12_judge 7 = .ok (.lconst 0, 1) := by decide +kernel
theorem dX12_judge_8 : decode cX12_judge 8 = .ok (.ldc2_w 220, 3) := by decide +kernel
theorem dX12_judge_11 : decode cX12_judge 11 = .ok (.invokestatic 134, 3) := by decide +kernel
theorem dX12_judge_14 : decode cX12_judge 14 = .ok (.ifCond .ne 6, 3) := by decide +kernel
theorem dX12_judge_17 : decode cX12_judge 17 = .ok (.bipush (-2), 2) := by decide +kernel
theorem dX12_judge_19 : decode cX12_judge 19 = .ok (.ireturn, 1) := by decide +kernel
theorem dX12_judge_20 : decode cX12_judge 20 = .ok (.aload_n 0, 1) := by decide +kernel
theorem dX12_judge_21 : decode cX12_judge 21 = .ok (.iload_n 1, 1) := by decide +kernel
theorem dX12_judge_22 : decode cX12_judge 22 = .ok (.invokevirtual 332, 3) := by decide +kernel
theorem dX12_judge_25 : decode cX12_judge 25 = .ok (.istore_n 3, 1) := by decide +kernel
theorem dX12_judge_26 : decode cX12_judge 26 = .ok (.iload_n 3, 1) := by decide +kernel
theorem dX12_judge_27 : decode cX12_judge 27 = .ok (.ifCond .eq 5, 3) := by decide +kernel
theorem dX12_judge_30 : decode cX12_judge 30 = .ok (.iload_n 3, 1) := by decide +kernel
theorem dX12_judge_31 : decode cX12_judge 31 = .ok (.ireturn, 1) := by decide +kernel
theorem dX12_keeps_0 : decode cX12_keeps 0 = .ok (.iconst 0, 1) := by decide +kernel
theorem dX12_keeps_1 : decode cX12_keeps 1 = .ok (.istore_n 1, 1) := by decide +kernel
theorem dX12_keeps_2 : decode cX12_keeps 2 = .ok (.iload_n 1, 1) := by decide +kernel
theorem dX12_keeps_3 : decode cX12_keeps 3 = .ok (.bipush 72, 2) := by decide +kernel
theorem dX12_keeps_5 : decode cX12_keeps 5 = .ok (.if_icmp .ge 24, 3) := by decide +kernel
theorem dX12_keeps_8 : decode cX12_keeps 8 = .ok (.aload_n 0, 1) := by decide +kernel
theorem dX12_keeps_9 : decode cX12_keeps 9 = .ok (.getfield 43, 3) := by decide +kernel
theorem dX12_keeps_12 : decode cX12_keeps 12 = .ok (.iload_n 1, 1) := by decide +kernel
theorem dX12_keeps_13 : decode cX12_keeps 13 = .ok (.aload_n 0, 1) := by decide +kernel
theorem dX12_keeps_14 : decode cX12_keeps 14 = .ok (.getfield 13, 3) := by decide +kernel
theorem dX12_keeps_17 : decode cX12_keeps 17 = .ok (.bipush 76, 2) := by decide +kernel
theorem dX12_keeps_19 : decode cX12_keeps 19 = .ok (.iload_n 1, 1) := by decide +kernel
theorem dX12_keeps_20 : decode cX12_keeps 20 = .ok (.iadd, 1) := by decide +kernel
theorem dX12_keeps_21 : decode cX12_keeps 21 = .ok (.iaload, 1) := by decide +kernel
theorem dX12_keeps_22 : decode cX12_keeps 22 = .ok (.iastore, 1) := by decide +kernel
theorem dX12_keeps_23 : decode cX12_keeps 23 = .ok (.iinc 1 1, 3) := by decide +kernel
theorem dX12_keeps_26 : decode cX12_keeps 26 = .ok (.goto (-24), 3) := by decide +kernel
theorem dX12_keeps_29 : decode cX12_keeps 29 = .ok (.return_, 1) := by decide +kernel
theorem dX12_laysLaws_0 : decode cX12_laysLaws 0 = .ok (.iconst 0, 1) := by decide +kernel
theorem dX12_laysLaws_1 : decode cX12_laysLaws 1 = .ok (.istore_n 1, 1) := by decide +kernel
theorem dX12_laysLaws_2 : decode cX12_laysLaws 2 = .ok (.iload_n 1, 1) := by decide +kernel
theorem dX12_laysLaws_3 : decode cX12_laysLaws 3 = .ok (.aload_n 0, 1) := by decide +kernel
theorem dX12_laysLaws_4 : decode cX12_laysLaws 4 = .ok (.getfield 13, 3) := by decide +kernel
theorem dX12_laysLaws_7 : decode cX12_laysLaws 7 = .ok (.iconst 2, 1) := by decide +kernel
theorem dX12_laysLaws_8 : decode cX12_laysLaws 8 = .ok (.iaload, 1) := by decide +kernel
theorem dX12_laysLaws_9 : decode cX12_laysLaws 9 = .ok (.if_icmp .ge 72, 3) := by decide +kernel
theorem dX12_laysLaws_81 : decode cX12_laysLaws 81 = .ok (.return_, 1) := by decide +kernel
theorem dX12_laysMaps_0 : decode cX12_laysMaps 0 = .ok (.aload_n 0, 1) := by decide +kernel
theorem dX12_laysMaps_1 : decode cX12_laysMaps 1 = .ok (.invokevirtual 241, 3) := by decide +kernel
theorem dX12_laysMaps_4 : decode cX12_laysMaps 4 = .ok (.aload_n 0, 1) := by decide +kernel
theorem dX12_laysMaps_5 : decode cX12_laysMaps 5 = .ok (.iconst 0, 1) := by decide +kernel
theorem dX12_laysMaps_6 : decode cX12_laysMaps 6 = .ok (.putfield 244, 3) := by decide +kernel
theorem dX12_laysMaps_9 : decode cX12_laysMaps 9 = .ok (.aload_n 0, 1) := by decide +kernel
theorem dX12_laysMaps_10 : decode cX12_laysMaps 10 = .ok (.iconst 0, 1) := by decide +kernel
theorem dX12_laysMaps_11 : decode cX12_laysMaps 11 = .ok (.iconst 0, 1) := by decide +kernel
theorem dX12_laysMaps_12 : decode cX12_laysMaps 12 = .ok (.iconst 0, 1) := by decide +kernel
theorem dX12_laysMaps_13 : decode cX12_laysMaps 13 = .ok (.iload_n 1, 1) := by decide +kernel
theorem dX12_laysMaps_14 : decode cX12_laysMaps 14 = .ok (.invokevirtual 247, 3) := by decide +kernel
theorem dX12_laysMaps_17 : decode cX12_laysMaps 17 = .ok (.return_, 1) := by decide +kernel
theorem dX12_laysRings_0 : decode cX12_laysRings 0 = .ok (.aload_n 0, 1) := by decide +kernel
theorem dX12_laysRings_1 : decode cX12_laysRings 1 = .ok (.invokevirtual 241, 3) := by decide +kernel
theorem dX12_laysRings_4 : decode cX12_laysRings 4 = .ok (.aload_n 0, 1) := by decide +kernel
theorem dX12_laysRings_5 : decode cX12_laysRings 5 = .ok (.iconst 0, 1) := by decide +kernel
theorem dX12_laysRings_6 : decode cX12_laysRings 6 = .ok (.putfield 271, 3) := by decide +kernel
theorem dX12_laysRings_9 : decode cX12_laysRings 9 = .ok (.iconst 0, 1) := by decide +kernel
theorem dX12_laysRings_10 : decode cX12_laysRings 10 = .ok (.istore_n 1, 1) := by decide +kernel
theorem dX12_laysRings_11 : decode cX12_laysRings 11 = .ok (.iconst 0, 1) := by decide +kernel
theorem dX12_laysRings_12 : decode cX12_laysRings 12 = .ok (.istore_n 2, 1) := by decide +kernel
theorem dX12_laysRings_13 : decode cX12_laysRings 13 = .ok (.iload_n 2, 1) := by decide +kernel
theorem dX12_laysRings_14 : decode cX12_laysRings 14 = .ok (.aload_n 0, 1) := by decide +kernel
theorem dX12_laysRings_15 : decode cX12_laysRings 15 = .ok (.getfield 13, 3) := by decide +kernel
theorem dX12_laysRings_18 : decode cX12_laysRings 18 = .ok (.iconst 2, 1) := by decide +kernel
theorem dX12_laysRings_19 : decode cX12_laysRings 19 = .ok (.iaload, 1) := by decide +kernel
theorem dX12_laysRings_20 : decode cX12_laysRings 20 = .ok (.if_icmp .ge 47, 3) := by decide +kernel
theorem dX12_laysRings_67 : decode cX12_laysRings 67 = .ok (.iload_n 1, 1) := by decide +kernel
theorem dX12_laysRings_68 : decode cX12_laysRings 68 = .ok (.ifCond .eq 118, 3) := by decide +kernel
theorem dX12_laysRings_186 : decode cX12_laysRings 186 = .ok (.return_, 1) := by decide +kernel
theorem dX12_leastIn_0 : decode cX12_leastIn 0 = .ok (.aload_n 0, 1) := by decide +kernel
theorem dX12_leastIn_1 : decode cX12_leastIn 1 = .ok (.getfield 13, 3) := by decide +kernel
theorem dX12_leastIn_4 : decode cX12_leastIn 4 = .ok (.iconst 2, 1) := by decide +kernel
theorem dX12_leastIn_5 : decode cX12_leastIn 5 = .ok (.iaload, 1) := by decide +kernel
theorem dX12_leastIn_6 : decode cX12_leastIn 6 = .ok (.ifCond .ne 7, 3) := by decide +kernel
theorem dX12_leastIn_9 : decode cX12_leastIn 9 = .ok (.iconst 0, 1) := by decide +kernel
theorem dX12_leastIn_10 : decode cX12_leastIn 10 = .ok (.goto 6, 3) := by decide +kernel
theorem dX12_leastIn_16 : decode cX12_leastIn 16 = .ok (.istore_n 2, 1) := by decide +kernel
theorem dX12_leastIn_17 : decode cX12_leastIn 17 = .ok (.iconst 0, 1) := by decide +kernel
theorem dX12_leastIn_18 : decode cX12_leastIn 18 = .ok (.istore_n 3, 1) := by decide +kernel
theorem dX12_leastIn_19 : decode cX12_leastIn 19 = .ok (.iload_n 3, 1) := by decide +kernel
theorem dX12_leastIn_20 : decode cX12_leastIn 20 = .ok (.aload_n 0, 1) := by decide +kernel
theorem dX12_leastIn_21 : decode cX12_leastIn 21 = .ok (.getfield 13, 3) := by decide +kernel
theorem dX12_leastIn_24 : decode cX12_leastIn 24 = .ok (.iconst 2, 1) := by decide +kernel
theorem dX12_leastIn_25 : decode cX12_leastIn 25 = .ok (.iaload, 1) := by decide +kernel
theorem dX12_leastIn_26 : decode cX12_leastIn 26 = .ok (.if_icmp .ge 48, 3) := by decide +kernel
theorem dX12_leastIn_74 : decode cX12_leastIn 74 = .ok (.iload_n 2, 1) := by decide +kernel
theorem dX12_leastIn_75 : decode cX12_leastIn 75 = .ok (.ireturn, 1) := by decide +kernel
theorem dX12_leaves_0 : decode cX12_leaves 0 = .ok (.aload_n 0, 1) := by decide +kernel
theorem dX12_leaves_1 : decode cX12_leaves 1 = .ok (.iconst 0, 1) := by decide +kernel
theorem dX12_leaves_2 : decode cX12_leaves 2 = .ok (.putfield 1, 3) := by decide +kernel
theorem dX12_leaves_5 : decode cX12_leaves 5 = .ok (.aload_n 0, 1) := by decide +kernel
theorem dX12_leaves_6 : decode cX12_leaves 6 = .ok (.iload_n 1, 1) := by decide +kernel
theorem dX12_leaves_7 : decode cX12_leaves 7 = .ok (.i2l, 1) := by decide +kernel
theorem dX12_leaves_8 : decode cX12_leaves 8 = .ok (.invokevirtual 293, 3) := by decide +kernel
theorem dX12_leaves_11 : decode cX12_leaves 11 = .ok (.istore_n 2, 1) := by decide +kernel
theorem dX12_leaves_12 : decode cX12_leaves 12 = .ok (.iload_n 2, 1) := by decide +kernel
theorem dX12_leaves_13 : decode cX12_leaves 13 = .ok (.ifCond .eq 8, 3) := by decide +kernel
theorem dX12_leaves_16 : decode cX12_leaves 16 = .ok (.bipush (-10), 2) := by decide +kernel
theorem dX12_leaves_18 : decode cX12_leaves 18 = .ok (.iload_n 2, 1) := by decide +kernel
theorem dX12_leaves_19 : decode cX12_leaves 19 = .ok (.isub, 1) := by decide +kernel
theorem dX12_leaves_20 : decode cX12_leaves 20 = .ok (.ireturn, 1) := by decide +kernel
theorem dX12_likeliest_0 : decode cX12_likeliest 0 = .ok (.aload_n 0, 1) := by decide +kernel
theorem dX12_likeliest_1 : decode cX12_likeliest 1 = .ok (.iconst 0, 1) := by decide +kernel
theorem dX12_likeliest_2 : decode cX12_likeliest 2 = .ok (.putfield 1, 3) := by decide +kernel
theorem dX12_likeliest_5 : decode cX12_likeliest 5 = .ok (.aload_n 0, 1) := by decide +kernel
theorem dX12_likeliest_6 : decode cX12_likeliest 6 = .ok (.iload_n 1, 1) := by decide +kernel
theorem dX12_likeliest_7 : decode cX12_likeliest 7 = .ok (.i2l, 1) := by decide +kernel
theorem dX12_likeliest_8 : decode cX12_likeliest 8 = .ok (.invokevirtual 225, 3) := by decide +kernel
theorem dX12_likeliest_11 : decode cX12_likeliest 11 = .ok (.ifCond .ne 6, 3) := by decide +kernel
theorem dX12_likeliest_14 : decode cX12_likeliest 14 = .ok (.bipush (-2), 2) := by decide +kernel
theorem dX12_likeliest_16 : decode cX12_likeliest 16 = .ok (.ireturn, 1) := by decide +kernel
theorem dX12_lists_0 : decode cX12_lists 0 = .ok (.aload_n 0, 1) := by decide +kernel
theorem dX12_lists_1 : decode cX12_lists 1 = .ok (.iconst 0, 1) := by decide +kernel
theorem dX12_lists_2 : decode cX12_lists 2 = .ok (.putfield 1, 3) := by decide +kernel
theorem dX12_lists_5 : decode cX12_lists 5 = .ok (.aload_n 0, 1) := by decide +kernel
theorem dX12_lists_6 : decode cX12_lists 6 = .ok (.iload_n 1, 1) := by decide +kernel
theorem dX12_lists_7 : decode cX12_lists 7 = .ok (.invokevirtual 332, 3) := by decide +kernel
theorem dX12_lists_10 : decode cX12_lists 10 = .ok (.istore_n 2, 1) := by decide +kernel
theorem dX12_lists_11 : decode cX12_lists 11 = .ok (.iload_n 2, 1) := by decide +kernel
theorem dX12_lists_12 : decode cX12_lists 12 = .ok (.ifCond .eq 5, 3) := by decide +kernel
theorem dX12_lists_15 : decode cX12_lists 15 = .ok (.iload_n 2, 1) := by decide +kernel
theorem dX12_lists_16 : decode cX12_lists 16 = .ok (.ireturn, 1) := by decide +kernel
theorem dX12_maps_0 : decode cX12_maps 0 = .ok (.aload_n 0, 1) := by decide +kernel
theorem dX12_maps_1 : decode cX12_maps 1 = .ok (.iconst 0, 1) := by decide +kernel
theorem dX12_maps_2 : decode cX12_maps 2 = .ok (.putfield 1, 3) := by decide +kernel
theorem dX12_maps_5 : decode cX12_maps 5 = .ok (.aload_n 0, 1) := by decide +kernel
theorem dX12_maps_6 : decode cX12_maps 6 = .ok (.iconst (-1), 1) := by decide +kernel
theorem dX12_maps_7 : decode cX12_maps 7 = .ok (.invokevirtual 258, 3) := by decide +kernel
theorem dX12_maps_10 : decode cX12_maps 10 = .ok (.aload_n 0, 1) := by decide +kernel
theorem dX12_maps_11 : decode cX12_maps 11 = .ok (.getfield 244, 3) := by decide +kernel
theorem dX12_maps_14 : decode cX12_maps 14 = .ok (.ireturn, 1) := by decide +kernel
theorem dX12_may_0 : decode cX12_may 0 = .ok (.aload_n 0, 1) := by decide +kernel
theorem dX12_may_1 : decode cX12_may 1 = .ok (.iconst 0, 1) := by decide +kernel
theorem dX12_may_2 : decode cX12_may 2 = .ok (.putfield 1, 3) := by decide +kernel
theorem dX12_may_5 : decode cX12_may 5 = .ok (.aload_n 0, 1) := by decide +kernel
theorem dX12_may_6 : decode cX12_may 6 = .ok (.iload_n 1, 1) := by decide +kernel
theorem dX12_may_7 : decode cX12_may 7 = .ok (.iload_n 2, 1) := by decide +kernel
theorem dX12_may_8 : decode cX12_may 8 = .ok (.invokevirtual 230, 3) := by decide +kernel
theorem dX12_may_11 : decode cX12_may 11 = .ok (.ifCond .ne 8, 3) := by decide +kernel
theorem dX12_may_14 : decode cX12_may 14 = .ok (.bipush (-2), 2) := by decide +kernel
theorem dX12_may_16 : decode cX12_may 16 = .ok (.goto 17, 3) := by decide +kernel
theorem dX12_may_33 : decode cX12_may 33 = .ok (.ireturn, 1) := by decide +kernel
theorem dX12_mends_0 : decode cX12_mends 0 = .ok (.aload_n 0, 1) := by decide +kernel
theorem dX12_mends_1 : decode cX12_mends 1 = .ok (.iconst 0, 1) := by decide +kernel
theorem dX12_mends_2 : decode cX12_mends 2 = .ok (.putfield 1, 3) := by decide +kernel
theorem dX12_mends_5 : decode cX12_mends 5 = .ok (.aload_n 0, 1) := by decide +kernel
theorem dX12_mends_6 : decode cX12_mends 6 = .ok (.iload_n 1, 1) := by decide +kernel
theorem dX12_mends_7 : decode cX12_mends 7 = .ok (.i2l, 1) := by decide +kernel
theorem dX12_mends_8 : decode cX12_mends 8 = .ok (.iconst 0, 1) := by decide +kernel
theorem dX12_mends_9 : decode cX12_mends 9 = .ok (.invokevirtual 296, 3) := by decide +kernel
theorem dX12_mends_12 : decode cX12_mends 12 = .ok (.istore_n 2, 1) := by decide +kernel
theorem dX12_mends_13 : decode cX12_mends 13 = .ok (.iload_n 2, 1) := by decide +kernel
theorem dX12_mends_14 : decode cX12_mends 14 = .ok (.ifCond .eq 8, 3) := by decide +kernel
theorem dX12_mends_17 : decode cX12_mends 17 = .ok (.bipush (-10), 2) := by decide +kernel
theorem dX12_mends_19 : decode cX12_mends 19 = .ok (.iload_n 2, 1) := by decide +kernel
theorem dX12_mends_20 : decode cX12_mends 20 = .ok (.isub, 1) := by decide +kernel
theorem dX12_mends_21 : decode cX12_mends 21 = .ok (.ireturn, 1) := by decide +kernel
theorem dX12_moved_0 : decode cX12_moved 0 = .ok (.iconst 0, 1) := by decide +kernel
theorem dX12_moved_1 : decode cX12_moved 1 = .ok (.istore_n 2, 1) := by decide +kernel
theorem dX12_moved_2 : decode cX12_moved 2 = .ok (.iload_n 2, 1) := by decide +kernel
theorem dX12_moved_3 : decode cX12_moved 3 = .ok (.sipush 21870, 3) := by decide +kernel
theorem dX12_moved_6 : decode cX12_moved 6 = .ok (.if_icmp .ge 18, 3) := by decide +kernel
theorem dX12_moved_9 : decode cX12_moved 9 = .ok (.aload_n 0, 1) := by decide +kernel
theorem dX12_moved_10 : decode cX12_moved 10 = .ok (.getfield 49, 3) := by decide +kernel
theorem dX12_moved_13 : decode cX12_moved 13 = .ok (.iload_n 2, 1) := by decide +kernel
theorem dX12_moved_14 : decode cX12_moved 14 = .ok (.ldc_w 365, 3) := by decide +kernel
theorem dX12_moved_17 : decode cX12_moved 17 = .ok (.iastore, 1) := by decide +kernel
theorem dX12_moved_18 : decode cX12_moved 18 = .ok (.iinc 2 1, 3) := by decide +kernel
theorem dX12_moved_21 : decode cX12_moved 21 = .ok (.goto (-19), 3) := by decide +kernel
theorem dX12_moved_24 : decode cX12_moved 24 = .ok (.iconst 0, 1) := by decide +kernel
theorem dX12_moved_25 : decode cX12_moved 25 = .ok (.istore_n 2, 1) := by decide +kernel
theorem dX12_moved_26 : decode cX12_moved 26 = .ok (.iconst 0, 1) := by decide +kernel
theorem dX12_moved_27 : decode cX12_moved 27 = .ok (.istore_n 3, 1) := by decide +kernel
theorem dX12_moved_28 : decode cX12_moved 28 = .ok (.iconst 0, 1) := by decide +kernel
theorem dX12_moved_29 : decode cX12_moved 29 = .ok (.istore 4, 2) := by decide +kernel
theorem dX12_moved_31 : decode cX12_moved 31 = .ok (.iload 4, 2) := by decide +kernel
theorem dX12_moved_33 : decode cX12_moved 33 = .ok (.aload_n 0, 1) := by decide +kernel
theorem dX12_moved_34 : decode cX12_moved 34 = .ok (.getfield 13, 3) := by decide +kernel
theorem dX12_moved_37 : decode cX12_moved 37 = .ok (.iconst 2, 1) := by decide +kernel
theorem dX12_moved_38 : decode cX12_moved 38 = .ok (.iaload, 1) := by decide +kernel
theorem dX12_moved_39 : decode cX12_moved 39 = .ok (.if_icmp .ge 74, 3) := by decide +kernel
theorem dX12_moved_113 : decode cX12_moved 113 = .ok (.aload_n 0, 1) := by decide +kernel
theorem dX12_moved_114 : decode cX12_moved 114 = .ok (.getfield 49, 3) := by decide +kernel
theorem dX12_moved_117 : decode cX12_moved 117 = .ok (.bipush 10, 2) := by decide +kernel
theorem dX12_moved_119 : decode cX12_moved 119 = .ok (.iload_n 2, 1) := by decide +kernel
theorem dX12_moved_120 : decode cX12_moved 120 = .ok (.imul, 1) := by decide +kernel
theorem dX12_moved_121 : decode cX12_moved 121 = .ok (.iconst 0, 1) := by decide +kernel
theorem dX12_moved_122 : decode cX12_moved 122 = .ok (.iastore, 1) := by decide +kernel
theorem dX12_moved_123 : decode cX12_moved 123 = .ok (.iload_n 2, 1) := by decide +kernel
theorem dX12_moved_124 : decode cX12_moved 124 = .ok (.istore 4, 2) := by decide +kernel
theorem dX12_moved_126 : decode cX12_moved 126 = .ok (.iload 4, 2) := by decide +kernel
theorem dX12_moved_128 : decode cX12_moved 128 = .ok (.iload_n 3, 1) := by decide +kernel
theorem dX12_moved_129 : decode cX12_moved 129 = .ok (.if_icmp .gt 144, 3) := by decide +kernel
theorem dX12_moved_132 : decode cX12_moved 132 = .ok (.iconst 0, 1) := by decide +kernel
theorem dX12_moved_133 : decode cX12_moved 133 = .ok (.istore 5, 2) := by decide +kernel
theorem dX12_moved_135 : decode cX12_moved 135 = .ok (.iload 5, 2) := by decide +kernel
theorem dX12_moved_137 : decode cX12_moved 137 = .ok (.bipush 10, 2) := by decide +kernel
theorem dX12_moved_139 : decode cX12_moved 139 = .ok (.if_icmp .ge 128, 3) := by decide +kernel
theorem dX12_moved_142 : decode cX12_moved 142 = .ok (.aload_n 0, 1) := by decide +kernel
theorem dX12_moved_143 : decode cX12_moved 143 = .ok (.getfield 49, 3) := by decide +kernel
theorem dX12_moved_146 : decode cX12_moved 146 = .ok (.bipush 10, 2) := by decide +kernel
theorem dX12_moved_148 : decode cX12_moved 148 = .ok (.iload 4, 2) := by decide +kernel
theorem dX12_moved_150 : decode cX12_moved 150 = .ok (.imul, 1) := by decide +kernel
theorem dX12_moved_151 : decode cX12_moved 151 = .ok (.iload 5, 2) := by decide +kernel
theorem dX12_moved_153 : decode cX12_moved 153 = .ok (.iadd, 1) := by decide +kernel
theorem dX12_moved_154 : decode cX12_moved 154 = .ok (.iaload, 1) := by decide +kernel
theorem dX12_moved_155 : decode cX12_moved 155 = .ok (.ldc_w 365, 3) := by decide +kernel
theorem dX12_moved_158 : decode cX12_moved 158 = .ok (.if_icmp .ne 6, 3) := by decide +kernel
theorem dX12_moved_161 : decode cX12_moved 161 = .ok (.goto 100, 3) := by decide +kernel
theorem dX12_moved_164 : decode cX12_moved 164 = .ok (.iconst 0, 1) := by decide +kernel
theorem dX12_moved_165 : decode cX12_moved 165 = .ok (.istore 6, 2) := by decide +kernel
theorem dX12_moved_167 : decode cX12_moved 167 = .ok (.iload 6, 2) := by decide +kernel
theorem dX12_moved_169 : decode cX12_moved 169 = .ok (.aload_n 0, 1) := by decide +kernel
theorem dX12_moved_170 : decode cX12_moved 170 = .ok (.getfield 13, 3) := by decide +kernel
theorem dX12_moved_173 : decode cX12_moved 173 = .ok (.iconst 2, 1) := by decide +kernel
theorem dX12_moved_174 : decode cX12_moved 174 = .ok (.iaload, 1) := by decide +kernel
theorem dX12_moved_175 : decode cX12_moved 175 = .ok (.if_icmp .ge 86, 3) := by decide +kernel
theorem dX12_moved_261 : decode cX12_moved 261 = .ok (.iinc 5 1, 3) := by decide +kernel
theorem dX12_moved_264 : decode cX12_moved 264 = .ok (.goto (-129), 3) := by decide +kernel
theorem dX12_moved_267 : decode cX12_moved 267 = .ok (.iinc 4 1, 3) := by decide +kernel
theorem dX12_moved_270 : decode cX12_moved 270 = .ok (.goto (-144), 3) := by decide +kernel
theorem dX12_moved_273 : decode cX12_moved 273 = .ok (.ldc_w 365, 3) := by decide +kernel
theorem dX12_moved_276 : decode cX12_moved 276 = .ok (.istore 4, 2) := by decide +kernel
theorem dX12_moved_278 : decode cX12_moved 278 = .ok (.iconst 0, 1) := by decide +kernel
theorem dX12_moved_279 : decode cX12_moved 279 = .ok (.istore 5, 2) := by decide +kernel
theorem dX12_moved_281 : decode cX12_moved 281 = .ok (.iload 5, 2) := by decide +kernel
theorem dX12_moved_283 : decode cX12_moved 283 = .ok (.bipush 10, 2) := by decide +kernel
theorem dX12_moved_285 : decode cX12_moved 285 = .ok (.if_icmp .ge 45, 3) := by decide +kernel
theorem dX12_moved_288 : decode cX12_moved 288 = .ok (.aload_n 0, 1) := by decide +kernel
theorem dX12_moved_289 : decode cX12_moved 289 = .ok (.getfield 49, 3) := by decide +kernel
theorem dX12_moved_292 : decode cX12_moved 292 = .ok (.bipush 10, 2) := by decide +kernel
theorem dX12_moved_294 : decode cX12_moved 294 = .ok (.iload_n 3, 1) := by decide +kernel
theorem dX12_moved_295 : decode cX12_moved 295 = .ok (.imul, 1) := by decide +kernel
theorem dX12_moved_296 : decode cX12_moved 296 = .ok (.iload 5, 2) := by decide +kernel
theorem dX12_moved_298 : decode cX12_moved 298 = .ok (.iadd, 1) := by decide +kernel
theorem dX12_moved_299 : decode cX12_moved 299 = .ok (.iaload, 1) := by decide +kernel
theorem dX12_moved_300 : decode cX12_moved 300 = .ok (.iload 4, 2) := by decide +kernel
theorem dX12_moved_302 : decode cX12_moved 302 = .ok (.if_icmp .ge 18, 3) := by decide +kernel
theorem dX12_moved_305 : decode cX12_moved 305 = .ok (.aload_n 0, 1) := by decide +kernel
theorem dX12_moved_306 : decode cX12_moved 306 = .ok (.getfield 49, 3) := by decide +kernel
theorem dX12_moved_309 : decode cX12_moved 309 = .ok (.bipush 10, 2) := by decide +kernel
theorem dX12_moved_311 : decode cX12_moved 311 = .ok (.iload_n 3, 1) := by decide +kernel
theorem dX12_moved_312 : decode cX12_moved 312 = .ok (.imul, 1) := by decide +kernel
theorem dX12_moved_313 : decode cX12_moved 313 = .ok (.iload 5, 2) := by decide +kernel
theorem dX12_moved_315 : decode cX12_moved 315 = .ok (.iadd, 1) := by decide +kernel
theorem dX12_moved_316 : decode cX12_moved 316 = .ok (.iaload, 1) := by decide +kernel
theorem dX12_moved_317 : decode cX12_moved 317 = .ok (.goto 5, 3) := by decide +kernel
theorem dX12_moved_320 : decode cX12_moved 320 = .ok (.iload 4, 2) := by decide +kernel
theorem dX12_moved_322 : decode cX12_moved 322 = .ok (.istore 4, 2) := by decide +kernel
theorem dX12_moved_324 : decode cX12_moved 324 = .ok (.iinc 5 1, 3) := by decide +kernel
theorem dX12_moved_327 : decode cX12_moved 327 = .ok (.goto (-46), 3) := by decide +kernel
theorem dX12_moved_330 : decode cX12_moved 330 = .ok (.iload 4, 2) := by decide +kernel
theorem dX12_moved_332 : decode cX12_moved 332 = .ok (.ireturn, 1) := by decide +kernel
theorem dX12_moves_0 : decode cX12_moves 0 = .ok (.aload_n 0, 1) := by decide +kernel
theorem dX12_moves_1 : decode cX12_moves 1 = .ok (.iconst 0, 1) := by decide +kernel
theorem dX12_moves_2 : decode cX12_moves 2 = .ok (.putfield 1, 3) := by decide +kernel
theorem dX12_moves_5 : decode cX12_moves 5 = .ok (.aload_n 0, 1) := by decide +kernel
theorem dX12_moves_6 : decode cX12_moves 6 = .ok (.iload_n 1, 1) := by decide +kernel
theorem dX12_moves_7 : decode cX12_moves 7 = .ok (.i2l, 1) := by decide +kernel
theorem dX12_moves_8 : decode cX12_moves 8 = .ok (.iload_n 2, 1) := by decide +kernel
theorem dX12_moves_9 : decode cX12_moves 9 = .ok (.i2l, 1) := by decide +kernel
theorem dX12_moves_10 : decode cX12_moves 10 = .ok (.invokevirtual 283, 3) := by decide +kernel
theorem dX12_moves_13 : decode cX12_moves 13 = .ok (.istore_n 3, 1) := by decide +kernel
theorem dX12_moves_14 : decode cX12_moves 14 = .ok (.iload_n 3, 1) := by decide +kernel
theorem dX12_moves_15 : decode cX12_moves 15 = .ok (.ifCond .eq 8, 3) := by decide +kernel
theorem dX12_moves_18 : decode cX12_moves 18 = .ok (.bipush (-10), 2) := by decide +kernel
theorem dX12_moves_20 : decode cX12_moves 20 = .ok (.iload_n 3, 1) := by decide +kernel
theorem dX12_moves_21 : decode cX12_moves 21 = .ok (.isub, 1) := by decide +kernel
theorem dX12_moves_22 : decode cX12_moves 22 = .ok (.ireturn, 1) := by decide +kernel
theorem dX12_moving_0 : decode cX12_moving 0 = .ok (.aload_n 0, 1) := by decide +kernel
theorem dX12_moving_1 : decode cX12_moving 1 = .ok (.iconst 0, 1) := by decide +kernel
theorem dX12_moving_2 : decode cX12_moving 2 = .ok (.putfield 1, 3) := by decide +kernel
theorem dX12_moving_5 : decode cX12_moving 5 = .ok (.iload_n 2, 1) := by decide +kernel
theorem dX12_moving_6 : decode cX12_moving 6 = .ok (.i2l, 1) := by decide +kernel
theorem dX12_moving_7 : decode cX12_moving 7 = .ok (.lconst 0, 1) := by decide +kernel
theorem dX12_moving_8 : decode cX12_moving 8 = .ok (.lconst 1, 1) := by decide +kernel
theorem dX12_moving_9 : decode cX12_moving 9 = .ok (.invokestatic 134, 3) := by decide +kernel
theorem dX12_moving_12 : decode cX12_moving 12 = .ok (.ifCond .ne 6, 3) := by decide +kernel
theorem dX12_moving_15 : decode cX12_moving 15 = .ok (.bipush (-2), 2) := by decide +kernel
theorem dX12_moving_17 : decode cX12_moving 17 = .ok (.ireturn, 1) := by decide +kernel
theorem dX12_moving_18 : decode cX12_moving 18 = .ok (.iload_n 1, 1) := by decide +kernel
theorem dX12_moving_19 : decode cX12_moving 19 = .ok (.ifCond .ge 6, 3) := by decide +kernel
theorem dX12_moving_22 : decode cX12_moving 22 = .ok (.bipush (-3), 2) := by decide +kernel
theorem dX12_moving_24 : decode cX12_moving 24 = .ok (.ireturn, 1) := by decide +kernel
theorem dX12_moving_25 : decode cX12_moving 25 = .ok (.aload_n 0, 1) := by decide +kernel
theorem dX12_moving_26 : decode cX12_moving 26 = .ok (.iconst (-1), 1) := by decide +kernel
theorem dX12_moving_27 : decode cX12_moving 27 = .ok (.invokevirtual 258, 3) := by decide +kernel
theorem dX12_moving_30 : decode cX12_moving 30 = .ok (.iload_n 1, 1) := by decide +kernel
theorem dX12_moving_31 : decode cX12_moving 31 = .ok (.aload_n 0, 1) := by decide +kernel
theorem dX12_moving_32 : decode cX12_moving 32 = .ok (.getfield 244, 3) := by decide +kernel
theorem dX12_moving_35 : decode cX12_moving 35 = .ok (.if_icmp .lt 5, 3) := by decide +kernel
theorem dX12_moving_38 : decode cX12_moving 38 = .ok (.iconst (-1), 1) := by decide +kernel
theorem dX12_moving_39 : decode cX12_moving 39 = .ok (.ireturn, 1) := by decide +kernel
theorem dX12_moving_40 : decode cX12_moving 40 = .ok (.aload_n 0, 1) := by decide +kernel
theorem dX12_moving_41 : decode cX12_moving 41 = .ok (.aload_n 0, 1) := by decide +kernel
theorem dX12_moving_42 : decode cX12_moving 42 = .ok (.getfield 40, 3) := by decide +kernel
theorem dX12_moving_45 : decode cX12_moving 45 = .ok (.iload_n 1, 1) := by decide +kernel
theorem dX12_moving_46 : decode cX12_moving 46 = .ok (.iaload, 1) := by decide +kernel
theorem dX12_moving_47 : decode cX12_moving 47 = .ok (.invokevirtual 400, 3) := by decide +kernel
theorem dX12_moving_50 : decode cX12_moving 50 = .ok (.istore_n 3, 1) := by decide +kernel
theorem dX12_moving_51 : decode cX12_moving 51 = .ok (.iload_n 2, 1) := by decide +kernel
theorem dX12_moving_52 : decode cX12_moving 52 = .ok (.ifCond .ne 10, 3) := by decide +kernel
theorem dX12_moving_55 : decode cX12_moving 55 = .ok (.iload_n 3, 1) := by decide +kernel
theorem dX12_moving_56 : decode cX12_moving 56 = .ok (.bipush 100, 2) := by decide +kernel
theorem dX12_moving_58 : decode cX12_moving 58 = .ok (.idiv, 1) := by decide +kernel
theorem dX12_moving_59 : decode cX12_moving 59 = .ok (.goto 7, 3) := by decide +kernel
theorem dX12_moving_62 : decode cX12_moving 62 = .ok (.iload_n 3, 1) := by decide +kernel
theorem dX12_moving_63 : decode cX12_moving 63 = .ok (.bipush 100, 2) := by decide +kernel
theorem dX12_moving_65 : decode cX12_moving 65 = .ok (.irem, 1) := by decide +kernel
theorem dX12_moving_66 : decode cX12_moving 66 = .ok (.ireturn, 1) := by decide +kernel
theorem dX12_near_0 : decode cX12_near 0 = .ok (.aload_n 0, 1) := by decide +kernel
theorem dX12_near_1 : decode cX12_near 1 = .ok (.iconst 0, 1) := by decide +kernel
theorem dX12_near_2 : decode cX12_near 2 = .ok (.putfield 1, 3) := by decide +kernel
theorem dX12_near_5 : decode cX12_near 5 = .ok (.aload_n 0, 1) := by decide +kernel
theorem dX12_near_6 : decode cX12_near 6 = .ok (.iload_n 1, 1) := by decide +kernel
theorem dX12_near_7 : decode cX12_near 7 = .ok (.i2l, 1) := by decide +kernel
theorem dX12_near_8 : decode cX12_near 8 = .ok (.invokevirtual 225, 3) := by decide +kernel
theorem dX12_near_11 : decode cX12_near 11 = .ok (.ifCond .eq 17, 3) := by decide +kernel
theorem dX12_near_28 : decode cX12_near 28 = .ok (.bipush (-2), 2) := by decide +kernel
theorem dX12_near_30 : decode cX12_near 30 = .ok (.ireturn, 1) := by decide +kernel
theorem dX12_nearest_0 : decode cX12_nearest 0 = .ok (.aload_n 0, 1) := by decide +kernel
theorem dX12_nearest_1 : decode cX12_nearest 1 = .ok (.iconst 0, 1) := by decide +kernel
theorem dX12_nearest_2 : decode cX12_nearest 2 = .ok (.putfield 1, 3) := by decide +kernel
theorem dX12_nearest_5 : decode cX12_nearest 5 = .ok (.aload_n 0, 1) := by decide +kernel
theorem dX12_nearest_6 : decode cX12_nearest 6 = .ok (.iconst (-1), 1) := by decide +kernel
theorem dX12_nearest_7 : decode cX12_nearest 7 = .ok (.invokevirtual 258, 3) := by decide +kernel
theorem dX12_nearest_10 : decode cX12_nearest 10 = .ok (.aload_n 0, 1) := by decide +kernel
theorem dX12_nearest_11 : decode cX12_nearest 11 = .ok (.getfield 244, 3) := by decide +kernel
theorem dX12_nearest_14 : decode cX12_nearest 14 = .ok (.bipush 100, 2) := by decide +kernel
theorem dX12_nearest_16 : decode cX12_nearest 16 = .ok (.if_icmp .le 6, 3) := by decide +kernel
theorem dX12_nearest_22 : decode cX12_nearest 22 = .ok (.iconst (-1), 1) := by decide +kernel
theorem dX12_nearest_23 : decode cX12_nearest 23 = .ok (.istore_n 1, 1) := by decide +kernel
theorem dX12_nearest_24 : decode cX12_nearest 24 = .ok (.ldc_w 365, 3) := by decide +kernel
theorem dX12_nearest_27 : decode cX12_nearest 27 = .ok (.istore_n 2, 1) := by decide +kernel
theorem dX12_nearest_28 : decode cX12_nearest 28 = .ok (.iconst 0, 1) := by decide +kernel
theorem dX12_nearest_29 : decode cX12_nearest 29 = .ok (.istore_n 3, 1) := by decide +kernel
theorem dX12_nearest_30 : decode cX12_nearest 30 = .ok (.iload_n 3, 1) := by decide +kernel
theorem dX12_nearest_31 : decode cX12_nearest 31 = .ok (.aload_n 0, 1) := by decide +kernel
theorem dX12_nearest_32 : decode cX12_nearest 32 = .ok (.getfield 244, 3) := by decide +kernel
theorem dX12_nearest_35 : decode cX12_nearest 35 = .ok (.if_icmp .ge 38, 3) := by decide +kernel
theorem dX12_nearest_38 : decode cX12_nearest 38 = .ok (.aload_n 0, 1) := by decide +kernel
theorem dX12_nearest_39 : decode cX12_nearest 39 = .ok (.aload_n 0, 1) := by decide +kernel
theorem dX12_nearest_40 : decode cX12_nearest 40 = .ok (.getfield 40, 3) := by decide +kernel
theorem dX12_nearest_43 : decode cX12_nearest 43 = .ok (.iload_n 3, 1) := by decide +kernel
theorem dX12_nearest_44 : decode cX12_nearest 44 = .ok (.iaload, 1) := by decide +kernel
theorem dX12_nearest_45 : decode cX12_nearest 45 = .ok (.invokevirtual 400, 3) := by decide +kernel
theorem dX12_nearest_48 : decode cX12_nearest 48 = .ok (.bipush 100, 2) := by decide +kernel
theorem dX12_nearest_50 : decode cX12_nearest 50 = .ok (.idiv, 1) := by decide +kernel
theorem dX12_nearest_51 : decode cX12_nearest 51 = .ok (.istore 4, 2) := by decide +kernel
theorem dX12_nearest_53 : decode cX12_nearest 53 = .ok (.iload 4, 2) := by decide +kernel
theorem dX12_nearest_55 : decode cX12_nearest 55 = .ok (.iload_n 2, 1) := by decide +kernel
theorem dX12_nearest_56 : decode cX12_nearest 56 = .ok (.if_icmp .lt 6, 3) := by decide +kernel
theorem dX12_nearest_62 : decode cX12_nearest 62 = .ok (.iload_n 3, 1) := by decide +kernel
theorem dX12_nearest_63 : decode cX12_nearest 63 = .ok (.istore_n 1, 1) := by decide +kernel
theorem dX12_nearest_64 : decode cX12_nearest 64 = .ok (.iload 4, 2) := by decide +kernel
theorem dX12_nearest_66 : decode cX12_nearest 66 = .ok (.istore_n 2, 1) := by decide +kernel
theorem dX12_nearest_67 : decode cX12_nearest 67 = .ok (.iinc 3 1, 3) := by decide +kernel
theorem dX12_nearest_70 : decode cX12_nearest 70 = .ok (.goto (-40), 3) := by decide +kernel
theorem dX12_nearest_73 : decode cX12_nearest 73 = .ok (.iload_n 1, 1) := by decide +kernel
theorem dX12_nearest_74 : decode cX12_nearest 74 = .ok (.ireturn, 1) := by decide +kernel
theorem dX12_next_0 : decode cX12_next 0 = .ok (.aload_n 0, 1) := by decide +kernel
theorem dX12_next_1 : decode cX12_next 1 = .ok (.aload_n 0, 1) := by decide +kernel
theorem dX12_next_2 : decode cX12_next 2 = .ok (.getfield 93, 3) := by decide +kernel
theorem dX12_next_5 : decode cX12_next 5 = .ok (.putfield 90, 3) := by decide +kernel
theorem dX12_next_8 : decode cX12_next 8 = .ok (.aload_n 0, 1) := by decide +kernel
theorem dX12_next_9 : decode cX12_next 9 = .ok (.aload_n 0, 1) := by decide +kernel
theorem dX12_next_10 : decode cX12_next 10 = .ok (.getfield 90, 3) := by decide +kernel
theorem dX12_next_13 : decode cX12_next 13 = .ok (.invokevirtual 96, 3) := by decide +kernel
theorem dX12_next_16 : decode cX12_next 16 = .ok (.bipush 10, 2) := by decide +kernel
theorem dX12_next_18 : decode cX12_next 18 = .ok (.if_icmp .eq 16, 3) := by decide +kernel
theorem dX12_next_21 : decode cX12_next 21 = .ok (.aload_n 0, 1) := by decide +kernel
theorem dX12_next_22 : decode cX12_next 22 = .ok (.aload_n 0, 1) := by decide +kernel
theorem dX12_next_23 : decode cX12_next 23 = .ok (.getfield 90, 3) := by decide +kernel
theorem dX12_next_26 : decode cX12_next 26 = .ok (.invokevirtual 96, 3) := by decide +kernel
theorem dX12_next_29 : decode cX12_next 29 = .ok (.bipush 32, 2) := by decide +kernel
theorem dX12_next_31 : decode cX12_next 31 = .ok (.if_icmp .ne 16, 3) := by decide +kernel
theorem dX12_next_47 : decode cX12_next 47 = .ok (.aload_n 0, 1) := by decide +kernel
theorem dX12_next_48 : decode cX12_next 48 = .ok (.aload_n 0, 1) := by decide +kernel
theorem dX12_next_49 : decode cX12_next 49 = .ok (.getfield 90, 3) := by decide +kernel
theorem dX12_next_52 : decode cX12_next 52 = .ok (.putfield 93, 3) := by decide +kernel
theorem dX12_next_55 : decode cX12_next 55 = .ok (.aload_n 0, 1) := by decide +kernel
theorem dX12_next_56 : decode cX12_next 56 = .ok (.getfield 90, 3) := by decide +kernel
theorem dX12_next_59 : decode cX12_next 59 = .ok (.aload_n 0, 1) := by decide +kernel
theorem dX12_next_60 : decode cX12_next 60 = .ok (.getfield 75, 3) := by decide +kernel
theorem dX12_next_63 : decode cX12_next 63 = .ok (.if_icmp .lt 12, 3) := by decide +kernel
theorem dX12_next_66 : decode cX12_next 66 = .ok (.aload_n 0, 1) := by decide +kernel
theorem dX12_next_67 : decode cX12_next 67 = .ok (.bipush 24, 2) := by decide +kernel
theorem dX12_next_69 : decode cX12_next 69 = .ok (.putfield 100, 3) := by decide +kernel
theorem dX12_next_72 : decode cX12_next 72 = .ok (.goto 222, 3) := by decide +kernel
theorem dX12_next_294 : decode cX12_next 294 = .ok (.return_, 1) := by decide +kernel
theorem dX12_noSeen_0 : decode cX12_noSeen 0 = .ok (.aload_n 0, 1) := by decide +kernel
theorem dX12_noSeen_1 : decode cX12_noSeen 1 = .ok (.iload_n 1, 1) := by decide +kernel
theorem dX12_noSeen_2 : decode cX12_noSeen 2 = .ok (.invokevirtual 332, 3) := by decide +kernel
theorem dX12_noSeen_5 : decode cX12_noSeen 5 = .ok (.istore_n 2, 1) := by decide +kernel
theorem dX12_noSeen_6 : decode cX12_noSeen 6 = .ok (.iload_n 2, 1) := by decide +kernel
theorem dX12_noSeen_7 : decode cX12_noSeen 7 = .ok (.ifCond .eq 5, 3) := by decide +kernel
theorem dX12_noSeen_10 : decode cX12_noSeen 10 = .ok (.iload_n 2, 1) := by decide +kernel
theorem dX12_noSeen_11 : decode cX12_noSeen 11 = .ok (.ireturn, 1) := by decide +kernel
theorem dX12_noTray_0 : decode cX12_noTray 0 = .ok (.iload_n 1, 1) := by decide +kernel
theorem dX12_noTray_1 : decode cX12_noTray 1 = .ok (.i2l, 1) := by decide +kernel
theorem dX12_noTray_2 : decode cX12_noTray 2 = .ok (.lconst 0, 1) := by decide +kernel
theorem dX12_noTray_3 : decode cX12_noTray 3 = .ok (.ldc2_w 220, 3) := by decide +kernel
theorem dX12_noTray_6 : decode cX12_noTray 6 = .ok (.invokestatic 134, 3) := by decide +kernel
theorem dX12_noTray_9 : decode cX12_noTray 9 = .ok (.ifCond .ne 8, 3) := by decide +kernel
theorem dX12_noTray_12 : decode cX12_noTray 12 = .ok (.bipush (-2), 2) := by decide +kernel
theorem dX12_noTray_14 : decode cX12_noTray 14 = .ok (.goto 19, 3) := by decide +kernel
theorem dX12_noTray_17 : decode cX12_noTray 17 = .ok (.aload_n 0, 1) := by decide +kernel
theorem dX12_noTray_18 : decode cX12_noTray 18 = .ok (.getfield 58, 3) := by decide +kernel
theorem dX12_noTray_21 : decode cX12_noTray 21 = .ok (.iload_n 1, 1) := by decide +kernel
theorem dX12_noTray_22 : decode cX12_noTray 22 = .ok (.iaload, 1) := by decide +kernel
theorem dX12_noTray_23 : decode cX12_noTray 23 = .ok (.iconst (-1), 1) := by decide +kernel
theorem dX12_noTray_24 : decode cX12_noTray 24 = .ok (.if_icmp .ne 8, 3) := by decide +kernel
theorem dX12_noTray_27 : decode cX12_noTray 27 = .ok (.bipush (-6), 2) := by decide +kernel
theorem dX12_noTray_29 : decode cX12_noTray 29 = .ok (.goto 4, 3) := by decide +kernel
theorem dX12_noTray_33 : decode cX12_noTray 33 = .ok (.ireturn, 1) := by decide +kernel
theorem dX12_notes_0 : decode cX12_notes 0 = .ok (.aload_n 0, 1) := by decide +kernel
theorem dX12_notes_1 : decode cX12_notes 1 = .ok (.getfield 13, 3) := by decide +kernel
theorem dX12_notes_4 : decode cX12_notes 4 = .ok (.sipush 148, 3) := by decide +kernel
theorem dX12_notes_7 : decode cX12_notes 7 = .ok (.iaload, 1) := by decide +kernel
theorem dX12_notes_8 : decode cX12_notes 8 = .ok (.bipush 10, 2) := by decide +kernel
theorem dX12_notes_10 : decode cX12_notes 10 = .ok (.if_icmp .ne 50, 3) := by decide +kernel
theorem dX12_notes_60 : decode cX12_notes 60 = .ok (.iconst 0, 1) := by decide +kernel
theorem dX12_notes_61 : decode cX12_notes 61 = .ok (.istore_n 1, 1) := by decide +kernel
theorem dX12_notes_62 : decode cX12_notes 62 = .ok (.iload_n 1, 1) := by decide +kernel
theorem dX12_notes_63 : decode cX12_notes 63 = .ok (.bipush 72, 2) := by decide +kernel
theorem dX12_notes_65 : decode cX12_notes 65 = .ok (.if_icmp .ge 37, 3) := by decide +kernel
theorem dX12_notes_68 : decode cX12_notes 68 = .ok (.aload_n 0, 1) := by decide +kernel
theorem dX12_notes_69 : decode cX12_notes 69 = .ok (.getfield 13, 3) := by decide +kernel
theorem dX12_notes_72 : decode cX12_notes 72 = .ok (.sipush 149, 3) := by decide +kernel
theorem dX12_notes_75 : decode cX12_notes 75 = .ok (.bipush 72, 2) := by decide +kernel
theorem dX12_notes_77 : decode cX12_notes 77 = .ok (.aload_n 0, 1) := by decide +kernel
theorem dX12_notes_78 : decode cX12_notes 78 = .ok (.getfield 13, 3) := by decide +kernel
theorem dX12_notes_81 : decode cX12_notes 81 = .ok (.sipush 148, 3) := by decide +kernel
theorem dX12_notes_84 : decode cX12_notes 84 = .ok (.iaload, 1) := by decide +kernel
theorem dX12_notes_85 : decode cX12_notes 85 = .ok (.imul, 1) := by decide +kernel
theorem dX12_notes_86 : decode cX12_notes 86 = .ok (.iadd, 1) := by decide +kernel
theorem dX12_notes_87 : decode cX12_notes 87 = .ok (.iload_n 1, 1) := by decide +kernel
theorem dX12_notes_88 : decode cX12_notes 88 = .ok (.iadd, 1) := by decide +kernel
theorem dX12_notes_89 : decode cX12_notes 89 = .ok (.aload_n 0, 1) := by decide +kernel
theorem dX12_notes_90 : decode cX12_notes 90 = .ok (.getfield 43, 3) := by decide +kernel
theorem dX12_notes_93 : decode cX12_notes 93 = .ok (.iload_n 1, 1) := by decide +kernel
theorem dX12_notes_94 : decode cX12_notes 94 = .ok (.iaload, 1) := by decide +kernel
theorem dX12_notes_95 : decode cX12_notes 95 = .ok (.iastore, 1) := by decide +kernel
theorem dX12_notes_96 : decode cX12_notes 96 = .ok (.iinc 1 1, 3) := by decide +kernel
theorem dX12_notes_99 : decode cX12_notes 99 = .ok (.goto (-37), 3) := by decide +kernel
theorem dX12_notes_102 : decode cX12_notes 102 = .ok (.aload_n 0, 1) := by decide +kernel
theorem dX12_notes_103 : decode cX12_notes 103 = .ok (.getfield 13, 3) := by decide +kernel
theorem dX12_notes_106 : decode cX12_notes 106 = .ok (.sipush 148, 3) := by decide +kernel
theorem dX12_notes_109 : decode cX12_notes 109 = .ok (.dup2, 1) := by decide +kernel
theorem dX12_notes_110 : decode cX12_notes 110 = .ok (.iaload, 1) := by decide +kernel
theorem dX12_notes_111 : decode cX12_notes 111 = .ok (.iconst 1, 1) := by decide +kernel
theorem dX12_notes_112 : decode cX12_notes 112 = .ok (.iadd, 1) := by decide +kernel
theorem dX12_notes_113 : decode cX12_notes 113 = .ok (.iastore, 1) := by decide +kernel
theorem dX12_notes_114 : decode cX12_notes 114 = .ok (.return_, 1) := by decide +kernel
theorem dX12_numbers_0 : decode cX12_numbers 0 = .ok (.aload_n 0, 1) := by decide +kernel
theorem dX12_numbers_1 : decode cX12_numbers 1 = .ok (.iconst 0, 1) := by decide +kernel
theorem dX12_numbers_2 : decode cX12_numbers 2 = .ok (.putfield 1, 3) := by decide +kernel
theorem dX12_numbers_5 : decode cX12_numbers 5 = .ok (.iload_n 1, 1) := by decide +kernel
theorem dX12_numbers_6 : decode cX12_numbers 6 = .ok (.i2l, 1) := by decide +kernel
theorem dX12_numbers_7 : decode cX12_numbers 7 = .ok (.lconst 0, 1) := by decide +kernel
theorem dX12_numbers_8 : decode cX12_numbers 8 = .ok (.ldc2_w 220, 3) := by decide +kernel
theorem dX12_numbers_11 : decode cX12_numbers 11 = .ok (.invokestatic 134, 3) := by decide +kernel
theorem dX12_numbers_14 : decode cX12_numbers 14 = .ok (.ifCond .eq 15, 3) := by decide +kernel
theorem dX12_numbers_17 : decode cX12_numbers 17 = .ok (.iload_n 2, 1) := by decide +kernel
theorem dX12_numbers_18 : decode cX12_numbers 18 = .ok (.i2l, 1) := by decide +kernel
theorem dX12_numbers_19 : decode cX12_numbers 19 = .ok (.lconst 0, 1) := by decide +kernel
theorem dX12_numbers_20 : decode cX12_numbers 20 = .ok (.ldc2_w 220, 3) := by decide +kernel
theorem dX12_numbers_23 : decode cX12_numbers 23 = .ok (.invokestatic 134, 3) := by decide +kernel
theorem dX12_numbers_26 : decode cX12_numbers 26 = .ok (.ifCond .ne 6, 3) := by decide +kernel
theorem dX12_numbers_29 : decode cX12_numbers 29 = .ok (.bipush (-2), 2) := by decide +kernel
theorem dX12_numbers_31 : decode cX12_numbers 31 = .ok (.ireturn, 1) := by decide +kernel
theorem dX12_numbers_32 : decode cX12_numbers 32 = .ok (.iload_n 3, 1) := by decide +kernel
theorem dX12_numbers_33 : decode cX12_numbers 33 = .ok (.i2l, 1) := by decide +kernel
theorem dX12_numbers_34 : decode cX12_numbers 34 = .ok (.lconst 0, 1) := by decide +kernel
theorem dX12_numbers_35 : decode cX12_numbers 35 = .ok (.ldc2_w 422, 3) := by decide +kernel
theorem dX12_numbers_38 : decode cX12_numbers 38 = .ok (.invokestatic 134, 3) := by decide +kernel
theorem dX12_numbers_41 : decode cX12_numbers 41 = .ok (.ifCond .ne 6, 3) := by decide +kernel
theorem dX12_numbers_44 : decode cX12_numbers 44 = .ok (.bipush (-3), 2) := by decide +kernel
theorem dX12_numbers_46 : decode cX12_numbers 46 = .ok (.ireturn, 1) := by decide +kernel
theorem dX12_numbers_47 : decode cX12_numbers 47 = .ok (.aload_n 0, 1) := by decide +kernel
theorem dX12_numbers_48 : decode cX12_numbers 48 = .ok (.getfield 58, 3) := by decide +kernel
theorem dX12_numbers_51 : decode cX12_numbers 51 = .ok (.iload_n 1, 1) := by decide +kernel
theorem dX12_numbers_52 : decode cX12_numbers 52 = .ok (.iload_n 2, 1) := by decide +kernel
theorem dX12_numbers_53 : decode cX12_numbers 53 = .ok (.iastore, 1) := by decide +kernel
theorem dX12_numbers_54 : decode cX12_numbers 54 = .ok (.aload_n 0, 1) := by decide +kernel
theorem dX12_numbers_55 : decode cX12_numbers 55 = .ok (.getfield 61, 3) := by decide +kernel
theorem dX12_numbers_58 : decode cX12_numbers 58 = .ok (.iload_n 1, 1) := by decide +kernel
theorem dX12_numbers_59 : decode cX12_numbers 59 = .ok (.iload_n 3, 1) := by decide +kernel
theorem dX12_numbers_60 : decode cX12_numbers 60 = .ok (.iastore, 1) := by decide +kernel
theorem dX12_numbers_61 : decode cX12_numbers 61 = .ok (.iconst 0, 1) := by decide +kernel
theorem dX12_numbers_62 : decode cX12_numbers 62 = .ok (.istore 4, 2) := by decide +kernel
theorem dX12_numbers_64 : decode cX12_numbers 64 = .ok (.iload 4, 2) := by decide +kernel
theorem dX12_numbers_66 : decode cX12_numbers 66 = .ok (.iload_n 3, 1) := by decide +kernel
theorem dX12_numbers_67 : decode cX12_numbers 67 = .ok (.if_icmp .ge 22, 3) := by decide +kernel
theorem dX12_numbers_70 : decode cX12_numbers 70 = .ok (.aload_n 0, 1) := by decide +kernel
theorem dX12_numbers_71 : decode cX12_numbers 71 = .ok (.getfield 64, 3) := by decide +kernel
theorem dX12_numbers_74 : decode cX12_numbers 74 = .ok (.bipush 40, 2) := by decide +kernel
theorem dX12_numbers_76 : decode cX12_numbers 76 = .ok (.iload_n 1, 1) := by decide +kernel
theorem dX12_numbers_77 : decode cX12_numbers 77 = .ok (.imul, 1) := by decide +kernel
theorem dX12_numbers_78 : decode cX12_numbers 78 = .ok (.iload 4, 2) := by decide +kernel
theorem dX12_numbers_80 : decode cX12_numbers 80 = .ok (.iadd, 1) := by decide +kernel
theorem dX12_numbers_81 : decode cX12_numbers 81 = .ok (.lconst 0, 1) := by decide +kernel
theorem dX12_numbers_82 : decode cX12_numbers 82 = .ok (.lastore, 1) := by decide +kernel
theorem dX12_numbers_83 : decode cX12_numbers 83 = .ok (.iinc 4 1, 3) := by decide +kernel
theorem dX12_numbers_86 : decode cX12_numbers 86 = .ok (.goto (-22), 3) := by decide +kernel
theorem dX12_numbers_89 : decode cX12_numbers 89 = .ok (.iconst 0, 1) := by decide +kernel
theorem dX12_numbers_90 : decode cX12_numbers 90 = .ok (.ireturn, 1) := by decide +kernel
theorem dX12_perform_0 : decode cX12_perform 0 = .ok (.aload_n 0, 1) := by decide +kernel
theorem dX12_perform_1 : decode cX12_perform 1 = .ok (.iconst 0, 1) := by decide +kernel
theorem dX12_perform_2 : decode cX12_perform 2 = .ok (.putfield 1, 3) := by decide +kernel
theorem dX12_perform_5 : decode cX12_perform 5 = .ok (.aload_n 0, 1) := by decide +kernel
theorem dX12_perform_6 : decode cX12_perform 6 = .ok (.iload_n 1, 1) := by decide +kernel
theorem dX12_perform_7 : decode cX12_perform 7 = .ok (.invokevirtual 332, 3) := by decide +kernel
theorem dX12_perform_10 : decode cX12_perform 10 = .ok (.istore_n 2, 1) := by decide +kernel
theorem dX12_perform_11 : decode cX12_perform 11 = .ok (.iload_n 2, 1) := by decide +kernel
theorem dX12_perform_12 : decode cX12_perform 12 = .ok (.ifCond .eq 5, 3) := by decide +kernel
theorem dX12_perform_15 : decode cX12_perform 15 = .ok (.iload_n 2, 1) := by decide +kernel
theorem dX12_perform_16 : decode cX12_perform 16 = .ok (.ireturn, 1) := by decide +kernel
theorem dX12_plain_0 : decode cX12_plain 0 = .ok (.iconst 0, 1) := by decide +kernel
theorem dX12_plain_1 : decode cX12_plain 1 = .ok (.istore_n 1, 1) := by decide +kernel
theorem dX12_plain_2 : decode cX12_plain 2 = .ok (.iload_n 1, 1) := by decide +kernel
theorem dX12_plain_3 : decode cX12_plain 3 = .ok (.sipush 1770, 3) := by decide +kernel
theorem dX12_plain_6 : decode cX12_plain 6 = .ok (.if_icmp .ge 13, 3) := by decide +kernel
theorem dX12_plain_9 : decode cX12_plain 9 = .ok (.aload_n 0, 1) := by decide +kernel
theorem dX12_plain_10 : decode cX12_plain 10 = .ok (.iload_n 1, 1) := by decide +kernel
theorem dX12_plain_11 : decode cX12_plain 11 = .ok (.iconst 0, 1) := by decide +kernel
theorem dX12_plain_12 : decode cX12_plain 12 = .ok (.iastore, 1) := by decide +kernel
theorem dX12_plain_13 : decode cX12_plain 13 = .ok (.iinc 1 1, 3) := by decide +kernel
theorem dX12_plain_16 : decode cX12_plain 16 = .ok (.goto (-14), 3) := by decide +kernel
theorem dX12_plain_19 : decode cX12_plain 19 = .ok (.iconst 0, 1) := by decide +kernel
theorem dX12_plain_20 : decode cX12_plain 20 = .ok (.istore_n 1, 1) := by decide +kernel
theorem dX12_plain_21 : decode cX12_plain 21 = .ok (.iload_n 1, 1) := by decide +kernel
theorem dX12_plain_22 : decode cX12_plain 22 = .ok (.bipush 7, 2) := by decide +kernel
theorem dX12_plain_24 : decode cX12_plain 24 = .ok (.if_icmp .ge 16, 3) := by decide +kernel
theorem dX12_plain_27 : decode cX12_plain 27 = .ok (.aload_n 0, 1) := by decide +kernel
theorem dX12_plain_28 : decode cX12_plain 28 = .ok (.bipush 76, 2) := by decide +kernel
theorem dX12_plain_30 : decode cX12_plain 30 = .ok (.iload_n 1, 1) := by decide +kernel
theorem dX12_plain_31 : decode cX12_plain 31 = .ok (.iadd, 1) := by decide +kernel
theorem dX12_plain_32 : decode cX12_plain 32 = .ok (.iconst (-1), 1) := by decide +kernel
theorem dX12_plain_33 : decode cX12_plain 33 = .ok (.iastore, 1) := by decide +kernel
theorem dX12_plain_34 : decode cX12_plain 34 = .ok (.iinc 1 1, 3) := by decide +kernel
theorem dX12_plain_37 : decode cX12_plain 37 = .ok (.goto (-16), 3) := by decide +kernel
theorem dX12_plain_40 : decode cX12_plain 40 = .ok (.return_, 1) := by decide +kernel
theorem dX12_restore_0 : decode cX12_restore 0 = .ok (.aload_n 0, 1) := by decide +kernel
theorem dX12_restore_1 : decode cX12_restore 1 = .ok (.iconst 0, 1) := by decide +kernel
theorem dX12_restore_2 : decode cX12_restore 2 = .ok (.putfield 1, 3) := by decide +kernel
theorem dX12_restore_5 : decode cX12_restore 5 = .ok (.iload_n 1, 1) := by decide +kernel
theorem dX12_restore_6 : decode cX12_restore 6 = .ok (.i2l, 1) := by decide +kernel
theorem dX12_restore_7 : decode cX12_restore 7 = .ok (.lconst 0, 1) := by decide +kernel
theorem dX12_restore_8 : decode cX12_restore 8 = .ok (.lconst 1, 1) := by decide +kernel
theorem dX12_restore_9 : decode cX12_restore 9 = .ok (.invokestatic 134, 3) := by decide +kernel
theorem dX12_restore_12 : decode cX12_restore 12 = .ok (.ifCond .ne 6, 3) := by decide +kernel
theorem dX12_restore_15 : decode cX12_restore 15 = .ok (.bipush (-2), 2) := by decide +kernel
theorem dX12_restore_17 : decode cX12_restore 17 = .ok (.ireturn, 1) := by decide +kernel
theorem dX12_restore_18 : decode cX12_restore 18 = .ok (.aload_n 0, 1) := by decide +kernel
theorem dX12_restore_19 : decode cX12_restore 19 = .ok (.getfield 17, 3) := by decide +kernel
theorem dX12_restore_22 : decode cX12_restore 22 = .ok (.iload_n 1, 1) := by decide +kernel
theorem dX12_restore_23 : decode cX12_restore 23 = .ok (.baload, 1) := by decide +kernel
theorem dX12_restore_24 : decode cX12_restore 24 = .ok (.ifCond .ne 6, 3) := by decide +kernel
theorem dX12_restore_27 : decode cX12_restore 27 = .ok (.bipush (-5), 2) := by decide +kernel
theorem dX12_restore_29 : decode cX12_restore 29 = .ok (.ireturn, 1) := by decide +kernel
theorem dX12_rings_0 : decode cX12_rings 0 = .ok (.aload_n 0, 1) := by decide +kernel
theorem dX12_rings_1 : decode cX12_rings 1 = .ok (.iconst 0, 1) := by decide +kernel
theorem dX12_rings_2 : decode cX12_rings 2 = .ok (.putfield 1, 3) := by decide +kernel
theorem dX12_rings_5 : decode cX12_rings 5 = .ok (.aload_n 0, 1) := by decide +kernel
theorem dX12_rings_6 : decode cX12_rings 6 = .ok (.invokevirtual 261, 3) := by decide +kernel
theorem dX12_rings_9 : decode cX12_rings 9 = .ok (.aload_n 0, 1) := by decide +kernel
theorem dX12_rings_10 : decode cX12_rings 10 = .ok (.invokevirtual 280, 3) := by decide +kernel
theorem dX12_rings_13 : decode cX12_rings 13 = .ok (.istore_n 1, 1) := by decide +kernel
theorem dX12_rings_14 : decode cX12_rings 14 = .ok (.iload_n 1, 1) := by decide +kernel
theorem dX12_rings_15 : decode cX12_rings 15 = .ok (.ifCond .le 7, 3) := by decide +kernel
theorem dX12_rings_22 : decode cX12_rings 22 = .ok (.iload_n 1, 1) := by decide +kernel
theorem dX12_rings_23 : decode cX12_rings 23 = .ok (.ireturn, 1) := by decide +kernel
theorem dX12_ringsMany_0 : decode cX12_ringsMany 0 = .ok (.aload_n 0, 1) := by decide +kernel
theorem dX12_ringsMany_1 : decode cX12_ringsMany 1 = .ok (.iconst 0, 1) := by decide +kernel
theorem dX12_ringsMany_2 : decode cX12_ringsMany 2 = .ok (.putfield 1, 3) := by decide +kernel
theorem dX12_ringsMany_5 : decode cX12_ringsMany 5 = .ok (.aload_n 0, 1) := by decide +kernel
theorem dX12_ringsMany_6 : decode cX12_ringsMany 6 = .ok (.invokevirtual 277, 3) := by decide +kernel
theorem dX12_ringsMany_9 : decode cX12_ringsMany 9 = .ok (.aload_n 0, 1) := by decide +kernel
theorem dX12_ringsMany_10 : decode cX12_ringsMany 10 = .ok (.getfield 271, 3) := by decide +kernel
theorem dX12_ringsMany_13 : decode cX12_ringsMany 13 = .ok (.ireturn, 1) := by decide +kernel
theorem dX12_see_0 : decode cX12_see 0 = .ok (.iload_n 1, 1) := by decide +kernel
theorem dX12_see_1 : decode cX12_see 1 = .ok (.aload_n 0, 1) := by decide +kernel
theorem dX12_see_2 : decode cX12_see 2 = .ok (.getfield 75, 3) := by decide +kernel
theorem dX12_see_5 : decode cX12_see 5 = .ok (.if_icmp .ge 12, 3) := by decide +kernel
theorem dX12_see_17 : decode cX12_see 17 = .ok (.iconst (-1), 1) := by decide +kernel
theorem dX12_see_18 : decode cX12_see 18 = .ok (.ireturn, 1) := by decide +kernel
theorem dX12_seen_0 : decode cX12_seen 0 = .ok (.aload_n 0, 1) := by decide +kernel
theorem dX12_seen_1 : decode cX12_seen 1 = .ok (.iconst 0, 1) := by decide +kernel
theorem dX12_seen_2 : decode cX12_seen 2 = .ok (.putfield 1, 3) := by decide +kernel
theorem dX12_seen_5 : decode cX12_seen 5 = .ok (.aload_n 0, 1) := by decide +kernel
theorem dX12_seen_6 : decode cX12_seen 6 = .ok (.iload_n 1, 1) := by decide +kernel
theorem dX12_seen_7 : decode cX12_seen 7 = .ok (.invokevirtual 413, 3) := by decide +kernel
theorem dX12_seen_10 : decode cX12_seen 10 = .ok (.istore_n 2, 1) := by decide +kernel
theorem dX12_seen_11 : decode cX12_seen 11 = .ok (.iload_n 2, 1) := by decide +kernel
theorem dX12_seen_12 : decode cX12_seen 12 = .ok (.ifCond .eq 5, 3) := by decide +kernel
theorem dX12_seen_15 : decode cX12_seen 15 = .ok (.iload_n 2, 1) := by decide +kernel
theorem dX12_seen_16 : decode cX12_seen 16 = .ok (.ireturn, 1) := by decide +kernel
theorem dX12_spoils_0 : decode cX12_spoils 0 = .ok (.aload_n 0, 1) := by decide +kernel
theorem dX12_spoils_1 : decode cX12_spoils 1 = .ok (.iconst 0, 1) := by decide +kernel
theorem dX12_spoils_2 : decode cX12_spoils 2 = .ok (.putfield 1, 3) := by decide +kernel
theorem dX12_spoils_5 : decode cX12_spoils 5 = .ok (.aload_n 0, 1) := by decide +kernel
theorem dX12_spoils_6 : decode cX12_spoils 6 = .ok (.iload_n 1, 1) := by decide +kernel
theorem dX12_spoils_7 : decode cX12_spoils 7 = .ok (.i2l, 1) := by decide +kernel
theorem dX12_spoils_8 : decode cX12_spoils 8 = .ok (.bipush 9, 2) := by decide +kernel
theorem dX12_spoils_10 : decode cX12_spoils 10 = .ok (.invokevirtual 296, 3) := by decide +kernel
theorem dX12_spoils_13 : decode cX12_spoils 13 = .ok (.istore_n 2, 1) := by decide +kernel
theorem dX12_spoils_14 : decode cX12_spoils 14 = .ok (.iload_n 2, 1) := by decide +kernel
theorem dX12_spoils_15 : decode cX12_spoils 15 = .ok (.ifCond .eq 8, 3) := by decide +kernel
theorem dX12_spoils_18 : decode cX12_spoils 18 = .ok (.bipush (-10), 2) := by decide +kernel
theorem dX12_spoils_20 : decode cX12_spoils 20 = .ok (.iload_n 2, 1) := by decide +kernel
theorem dX12_spoils_21 : decode cX12_spoils 21 = .ok (.isub, 1) := by decide +kernel
theorem dX12_spoils_22 : decode cX12_spoils 22 = .ok (.ireturn, 1) := by decide +kernel
theorem dX12_stillest_0 : decode cX12_stillest 0 = .ok (.aload_n 0, 1) := by decide +kernel
theorem dX12_stillest_1 : decode cX12_stillest 1 = .ok (.iconst 0, 1) := by decide +kernel
theorem dX12_stillest_2 : decode cX12_stillest 2 = .ok (.putfield 1, 3) := by decide +kernel
theorem dX12_stillest_5 : decode cX12_stillest 5 = .ok (.aload_n 0, 1) := by decide +kernel
theorem dX12_stillest_6 : decode cX12_stillest 6 = .ok (.iconst 2, 1) := by decide +kernel
theorem dX12_stillest_7 : decode cX12_stillest 7 = .ok (.iload_n 1, 1) := by decide +kernel
theorem dX12_stillest_8 : decode cX12_stillest 8 = .ok (.iconst (-1), 1) := by decide +kernel
theorem dX12_stillest_9 : decode cX12_stillest 9 = .ok (.invokevirtual 387, 3) := by decide +kernel
theorem dX12_stillest_12 : decode cX12_stillest 12 = .ok (.ireturn, 1) := by decide +kernel
theorem dX12_sure_0 : decode cX12_sure 0 = .ok (.aload_n 0, 1) := by decide +kernel
theorem dX12_sure_1 : decode cX12_sure 1 = .ok (.iconst 0, 1) := by decide +kernel
theorem dX12_sure_2 : decode cX12_sure 2 = .ok (.putfield 1, 3) := by decide +kernel
theorem dX12_sure_5 : decode cX12_sure 5 = .ok (.aload_n 0, 1) := by decide +kernel
theorem dX12_sure_6 : decode cX12_sure 6 = .ok (.iload_n 1, 1) := by decide +kernel
theorem dX12_sure_7 : decode cX12_sure 7 = .ok (.i2l, 1) := by decide +kernel
theorem dX12_sure_8 : decode cX12_sure 8 = .ok (.invokevirtual 225, 3) := by decide +kernel
theorem dX12_sure_11 : decode cX12_sure 11 = .ok (.ifCond .eq 15, 3) := by decide +kernel
theorem dX12_sure_26 : decode cX12_sure 26 = .ok (.bipush (-2), 2) := by decide +kernel
theorem dX12_sure_28 : decode cX12_sure 28 = .ok (.ireturn, 1) := by decide +kernel
theorem dX12_thisMap_0 : decode cX12_thisMap 0 = .ok (.aload_n 0, 1) := by decide +kernel
theorem dX12_thisMap_1 : decode cX12_thisMap 1 = .ok (.iconst 0, 1) := by decide +kernel
theorem dX12_thisMap_2 : decode cX12_thisMap 2 = .ok (.putfield 1, 3) := by decide +kernel
theorem dX12_thisMap_5 : decode cX12_thisMap 5 = .ok (.aload_n 0, 1) := by decide +kernel
theorem dX12_thisMap_6 : decode cX12_thisMap 6 = .ok (.iconst (-1), 1) := by decide +kernel
theorem dX12_thisMap_7 : decode cX12_thisMap 7 = .ok (.invokevirtual 258, 3) := by decide +kernel
theorem dX12_thisMap_10 : decode cX12_thisMap 10 = .ok (.iconst 0, 1) := by decide +kernel
theorem dX12_thisMap_11 : decode cX12_thisMap 11 = .ok (.istore_n 1, 1) := by decide +kernel
theorem dX12_thisMap_12 : decode cX12_thisMap 12 = .ok (.iload_n 1, 1) := by decide +kernel
theorem dX12_thisMap_13 : decode cX12_thisMap 13 = .ok (.aload_n 0, 1) := by decide +kernel
theorem dX12_thisMap_14 : decode cX12_thisMap 14 = .ok (.getfield 244, 3) := by decide +kernel
theorem dX12_thisMap_17 : decode cX12_thisMap 17 = .ok (.if_icmp .ge 65, 3) := by decide +kernel
theorem dX12_thisMap_20 : decode cX12_thisMap 20 = .ok (.iconst 1, 1) := by decide +kernel
theorem dX12_thisMap_21 : decode cX12_thisMap 21 = .ok (.istore_n 2, 1) := by decide +kernel
theorem dX12_thisMap_22 : decode cX12_thisMap 22 = .ok (.iconst 0, 1) := by decide +kernel
theorem dX12_thisMap_23 : decode cX12_thisMap 23 = .ok (.istore_n 3, 1) := by decide +kernel
theorem dX12_thisMap_24 : decode cX12_thisMap 24 = .ok (.iload_n 3, 1) := by decide +kernel
theorem dX12_thisMap_25 : decode cX12_thisMap 25 = .ok (.aload_n 0, 1) := by decide +kernel
theorem dX12_thisMap_26 : decode cX12_thisMap 26 = .ok (.getfield 13, 3) := by decide +kernel
theorem dX12_thisMap_29 : decode cX12_thisMap 29 = .ok (.iconst 2, 1) := by decide +kernel
theorem dX12_thisMap_30 : decode cX12_thisMap 30 = .ok (.iaload, 1) := by decide +kernel
theorem dX12_thisMap_31 : decode cX12_thisMap 31 = .ok (.if_icmp .ge 39, 3) := by decide +kernel
theorem dX12_thisMap_70 : decode cX12_thisMap 70 = .ok (.iload_n 2, 1) := by decide +kernel
theorem dX12_thisMap_71 : decode cX12_thisMap 71 = .ok (.ifCond .eq 5, 3) := by decide +kernel
theorem dX12_thisMap_74 : decode cX12_thisMap 74 = .ok (.iload_n 1, 1) := by decide +kernel
theorem dX12_thisMap_75 : decode cX12_thisMap 75 = .ok (.ireturn, 1) := by decide +kernel
theorem dX12_times_0 : decode cX12_times 0 = .ok (.aload_n 0, 1) := by decide +kernel
theorem dX12_times_1 : decode cX12_times 1 = .ok (.iconst 0, 1) := by decide +kernel
theorem dX12_times_2 : decode cX12_times 2 = .ok (.putfield 1, 3) := by decide +kernel
theorem dX12_times_5 : decode cX12_times 5 = .ok (.aload_n 0, 1) := by decide +kernel
theorem dX12_times_6 : decode cX12_times 6 = .ok (.iload_n 1, 1) := by decide +kernel
theorem dX12_times_7 : decode cX12_times 7 = .ok (.iload_n 2, 1) := by decide +kernel
theorem dX12_times_8 : decode cX12_times 8 = .ok (.invokevirtual 230, 3) := by decide +kernel
theorem dX12_times_11 : decode cX12_times 11 = .ok (.ifCond .eq 20, 3) := by decide +kernel
theorem dX12_times_31 : decode cX12_times 31 = .ok (.bipush (-2), 2) := by decide +kernel
theorem dX12_times_33 : decode cX12_times 33 = .ok (.ireturn, 1) := by decide +kernel
theorem dX12_tooMany_0 : decode cX12_tooMany 0 = .ok (.aload_n 0, 1) := by decide +kernel
theorem dX12_tooMany_1 : decode cX12_tooMany 1 = .ok (.iconst 0, 1) := by decide +kernel
theorem dX12_tooMany_2 : decode cX12_tooMany 2 = .ok (.putfield 1, 3) := by decide +kernel
theorem dX12_tooMany_5 : decode cX12_tooMany 5 = .ok (.aload_n 0, 1) := by decide +kernel
theorem dX12_tooMany_6 : decode cX12_tooMany 6 = .ok (.iconst (-1), 1) := by decide +kernel
theorem dX12_tooMany_7 : decode cX12_tooMany 7 = .ok (.invokevirtual 258, 3) := by decide +kernel
theorem dX12_tooMany_10 : decode cX12_tooMany 10 = .ok (.aload_n 0, 1) := by decide +kernel
theorem dX12_tooMany_11 : decode cX12_tooMany 11 = .ok (.getfield 244, 3) := by decide +kernel
theorem dX12_tooMany_14 : decode cX12_tooMany 14 = .ok (.ifCond .le 5, 3) := by decide +kernel
theorem dX12_tooMany_17 : decode cX12_tooMany 17 = .ok (.iconst 0, 1) := by decide +kernel
theorem dX12_tooMany_18 : decode cX12_tooMany 18 = .ok (.ireturn, 1) := by decide +kernel
theorem dX12_tower_0 : decode cX12_tower 0 = .ok (.aload_n 0, 1) := by decide +kernel
theorem dX12_tower_1 : decode cX12_tower 1 = .ok (.iconst 0, 1) := by decide +kernel
theorem dX12_tower_2 : decode cX12_tower 2 = .ok (.putfield 1, 3) := by decide +kernel
theorem dX12_tower_5 : decode cX12_tower 5 = .ok (.iload_n 1, 1) := by decide +kernel
theorem dX12_tower_6 : decode cX12_tower 6 = .ok (.i2l, 1) := by decide +kernel
theorem dX12_tower_7 : decode cX12_tower 7 = .ok (.lconst 0, 1) := by decide +kernel
theorem dX12_tower_8 : decode cX12_tower 8 = .ok (.aload_n 0, 1) := by decide +kernel
theorem dX12_tower_9 : decode cX12_tower 9 = .ok (.getfield 72, 3) := by decide +kernel
theorem dX12_tower_12 : decode cX12_tower 12 = .ok (.i2l, 1) := by decide +kernel
theorem dX12_tower_13 : decode cX12_tower 13 = .ok (.invokestatic 134, 3) := by decide +kernel
theorem dX12_tower_16 : decode cX12_tower 16 = .ok (.ifCond .ne 6, 3) := by decide +kernel
theorem dX12_tower_19 : decode cX12_tower 19 = .ok (.bipush (-3), 2) := by decide +kernel
theorem dX12_tower_21 : decode cX12_tower 21 = .ok (.ireturn, 1) := by decide +kernel
theorem dX12_tower_22 : decode cX12_tower 22 = .ok (.aload_n 0, 1) := by decide +kernel
theorem dX12_tower_23 : decode cX12_tower 23 = .ok (.iload_n 1, 1) := by decide +kernel
theorem dX12_tower_24 : decode cX12_tower 24 = .ok (.putfield 75, 3) := by decide +kernel
theorem dX12_tower_27 : decode cX12_tower 27 = .ok (.aload_n 0, 1) := by decide +kernel
theorem dX12_tower_28 : decode cX12_tower 28 = .ok (.iconst 0, 1) := by decide +kernel
theorem dX12_tower_29 : decode cX12_tower 29 = .ok (.putfield 72, 3) := by decide +kernel
theorem dX12_tower_32 : decode cX12_tower 32 = .ok (.aload_n 0, 1) := by decide +kernel
theorem dX12_tower_33 : decode cX12_tower 33 = .ok (.iconst 0, 1) := by decide +kernel
theorem dX12_tower_34 : decode cX12_tower 34 = .ok (.putfield 93, 3) := by decide +kernel
theorem dX12_tower_37 : decode cX12_tower 37 = .ok (.aload_n 0, 1) := by decide +kernel
theorem dX12_tower_38 : decode cX12_tower 38 = .ok (.iconst 0, 1) := by decide +kernel
theorem dX12_tower_39 : decode cX12_tower 39 = .ok (.putfield 118, 3) := by decide +kernel
theorem dX12_tower_42 : decode cX12_tower 42 = .ok (.aload_n 0, 1) := by decide +kernel
theorem dX12_tower_43 : decode cX12_tower 43 = .ok (.getfield 24, 3) := by decide +kernel
theorem dX12_tower_46 : decode cX12_tower 46 = .ok (.invokestatic 68, 3) := by decide +kernel
theorem dX12_tower_49 : decode cX12_tower 49 = .ok (.aload_n 0, 1) := by decide +kernel
theorem dX12_tower_50 : decode cX12_tower 50 = .ok (.invokevirtual 127, 3) := by decide +kernel
theorem dX12_tower_53 : decode cX12_tower 53 = .ok (.aload_n 0, 1) := by decide +kernel
theorem dX12_tower_54 : decode cX12_tower 54 = .ok (.getfield 118, 3) := by decide +kernel
theorem dX12_tower_57 : decode cX12_tower 57 = .ok (.ifCond .ne 43, 3) := by decide +kernel
theorem dX12_tower_60 : decode cX12_tower 60 = .ok (.aload_n 0, 1) := by decide +kernel
theorem dX12_tower_61 : decode cX12_tower 61 = .ok (.getfield 100, 3) := by decide +kernel
theorem dX12_tower_64 : decode cX12_tower 64 = .ok (.bipush 24, 2) := by decide +kernel
theorem dX12_tower_66 : decode cX12_tower 66 = .ok (.if_icmp .eq 34, 3) := by decide +kernel
theorem dX12_tower_100 : decode cX12_tower 100 = .ok (.aload_n 0, 1) := by decide +kernel
theorem dX12_tower_101 : decode cX12_tower 101 = .ok (.aload_n 0, 1) := by decide +kernel
theorem dX12_tower_102 : decode cX12_tower 102 = .ok (.getfield 118, 3) := by decide +kernel
theorem dX12_tower_105 : decode cX12_tower 105 = .ok (.putfield 195, 3) := by decide +kernel
theorem dX12_tower_108 : decode cX12_tower 108 = .ok (.aload_n 0, 1) := by decide +kernel
theorem dX12_tower_109 : decode cX12_tower 109 = .ok (.aload_n 0, 1) := by decide +kernel
theorem dX12_tower_110 : decode cX12_tower 110 = .ok (.getfield 118, 3) := by decide +kernel
theorem dX12_tower_113 : decode cX12_tower 113 = .ok (.ifCond .ne 7, 3) := by decide +kernel
theorem dX12_tower_116 : decode cX12_tower 116 = .ok (.iconst (-1), 1) := by decide +kernel
theorem dX12_tower_117 : decode cX12_tower 117 = .ok (.goto 7, 3) := by decide +kernel
theorem dX12_tower_124 : decode cX12_tower 124 = .ok (.putfield 27, 3) := by decide +kernel
theorem dX12_tower_127 : decode cX12_tower 127 = .ok (.aload_n 0, 1) := by decide +kernel
theorem dX12_tower_128 : decode cX12_tower 128 = .ok (.getfield 118, 3) := by decide +kernel
theorem dX12_tower_131 : decode cX12_tower 131 = .ok (.ifCond .eq 11, 3) := by decide +kernel
theorem dX12_tower_142 : decode cX12_tower 142 = .ok (.iconst 0, 1) := by decide +kernel
theorem dX12_tower_143 : decode cX12_tower 143 = .ok (.istore_n 2, 1) := by decide +kernel
theorem dX12_tower_144 : decode cX12_tower 144 = .ok (.iload_n 2, 1) := by decide +kernel
theorem dX12_tower_145 : decode cX12_tower 145 = .ok (.sipush 1770, 3) := by decide +kernel
theorem dX12_tower_148 : decode cX12_tower 148 = .ok (.if_icmp .ge 21, 3) := by decide +kernel
theorem dX12_tower_151 : decode cX12_tower 151 = .ok (.aload_n 0, 1) := by decide +kernel
theorem dX12_tower_152 : decode cX12_tower 152 = .ok (.getfield 13, 3) := by decide +kernel
theorem dX12_tower_155 : decode cX12_tower 155 = .ok (.iload_n 2, 1) := by decide +kernel
theorem dX12_tower_156 : decode cX12_tower 156 = .ok (.aload_n 0, 1) := by decide +kernel
theorem dX12_tower_157 : decode cX12_tower 157 = .ok (.getfield 24, 3) := by decide +kernel
theorem dX12_tower_160 : decode cX12_tower 160 = .ok (.iload_n 2, 1) := by decide +kernel
theorem dX12_tower_161 : decode cX12_tower 161 = .ok (.iaload, 1) := by decide +kernel
theorem dX12_tower_162 : decode cX12_tower 162 = .ok (.iastore, 1) := by decide +kernel
theorem dX12_tower_163 : decode cX12_tower 163 = .ok (.iinc 2 1, 3) := by decide +kernel
theorem dX12_tower_166 : decode cX12_tower 166 = .ok (.goto (-22), 3) := by decide +kernel
theorem dX12_tower_169 : decode cX12_tower 169 = .ok (.aload_n 0, 1) := by decide +kernel
theorem dX12_tower_170 : decode cX12_tower 170 = .ok (.getfield 13, 3) := by decide +kernel
theorem dX12_tower_173 : decode cX12_tower 173 = .ok (.iconst 0, 1) := by decide +kernel
theorem dX12_tower_174 : decode cX12_tower 174 = .ok (.iaload, 1) := by decide +kernel
theorem dX12_tower_175 : decode cX12_tower 175 = .ok (.ireturn, 1) := by decide +kernel
theorem dX12_undo_0 : decode cX12_undo 0 = .ok (.aload_n 0, 1) := by decide +kernel
theorem dX12_undo_1 : decode cX12_undo 1 = .ok (.iconst 0, 1) := by decide +kernel
theorem dX12_undo_2 : decode cX12_undo 2 = .ok (.putfield 1, 3) := by decide +kernel
theorem dX12_undo_5 : decode cX12_undo 5 = .ok (.iload_n 1, 1) := by decide +kernel
theorem dX12_undo_6 : decode cX12_undo 6 = .ok (.i2l, 1) := by decide +kernel
theorem dX12_undo_7 : decode cX12_undo 7 = .ok (.lconst 1, 1) := by decide +kernel
theorem dX12_undo_8 : decode cX12_undo 8 = .ok (.ldc2_w 300, 3) := by decide +kernel
theorem dX12_undo_11 : decode cX12_undo 11 = .ok (.invokestatic 134, 3) := by decide +kernel
theorem dX12_undo_14 : decode cX12_undo 14 = .ok (.ifCond .eq 15, 3) := by decide +kernel
theorem dX12_undo_17 : decode cX12_undo 17 = .ok (.iload_n 1, 1) := by decide +kernel
theorem dX12_undo_18 : decode cX12_undo 18 = .ok (.aload_n 0, 1) := by decide +kernel
theorem dX12_undo_19 : decode cX12_undo 19 = .ok (.getfield 13, 3) := by decide +kernel
theorem dX12_undo_22 : decode cX12_undo 22 = .ok (.sipush 148, 3) := by decide +kernel
theorem dX12_undo_25 : decode cX12_undo 25 = .ok (.iaload, 1) := by decide +kernel
theorem dX12_undo_26 : decode cX12_undo 26 = .ok (.if_icmp .le 6, 3) := by decide +kernel
theorem dX12_undo_29 : decode cX12_undo 29 = .ok (.bipush (-3), 2) := by decide +kernel
theorem dX12_undo_31 : decode cX12_undo 31 = .ok (.ireturn, 1) := by decide +kernel
theorem dX12_valueIn_0 : decode cX12_valueIn 0 = .ok (.iload_n 2, 1) := by decide +kernel
theorem dX12_valueIn_1 : decode cX12_valueIn 1 = .ok (.ifCond .ne 11, 3) := by decide +kernel
theorem dX12_valueIn_4 : decode cX12_valueIn 4 = .ok (.aload_n 0, 1) := by decide +kernel
theorem dX12_valueIn_5 : decode cX12_valueIn 5 = .ok (.iload_n 1, 1) := by decide +kernel
theorem dX12_valueIn_6 : decode cX12_valueIn 6 = .ok (.invokevirtual 370, 3) := by decide +kernel
theorem dX12_valueIn_9 : decode cX12_valueIn 9 = .ok (.goto 22, 3) := by decide +kernel
theorem dX12_valueIn_12 : decode cX12_valueIn 12 = .ok (.iload_n 2, 1) := by decide +kernel
theorem dX12_valueIn_13 : decode cX12_valueIn 13 = .ok (.iconst 1, 1) := by decide +kernel
theorem dX12_valueIn_14 : decode cX12_valueIn 14 = .ok (.if_icmp .ne 11, 3) := by decide +kernel
theorem dX12_valueIn_17 : decode cX12_valueIn 17 = .ok (.aload_n 0, 1) := by decide +kernel
theorem dX12_valueIn_18 : decode cX12_valueIn 18 = .ok (.iload_n 1, 1) := by decide +kernel
theorem dX12_valueIn_19 : decode cX12_valueIn 19 = .ok (.invokevirtual 373, 3) := by decide +kernel
theorem dX12_valueIn_22 : decode cX12_valueIn 22 = .ok (.goto 9, 3) := by decide +kernel
theorem dX12_valueIn_25 : decode cX12_valueIn 25 = .ok (.aload_n 0, 1) := by decide +kernel
theorem dX12_valueIn_26 : decode cX12_valueIn 26 = .ok (.iload_n 1, 1) := by decide +kernel
theorem dX12_valueIn_27 : decode cX12_valueIn 27 = .ok (.invokevirtual 376, 3) := by decide +kernel
theorem dX12_valueIn_30 : decode cX12_valueIn 30 = .ok (.ineg, 1) := by decide +kernel
theorem dX12_valueIn_31 : decode cX12_valueIn 31 = .ok (.ireturn, 1) := by decide +kernel
theorem dX12_wall_0 : decode cX12_wall 0 = .ok (.aload_n 0, 1) := by decide +kernel
theorem dX12_wall_1 : decode cX12_wall 1 = .ok (.iconst 0, 1) := by decide +kernel
theorem dX12_wall_2 : decode cX12_wall 2 = .ok (.putfield 1, 3) := by decide +kernel
theorem dX12_wall_5 : decode cX12_wall 5 = .ok (.aload_n 0, 1) := by decide +kernel
theorem dX12_wall_6 : decode cX12_wall 6 = .ok (.iload_n 1, 1) := by decide +kernel
theorem dX12_wall_7 : decode cX12_wall 7 = .ok (.invokevirtual 413, 3) := by decide +kernel
theorem dX12_wall_10 : decode cX12_wall 10 = .ok (.istore_n 2, 1) := by decide +kernel
theorem dX12_wall_11 : decode cX12_wall 11 = .ok (.iload_n 2, 1) := by decide +kernel
theorem dX12_wall_12 : decode cX12_wall 12 = .ok (.ifCond .eq 5, 3) := by decide +kernel
theorem dX12_wall_15 : decode cX12_wall 15 = .ok (.iload_n 2, 1) := by decide +kernel
theorem dX12_wall_16 : decode cX12_wall 16 = .ok (.ireturn, 1) := by decide +kernel
theorem dX12_whyFault_0 : decode cX12_whyFault 0 = .ok (.aload_n 0, 1) := by decide +kernel
theorem dX12_whyFault_1 : decode cX12_whyFault 1 = .ok (.lload_n 1, 1) := by decide +kernel
theorem dX12_whyFault_2 : decode cX12_whyFault 2 = .ok (.invokevirtual 216, 3) := by decide +kernel
theorem dX12_whyFault_5 : decode cX12_whyFault 5 = .ok (.ifCond .ne 7, 3) := by decide +kernel
theorem dX12_whyFault_8 : decode cX12_whyFault 8 = .ok (.iconst 1, 1) := by decide +kernel
theorem dX12_whyFault_9 : decode cX12_whyFault 9 = .ok (.goto 23, 3) := by decide +kernel
theorem dX12_whyFault_32 : decode cX12_whyFault 32 = .ok (.ireturn, 1) := by decide +kernel
theorem dX12_whyLeave_0 : decode cX12_whyLeave 0 = .ok (.aload_n 0, 1) := by decide +kernel
theorem dX12_whyLeave_1 : decode cX12_whyLeave 1 = .ok (.lload_n 1, 1) := by decide +kernel
theorem dX12_whyLeave_2 : decode cX12_whyLeave 2 = .ok (.invokevirtual 225, 3) := by decide +kernel
theorem dX12_whyLeave_5 : decode cX12_whyLeave 5 = .ok (.ifCond .ne 7, 3) := by decide +kernel
theorem dX12_whyLeave_8 : decode cX12_whyLeave 8 = .ok (.iconst 1, 1) := by decide +kernel
theorem dX12_whyLeave_9 : decode cX12_whyLeave 9 = .ok (.goto 22, 3) := by decide +kernel
theorem dX12_whyLeave_31 : decode cX12_whyLeave 31 = .ok (.ireturn, 1) := by decide +kernel
theorem dX12_whyMove_0 : decode cX12_whyMove 0 = .ok (.aload_n 0, 1) := by decide +kernel
theorem dX12_whyMove_1 : decode cX12_whyMove 1 = .ok (.lload_n 1, 1) := by decide +kernel
theorem dX12_whyMove_2 : decode cX12_whyMove 2 = .ok (.invokevirtual 225, 3) := by decide +kernel
theorem dX12_whyMove_5 : decode cX12_whyMove 5 = .ok (.ifCond .eq 11, 3) := by decide +kernel
theorem dX12_whyMove_16 : decode cX12_whyMove 16 = .ok (.iconst 1, 1) := by decide +kernel
theorem dX12_whyMove_17 : decode cX12_whyMove 17 = .ok (.ireturn, 1) := by decide +kernel
theorem dX12_with_0 : decode cX12_with 0 = .ok (.aload_n 0, 1) := by decide +kernel
theorem dX12_with_1 : decode cX12_with 1 = .ok (.iconst 0, 1) := by decide +kernel
theorem dX12_with_2 : decode cX12_with 2 = .ok (.putfield 1, 3) := by decide +kernel
theorem dX12_with_5 : decode cX12_with 5 = .ok (.aload_n 0, 1) := by decide +kernel
theorem dX12_with_6 : decode cX12_with 6 = .ok (.iload_n 1, 1) := by decide +kernel
theorem dX12_with_7 : decode cX12_with 7 = .ok (.iload_n 2, 1) := by decide +kernel
theorem dX12_with_8 : decode cX12_with 8 = .ok (.invokevirtual 230, 3) := by decide +kernel
theorem dX12_with_11 : decode cX12_with 11 = .ok (.ifCond .ne 6, 3) := by decide +kernel
theorem dX12_with_14 : decode cX12_with 14 = .ok (.bipush (-2), 2) := by decide +kernel
theorem dX12_with_16 : decode cX12_with 16 = .ok (.ireturn, 1) := by decide +kernel
theorem dX12_within_0 : decode cX12_within 0 = .ok (.lload_n 0, 1) := by decide +kernel
theorem dX12_within_1 : decode cX12_within 1 = .ok (.lload_n 2, 1) := by decide +kernel
theorem dX12_within_2 : decode cX12_within 2 = .ok (.lcmp, 1) := by decide +kernel
theorem dX12_within_3 : decode cX12_within 3 = .ok (.ifCond .lt 14, 3) := by decide +kernel
theorem dX12_within_6 : decode cX12_within 6 = .ok (.lload_n 0, 1) := by decide +kernel
theorem dX12_within_7 : decode cX12_within 7 = .ok (.lload 4, 2) := by decide +kernel
theorem dX12_within_9 : decode cX12_within 9 = .ok (.lcmp, 1) := by decide +kernel
theorem dX12_within_10 : decode cX12_within 10 = .ok (.ifCond .gt 7, 3) := by decide +kernel
theorem dX12_within_13 : decode cX12_within 13 = .ok (.iconst 1, 1) := by decide +kernel
theorem dX12_within_14 : decode cX12_within 14 = .ok (.goto 4, 3) := by decide +kernel
theorem dX12_within_17 : decode cX12_within 17 = .ok (.iconst 0, 1) := by decide +kernel
theorem dX12_within_18 : decode cX12_within 18 = .ok (.ireturn, 1) := by decide +kernel
theorem dX12_worth_0 : decode cX12_worth 0 = .ok (.aload_n 0, 1) := by decide +kernel
theorem dX12_worth_1 : decode cX12_worth 1 = .ok (.iconst 0, 1) := by decide +kernel
theorem dX12_worth_2 : decode cX12_worth 2 = .ok (.putfield 1, 3) := by decide +kernel
theorem dX12_worth_5 : decode cX12_worth 5 = .ok (.aload_n 0, 1) := by decide +kernel
theorem dX12_worth_6 : decode cX12_worth 6 = .ok (.iload_n 1, 1) := by decide +kernel
theorem dX12_worth_7 : decode cX12_worth 7 = .ok (.iload_n 2, 1) := by decide +kernel
theorem dX12_worth_8 : decode cX12_worth 8 = .ok (.invokevirtual 230, 3) := by decide +kernel
theorem dX12_worth_11 : decode cX12_worth 11 = .ok (.ifCond .eq 12, 3) := by decide +kernel
theorem dX12_worth_23 : decode cX12_worth 23 = .ok (.ldc 240, 2) := by decide +kernel
theorem dX12_worth_25 : decode cX12_worth 25 = .ok (.ireturn, 1) := by decide +kernel
theorem dX12_worthIn_0 : decode cX12_worthIn 0 = .ok (.iconst 0, 1) := by decide +kernel
theorem dX12_worthIn_1 : decode cX12_worthIn 1 = .ok (.istore_n 2, 1) := by decide +kernel
theorem dX12_worthIn_2 : decode cX12_worthIn 2 = .ok (.iconst 0, 1) := by decide +kernel
theorem dX12_worthIn_3 : decode cX12_worthIn 3 = .ok (.istore_n 3, 1) := by decide +kernel
theorem dX12_worthIn_4 : decode cX12_worthIn 4 = .ok (.iload_n 3, 1) := by decide +kernel
theorem dX12_worthIn_5 : decode cX12_worthIn 5 = .ok (.aload_n 0, 1) := by decide +kernel
theorem dX12_worthIn_6 : decode cX12_worthIn 6 = .ok (.getfield 13, 3) := by decide +kernel
theorem dX12_worthIn_9 : decode cX12_worthIn 9 = .ok (.iconst 2, 1) := by decide +kernel
theorem dX12_worthIn_10 : decode cX12_worthIn 10 = .ok (.iaload, 1) := by decide +kernel
theorem dX12_worthIn_11 : decode cX12_worthIn 11 = .ok (.if_icmp .ge 27, 3) := by decide +kernel
theorem dX12_worthIn_38 : decode cX12_worthIn 38 = .ok (.iload_n 2, 1) := by decide +kernel
theorem dX12_worthIn_39 : decode cX12_worthIn 39 = .ok (.ireturn, 1) := by decide +kernel
theorem dX12_wouldSwap_0 : decode cX12_wouldSwap 0 = .ok (.aload_n 0, 1) := by decide +kernel
theorem dX12_wouldSwap_1 : decode cX12_wouldSwap 1 = .ok (.iconst 0, 1) := by decide +kernel
theorem dX12_wouldSwap_2 : decode cX12_wouldSwap 2 = .ok (.putfield 1, 3) := by decide +kernel
theorem dX12_wouldSwap_5 : decode cX12_wouldSwap 5 = .ok (.iconst 0, 1) := by decide +kernel
theorem dX12_wouldSwap_6 : decode cX12_wouldSwap 6 = .ok (.istore_n 1, 1) := by decide +kernel
theorem dX12_wouldSwap_7 : decode cX12_wouldSwap 7 = .ok (.iload_n 1, 1) := by decide +kernel
theorem dX12_wouldSwap_8 : decode cX12_wouldSwap 8 = .ok (.aload_n 0, 1) := by decide +kernel
theorem dX12_wouldSwap_9 : decode cX12_wouldSwap 9 = .ok (.getfield 13, 3) := by decide +kernel
theorem dX12_wouldSwap_12 : decode cX12_wouldSwap 12 = .ok (.iconst 2, 1) := by decide +kernel
theorem dX12_wouldSwap_13 : decode cX12_wouldSwap 13 = .ok (.iaload, 1) := by decide +kernel
theorem dX12_wouldSwap_14 : decode cX12_wouldSwap 14 = .ok (.if_icmp .ge 54, 3) := by decide +kernel
theorem dX12_wouldSwap_68 : decode cX12_wouldSwap 68 = .ok (.iconst (-1), 1) := by decide +kernel
theorem dX12_wouldSwap_69 : decode cX12_wouldSwap 69 = .ok (.ireturn, 1) := by decide +kernel
theorem dX12_write_0 : decode cX12_write 0 = .ok (.aload_n 0, 1) := by decide +kernel
theorem dX12_write_1 : decode cX12_write 1 = .ok (.iconst 0, 1) := by decide +kernel
theorem dX12_write_2 : decode cX12_write 2 = .ok (.putfield 1, 3) := by decide +kernel
theorem dX12_write_5 : decode cX12_write 5 = .ok (.aload_n 0, 1) := by decide +kernel
theorem dX12_write_6 : decode cX12_write 6 = .ok (.iload_n 1, 1) := by decide +kernel
theorem dX12_write_7 : decode cX12_write 7 = .ok (.invokevirtual 332, 3) := by decide +kernel
theorem dX12_write_10 : decode cX12_write 10 = .ok (.istore 5, 2) := by decide +kernel
theorem dX12_write_12 : decode cX12_write 12 = .ok (.iload 5, 2) := by decide +kernel
theorem dX12_write_14 : decode cX12_write 14 = .ok (.ifCond .eq 7, 3) := by decide +kernel
theorem dX12_write_17 : decode cX12_write 17 = .ok (.iload 5, 2) := by decide +kernel
theorem dX12_write_19 : decode cX12_write 19 = .ok (.i2l, 1) := by decide +kernel
theorem dX12_write_20 : decode cX12_write 20 = .ok (.lreturn, 1) := by decide +kernel
theorem dX12_year_0 : decode cX12_year 0 = .ok (.aload_n 0, 1) := by decide +kernel
theorem dX12_year_1 : decode cX12_year 1 = .ok (.iconst 0, 1) := by decide +kernel
theorem dX12_year_2 : decode cX12_year 2 = .ok (.putfield 1, 3) := by decide +kernel
theorem dX12_year_5 : decode cX12_year 5 = .ok (.iload_n 2, 1) := by decide +kernel
theorem dX12_year_6 : decode cX12_year 6 = .ok (.i2l, 1) := by decide +kernel
theorem dX12_year_7 : decode cX12_year 7 = .ok (.lconst 1, 1) := by decide +kernel
theorem dX12_year_8 : decode cX12_year 8 = .ok (.ldc2_w 351, 3) := by decide +kernel
theorem dX12_year_11 : decode cX12_year 11 = .ok (.invokestatic 134, 3) := by decide +kernel
theorem dX12_year_14 : decode cX12_year 14 = .ok (.ifCond .ne 6, 3) := by decide +kernel
theorem dX12_year_17 : decode cX12_year 17 = .ok (.bipush (-3), 2) := by decide +kernel
theorem dX12_year_19 : decode cX12_year 19 = .ok (.ireturn, 1) := by decide +kernel
theorem dX12_year_20 : decode cX12_year 20 = .ok (.aload_n 0, 1) := by decide +kernel
theorem dX12_year_21 : decode cX12_year 21 = .ok (.getfield 13, 3) := by decide +kernel
theorem dX12_year_24 : decode cX12_year 24 = .ok (.iconst 1, 1) := by decide +kernel
theorem dX12_year_25 : decode cX12_year 25 = .ok (.iaload, 1) := by decide +kernel
theorem dX12_year_26 : decode cX12_year 26 = .ok (.ifCond .eq 12, 3) := by decide +kernel
theorem dX12_year_38 : decode cX12_year 38 = .ok (.bipush (-5), 2) := by decide +kernel
theorem dX12_year_40 : decode cX12_year 40 = .ok (.ireturn, 1) := by decide +kernel
theorem dX1_forget_0 : decode cX1_forget 0 = .ok (.aload_n 0, 1) := by decide +kernel
theorem dX1_forget_1 : decode cX1_forget 1 = .ok (.iconst 0, 1) := by decide +kernel
theorem dX1_forget_2 : decode cX1_forget 2 = .ok (.putfield 9, 3) := by decide +kernel
theorem dX1_forget_5 : decode cX1_forget 5 = .ok (.return_, 1) := by decide +kernel
theorem dX1_init_0 : decode cX1_init 0 = .ok (.aload_n 0, 1) := by decide +kernel
theorem dX1_init_1 : decode cX1_init 1 = .ok (.invokespecial 3, 3) := by decide +kernel
theorem dX1_init_4 : decode cX1_init 4 = .ok (.aload_n 0, 1) := by decide +kernel
theorem dX1_init_5 : decode cX1_init 5 = .ok (.iconst 0, 1) := by decide +kernel
theorem dX1_init_6 : decode cX1_init 6 = .ok (.putfield 9, 3) := by decide +kernel
theorem dX1_init_9 : decode cX1_init 9 = .ok (.aload_n 0, 1) := by decide +kernel
theorem dX1_init_10 : decode cX1_init 10 = .ok (.iconst 0, 1) := by decide +kernel
theorem dX1_init_11 : decode cX1_init 11 = .ok (.putfield 15, 3) := by decide +kernel
theorem dX1_init_14 : decode cX1_init 14 = .ok (.aload_n 0, 1) := by decide +kernel
theorem dX1_init_15 : decode cX1_init 15 = .ok (.bipush 10, 2) := by decide +kernel
theorem dX1_init_17 : decode cX1_init 17 = .ok (.anewarray 18, 3) := by decide +kernel
theorem dX1_init_20 : decode cX1_init 20 = .ok (.putfield 20, 3) := by decide +kernel
theorem dX1_init_23 : decode cX1_init 23 = .ok (.iconst 0, 1) := by decide +kernel
theorem dX1_init_24 : decode cX1_init 24 = .ok (.istore_n 1, 1) := by decide +kernel
theorem dX1_init_25 : decode cX1_init 25 = .ok (.iload_n 1, 1) := by decide +kernel
theorem dX1_init_26 : decode cX1_init 26 = .ok (.bipush 10, 2) := by decide +kernel
theorem dX1_init_28 : decode cX1_init 28 = .ok (.if_icmp .ge 22, 3) := by decide +kernel
theorem dX1_init_31 : decode cX1_init 31 = .ok (.aload_n 0, 1) := by decide +kernel
theorem dX1_init_32 : decode cX1_init 32 = .ok (.getfield 20, 3) := by decide +kernel
theorem dX1_init_35 : decode cX1_init 35 = .ok (.iload_n 1, 1) := by decide +kernel
theorem dX1_init_36 : decode cX1_init 36 = .ok (.new 18, 3) := by decide +kernel
theorem dX1_init_39 : decode cX1_init 39 = .ok (.dup, 1) := by decide +kernel
theorem dX1_init_40 : decode cX1_init 40 = .ok (.invokespecial 24, 3) := by decide +kernel
theorem dX1_init_43 : decode cX1_init 43 = .ok (.aastore, 1) := by decide +kernel
theorem dX1_init_44 : decode cX1_init 44 = .ok (.iinc 1 1, 3) := by decide +kernel
theorem dX1_init_47 : decode cX1_init 47 = .ok (.goto (-22), 3) := by decide +kernel
theorem dX1_init_50 : decode cX1_init 50 = .ok (.return_, 1) := by decide +kernel
theorem dX1_keep_0 : decode cX1_keep 0 = .ok (.aload_n 0, 1) := by decide +kernel
theorem dX1_keep_1 : decode cX1_keep 1 = .ok (.getfield 9, 3) := by decide +kernel
theorem dX1_keep_4 : decode cX1_keep 4 = .ok (.bipush 10, 2) := by decide +kernel
theorem dX1_keep_6 : decode cX1_keep 6 = .ok (.if_icmp .ne 26, 3) := by decide +kernel
theorem dX1_keep_32 : decode cX1_keep 32 = .ok (.aload_n 0, 1) := by decide +kernel
theorem dX1_keep_33 : decode cX1_keep 33 = .ok (.getfield 20, 3) := by decide +kernel
theorem dX1_keep_36 : decode cX1_keep 36 = .ok (.aload_n 0, 1) := by decide +kernel
theorem dX1_keep_37 : decode cX1_keep 37 = .ok (.getfield 15, 3) := by decide +kernel
theorem dX1_keep_40 : decode cX1_keep 40 = .ok (.aload_n 0, 1) := by decide +kernel
theorem dX1_keep_41 : decode cX1_keep 41 = .ok (.getfield 9, 3) := by decide +kernel
theorem dX1_keep_44 : decode cX1_keep 44 = .ok (.iadd, 1) := by decide +kernel
theorem dX1_keep_45 : decode cX1_keep 45 = .ok (.bipush 10, 2) := by decide +kernel
theorem dX1_keep_47 : decode cX1_keep 47 = .ok (.irem, 1) := by decide +kernel
theorem dX1_keep_48 : decode cX1_keep 48 = .ok (.aaload, 1) := by decide +kernel
theorem dX1_keep_49 : decode cX1_keep 49 = .ok (.aload_n 1, 1) := by decide +kernel
theorem dX1_keep_50 : decode cX1_keep 50 = .ok (.invokevirtual 25, 3) := by decide +kernel
theorem dX1_keep_53 : decode cX1_keep 53 = .ok (.aload_n 0, 1) := by decide +kernel
theorem dX1_keep_54 : decode cX1_keep 54 = .ok (.dup, 1) := by decide +kernel
theorem dX1_keep_55 : decode cX1_keep 55 = .ok (.getfield 9, 3) := by decide +kernel
theorem dX1_keep_58 : decode cX1_keep 58 = .ok (.iconst 1, 1) := by decide +kernel
theorem dX1_keep_59 : decode cX1_keep 59 = .ok (.iadd, 1) := by decide +kernel
theorem dX1_keep_60 : decode cX1_keep 60 = .ok (.putfield 9, 3) := by decide +kernel
theorem dX1_keep_63 : decode cX1_keep 63 = .ok (.return_, 1) := by decide +kernel
theorem dX2_awayMany_0 : decode cX2_awayMany 0 = .ok (.iconst 0, 1) := by decide +kernel
theorem dX2_awayMany_1 : decode cX2_awayMany 1 = .ok (.istore_n 1, 1) := by decide +kernel
theorem dX2_awayMany_2 : decode cX2_awayMany 2 = .ok (.iconst 0, 1) := by decide +kernel
theorem dX2_awayMany_3 : decode cX2_awayMany 3 = .ok (.istore_n 2, 1) := by decide +kernel
theorem dX2_awayMany_4 : decode cX2_awayMany 4 = .ok (.iload_n 2, 1) := by decide +kernel
theorem dX2_awayMany_5 : decode cX2_awayMany 5 = .ok (.aload_n 0, 1) := by decide +kernel
theorem dX2_awayMany_6 : decode cX2_awayMany 6 = .ok (.getfield 18, 3) := by decide +kernel
theorem dX2_awayMany_9 : decode cX2_awayMany 9 = .ok (.if_icmp .ge 30, 3) := by decide +kernel
theorem dX2_awayMany_39 : decode cX2_awayMany 39 = .ok (.iload_n 1, 1) := by decide +kernel
theorem dX2_awayMany_40 : decode cX2_awayMany 40 = .ok (.ireturn, 1) := by decide +kernel
theorem dX2_clear_0 : decode cX2_clear 0 = .ok (.aload_n 0, 1) := by decide +kernel
theorem dX2_clear_1 : decode cX2_clear 1 = .ok (.iconst 0, 1) := by decide +kernel
theorem dX2_clear_2 : decode cX2_clear 2 = .ok (.putfield 9, 3) := by decide +kernel
theorem dX2_clear_5 : decode cX2_clear 5 = .ok (.aload_n 0, 1) := by decide +kernel
theorem dX2_clear_6 : decode cX2_clear 6 = .ok (.iconst 0, 1) := by decide +kernel
theorem dX2_clear_7 : decode cX2_clear 7 = .ok (.putfield 15, 3) := by decide +kernel
theorem dX2_clear_10 : decode cX2_clear 10 = .ok (.aload_n 0, 1) := by decide +kernel
theorem dX2_clear_11 : decode cX2_clear 11 = .ok (.iconst 0, 1) := by decide +kernel
theorem dX2_clear_12 : decode cX2_clear 12 = .ok (.putfield 18, 3) := by decide +kernel
theorem dX2_clear_15 : decode cX2_clear 15 = .ok (.aload_n 0, 1) := by decide +kernel
theorem dX2_clear_16 : decode cX2_clear 16 = .ok (.getfield 21, 3) := by decide +kernel
theorem dX2_clear_19 : decode cX2_clear 19 = .ok (.iconst 0, 1) := by decide +kernel
theorem dX2_clear_20 : decode cX2_clear 20 = .ok (.invokestatic 56, 3) := by decide +kernel
theorem dX2_clear_23 : decode cX2_clear 23 = .ok (.aload_n 0, 1) := by decide +kernel
theorem dX2_clear_24 : decode cX2_clear 24 = .ok (.getfield 25, 3) := by decide +kernel
theorem dX2_clear_27 : decode cX2_clear 27 = .ok (.iconst 0, 1) := by decide +kernel
theorem dX2_clear_28 : decode cX2_clear 28 = .ok (.invokestatic 56, 3) := by decide +kernel
theorem dX2_clear_31 : decode cX2_clear 31 = .ok (.aload_n 0, 1) := by decide +kernel
theorem dX2_clear_32 : decode cX2_clear 32 = .ok (.iconst 0, 1) := by decide +kernel
theorem dX2_clear_33 : decode cX2_clear 33 = .ok (.putfield 31, 3) := by decide +kernel
theorem dX2_clear_36 : decode cX2_clear 36 = .ok (.aload_n 0, 1) := by decide +kernel
theorem dX2_clear_37 : decode cX2_clear 37 = .ok (.iconst 0, 1) := by decide +kernel
theorem dX2_clear_38 : decode cX2_clear 38 = .ok (.putfield 34, 3) := by decide +kernel
theorem dX2_clear_41 : decode cX2_clear 41 = .ok (.aload_n 0, 1) := by decide +kernel
theorem dX2_clear_42 : decode cX2_clear 42 = .ok (.iconst 0, 1) := by decide +kernel
theorem dX2_clear_43 : decode cX2_clear 43 = .ok (.putfield 37, 3) := by decide +kernel
theorem dX2_clear_46 : decode cX2_clear 46 = .ok (.aload_n 0, 1) := by decide +kernel
theorem dX2_clear_47 : decode cX2_clear 47 = .ok (.iconst 0, 1) := by decide +kernel
theorem dX2_clear_48 : decode cX2_clear 48 = .ok (.putfield 40, 3) := by decide +kernel
theorem dX2_clear_51 : decode cX2_clear 51 = .ok (.aload_n 0, 1) := by decide +kernel
theorem dX2_clear_52 : decode cX2_clear 52 = .ok (.iconst 0, 1) := by decide +kernel
theorem dX2_clear_53 : decode cX2_clear 53 = .ok (.putfield 43, 3) := by decide +kernel
theorem dX2_clear_56 : decode cX2_clear 56 = .ok (.aload_n 0, 1) := by decide +kernel
theorem dX2_clear_57 : decode cX2_clear 57 = .ok (.getfield 49, 3) := by decide +kernel
theorem dX2_clear_60 : decode cX2_clear 60 = .ok (.invokevirtual 62, 3) := by decide +kernel
theorem dX2_clear_63 : decode cX2_clear 63 = .ok (.aload_n 0, 1) := by decide +kernel
theorem dX2_clear_64 : decode cX2_clear 64 = .ok (.dup, 1) := by decide +kernel
theorem dX2_clear_65 : decode cX2_clear 65 = .ok (.getfield 53, 3) := by decide +kernel
theorem dX2_clear_68 : decode cX2_clear 68 = .ok (.iconst 1, 1) := by decide +kernel
theorem dX2_clear_69 : decode cX2_clear 69 = .ok (.iadd, 1) := by decide +kernel
theorem dX2_clear_70 : decode cX2_clear 70 = .ok (.putfield 53, 3) := by decide +kernel
theorem dX2_clear_73 : decode cX2_clear 73 = .ok (.return_, 1) := by decide +kernel
theorem dX2_copyFrom_0 : decode cX2_copyFrom 0 = .ok (.aload_n 0, 1) := by decide +kernel
theorem dX2_copyFrom_1 : decode cX2_copyFrom 1 = .ok (.aload_n 1, 1) := by decide +kernel
theorem dX2_copyFrom_2 : decode cX2_copyFrom 2 = .ok (.getfield 9, 3) := by decide +kernel
theorem dX2_copyFrom_5 : decode cX2_copyFrom 5 = .ok (.putfield 9, 3) := by decide +kernel
theorem dX2_copyFrom_8 : decode cX2_copyFrom 8 = .ok (.aload_n 0, 1) := by decide +kernel
theorem dX2_copyFrom_9 : decode cX2_copyFrom 9 = .ok (.aload_n 1, 1) := by decide +kernel
theorem dX2_copyFrom_10 : decode cX2_copyFrom 10 = .ok (.getfield 15, 3) := by decide +kernel
theorem dX2_copyFrom_13 : decode cX2_copyFrom 13 = .ok (.putfield 15, 3) := by decide +kernel
theorem dX2_copyFrom_16 : decode cX2_copyFrom 16 = .ok (.aload_n 0, 1) := by decide +kernel
theorem dX2_copyFrom_17 : decode cX2_copyFrom 17 = .ok (.aload_n 1, 1) := by decide +kernel
theorem dX2_copyFrom_18 : decode cX2_copyFrom 18 = .ok (.getfield 18, 3) := by decide +kernel
theorem dX2_copyFrom_21 : decode cX2_copyFrom 21 = .ok (.putfield 18, 3) := by decide +kernel
theorem dX2_copyFrom_24 : decode cX2_copyFrom 24 = .ok (.aload_n 1, 1) := by decide +kernel
theorem dX2_copyFrom_25 : decode cX2_copyFrom 25 = .ok (.getfield 21, 3) := by decide +kernel
theorem dX2_copyFrom_28 : decode cX2_copyFrom 28 = .ok (.iconst 0, 1) := by decide +kernel
theorem dX2_copyFrom_29 : decode cX2_copyFrom 29 = .ok (.aload_n 0, 1) := by decide +kernel
theorem dX2_copyFrom_30 : decode cX2_copyFrom 30 = .ok (.getfield 21, 3) := by decide +kernel
theorem dX2_copyFrom_33 : decode cX2_copyFrom 33 = .ok (.iconst 0, 1) := by decide +kernel
theorem dX2_copyFrom_34 : decode cX2_copyFrom 34 = .ok (.aload_n 0, 1) := by decide +kernel
theorem dX2_copyFrom_35 : decode cX2_copyFrom 35 = .ok (.getfield 21, 3) := by decide +kernel
theorem dX2_copyFrom_38 : decode cX2_copyFrom 38 = .ok (.arraylength, 1) := by decide +kernel
theorem dX2_copyFrom_39 : decode cX2_copyFrom 39 = .ok (.invokestatic 65, 3) := by decide +kernel
theorem dX2_copyFrom_42 : decode cX2_copyFrom 42 = .ok (.aload_n 1, 1) := by decide +kernel
theorem dX2_copyFrom_43 : decode cX2_copyFrom 43 = .ok (.getfield 25, 3) := by decide +kernel
theorem dX2_copyFrom_46 : decode cX2_copyFrom 46 = .ok (.iconst 0, 1) := by decide +kernel
theorem dX2_copyFrom_47 : decode cX2_copyFrom 47 = .ok (.aload_n 0, 1) := by decide +kernel
theorem dX2_copyFrom_48 : decode cX2_copyFrom 48 = .ok (.getfield 25, 3) := by decide +kernel
theorem dX2_copyFrom_51 : decode cX2_copyFrom 51 = .ok (.iconst 0, 1) := by decide +kernel
theorem dX2_copyFrom_52 : decode cX2_copyFrom 52 = .ok (.aload_n 0, 1) := by decide +kernel
theorem dX2_copyFrom_53 : decode cX2_copyFrom 53 = .ok (.getfield 25, 3) := by decide +kernel
theorem dX2_copyFrom_56 : decode cX2_copyFrom 56 = .ok (.arraylength, 1) := by decide +kernel
theorem dX2_copyFrom_57 : decode cX2_copyFrom 57 = .ok (.invokestatic 65, 3) := by decide +kernel
theorem dX2_copyFrom_60 : decode cX2_copyFrom 60 = .ok (.aload_n 1, 1) := by decide +kernel
theorem dX2_copyFrom_61 : decode cX2_copyFrom 61 = .ok (.getfield 28, 3) := by decide +kernel
theorem dX2_copyFrom_64 : decode cX2_copyFrom 64 = .ok (.iconst 0, 1) := by decide +kernel
theorem dX2_copyFrom_65 : decode cX2_copyFrom 65 = .ok (.aload_n 0, 1) := by decide +kernel
theorem dX2_copyFrom_66 : decode cX2_copyFrom 66 = .ok (.getfield 28, 3) := by decide +kernel
theorem dX2_copyFrom_69 : decode cX2_copyFrom 69 = .ok (.iconst 0, 1) := by decide +kernel
theorem dX2_copyFrom_70 : decode cX2_copyFrom 70 = .ok (.aload_n 1, 1) := by decide +kernel
theorem dX2_copyFrom_71 : decode cX2_copyFrom 71 = .ok (.getfield 31, 3) := by decide +kernel
theorem dX2_copyFrom_74 : decode cX2_copyFrom 74 = .ok (.invokestatic 65, 3) := by decide +kernel
theorem dX2_copyFrom_77 : decode cX2_copyFrom 77 = .ok (.aload_n 0, 1) := by decide +kernel
theorem dX2_copyFrom_78 : decode cX2_copyFrom 78 = .ok (.aload_n 1, 1) := by decide +kernel
theorem dX2_copyFrom_79 : decode cX2_copyFrom 79 = .ok (.getfield 31, 3) := by decide +kernel
theorem dX2_copyFrom_82 : decode cX2_copyFrom 82 = .ok (.putfield 31, 3) := by decide +kernel
theorem dX2_copyFrom_85 : decode cX2_copyFrom 85 = .ok (.aload_n 0, 1) := by decide +kernel
theorem dX2_copyFrom_86 : decode cX2_copyFrom 86 = .ok (.aload_n 1, 1) := by decide +kernel
theorem dX2_copyFrom_87 : decode cX2_copyFrom 87 = .ok (.getfield 34, 3) := by decide +kernel
theorem dX2_copyFrom_90 : decode cX2_copyFrom 90 = .ok (.putfield 34, 3) := by decide +kernel
theorem dX2_copyFrom_93 : decode cX2_copyFrom 93 = .ok (.aload_n 0, 1) := by decide +kernel
theorem dX2_copyFrom_94 : decode cX2_copyFrom 94 = .ok (.aload_n 1, 1) := by decide +kernel
theorem dX2_copyFrom_95 : decode cX2_copyFrom 95 = .ok (.getfield 37, 3) := by decide +kernel
theorem dX2_copyFrom_98 : decode cX2_copyFrom 98 = .ok (.putfield 37, 3) := by decide +kernel
theorem dX2_copyFrom_101 : decode cX2_copyFrom 101 = .ok (.aload_n 0, 1) := by decide +kernel
theorem dX2_copyFrom_102 : decode cX2_copyFrom 102 = .ok (.aload_n 1, 1) := by decide +kernel
theorem dX2_copyFrom_103 : decode cX2_copyFrom 103 = .ok (.getfield 40, 3) := by decide +kernel
theorem dX2_copyFrom_106 : decode cX2_copyFrom 106 = .ok (.putfield 40, 3) := by decide +kernel
theorem dX2_copyFrom_109 : decode cX2_copyFrom 109 = .ok (.aload_n 0, 1) := by decide +kernel
theorem dX2_copyFrom_110 : decode cX2_copyFrom 110 = .ok (.aload_n 1, 1) := by decide +kernel
theorem dX2_copyFrom_111 : decode cX2_copyFrom 111 = .ok (.getfield 43, 3) := by decide +kernel
theorem dX2_copyFrom_114 : decode cX2_copyFrom 114 = .ok (.putfield 43, 3) := by decide +kernel
theorem dX2_copyFrom_117 : decode cX2_copyFrom 117 = .ok (.aload_n 0, 1) := by decide +kernel
theorem dX2_copyFrom_118 : decode cX2_copyFrom 118 = .ok (.getfield 49, 3) := by decide +kernel
theorem dX2_copyFrom_121 : decode cX2_copyFrom 121 = .ok (.aload_n 1, 1) := by decide +kernel
theorem dX2_copyFrom_122 : decode cX2_copyFrom 122 = .ok (.getfield 49, 3) := by decide +kernel
theorem dX2_copyFrom_125 : decode cX2_copyFrom 125 = .ok (.invokevirtual 71, 3) := by decide +kernel
theorem dX2_copyFrom_128 : decode cX2_copyFrom 128 = .ok (.aload_n 0, 1) := by decide +kernel
theorem dX2_copyFrom_129 : decode cX2_copyFrom 129 = .ok (.dup, 1) := by decide +kernel
theorem dX2_copyFrom_130 : decode cX2_copyFrom 130 = .ok (.getfield 53, 3) := by decide +kernel
theorem dX2_copyFrom_133 : decode cX2_copyFrom 133 = .ok (.iconst 1, 1) := by decide +kernel
theorem dX2_copyFrom_134 : decode cX2_copyFrom 134 = .ok (.iadd, 1) := by decide +kernel
theorem dX2_copyFrom_135 : decode cX2_copyFrom 135 = .ok (.putfield 53, 3) := by decide +kernel
theorem dX2_copyFrom_138 : decode cX2_copyFrom 138 = .ok (.return_, 1) := by decide +kernel
theorem dX2_faultsOfAll_0 : decode cX2_faultsOfAll 0 = .ok (.iconst 0, 1) := by decide +kernel
theorem dX2_faultsOfAll_1 : decode cX2_faultsOfAll 1 = .ok (.istore_n 1, 1) := by decide +kernel
theorem dX2_faultsOfAll_2 : decode cX2_faultsOfAll 2 = .ok (.iconst 0, 1) := by decide +kernel
theorem dX2_faultsOfAll_3 : decode cX2_faultsOfAll 3 = .ok (.istore_n 2, 1) := by decide +kernel
theorem dX2_faultsOfAll_4 : decode cX2_faultsOfAll 4 = .ok (.iload_n 2, 1) := by decide +kernel
theorem dX2_faultsOfAll_5 : decode cX2_faultsOfAll 5 = .ok (.aload_n 0, 1) := by decide +kernel
theorem dX2_faultsOfAll_6 : decode cX2_faultsOfAll 6 = .ok (.getfield 15, 3) := by decide +kernel
theorem dX2_faultsOfAll_9 : decode cX2_faultsOfAll 9 = .ok (.if_icmp .ge 21, 3) := by decide +kernel
theorem dX2_faultsOfAll_30 : decode cX2_faultsOfAll 30 = .ok (.iload_n 1, 1) := by decide +kernel
theorem dX2_faultsOfAll_31 : decode cX2_faultsOfAll 31 = .ok (.ireturn, 1) := by decide +kernel
theorem dX2_init_0 : decode cX2_init 0 = .ok (.aload_n 0, 1) := by decide +kernel
theorem dX2_init_1 : decode cX2_init 1 = .ok (.invokespecial 3, 3) := by decide +kernel
theorem dX2_init_4 : decode cX2_init 4 = .ok (.aload_n 0, 1) := by decide +kernel
theorem dX2_init_5 : decode cX2_init 5 = .ok (.iconst 0, 1) := by decide +kernel
theorem dX2_init_6 : decode cX2_init 6 = .ok (.putfield 9, 3) := by decide +kernel
theorem dX2_init_9 : decode cX2_init 9 = .ok (.aload_n 0, 1) := by decide +kernel
theorem dX2_init_10 : decode cX2_init 10 = .ok (.iconst 0, 1) := by decide +kernel
theorem dX2_init_11 : decode cX2_init 11 = .ok (.putfield 15, 3) := by decide +kernel
theorem dX2_init_14 : decode cX2_init 14 = .ok (.aload_n 0, 1) := by decide +kernel
theorem dX2_init_15 : decode cX2_init 15 = .ok (.iconst 0, 1) := by decide +kernel
theorem dX2_init_16 : decode cX2_init 16 = .ok (.putfield 18, 3) := by decide +kernel
theorem dX2_init_19 : decode cX2_init 19 = .ok (.aload_n 0, 1) := by decide +kernel
theorem dX2_init_20 : decode cX2_init 20 = .ok (.bipush 32, 2) := by decide +kernel
theorem dX2_init_22 : decode cX2_init 22 = .ok (.newarray .int, 2) := by decide +kernel
theorem dX2_init_24 : decode cX2_init 24 = .ok (.putfield 21, 3) := by decide +kernel
theorem dX2_init_27 : decode cX2_init 27 = .ok (.aload_n 0, 1) := by decide +kernel
theorem dX2_init_28 : decode cX2_init 28 = .ok (.bipush 35, 2) := by decide +kernel
theorem dX2_init_30 : decode cX2_init 30 = .ok (.newarray .int, 2) := by decide +kernel
theorem dX2_init_32 : decode cX2_init 32 = .ok (.putfield 25, 3) := by decide +kernel
theorem dX2_init_35 : decode cX2_init 35 = .ok (.aload_n 0, 1) := by decide +kernel
theorem dX2_init_36 : decode cX2_init 36 = .ok (.sipush 900, 3) := by decide +kernel
theorem dX2_init_39 : decode cX2_init 39 = .ok (.newarray .int, 2) := by decide +kernel
theorem dX2_init_41 : decode cX2_init 41 = .ok (.putfield 28, 3) := by decide +kernel
theorem dX2_init_44 : decode cX2_init 44 = .ok (.aload_n 0, 1) := by decide +kernel
theorem dX2_init_45 : decode cX2_init 45 = .ok (.iconst 0, 1) := by decide +kernel
theorem dX2_init_46 : decode cX2_init 46 = .ok (.putfield 31, 3) := by decide +kernel
theorem dX2_init_49 : decode cX2_init 49 = .ok (.aload_n 0, 1) := by decide +kernel
theorem dX2_init_50 : decode cX2_init 50 = .ok (.iconst 0, 1) := by decide +kernel
theorem dX2_init_51 : decode cX2_init 51 = .ok (.putfield 34, 3) := by decide +kernel
theorem dX2_init_54 : decode cX2_init 54 = .ok (.aload_n 0, 1) := by decide +kernel
theorem dX2_init_55 : decode cX2_init 55 = .ok (.iconst 0, 1) := by decide +kernel
theorem dX2_init_56 : decode cX2_init 56 = .ok (.putfield 37, 3) := by decide +kernel
theorem dX2_init_59 : decode cX2_init 59 = .ok (.aload_n 0, 1) := by decide +kernel
theorem dX2_init_60 : decode cX2_init 60 = .ok (.iconst 0, 1) := by decide +kernel
theorem dX2_init_61 : decode cX2_init 61 = .ok (.putfield 40, 3) := by decide +kernel
theorem dX2_init_64 : decode cX2_init 64 = .ok (.aload_n 0, 1) := by decide +kernel
theorem dX2_init_65 : decode cX2_init 65 = .ok (.iconst 0, 1) := by decide +kernel
theorem dX2_init_66 : decode cX2_init 66 = .ok (.putfield 43, 3) := by decide +kernel
theorem dX2_init_69 : decode cX2_init 69 = .ok (.aload_n 0, 1) := by decide +kernel
theorem dX2_init_70 : decode cX2_init 70 = .ok (.new 46, 3) := by decide +kernel
theorem dX2_init_73 : decode cX2_init 73 = .ok (.dup, 1) := by decide +kernel
theorem dX2_init_74 : decode cX2_init 74 = .ok (.invokespecial 48, 3) := by decide +kernel
theorem dX2_init_77 : decode cX2_init 77 = .ok (.putfield 49, 3) := by decide +kernel
theorem dX2_init_80 : decode cX2_init 80 = .ok (.aload_n 0, 1) := by decide +kernel
theorem dX2_init_81 : decode cX2_init 81 = .ok (.iconst 0, 1) := by decide +kernel
theorem dX2_init_82 : decode cX2_init 82 = .ok (.putfield 53, 3) := by decide +kernel
theorem dX2_init_85 : decode cX2_init 85 = .ok (.return_, 1) := by decide +kernel
theorem dX3_cheapest_0 : decode cX3_cheapest 0 = .ok (.aload_n 0, 1) := by decide +kernel
theorem dX3_cheapest_1 : decode cX3_cheapest 1 = .ok (.aload_n 1, 1) := by decide +kernel
theorem dX3_cheapest_2 : decode cX3_cheapest 2 = .ok (.invokevirtual 44, 3) := by decide +kernel
theorem dX3_cheapest_5 : decode cX3_cheapest 5 = .ok (.istore_n 3, 1) := by decide +kernel
theorem dX3_cheapest_6 : decode cX3_cheapest 6 = .ok (.aload_n 0, 1) := by decide +kernel
theorem dX3_cheapest_7 : decode cX3_cheapest 7 = .ok (.iconst 0, 1) := by decide +kernel
theorem dX3_cheapest_8 : decode cX3_cheapest 8 = .ok (.invokevirtual 48, 3) := by decide +kernel
theorem dX3_cheapest_11 : decode cX3_cheapest 11 = .ok (.iload_n 2, 1) := by decide +kernel
theorem dX3_cheapest_12 : decode cX3_cheapest 12 = .ok (.if_icmp .lt 6, 3) := by decide +kernel
theorem dX3_cheapest_18 : decode cX3_cheapest 18 = .ok (.aload_n 0, 1) := by decide +kernel
theorem dX3_cheapest_19 : decode cX3_cheapest 19 = .ok (.getfield 37, 3) := by decide +kernel
theorem dX3_cheapest_22 : decode cX3_cheapest 22 = .ok (.arraylength, 1) := by decide +kernel
theorem dX3_cheapest_23 : decode cX3_cheapest 23 = .ok (.ifCond .ne 12, 3) := by decide +kernel
theorem dX3_cheapest_26 : decode cX3_cheapest 26 = .ok (.aload_n 0, 1) := by decide +kernel
theorem dX3_cheapest_27 : decode cX3_cheapest 27 = .ok (.sipush 21870, 3) := by decide +kernel
theorem dX3_cheapest_30 : decode cX3_cheapest 30 = .ok (.newarray .int, 2) := by decide +kernel
theorem dX3_cheapest_32 : decode cX3_cheapest 32 = .ok (.putfield 37, 3) := by decide +kernel
theorem dX3_cheapest_35 : decode cX3_cheapest 35 = .ok (.aload_n 0, 1) := by decide +kernel
theorem dX3_cheapest_36 : decode cX3_cheapest 36 = .ok (.getfield 37, 3) := by decide +kernel
theorem dX3_cheapest_39 : decode cX3_cheapest 39 = .ok (.iconst 0, 1) := by decide +kernel
theorem dX3_cheapest_40 : decode cX3_cheapest 40 = .ok (.iload_n 3, 1) := by decide +kernel
theorem dX3_cheapest_41 : decode cX3_cheapest 41 = .ok (.bipush 10, 2) := by decide +kernel
theorem dX3_cheapest_43 : decode cX3_cheapest 43 = .ok (.imul, 1) := by decide +kernel
theorem dX3_cheapest_44 : decode cX3_cheapest 44 = .ok (.ldc 52, 2) := by decide +kernel
theorem dX3_cheapest_46 : decode cX3_cheapest 46 = .ok (.invokestatic 53, 3) := by decide +kernel
theorem dX3_cheapest_49 : decode cX3_cheapest 49 = .ok (.aload_n 0, 1) := by decide +kernel
theorem dX3_cheapest_50 : decode cX3_cheapest 50 = .ok (.getfield 37, 3) := by decide +kernel
theorem dX3_cheapest_53 : decode cX3_cheapest 53 = .ok (.iconst 0, 1) := by decide +kernel
theorem dX3_cheapest_54 : decode cX3_cheapest 54 = .ok (.iconst 0, 1) := by decide +kernel
theorem dX3_cheapest_55 : decode cX3_cheapest 55 = .ok (.iastore, 1) := by decide +kernel
theorem dX3_cheapest_56 : decode cX3_cheapest 56 = .ok (.iconst 0, 1) := by decide +kernel
theorem dX3_cheapest_57 : decode cX3_cheapest 57 = .ok (.istore 4, 2) := by decide +kernel
theorem dX3_cheapest_59 : decode cX3_cheapest 59 = .ok (.iload 4, 2) := by decide +kernel
theorem dX3_cheapest_61 : decode cX3_cheapest 61 = .ok (.iload_n 3, 1) := by decide +kernel
theorem dX3_cheapest_62 : decode cX3_cheapest 62 = .ok (.iconst 1, 1) := by decide +kernel
theorem dX3_cheapest_63 : decode cX3_cheapest 63 = .ok (.isub, 1) := by decide +kernel
theorem dX3_cheapest_64 : decode cX3_cheapest 64 = .ok (.if_icmp .ge 16, 3) := by decide +kernel
theorem dX3_cheapest_80 : decode cX3_cheapest 80 = .ok (.ldc 52, 2) := by decide +kernel
theorem dX3_cheapest_82 : decode cX3_cheapest 82 = .ok (.istore 4, 2) := by decide +kernel
theorem dX3_cheapest_84 : decode cX3_cheapest 84 = .ok (.iconst 0, 1) := by decide +kernel
theorem dX3_cheapest_85 : decode cX3_cheapest 85 = .ok (.istore 5, 2) := by decide +kernel
theorem dX3_cheapest_87 : decode cX3_cheapest 87 = .ok (.iload 5, 2) := by decide +kernel
theorem dX3_cheapest_89 : decode cX3_cheapest 89 = .ok (.bipush 10, 2) := by decide +kernel
theorem dX3_cheapest_91 : decode cX3_cheapest 91 = .ok (.if_icmp .ge 30, 3) := by decide +kernel
theorem dX3_cheapest_94 : decode cX3_cheapest 94 = .ok (.iload 4, 2) := by decide +kernel
theorem dX3_cheapest_96 : decode cX3_cheapest 96 = .ok (.aload_n 0, 1) := by decide +kernel
theorem dX3_cheapest_97 : decode cX3_cheapest 97 = .ok (.getfield 37, 3) := by decide +kernel
theorem dX3_cheapest_100 : decode cX3_cheapest 100 = .ok (.iload_n 3, 1) := by decide +kernel
theorem dX3_cheapest_101 : decode cX3_cheapest 101 = .ok (.iconst 1, 1) := by decide +kernel
theorem dX3_cheapest_102 : decode cX3_cheapest 102 = .ok (.isub, 1) := by decide +kernel
theorem dX3_cheapest_103 : decode cX3_cheapest 103 = .ok (.bipush 10, 2) := by decide +kernel
theorem dX3_cheapest_105 : decode cX3_cheapest 105 = .ok (.imul, 1) := by decide +kernel
theorem dX3_cheapest_106 : decode cX3_cheapest 106 = .ok (.iload 5, 2) := by decide +kernel
theorem dX3_cheapest_108 : decode cX3_cheapest 108 = .ok (.iadd, 1) := by decide +kernel
theorem dX3_cheapest_109 : decode cX3_cheapest 109 = .ok (.iaload, 1) := by decide +kernel
theorem dX3_cheapest_110 : decode cX3_cheapest 110 = .ok (.invokestatic 63, 3) := by decide +kernel
theorem dX3_cheapest_113 : decode cX3_cheapest 113 = .ok (.istore 4, 2) := by decide +kernel
theorem dX3_cheapest_115 : decode cX3_cheapest 115 = .ok (.iinc 5 1, 3) := by decide +kernel
theorem dX3_cheapest_118 : decode cX3_cheapest 118 = .ok (.goto (-31), 3) := by decide +kernel
theorem dX3_cheapest_121 : decode cX3_cheapest 121 = .ok (.iload 4, 2) := by decide +kernel
theorem dX3_cheapest_123 : decode cX3_cheapest 123 = .ok (.ireturn, 1) := by decide +kernel
theorem dX3_floorsToGo_0 : decode cX3_floorsToGo 0 = .ok (.iload_n 1, 1) := by decide +kernel
theorem dX3_floorsToGo_1 : decode cX3_floorsToGo 1 = .ok (.istore_n 2, 1) := by decide +kernel
theorem dX3_floorsToGo_2 : decode cX3_floorsToGo 2 = .ok (.iconst 0, 1) := by decide +kernel
theorem dX3_floorsToGo_3 : decode cX3_floorsToGo 3 = .ok (.istore_n 3, 1) := by decide +kernel
theorem dX3_floorsToGo_4 : decode cX3_floorsToGo 4 = .ok (.iconst 0, 1) := by decide +kernel
theorem dX3_floorsToGo_5 : decode cX3_floorsToGo 5 = .ok (.istore 4, 2) := by decide +kernel
theorem dX3_floorsToGo_7 : decode cX3_floorsToGo 7 = .ok (.iload 4, 2) := by decide +kernel
theorem dX3_floorsToGo_9 : decode cX3_floorsToGo 9 = .ok (.aload_n 0, 1) := by decide +kernel
theorem dX3_floorsToGo_10 : decode cX3_floorsToGo 10 = .ok (.getfield 11, 3) := by decide +kernel
theorem dX3_floorsToGo_13 : decode cX3_floorsToGo 13 = .ok (.if_icmp .ge 82, 3) := by decide +kernel
theorem dX3_floorsToGo_95 : decode cX3_floorsToGo 95 = .ok (.iload_n 3, 1) := by decide +kernel
theorem dX3_floorsToGo_96 : decode cX3_floorsToGo 96 = .ok (.ireturn, 1) := by decide +kernel
theorem dX3_gather_0 : decode cX3_gather 0 = .ok (.aload_n 0, 1) := by decide +kernel
theorem dX3_gather_1 : decode cX3_gather 1 = .ok (.iconst 0, 1) := by decide +kernel
theorem dX3_gather_2 : decode cX3_gather 2 = .ok (.putfield 11, 3) := by decide +kernel
theorem dX3_gather_5 : decode cX3_gather 5 = .ok (.iconst 1, 1) := by decide +kernel
theorem dX3_gather_6 : decode cX3_gather 6 = .ok (.istore_n 2, 1) := by decide +kernel
theorem dX3_gather_7 : decode cX3_gather 7 = .ok (.iconst 0, 1) := by decide +kernel
theorem dX3_gather_8 : decode cX3_gather 8 = .ok (.istore_n 3, 1) := by decide +kernel
theorem dX3_gather_9 : decode cX3_gather 9 = .ok (.iload_n 3, 1) := by decide +kernel
theorem dX3_gather_10 : decode cX3_gather 10 = .ok (.aload_n 0, 1) := by decide +kernel
theorem dX3_gather_11 : decode cX3_gather 11 = .ok (.getfield 40, 3) := by decide +kernel
theorem dX3_gather_14 : decode cX3_gather 14 = .ok (.getfield 69, 3) := by decide +kernel
theorem dX3_gather_17 : decode cX3_gather 17 = .ok (.if_icmp .ge 144, 3) := by decide +kernel
theorem dX3_gather_161 : decode cX3_gather 161 = .ok (.iconst 0, 1) := by decide +kernel
theorem dX3_gather_162 : decode cX3_gather 162 = .ok (.istore_n 3, 1) := by decide +kernel
theorem dX3_gather_163 : decode cX3_gather 163 = .ok (.iload_n 3, 1) := by decide +kernel
theorem dX3_gather_164 : decode cX3_gather 164 = .ok (.aload_n 0, 1) := by decide +kernel
theorem dX3_gather_165 : decode cX3_gather 165 = .ok (.getfield 11, 3) := by decide +kernel
theorem dX3_gather_168 : decode cX3_gather 168 = .ok (.if_icmp .ge 34, 3) := by decide +kernel
theorem dX3_gather_202 : decode cX3_gather 202 = .ok (.iload_n 2, 1) := by decide +kernel
theorem dX3_gather_203 : decode cX3_gather 203 = .ok (.ireturn, 1) := by decide +kernel
theorem dX3_init_0 : decode cX3_init 0 = .ok (.aload_n 0, 1) := by decide +kernel
theorem dX3_init_1 : decode cX3_init 1 = .ok (.invokespecial 5, 3) := by decide +kernel
theorem dX3_init_4 : decode cX3_init 4 = .ok (.aload_n 0, 1) := by decide +kernel
theorem dX3_init_5 : decode cX3_init 5 = .ok (.iconst 0, 1) := by decide +kernel
theorem dX3_init_6 : decode cX3_init 6 = .ok (.putfield 11, 3) := by decide +kernel
theorem dX3_init_9 : decode cX3_init 9 = .ok (.aload_n 0, 1) := by decide +kernel
theorem dX3_init_10 : decode cX3_init 10 = .ok (.bipush 7, 2) := by decide +kernel
theorem dX3_init_12 : decode cX3_init 12 = .ok (.newarray .int, 2) := by decide +kernel
theorem dX3_init_14 : decode cX3_init 14 = .ok (.putfield 15, 3) := by decide +kernel
theorem dX3_init_17 : decode cX3_init 17 = .ok (.aload_n 0, 1) := by decide +kernel
theorem dX3_init_18 : decode cX3_init 18 = .ok (.bipush 7, 2) := by decide +kernel
theorem dX3_init_20 : decode cX3_init 20 = .ok (.newarray .int, 2) := by decide +kernel
theorem dX3_init_22 : decode cX3_init 22 = .ok (.putfield 19, 3) := by decide +kernel
theorem dX3_init_25 : decode cX3_init 25 = .ok (.aload_n 0, 1) := by decide +kernel
theorem dX3_init_26 : decode cX3_init 26 = .ok (.bipush 7, 2) := by decide +kernel
theorem dX3_init_28 : decode cX3_init 28 = .ok (.newarray .int, 2) := by decide +kernel
theorem dX3_init_30 : decode cX3_init 30 = .ok (.putfield 22, 3) := by decide +kernel
theorem dX3_init_33 : decode cX3_init 33 = .ok (.aload_n 0, 1) := by decide +kernel
theorem dX3_init_34 : decode cX3_init 34 = .ok (.bipush 7, 2) := by decide +kernel
theorem dX3_init_36 : decode cX3_init 36 = .ok (.newarray .int, 2) := by decide +kernel
theorem dX3_init_38 : decode cX3_init 38 = .ok (.putfield 25, 3) := by decide +kernel
theorem dX3_init_41 : decode cX3_init 41 = .ok (.aload_n 0, 1) := by decide +kernel
theorem dX3_init_42 : decode cX3_init 42 = .ok (.bipush 7, 2) := by decide +kernel
theorem dX3_init_44 : decode cX3_init 44 = .ok (.newarray .int, 2) := by decide +kernel
theorem dX3_init_46 : decode cX3_init 46 = .ok (.putfield 28, 3) := by decide +kernel
theorem dX3_init_49 : decode cX3_init 49 = .ok (.aload_n 0, 1) := by decide +kernel
theorem dX3_init_50 : decode cX3_init 50 = .ok (.bipush 7, 2) := by decide +kernel
theorem dX3_init_52 : decode cX3_init 52 = .ok (.newarray .int, 2) := by decide +kernel
theorem dX3_init_54 : decode cX3_init 54 = .ok (.putfield 31, 3) := by decide +kernel
theorem dX3_init_57 : decode cX3_init 57 = .ok (.aload_n 0, 1) := by decide +kernel
theorem dX3_init_58 : decode cX3_init 58 = .ok (.bipush 7, 2) := by decide +kernel
theorem dX3_init_60 : decode cX3_init 60 = .ok (.newarray .int, 2) := by decide +kernel
theorem dX3_init_62 : decode cX3_init 62 = .ok (.putfield 34, 3) := by decide +kernel
theorem dX3_init_65 : decode cX3_init 65 = .ok (.aload_n 0, 1) := by decide +kernel
theorem dX3_init_66 : decode cX3_init 66 = .ok (.iconst 0, 1) := by decide +kernel
theorem dX3_init_67 : decode cX3_init 67 = .ok (.newarray .int, 2) := by decide +kernel
theorem dX3_init_69 : decode cX3_init 69 = .ok (.putfield 37, 3) := by decide +kernel
theorem dX3_init_72 : decode cX3_init 72 = .ok (.aload_n 0, 1) := by decide +kernel
theorem dX3_init_73 : decode cX3_init 73 = .ok (.aload_n 1, 1) := by decide +kernel
theorem dX3_init_74 : decode cX3_init 74 = .ok (.putfield 40, 3) := by decide +kernel
theorem dX3_init_77 : decode cX3_init 77 = .ok (.return_, 1) := by decide +kernel
theorem dX4_clear_0 : decode cX4_clear 0 = .ok (.aload_n 0, 1) := by decide +kernel
theorem dX4_clear_1 : decode cX4_clear 1 = .ok (.getfield 9, 3) := by decide +kernel
theorem dX4_clear_4 : decode cX4_clear 4 = .ok (.iconst (-1), 1) := by decide +kernel
theorem dX4_clear_5 : decode cX4_clear 5 = .ok (.invokestatic 25, 3) := by decide +kernel
theorem dX4_clear_8 : decode cX4_clear 8 = .ok (.aload_n 0, 1) := by decide +kernel
theorem dX4_clear_9 : decode cX4_clear 9 = .ok (.getfield 15, 3) := by decide +kernel
theorem dX4_clear_12 : decode cX4_clear 12 = .ok (.iconst 0, 1) := by decide +kernel
theorem dX4_clear_13 : decode cX4_clear 13 = .ok (.invokestatic 25, 3) := by decide +kernel
theorem dX4_clear_16 : decode cX4_clear 16 = .ok (.aload_n 0, 1) := by decide +kernel
theorem dX4_clear_17 : decode cX4_clear 17 = .ok (.getfield 18, 3) := by decide +kernel
theorem dX4_clear_20 : decode cX4_clear 20 = .ok (.iconst 0, 1) := by decide +kernel
theorem dX4_clear_21 : decode cX4_clear 21 = .ok (.invokestatic 25, 3) := by decide +kernel
theorem dX4_clear_24 : decode cX4_clear 24 = .ok (.aload_n 0, 1) := by decide +kernel
theorem dX4_clear_25 : decode cX4_clear 25 = .ok (.iconst 0, 1) := by decide +kernel
theorem dX4_clear_26 : decode cX4_clear 26 = .ok (.putfield 21, 3) := by decide +kernel
theorem dX4_clear_29 : decode cX4_clear 29 = .ok (.return_, 1) := by decide +kernel
theorem dX4_copyFrom_0 : decode cX4_copyFrom 0 = .ok (.aload_n 1, 1) := by decide +kernel
theorem dX4_copyFrom_1 : decode cX4_copyFrom 1 = .ok (.getfield 9, 3) := by decide +kernel
theorem dX4_copyFrom_4 : decode cX4_copyFrom 4 = .ok (.iconst 0, 1) := by decide +kernel
theorem dX4_copyFrom_5 : decode cX4_copyFrom 5 = .ok (.aload_n 0, 1) := by decide +kernel
theorem dX4_copyFrom_6 : decode cX4_copyFrom 6 = .ok (.getfield 9, 3) := by decide +kernel
theorem dX4_copyFrom_9 : decode cX4_copyFrom 9 = .ok (.iconst 0, 1) := by decide +kernel
theorem dX4_copyFrom_10 : decode cX4_copyFrom 10 = .ok (.bipush 7, 2) := by decide +kernel
theorem dX4_copyFrom_12 : decode cX4_copyFrom 12 = .ok (.invokestatic 31, 3) := by decide +kernel
theorem dX4_copyFrom_15 : decode cX4_copyFrom 15 = .ok (.aload_n 1, 1) := by decide +kernel
theorem dX4_copyFrom_16 : decode cX4_copyFrom 16 = .ok (.getfield 15, 3) := by decide +kernel
theorem dX4_copyFrom_19 : decode cX4_copyFrom 19 = .ok (.iconst 0, 1) := by decide +kernel
theorem dX4_copyFrom_20 : decode cX4_copyFrom 20 = .ok (.aload_n 0, 1) := by decide +kernel
theorem dX4_copyFrom_21 : decode cX4_copyFrom 21 = .ok (.getfield 15, 3) := by decide +kernel
theorem dX4_copyFrom_24 : decode cX4_copyFrom 24 = .ok (.iconst 0, 1) := by decide +kernel
theorem dX4_copyFrom_25 : decode cX4_copyFrom 25 = .ok (.bipush 56, 2) := by decide +kernel
theorem dX4_copyFrom_27 : decode cX4_copyFrom 27 = .ok (.invokestatic 31, 3) := by decide +kernel
theorem dX4_copyFrom_30 : decode cX4_copyFrom 30 = .ok (.aload_n 1, 1) := by decide +kernel
theorem dX4_copyFrom_31 : decode cX4_copyFrom 31 = .ok (.getfield 18, 3) := by decide +kernel
theorem dX4_copyFrom_34 : decode cX4_copyFrom 34 = .ok (.iconst 0, 1) := by decide +kernel
theorem dX4_copyFrom_35 : decode cX4_copyFrom 35 = .ok (.aload_n 0, 1) := by decide +kernel
theorem dX4_copyFrom_36 : decode cX4_copyFrom 36 = .ok (.getfield 18, 3) := by decide +kernel
theorem dX4_copyFrom_39 : decode cX4_copyFrom 39 = .ok (.iconst 0, 1) := by decide +kernel
theorem dX4_copyFrom_40 : decode cX4_copyFrom 40 = .ok (.bipush 8, 2) := by decide +kernel
theorem dX4_copyFrom_42 : decode cX4_copyFrom 42 = .ok (.invokestatic 31, 3) := by decide +kernel
theorem dX4_copyFrom_45 : decode cX4_copyFrom 45 = .ok (.aload_n 0, 1) := by decide +kernel
theorem dX4_copyFrom_46 : decode cX4_copyFrom 46 = .ok (.aload_n 1, 1) := by decide +kernel
theorem dX4_copyFrom_47 : decode cX4_copyFrom 47 = .ok (.getfield 21, 3) := by decide +kernel
theorem dX4_copyFrom_50 : decode cX4_copyFrom 50 = .ok (.putfield 21, 3) := by decide +kernel
theorem dX4_copyFrom_53 : decode cX4_copyFrom 53 = .ok (.return_, 1) := by decide +kernel
theorem dX4_init_0 : decode cX4_init 0 = .ok (.aload_n 0, 1) := by decide +kernel
theorem dX4_init_1 : decode cX4_init 1 = .ok (.invokespecial 3, 3) := by decide +kernel
theorem dX4_init_4 : decode cX4_init 4 = .ok (.aload_n 0, 1) := by decide +kernel
theorem dX4_init_5 : decode cX4_init 5 = .ok (.bipush 7, 2) := by decide +kernel
theorem dX4_init_7 : decode cX4_init 7 = .ok (.newarray .int, 2) := by decide +kernel
theorem dX4_init_9 : decode cX4_init 9 = .ok (.putfield 9, 3) := by decide +kernel
theorem dX4_init_12 : decode cX4_init 12 = .ok (.aload_n 0, 1) := by decide +kernel
theorem dX4_init_13 : decode cX4_init 13 = .ok (.bipush 56, 2) := by decide +kernel
theorem dX4_init_15 : decode cX4_init 15 = .ok (.newarray .int, 2) := by decide +kernel
theorem dX4_init_17 : decode cX4_init 17 = .ok (.putfield 15, 3) := by decide +kernel
theorem dX4_init_20 : decode cX4_init 20 = .ok (.aload_n 0, 1) := by decide +kernel
theorem dX4_init_21 : decode cX4_init 21 = .ok (.bipush 8, 2) := by decide +kernel
theorem dX4_init_23 : decode cX4_init 23 = .ok (.newarray .int, 2) := by decide +kernel
theorem dX4_init_25 : decode cX4_init 25 = .ok (.putfield 18, 3) := by decide +kernel
theorem dX4_init_28 : decode cX4_init 28 = .ok (.aload_n 0, 1) := by decide +kernel
theorem dX4_init_29 : decode cX4_init 29 = .ok (.iconst 0, 1) := by decide +kernel
theorem dX4_init_30 : decode cX4_init 30 = .ok (.putfield 21, 3) := by decide +kernel
theorem dX4_init_33 : decode cX4_init 33 = .ok (.aload_n 0, 1) := by decide +kernel
theorem dX4_init_34 : decode cX4_init 34 = .ok (.getfield 9, 3) := by decide +kernel
theorem dX4_init_37 : decode cX4_init 37 = .ok (.iconst (-1), 1) := by decide +kernel
theorem dX4_init_38 : decode cX4_init 38 = .ok (.invokestatic 25, 3) := by decide +kernel
theorem dX4_init_41 : decode cX4_init 41 = .ok (.return_, 1) := by decide +kernel
theorem dX5_find_0 : decode cX5_find 0 = .ok (.iload_n 1, 1) := by decide +kernel
theorem dX5_find_1 : decode cX5_find 1 = .ok (.istore_n 3, 1) := by decide +kernel
theorem dX5_find_2 : decode cX5_find 2 = .ok (.iconst 0, 1) := by decide +kernel
theorem dX5_find_3 : decode cX5_find 3 = .ok (.istore 4, 2) := by decide +kernel
theorem dX5_find_5 : decode cX5_find 5 = .ok (.iconst 0, 1) := by decide +kernel
theorem dX5_find_6 : decode cX5_find 6 = .ok (.istore 5, 2) := by decide +kernel
theorem dX5_find_8 : decode cX5_find 8 = .ok (.iload 5, 2) := by decide +kernel
theorem dX5_find_10 : decode cX5_find 10 = .ok (.aload_n 0, 1) := by decide +kernel
theorem dX5_find_11 : decode cX5_find 11 = .ok (.getfield 27, 3) := by decide +kernel
theorem dX5_find_14 : decode cX5_find 14 = .ok (.if_icmp .ge 105, 3) := by decide +kernel
theorem dX5_find_119 : decode cX5_find 119 = .ok (.return_, 1) := by decide +kernel
theorem dX5_init_0 : decode cX5_init 0 = .ok (.aload_n 0, 1) := by decide +kernel
theorem dX5_init_1 : decode cX5_init 1 = .ok (.invokespecial 3, 3) := by decide +kernel
theorem dX5_init_4 : decode cX5_init 4 = .ok (.aload_n 0, 1) := by decide +kernel
theorem dX5_init_5 : decode cX5_init 5 = .ok (.bipush 56, 2) := by decide +kernel
theorem dX5_init_7 : decode cX5_init 7 = .ok (.newarray .int, 2) := by decide +kernel
theorem dX5_init_9 : decode cX5_init 9 = .ok (.putfield 9, 3) := by decide +kernel
theorem dX5_init_12 : decode cX5_init 12 = .ok (.aload_n 0, 1) := by decide +kernel
theorem dX5_init_13 : decode cX5_init 13 = .ok (.sipush 256, 3) := by decide +kernel
theorem dX5_init_16 : decode cX5_init 16 = .ok (.newarray .int, 2) := by decide +kernel
theorem dX5_init_18 : decode cX5_init 18 = .ok (.putfield 15, 3) := by decide +kernel
theorem dX5_init_21 : decode cX5_init 21 = .ok (.aload_n 0, 1) := by decide +kernel
theorem dX5_init_22 : decode cX5_init 22 = .ok (.sipush 256, 3) := by decide +kernel
theorem dX5_init_25 : decode cX5_init 25 = .ok (.newarray .int, 2) := by decide +kernel
theorem dX5_init_27 : decode cX5_init 27 = .ok (.putfield 18, 3) := by decide +kernel
theorem dX5_init_30 : decode cX5_init 30 = .ok (.aload_n 0, 1) := by decide +kernel
theorem dX5_init_31 : decode cX5_init 31 = .ok (.sipush 256, 3) := by decide +kernel
theorem dX5_init_34 : decode cX5_init 34 = .ok (.newarray .int, 2) := by decide +kernel
theorem dX5_init_36 : decode cX5_init 36 = .ok (.putfield 21, 3) := by decide +kernel
theorem dX5_init_39 : decode cX5_init 39 = .ok (.aload_n 0, 1) := by decide +kernel
theorem dX5_init_40 : decode cX5_init 40 = .ok (.bipush 7, 2) := by decide +kernel
theorem dX5_init_42 : decode cX5_init 42 = .ok (.newarray .int, 2) := by decide +kernel
theorem dX5_init_44 : decode cX5_init 44 = .ok (.putfield 24, 3) := by decide +kernel
theorem dX5_init_47 : decode cX5_init 47 = .ok (.aload_n 0, 1) := by decide +kernel
theorem dX5_init_48 : decode cX5_init 48 = .ok (.iconst 0, 1) := by decide +kernel
theorem dX5_init_49 : decode cX5_init 49 = .ok (.putfield 27, 3) := by decide +kernel
theorem dX5_init_52 : decode cX5_init 52 = .ok (.aload_n 0, 1) := by decide +kernel
theorem dX5_init_53 : decode cX5_init 53 = .ok (.iconst 0, 1) := by decide +kernel
theorem dX5_init_54 : decode cX5_init 54 = .ok (.putfield 31, 3) := by decide +kernel
theorem dX5_init_57 : decode cX5_init 57 = .ok (.return_, 1) := by decide +kernel
theorem dX5_mostInSum_0 : decode cX5_mostInSum 0 = .ok (.iconst 1, 1) := by decide +kernel
theorem dX5_mostInSum_1 : decode cX5_mostInSum 1 = .ok (.aload_n 0, 1) := by decide +kernel
theorem dX5_mostInSum_2 : decode cX5_mostInSum 2 = .ok (.getfield 31, 3) := by decide +kernel
theorem dX5_mostInSum_5 : decode cX5_mostInSum 5 = .ok (.ishl, 1) := by decide +kernel
theorem dX5_mostInSum_6 : decode cX5_mostInSum 6 = .ok (.iconst 1, 1) := by decide +kernel
theorem dX5_mostInSum_7 : decode cX5_mostInSum 7 = .ok (.isub, 1) := by decide +kernel
theorem dX5_mostInSum_8 : decode cX5_mostInSum 8 = .ok (.istore_n 2, 1) := by decide +kernel
theorem dX5_mostInSum_9 : decode cX5_mostInSum 9 = .ok (.iload_n 2, 1) := by decide +kernel
theorem dX5_mostInSum_10 : decode cX5_mostInSum 10 = .ok (.ifCond .lt 107, 3) := by decide +kernel
theorem dX5_mostInSum_13 : decode cX5_mostInSum 13 = .ok (.iload_n 2, 1) := by decide +kernel
theorem dX5_mostInSum_14 : decode cX5_mostInSum 14 = .ok (.invokestatic 53, 3) := by decide +kernel
theorem dX5_mostInSum_17 : decode cX5_mostInSum 17 = .ok (.istore_n 3, 1) := by decide +kernel
theorem dX5_mostInSum_18 : decode cX5_mostInSum 18 = .ok (.aload_n 0, 1) := by decide +kernel
theorem dX5_mostInSum_19 : decode cX5_mostInSum 19 = .ok (.getfield 21, 3) := by decide +kernel
theorem dX5_mostInSum_22 : decode cX5_mostInSum 22 = .ok (.iload_n 2, 1) := by decide +kernel
theorem dX5_mostInSum_23 : decode cX5_mostInSum 23 = .ok (.iload_n 3, 1) := by decide +kernel
theorem dX5_mostInSum_24 : decode cX5_mostInSum 24 = .ok (.aload_n 0, 1) := by decide +kernel
theorem dX5_mostInSum_25 : decode cX5_mostInSum 25 = .ok (.getfield 27, 3) := by decide +kernel
theorem dX5_mostInSum_28 : decode cX5_mostInSum 28 = .ok (.if_icmp .lt 7, 3) := by decide +kernel
theorem dX5_mostInSum_31 : decode cX5_mostInSum 31 = .ok (.iconst 0, 1) := by decide +kernel
theorem dX5_mostInSum_32 : decode cX5_mostInSum 32 = .ok (.goto 5, 3) := by decide +kernel
theorem dX5_mostInSum_37 : decode cX5_mostInSum 37 = .ok (.iastore, 1) := by decide +kernel
theorem dX5_mostInSum_38 : decode cX5_mostInSum 38 = .ok (.iconst 0, 1) := by decide +kernel
theorem dX5_mostInSum_39 : decode cX5_mostInSum 39 = .ok (.istore 4, 2) := by decide +kernel
theorem dX5_mostInSum_41 : decode cX5_mostInSum 41 = .ok (.iload 4, 2) := by decide +kernel
theorem dX5_mostInSum_43 : decode cX5_mostInSum 43 = .ok (.aload_n 0, 1) := by decide +kernel
theorem dX5_mostInSum_44 : decode cX5_mostInSum 44 = .ok (.getfield 31, 3) := by decide +kernel
theorem dX5_mostInSum_47 : decode cX5_mostInSum 47 = .ok (.if_icmp .ge 64, 3) := by decide +kernel
theorem dX5_mostInSum_111 : decode cX5_mostInSum 111 = .ok (.iinc 2 (-1), 3) := by decide +kernel
theorem dX5_mostInSum_114 : decode cX5_mostInSum 114 = .ok (.goto (-105), 3) := by decide +kernel
theorem dX5_mostInSum_117 : decode cX5_mostInSum 117 = .ok (.aload_n 0, 1) := by decide +kernel
theorem dX5_mostInSum_118 : decode cX5_mostInSum 118 = .ok (.getfield 21, 3) := by decide +kernel
theorem dX5_mostInSum_121 : decode cX5_mostInSum 121 = .ok (.iconst 0, 1) := by decide +kernel
theorem dX5_mostInSum_122 : decode cX5_mostInSum 122 = .ok (.iaload, 1) := by decide +kernel
theorem dX5_mostInSum_123 : decode cX5_mostInSum 123 = .ok (.ireturn, 1) := by decide +kernel
theorem dX5_numberOf_0 : decode cX5_numberOf 0 = .ok (.iconst 0, 1) := by decide +kernel
theorem dX5_numberOf_1 : decode cX5_numberOf 1 = .ok (.istore_n 2, 1) := by decide +kernel
theorem dX5_numberOf_2 : decode cX5_numberOf 2 = .ok (.iconst 0, 1) := by decide +kernel
theorem dX5_numberOf_3 : decode cX5_numberOf 3 = .ok (.istore_n 3, 1) := by decide +kernel
theorem dX5_numberOf_4 : decode cX5_numberOf 4 = .ok (.iconst 0, 1) := by decide +kernel
theorem dX5_numberOf_5 : decode cX5_numberOf 5 = .ok (.istore 4, 2) := by decide +kernel
theorem dX5_numberOf_7 : decode cX5_numberOf 7 = .ok (.iload 4, 2) := by decide +kernel
theorem dX5_numberOf_9 : decode cX5_numberOf 9 = .ok (.aload_n 0, 1) := by decide +kernel
theorem dX5_numberOf_10 : decode cX5_numberOf 10 = .ok (.getfield 27, 3) := by decide +kernel
theorem dX5_numberOf_13 : decode cX5_numberOf 13 = .ok (.if_icmp .ge 66, 3) := by decide +kernel
theorem dX5_numberOf_79 : decode cX5_numberOf 79 = .ok (.iload_n 2, 1) := by decide +kernel
theorem dX5_numberOf_80 : decode cX5_numberOf 80 = .ok (.ireturn, 1) := by decide +kernel
theorem dX5_pickMostInSum_0 : decode cX5_pickMostInSum 0 = .ok (.iconst 0, 1) := by decide +kernel
theorem dX5_pickMostInSum_1 : decode cX5_pickMostInSum 1 = .ok (.istore_n 3, 1) := by decide +kernel
theorem dX5_pickMostInSum_2 : decode cX5_pickMostInSum 2 = .ok (.iconst 0, 1) := by decide +kernel
theorem dX5_pickMostInSum_3 : decode cX5_pickMostInSum 3 = .ok (.istore 4, 2) := by decide +kernel
theorem dX5_pickMostInSum_5 : decode cX5_pickMostInSum 5 = .ok (.iload 4, 2) := by decide +kernel
theorem dX5_pickMostInSum_7 : decode cX5_pickMostInSum 7 = .ok (.aload_n 0, 1) := by decide +kernel
theorem dX5_pickMostInSum_8 : decode cX5_pickMostInSum 8 = .ok (.getfield 27, 3) := by decide +kernel
theorem dX5_pickMostInSum_11 : decode cX5_pickMostInSum 11 = .ok (.if_icmp .ge 55, 3) := by decide +kernel
theorem dX5_pickMostInSum_66 : decode cX5_pickMostInSum 66 = .ok (.return_, 1) := by decide +kernel
theorem dX5_tally_0 : decode cX5_tally 0 = .ok (.aload_n 0, 1) := by decide +kernel
theorem dX5_tally_1 : decode cX5_tally 1 = .ok (.iconst 0, 1) := by decide +kernel
theorem dX5_tally_2 : decode cX5_tally 2 = .ok (.iload_n 2, 1) := by decide +kernel
theorem dX5_tally_3 : decode cX5_tally 3 = .ok (.bipush 7, 2) := by decide +kernel
theorem dX5_tally_5 : decode cX5_tally 5 = .ok (.invokestatic 34, 3) := by decide +kernel
theorem dX5_tally_8 : decode cX5_tally 8 = .ok (.invokestatic 40, 3) := by decide +kernel
theorem dX5_tally_11 : decode cX5_tally 11 = .ok (.putfield 27, 3) := by decide +kernel
theorem dX5_tally_14 : decode cX5_tally 14 = .ok (.aload_n 0, 1) := by decide +kernel
theorem dX5_tally_15 : decode cX5_tally 15 = .ok (.iconst 0, 1) := by decide +kernel
theorem dX5_tally_16 : decode cX5_tally 16 = .ok (.iload_n 3, 1) := by decide +kernel
theorem dX5_tally_17 : decode cX5_tally 17 = .ok (.bipush 8, 2) := by decide +kernel
theorem dX5_tally_19 : decode cX5_tally 19 = .ok (.invokestatic 34, 3) := by decide +kernel
theorem dX5_tally_22 : decode cX5_tally 22 = .ok (.invokestatic 40, 3) := by decide +kernel
theorem dX5_tally_25 : decode cX5_tally 25 = .ok (.putfield 31, 3) := by decide +kernel
theorem dX5_tally_28 : decode cX5_tally 28 = .ok (.aload_n 1, 1) := by decide +kernel
theorem dX5_tally_29 : decode cX5_tally 29 = .ok (.iconst 0, 1) := by decide +kernel
theorem dX5_tally_30 : decode cX5_tally 30 = .ok (.aload_n 0, 1) := by decide +kernel
theorem dX5_tally_31 : decode cX5_tally 31 = .ok (.getfield 24, 3) := by decide +kernel
theorem dX5_tally_34 : decode cX5_tally 34 = .ok (.iconst 0, 1) := by decide +kernel
theorem dX5_tally_35 : decode cX5_tally 35 = .ok (.aload_n 0, 1) := by decide +kernel
theorem dX5_tally_36 : decode cX5_tally 36 = .ok (.getfield 27, 3) := by decide +kernel
theorem dX5_tally_39 : decode cX5_tally 39 = .ok (.invokestatic 43, 3) := by decide +kernel
theorem dX5_tally_42 : decode cX5_tally 42 = .ok (.iconst 1, 1) := by decide +kernel
theorem dX5_tally_43 : decode cX5_tally 43 = .ok (.aload_n 0, 1) := by decide +kernel
theorem dX5_tally_44 : decode cX5_tally 44 = .ok (.getfield 31, 3) := by decide +kernel
theorem dX5_tally_47 : decode cX5_tally 47 = .ok (.ishl, 1) := by decide +kernel
theorem dX5_tally_48 : decode cX5_tally 48 = .ok (.iconst 1, 1) := by decide +kernel
theorem dX5_tally_49 : decode cX5_tally 49 = .ok (.isub, 1) := by decide +kernel
theorem dX5_tally_50 : decode cX5_tally 50 = .ok (.istore 4, 2) := by decide +kernel
theorem dX5_tally_52 : decode cX5_tally 52 = .ok (.iload 4, 2) := by decide +kernel
theorem dX5_tally_54 : decode cX5_tally 54 = .ok (.ifCond .lt 22, 3) := by decide +kernel
theorem dX5_tally_57 : decode cX5_tally 57 = .ok (.aload_n 0, 1) := by decide +kernel
theorem dX5_tally_58 : decode cX5_tally 58 = .ok (.getfield 15, 3) := by decide +kernel
theorem dX5_tally_61 : decode cX5_tally 61 = .ok (.iload 4, 2) := by decide +kernel
theorem dX5_tally_63 : decode cX5_tally 63 = .ok (.aload_n 0, 1) := by decide +kernel
theorem dX5_tally_64 : decode cX5_tally 64 = .ok (.iload 4, 2) := by decide +kernel
theorem dX5_tally_66 : decode cX5_tally 66 = .ok (.invokevirtual 49, 3) := by decide +kernel
theorem dX5_tally_69 : decode cX5_tally 69 = .ok (.iastore, 1) := by decide +kernel
theorem dX5_tally_70 : decode cX5_tally 70 = .ok (.iinc 4 (-1), 3) := by decide +kernel
theorem dX5_tally_73 : decode cX5_tally 73 = .ok (.goto (-21), 3) := by decide +kernel
theorem dX5_tally_76 : decode cX5_tally 76 = .ok (.aload_n 0, 1) := by decide +kernel
theorem dX5_tally_77 : decode cX5_tally 77 = .ok (.getfield 15, 3) := by decide +kernel
theorem dX5_tally_80 : decode cX5_tally 80 = .ok (.iconst 0, 1) := by decide +kernel
theorem dX5_tally_81 : decode cX5_tally 81 = .ok (.iaload, 1) := by decide +kernel
theorem dX5_tally_82 : decode cX5_tally 82 = .ok (.ireturn, 1) := by decide +kernel
theorem dX5_waysFrom_0 : decode cX5_waysFrom 0 = .ok (.iload_n 1, 1) := by decide +kernel
theorem dX5_waysFrom_1 : decode cX5_waysFrom 1 = .ok (.invokestatic 53, 3) := by decide +kernel
theorem dX5_waysFrom_4 : decode cX5_waysFrom 4 = .ok (.istore_n 2, 1) := by decide +kernel
theorem dX5_waysFrom_5 : decode cX5_waysFrom 5 = .ok (.iload_n 2, 1) := by decide +kernel
theorem dX5_waysFrom_6 : decode cX5_waysFrom 6 = .ok (.aload_n 0, 1) := by decide +kernel
theorem dX5_waysFrom_7 : decode cX5_waysFrom 7 = .ok (.getfield 27, 3) := by decide +kernel
theorem dX5_waysFrom_10 : decode cX5_waysFrom 10 = .ok (.if_icmp .lt 17, 3) := by decide +kernel
theorem dX5_waysFrom_13 : decode cX5_waysFrom 13 = .ok (.iload_n 2, 1) := by decide +kernel
theorem dX5_waysFrom_14 : decode cX5_waysFrom 14 = .ok (.aload_n 0, 1) := by decide +kernel
theorem dX5_waysFrom_15 : decode cX5_waysFrom 15 = .ok (.getfield 27, 3) := by decide +kernel
theorem dX5_waysFrom_18 : decode cX5_waysFrom 18 = .ok (.if_icmp .ne 7, 3) := by decide +kernel
theorem dX5_waysFrom_21 : decode cX5_waysFrom 21 = .ok (.iconst 1, 1) := by decide +kernel
theorem dX5_waysFrom_22 : decode cX5_waysFrom 22 = .ok (.goto 4, 3) := by decide +kernel
theorem dX5_waysFrom_26 : decode cX5_waysFrom 26 = .ok (.ireturn, 1) := by decide +kernel
theorem dX6_harmNow_0 : decode cX6_harmNow 0 = .ok (.iconst 0, 1) := by decide +kernel
theorem dX6_harmNow_1 : decode cX6_harmNow 1 = .ok (.istore_n 1, 1) := by decide +kernel
theorem dX6_harmNow_2 : decode cX6_harmNow 2 = .ok (.iconst 0, 1) := by decide +kernel
theorem dX6_harmNow_3 : decode cX6_harmNow 3 = .ok (.istore_n 2, 1) := by decide +kernel
theorem dX6_harmNow_4 : decode cX6_harmNow 4 = .ok (.iload_n 2, 1) := by decide +kernel
theorem dX6_harmNow_5 : decode cX6_harmNow 5 = .ok (.aload_n 0, 1) := by decide +kernel
theorem dX6_harmNow_6 : decode cX6_harmNow 6 = .ok (.getfield 34, 3) := by decide +kernel
theorem dX6_harmNow_9 : decode cX6_harmNow 9 = .ok (.getfield 38, 3) := by decide +kernel
theorem dX6_harmNow_12 : decode cX6_harmNow 12 = .ok (.if_icmp .ge 46, 3) := by decide +kernel
theorem dX6_harmNow_58 : decode cX6_harmNow 58 = .ok (.iload_n 1, 1) := by decide +kernel
theorem dX6_harmNow_59 : decode cX6_harmNow 59 = .ok (.ireturn, 1) := by decide +kernel
theorem dX6_init_0 : decode cX6_init 0 = .ok (.aload_n 0, 1) := by decide +kernel
theorem dX6_init_1 : decode cX6_init 1 = .ok (.invokespecial 3, 3) := by decide +kernel
theorem dX6_init_4 : decode cX6_init 4 = .ok (.aload_n 0, 1) := by decide +kernel
theorem dX6_init_5 : decode cX6_init 5 = .ok (.iconst (-1), 1) := by decide +kernel
theorem dX6_init_6 : decode cX6_init 6 = .ok (.putfield 9, 3) := by decide +kernel
theorem dX6_init_9 : decode cX6_init 9 = .ok (.aload_n 0, 1) := by decide +kernel
theorem dX6_init_10 : decode cX6_init 10 = .ok (.bipush 7, 2) := by decide +kernel
theorem dX6_init_12 : decode cX6_init 12 = .ok (.newarray .int, 2) := by decide +kernel
theorem dX6_init_14 : decode cX6_init 14 = .ok (.putfield 15, 3) := by decide +kernel
theorem dX6_init_17 : decode cX6_init 17 = .ok (.aload_n 0, 1) := by decide +kernel
theorem dX6_init_18 : decode cX6_init 18 = .ok (.bipush 8, 2) := by decide +kernel
theorem dX6_init_20 : decode cX6_init 20 = .ok (.newarray .int, 2) := by decide +kernel
theorem dX6_init_22 : decode cX6_init 22 = .ok (.putfield 19, 3) := by decide +kernel
theorem dX6_init_25 : decode cX6_init 25 = .ok (.aload_n 0, 1) := by decide +kernel
theorem dX6_init_26 : decode cX6_init 26 = .ok (.bipush 8, 2) := by decide +kernel
theorem dX6_init_28 : decode cX6_init 28 = .ok (.newarray .int, 2) := by decide +kernel
theorem dX6_init_30 : decode cX6_init 30 = .ok (.putfield 22, 3) := by decide +kernel
theorem dX6_init_33 : decode cX6_init 33 = .ok (.aload_n 0, 1) := by decide +kernel
theorem dX6_init_34 : decode cX6_init 34 = .ok (.bipush 8, 2) := by decide +kernel
theorem dX6_init_36 : decode cX6_init 36 = .ok (.newarray .int, 2) := by decide +kernel
theorem dX6_init_38 : decode cX6_init 38 = .ok (.putfield 25, 3) := by decide +kernel
theorem dX6_init_41 : decode cX6_init 41 = .ok (.aload_n 0, 1) := by decide +kernel
theorem dX6_init_42 : decode cX6_init 42 = .ok (.bipush 7, 2) := by decide +kernel
theorem dX6_init_44 : decode cX6_init 44 = .ok (.newarray .int, 2) := by decide +kernel
theorem dX6_init_46 : decode cX6_init 46 = .ok (.putfield 28, 3) := by decide +kernel
theorem dX6_init_49 : decode cX6_init 49 = .ok (.aload_n 0, 1) := by decide +kernel
theorem dX6_init_50 : decode cX6_init 50 = .ok (.iconst (-1), 1) := by decide +kernel
theorem dX6_init_51 : decode cX6_init 51 = .ok (.putfield 31, 3) := by decide +kernel
theorem dX6_init_54 : decode cX6_init 54 = .ok (.aload_n 0, 1) := by decide +kernel
theorem dX6_init_55 : decode cX6_init 55 = .ok (.aload_n 1, 1) := by decide +kernel
theorem dX6_init_56 : decode cX6_init 56 = .ok (.putfield 34, 3) := by decide +kernel
theorem dX6_init_59 : decode cX6_init 59 = .ok (.return_, 1) := by decide +kernel
theorem dX6_search_0 : decode cX6_search 0 = .ok (.aload_n 0, 1) := by decide +kernel
theorem dX6_search_1 : decode cX6_search 1 = .ok (.getfield 31, 3) := by decide +kernel
theorem dX6_search_4 : decode cX6_search 4 = .ok (.aload_n 0, 1) := by decide +kernel
theorem dX6_search_5 : decode cX6_search 5 = .ok (.getfield 34, 3) := by decide +kernel
theorem dX6_search_8 : decode cX6_search 8 = .ok (.getfield 57, 3) := by decide +kernel
theorem dX6_search_11 : decode cX6_search 11 = .ok (.if_icmp .ne 4, 3) := by decide +kernel
theorem dX6_search_15 : decode cX6_search 15 = .ok (.aload_n 0, 1) := by decide +kernel
theorem dX6_search_16 : decode cX6_search 16 = .ok (.getfield 25, 3) := by decide +kernel
theorem dX6_search_19 : decode cX6_search 19 = .ok (.iconst (-1), 1) := by decide +kernel
theorem dX6_search_20 : decode cX6_search 20 = .ok (.invokestatic 60, 3) := by decide +kernel
theorem dX6_search_23 : decode cX6_search 23 = .ok (.aload_n 0, 1) := by decide +kernel
theorem dX6_search_24 : decode cX6_search 24 = .ok (.getfield 22, 3) := by decide +kernel
theorem dX6_search_27 : decode cX6_search 27 = .ok (.iconst (-1), 1) := by decide +kernel
theorem dX6_search_28 : decode cX6_search 28 = .ok (.invokestatic 60, 3) := by decide +kernel
theorem dX6_search_31 : decode cX6_search 31 = .ok (.iconst 0, 1) := by decide +kernel
theorem dX6_search_32 : decode cX6_search 32 = .ok (.istore_n 2, 1) := by decide +kernel
theorem dX6_search_33 : decode cX6_search 33 = .ok (.iload_n 2, 1) := by decide +kernel
theorem dX6_search_34 : decode cX6_search 34 = .ok (.aload_n 0, 1) := by decide +kernel
theorem dX6_search_35 : decode cX6_search 35 = .ok (.getfield 34, 3) := by decide +kernel
theorem dX6_search_38 : decode cX6_search 38 = .ok (.getfield 38, 3) := by decide +kernel
theorem dX6_search_41 : decode cX6_search 41 = .ok (.if_icmp .ge 45, 3) := by decide +kernel
theorem dX6_search_86 : decode cX6_search 86 = .ok (.aload_n 0, 1) := by decide +kernel
theorem dX6_search_87 : decode cX6_search 87 = .ok (.ldc 66, 2) := by decide +kernel
theorem dX6_search_89 : decode cX6_search 89 = .ok (.putfield 9, 3) := by decide +kernel
theorem dX6_search_92 : decode cX6_search 92 = .ok (.aload_n 0, 1) := by decide +kernel
theorem dX6_search_93 : decode cX6_search 93 = .ok (.aload_n 1, 1) := by decide +kernel
theorem dX6_search_94 : decode cX6_search 94 = .ok (.iconst 0, 1) := by decide +kernel
theorem dX6_search_95 : decode cX6_search 95 = .ok (.iconst 0, 1) := by decide +kernel
theorem dX6_search_96 : decode cX6_search 96 = .ok (.iconst 0, 1) := by decide +kernel
theorem dX6_search_97 : decode cX6_search 97 = .ok (.invokevirtual 67, 3) := by decide +kernel
theorem dX6_search_100 : decode cX6_search 100 = .ok (.aload_n 0, 1) := by decide +kernel
theorem dX6_search_101 : decode cX6_search 101 = .ok (.aload_n 0, 1) := by decide +kernel
theorem dX6_search_102 : decode cX6_search 102 = .ok (.getfield 34, 3) := by decide +kernel
theorem dX6_search_105 : decode cX6_search 105 = .ok (.getfield 57, 3) := by decide +kernel
theorem dX6_search_108 : decode cX6_search 108 = .ok (.putfield 31, 3) := by decide +kernel
theorem dX6_search_111 : decode cX6_search 111 = .ok (.return_, 1) := by decide +kernel
theorem dX6_seek_0 : decode cX6_seek 0 = .ok (.iload 4, 2) := by decide +kernel
theorem dX6_seek_2 : decode cX6_seek 2 = .ok (.aload_n 0, 1) := by decide +kernel
theorem dX6_seek_3 : decode cX6_seek 3 = .ok (.getfield 9, 3) := by decide +kernel
theorem dX6_seek_6 : decode cX6_seek 6 = .ok (.if_icmp .lt 4, 3) := by decide +kernel
theorem dX6_seek_10 : decode cX6_seek 10 = .ok (.iload_n 2, 1) := by decide +kernel
theorem dX6_seek_11 : decode cX6_seek 11 = .ok (.aload_n 0, 1) := by decide +kernel
theorem dX6_seek_12 : decode cX6_seek 12 = .ok (.getfield 34, 3) := by decide +kernel
theorem dX6_seek_15 : decode cX6_seek 15 = .ok (.getfield 71, 3) := by decide +kernel
theorem dX6_seek_18 : decode cX6_seek 18 = .ok (.if_icmp .lt 25, 3) := by decide +kernel
theorem dX6_seek_21 : decode cX6_seek 21 = .ok (.aload_n 0, 1) := by decide +kernel
theorem dX6_seek_22 : decode cX6_seek 22 = .ok (.iload 4, 2) := by decide +kernel
theorem dX6_seek_24 : decode cX6_seek 24 = .ok (.putfield 9, 3) := by decide +kernel
theorem dX6_seek_27 : decode cX6_seek 27 = .ok (.aload_n 0, 1) := by decide +kernel
theorem dX6_seek_28 : decode cX6_seek 28 = .ok (.getfield 28, 3) := by decide +kernel
theorem dX6_seek_31 : decode cX6_seek 31 = .ok (.iconst 0, 1) := by decide +kernel
theorem dX6_seek_32 : decode cX6_seek 32 = .ok (.aload_n 0, 1) := by decide +kernel
theorem dX6_seek_33 : decode cX6_seek 33 = .ok (.getfield 15, 3) := by decide +kernel
theorem dX6_seek_36 : decode cX6_seek 36 = .ok (.iconst 0, 1) := by decide +kernel
theorem dX6_seek_37 : decode cX6_seek 37 = .ok (.bipush 7, 2) := by decide +kernel
theorem dX6_seek_39 : decode cX6_seek 39 = .ok (.invokestatic 74, 3) := by decide +kernel
theorem dX6_seek_42 : decode cX6_seek 42 = .ok (.return_, 1) := by decide +kernel
theorem dX7_init_0 : decode cX7_init 0 = .ok (.aload_n 0, 1) := by decide +kernel
theorem dX7_init_1 : decode cX7_init 1 = .ok (.invokespecial 5, 3) := by decide +kernel
theorem dX7_init_4 : decode cX7_init 4 = .ok (.aload_n 0, 1) := by decide +kernel
theorem dX7_init_5 : decode cX7_init 5 = .ok (.new 11, 3) := by decide +kernel
theorem dX7_init_8 : decode cX7_init 8 = .ok (.dup, 1) := by decide +kernel
theorem dX7_init_9 : decode cX7_init 9 = .ok (.invokespecial 13, 3) := by decide +kernel
theorem dX7_init_12 : decode cX7_init 12 = .ok (.putfield 14, 3) := by decide +kernel
theorem dX7_init_15 : decode cX7_init 15 = .ok (.aload_n 0, 1) := by decide +kernel
theorem dX7_init_16 : decode cX7_init 16 = .ok (.iconst 0, 1) := by decide +kernel
theorem dX7_init_17 : decode cX7_init 17 = .ok (.putfield 18, 3) := by decide +kernel
theorem dX7_init_20 : decode cX7_init 20 = .ok (.aload_n 0, 1) := by decide +kernel
theorem dX7_init_21 : decode cX7_init 21 = .ok (.iconst (-1), 1) := by decide +kernel
theorem dX7_init_22 : decode cX7_init 22 = .ok (.putfield 22, 3) := by decide +kernel
theorem dX7_init_25 : decode cX7_init 25 = .ok (.aload_n 0, 1) := by decide +kernel
theorem dX7_init_26 : decode cX7_init 26 = .ok (.iconst 0, 1) := by decide +kernel
theorem dX7_init_27 : decode cX7_init 27 = .ok (.newarray .byte, 2) := by decide +kernel
theorem dX7_init_29 : decode cX7_init 29 = .ok (.putfield 25, 3) := by decide +kernel
theorem dX7_init_32 : decode cX7_init 32 = .ok (.aload_n 0, 1) := by decide +kernel
theorem dX7_init_33 : decode cX7_init 33 = .ok (.iconst 0, 1) := by decide +kernel
theorem dX7_init_34 : decode cX7_init 34 = .ok (.putfield 29, 3) := by decide +kernel
theorem dX7_init_37 : decode cX7_init 37 = .ok (.aload_n 0, 1) := by decide +kernel
theorem dX7_init_38 : decode cX7_init 38 = .ok (.iconst 0, 1) := by decide +kernel
theorem dX7_init_39 : decode cX7_init 39 = .ok (.putfield 32, 3) := by decide +kernel
theorem dX7_init_42 : decode cX7_init 42 = .ok (.aload_n 0, 1) := by decide +kernel
theorem dX7_init_43 : decode cX7_init 43 = .ok (.iconst 0, 1) := by decide +kernel
theorem dX7_init_44 : decode cX7_init 44 = .ok (.putfield 35, 3) := by decide +kernel
theorem dX7_init_47 : decode cX7_init 47 = .ok (.aload_n 0, 1) := by decide +kernel
theorem dX7_init_48 : decode cX7_init 48 = .ok (.iconst 0, 1) := by decide +kernel
theorem dX7_init_49 : decode cX7_init 49 = .ok (.putfield 38, 3) := by decide +kernel
theorem dX7_init_52 : decode cX7_init 52 = .ok (.aload_n 0, 1) := by decide +kernel
theorem dX7_init_53 : decode cX7_init 53 = .ok (.iconst 0, 1) := by decide +kernel
theorem dX7_init_54 : decode cX7_init 54 = .ok (.putfield 41, 3) := by decide +kernel
theorem dX7_init_57 : decode cX7_init 57 = .ok (.return_, 1) := by decide +kernel
theorem dX7_next_0 : decode cX7_next 0 = .ok (.aload_n 0, 1) := by decide +kernel
theorem dX7_next_1 : decode cX7_next 1 = .ok (.getfield 32, 3) := by decide +kernel
theorem dX7_next_4 : decode cX7_next 4 = .ok (.aload_n 0, 1) := by decide +kernel
theorem dX7_next_5 : decode cX7_next 5 = .ok (.getfield 29, 3) := by decide +kernel
theorem dX7_next_8 : decode cX7_next 8 = .ok (.if_icmp .ge 44, 3) := by decide +kernel
theorem dX7_next_52 : decode cX7_next 52 = .ok (.aload_n 0, 1) := by decide +kernel
theorem dX7_next_53 : decode cX7_next 53 = .ok (.aload_n 0, 1) := by decide +kernel
theorem dX7_next_54 : decode cX7_next 54 = .ok (.getfield 32, 3) := by decide +kernel
theorem dX7_next_57 : decode cX7_next 57 = .ok (.putfield 41, 3) := by decide +kernel
theorem dX7_next_60 : decode cX7_next 60 = .ok (.aload_n 0, 1) := by decide +kernel
theorem dX7_next_61 : decode cX7_next 61 = .ok (.getfield 32, 3) := by decide +kernel
theorem dX7_next_64 : decode cX7_next 64 = .ok (.aload_n 0, 1) := by decide +kernel
theorem dX7_next_65 : decode cX7_next 65 = .ok (.getfield 29, 3) := by decide +kernel
theorem dX7_next_68 : decode cX7_next 68 = .ok (.if_icmp .lt 11, 3) := by decide +kernel
theorem dX7_next_71 : decode cX7_next 71 = .ok (.aload_n 0, 1) := by decide +kernel
theorem dX7_next_72 : decode cX7_next 72 = .ok (.iconst 0, 1) := by decide +kernel
theorem dX7_next_73 : decode cX7_next 73 = .ok (.putfield 35, 3) := by decide +kernel
theorem dX7_next_76 : decode cX7_next 76 = .ok (.goto 256, 3) := by decide +kernel
theorem dX7_next_332 : decode cX7_next 332 = .ok (.return_, 1) := by decide +kernel
theorem dX7_readAll_0 : decode cX7_readAll 0 = .ok (.aload_n 0, 1) := by decide +kernel
theorem dX7_readAll_1 : decode cX7_readAll 1 = .ok (.aload_n 1, 1) := by decide +kernel
theorem dX7_readAll_2 : decode cX7_readAll 2 = .ok (.putfield 25, 3) := by decide +kernel
theorem dX7_readAll_5 : decode cX7_readAll 5 = .ok (.aload_n 0, 1) := by decide +kernel
theorem dX7_readAll_6 : decode cX7_readAll 6 = .ok (.iload_n 2, 1) := by decide +kernel
theorem dX7_readAll_7 : decode cX7_readAll 7 = .ok (.aload_n 1, 1) := by decide +kernel
theorem dX7_readAll_8 : decode cX7_readAll 8 = .ok (.arraylength, 1) := by decide +kernel
theorem dX7_readAll_9 : decode cX7_readAll 9 = .ok (.invokestatic 44, 3) := by decide +kernel
theorem dX7_readAll_12 : decode cX7_readAll 12 = .ok (.putfield 29, 3) := by decide +kernel
theorem dX7_readAll_15 : decode cX7_readAll 15 = .ok (.aload_n 0, 1) := by decide +kernel
theorem dX7_readAll_16 : decode cX7_readAll 16 = .ok (.iconst 0, 1) := by decide +kernel
theorem dX7_readAll_17 : decode cX7_readAll 17 = .ok (.putfield 32, 3) := by decide +kernel
theorem dX7_readAll_20 : decode cX7_readAll 20 = .ok (.aload_n 0, 1) := by decide +kernel
theorem dX7_readAll_21 : decode cX7_readAll 21 = .ok (.iconst 0, 1) := by decide +kernel
theorem dX7_readAll_22 : decode cX7_readAll 22 = .ok (.putfield 18, 3) := by decide +kernel
theorem dX7_readAll_25 : decode cX7_readAll 25 = .ok (.aload_n 0, 1) := by decide +kernel
theorem dX7_readAll_26 : decode cX7_readAll 26 = .ok (.iconst (-1), 1) := by decide +kernel
theorem dX7_readAll_27 : decode cX7_readAll 27 = .ok (.putfield 22, 3) := by decide +kernel
theorem dX7_readAll_30 : decode cX7_readAll 30 = .ok (.aload_n 0, 1) := by decide +kernel
theorem dX7_readAll_31 : decode cX7_readAll 31 = .ok (.getfield 14, 3) := by decide +kernel
theorem dX7_readAll_34 : decode cX7_readAll 34 = .ok (.invokevirtual 50, 3) := by decide +kernel
theorem dX7_readAll_37 : decode cX7_readAll 37 = .ok (.aload_n 0, 1) := by decide +kernel
theorem dX7_readAll_38 : decode cX7_readAll 38 = .ok (.invokevirtual 53, 3) := by decide +kernel
theorem dX7_readAll_41 : decode cX7_readAll 41 = .ok (.iconst 1, 1) := by decide +kernel
theorem dX7_readAll_42 : decode cX7_readAll 42 = .ok (.istore_n 3, 1) := by decide +kernel
theorem dX7_readAll_43 : decode cX7_readAll 43 = .ok (.iconst 0, 1) := by decide +kernel
theorem dX7_readAll_44 : decode cX7_readAll 44 = .ok (.istore 4, 2) := by decide +kernel
theorem dX7_readAll_46 : decode cX7_readAll 46 = .ok (.iload 4, 2) := by decide +kernel
theorem dX7_readAll_48 : decode cX7_readAll 48 = .ok (.aload_n 0, 1) := by decide +kernel
theorem dX7_readAll_49 : decode cX7_readAll 49 = .ok (.getfield 29, 3) := by decide +kernel
theorem dX7_readAll_52 : decode cX7_readAll 52 = .ok (.if_icmp .ge 147, 3) := by decide +kernel
theorem dX7_readAll_199 : decode cX7_readAll 199 = .ok (.iload_n 3, 1) := by decide +kernel
theorem dX7_readAll_200 : decode cX7_readAll 200 = .ok (.ireturn, 1) := by decide +kernel
theorem dX8_init_0 : decode cX8_init 0 = .ok (.aload_n 0, 1) := by decide +kernel
theorem dX8_init_1 : decode cX8_init 1 = .ok (.invokespecial 3, 3) := by decide +kernel
theorem dX8_init_4 : decode cX8_init 4 = .ok (.aload_n 0, 1) := by decide +kernel
theorem dX8_init_5 : decode cX8_init 5 = .ok (.bipush 7, 2) := by decide +kernel
theorem dX8_init_7 : decode cX8_init 7 = .ok (.newarray .int, 2) := by decide +kernel
theorem dX8_init_9 : decode cX8_init 9 = .ok (.putfield 9, 3) := by decide +kernel
theorem dX8_init_12 : decode cX8_init 12 = .ok (.aload_n 0, 1) := by decide +kernel
theorem dX8_init_13 : decode cX8_init 13 = .ok (.iconst 0, 1) := by decide +kernel
theorem dX8_init_14 : decode cX8_init 14 = .ok (.putfield 15, 3) := by decide +kernel
theorem dX8_init_17 : decode cX8_init 17 = .ok (.aload_n 0, 1) := by decide +kernel
theorem dX8_init_18 : decode cX8_init 18 = .ok (.iconst 0, 1) := by decide +kernel
theorem dX8_init_19 : decode cX8_init 19 = .ok (.putfield 19, 3) := by decide +kernel
theorem dX8_init_22 : decode cX8_init 22 = .ok (.aload_n 0, 1) := by decide +kernel
theorem dX8_init_23 : decode cX8_init 23 = .ok (.bipush 7, 2) := by decide +kernel
theorem dX8_init_25 : decode cX8_init 25 = .ok (.newarray .int, 2) := by decide +kernel
theorem dX8_init_27 : decode cX8_init 27 = .ok (.putfield 22, 3) := by decide +kernel
theorem dX8_init_30 : decode cX8_init 30 = .ok (.aload_n 0, 1) := by decide +kernel
theorem dX8_init_31 : decode cX8_init 31 = .ok (.aload_n 1, 1) := by decide +kernel
theorem dX8_init_32 : decode cX8_init 32 = .ok (.putfield 25, 3) := by decide +kernel
theorem dX8_init_35 : decode cX8_init 35 = .ok (.aload_n 0, 1) := by decide +kernel
theorem dX8_init_36 : decode cX8_init 36 = .ok (.aload_n 2, 1) := by decide +kernel
theorem dX8_init_37 : decode cX8_init 37 = .ok (.putfield 29, 3) := by decide +kernel
theorem dX8_init_40 : decode cX8_init 40 = .ok (.return_, 1) := by decide +kernel
theorem dX8_turn_0 : decode cX8_turn 0 = .ok (.aload_n 0, 1) := by decide +kernel
theorem dX8_turn_1 : decode cX8_turn 1 = .ok (.iconst 0, 1) := by decide +kernel
theorem dX8_turn_2 : decode cX8_turn 2 = .ok (.putfield 15, 3) := by decide +kernel
theorem dX8_turn_5 : decode cX8_turn 5 = .ok (.aload_n 0, 1) := by decide +kernel
theorem dX8_turn_6 : decode cX8_turn 6 = .ok (.iconst 0, 1) := by decide +kernel
theorem dX8_turn_7 : decode cX8_turn 7 = .ok (.putfield 19, 3) := by decide +kernel
theorem dX8_turn_10 : decode cX8_turn 10 = .ok (.iconst 0, 1) := by decide +kernel
theorem dX8_turn_11 : decode cX8_turn 11 = .ok (.istore_n 1, 1) := by decide +kernel
theorem dX8_turn_12 : decode cX8_turn 12 = .ok (.iconst 0, 1) := by decide +kernel
theorem dX8_turn_13 : decode cX8_turn 13 = .ok (.istore_n 2, 1) := by decide +kernel
theorem dX8_turn_14 : decode cX8_turn 14 = .ok (.iload_n 2, 1) := by decide +kernel
theorem dX8_turn_15 : decode cX8_turn 15 = .ok (.aload_n 0, 1) := by decide +kernel
theorem dX8_turn_16 : decode cX8_turn 16 = .ok (.getfield 25, 3) := by decide +kernel
theorem dX8_turn_19 : decode cX8_turn 19 = .ok (.getfield 33, 3) := by decide +kernel
theorem dX8_turn_22 : decode cX8_turn 22 = .ok (.if_icmp .ge 42, 3) := by decide +kernel
theorem dX8_turn_64 : decode cX8_turn 64 = .ok (.iconst 0, 1) := by decide +kernel
theorem dX8_turn_65 : decode cX8_turn 65 = .ok (.istore_n 2, 1) := by decide +kernel
theorem dX8_turn_66 : decode cX8_turn 66 = .ok (.iload_n 2, 1) := by decide +kernel
theorem dX8_turn_67 : decode cX8_turn 67 = .ok (.bipush 7, 2) := by decide +kernel
theorem dX8_turn_69 : decode cX8_turn 69 = .ok (.if_icmp .ge 66, 3) := by decide +kernel
theorem dX8_turn_72 : decode cX8_turn 72 = .ok (.iload_n 1, 1) := by decide +kernel
theorem dX8_turn_73 : decode cX8_turn 73 = .ok (.ifCond .eq 62, 3) := by decide +kernel
theorem dX8_turn_135 : decode cX8_turn 135 = .ok (.return_, 1) := by decide +kernel
theorem dX9_init_0 : decode cX9_init 0 = .ok (.aload_n 0, 1) := by decide +kernel
theorem dX9_init_1 : decode cX9_init 1 = .ok (.invokespecial 3, 3) := by decide +kernel
theorem dX9_init_4 : decode cX9_init 4 = .ok (.aload_n 0, 1) := by decide +kernel
theorem dX9_init_5 : decode cX9_init 5 = .ok (.bipush 7, 2) := by decide +kernel
theorem dX9_init_7 : decode cX9_init 7 = .ok (.newarray .int, 2) := by decide +kernel
theorem dX9_init_9 : decode cX9_init 9 = .ok (.putfield 9, 3) := by decide +kernel
theorem dX9_init_12 : decode cX9_init 12 = .ok (.aload_n 0, 1) := by decide +kernel
theorem dX9_init_13 : decode cX9_init 13 = .ok (.bipush 56, 2) := by decide +kernel
theorem dX9_init_15 : decode cX9_init 15 = .ok (.newarray .int, 2) := by decide +kernel
theorem dX9_init_17 : decode cX9_init 17 = .ok (.putfield 15, 3) := by decide +kernel
theorem dX9_init_20 : decode cX9_init 20 = .ok (.aload_n 0, 1) := by decide +kernel
theorem dX9_init_21 : decode cX9_init 21 = .ok (.bipush 13, 2) := by decide +kernel
theorem dX9_init_23 : decode cX9_init 23 = .ok (.newarray .int, 2) := by decide +kernel
theorem dX9_init_25 : decode cX9_init 25 = .ok (.putfield 20, 3) := by decide +kernel
theorem dX9_init_28 : decode cX9_init 28 = .ok (.aload_n 0, 1) := by decide +kernel
theorem dX9_init_29 : decode cX9_init 29 = .ok (.bipush 64, 2) := by decide +kernel
theorem dX9_init_31 : decode cX9_init 31 = .ok (.newarray .int, 2) := by decide +kernel
theorem dX9_init_33 : decode cX9_init 33 = .ok (.putfield 23, 3) := by decide +kernel
theorem dX9_init_36 : decode cX9_init 36 = .ok (.aload_n 0, 1) := by decide +kernel
theorem dX9_init_37 : decode cX9_init 37 = .ok (.iconst (-1), 1) := by decide +kernel
theorem dX9_init_38 : decode cX9_init 38 = .ok (.putfield 26, 3) := by decide +kernel
theorem dX9_init_41 : decode cX9_init 41 = .ok (.aload_n 0, 1) := by decide +kernel
theorem dX9_init_42 : decode cX9_init 42 = .ok (.aload_n 1, 1) := by decide +kernel
theorem dX9_init_43 : decode cX9_init 43 = .ok (.putfield 30, 3) := by decide +kernel
theorem dX9_init_46 : decode cX9_init 46 = .ok (.return_, 1) := by decide +kernel
theorem dX9_refresh_0 : decode cX9_refresh 0 = .ok (.aload_n 0, 1) := by decide +kernel
theorem dX9_refresh_1 : decode cX9_refresh 1 = .ok (.getfield 26, 3) := by decide +kernel
theorem dX9_refresh_4 : decode cX9_refresh 4 = .ok (.aload_n 0, 1) := by decide +kernel
theorem dX9_refresh_5 : decode cX9_refresh 5 = .ok (.getfield 30, 3) := by decide +kernel
theorem dX9_refresh_8 : decode cX9_refresh 8 = .ok (.getfield 34, 3) := by decide +kernel
theorem dX9_refresh_11 : decode cX9_refresh 11 = .ok (.if_icmp .ne 4, 3) := by decide +kernel
theorem dX9_refresh_15 : decode cX9_refresh 15 = .ok (.iconst 0, 1) := by decide +kernel
theorem dX9_refresh_16 : decode cX9_refresh 16 = .ok (.istore_n 1, 1) := by decide +kernel
theorem dX9_refresh_17 : decode cX9_refresh 17 = .ok (.iload_n 1, 1) := by decide +kernel
theorem dX9_refresh_18 : decode cX9_refresh 18 = .ok (.aload_n 0, 1) := by decide +kernel
theorem dX9_refresh_19 : decode cX9_refresh 19 = .ok (.getfield 30, 3) := by decide +kernel
theorem dX9_refresh_22 : decode cX9_refresh 22 = .ok (.getfield 39, 3) := by decide +kernel
theorem dX9_refresh_25 : decode cX9_refresh 25 = .ok (.if_icmp .ge 134, 3) := by decide +kernel
theorem dX9_refresh_159 : decode cX9_refresh 159 = .ok (.aload_n 0, 1) := by decide +kernel
theorem dX9_refresh_160 : decode cX9_refresh 160 = .ok (.aload_n 0, 1) := by decide +kernel
theorem dX9_refresh_161 : decode cX9_refresh 161 = .ok (.getfield 30, 3) := by decide +kernel
theorem dX9_refresh_164 : decode cX9_refresh 164 = .ok (.getfield 34, 3) := by decide +kernel
theorem dX9_refresh_167 : decode cX9_refresh 167 = .ok (.putfield 26, 3) := by decide +kernel
theorem dX9_refresh_170 : decode cX9_refresh 170 = .ok (.return_, 1) := by decide +kernel
