theorem dJ5_ensureCapacityInternal_d00df_32 : decode cJ5_ensureCapacityInternal_d00df 32 = .ok (.invokestatic 108, 3) := by decide +kernel
theorem dJ5_ensureCapacityInternal_d00df_35 : decode cJ5_ensureCapacityInternal_d00df 35 = .ok (.putfield 15, 3) := by decide +kernel
theorem dJ5_ensureCapacityInternal_d00df_38 : decode cJ5_ensureCapacityInternal_d00df 38 = .ok (.return_, 1) := by decide +kernel
theorem dJ5_newCapacity_0f7a4_0 : decode cJ5_newCapacity_0f7a4 0 = .ok (.aload_n 0, 1) := by decide +kernel
theorem dJ5_newCapacity_0f7a4_1 : decode cJ5_newCapacity_0f7a4 1 = .ok (.getfield 15, 3) := by decide +kernel
theorem dJ5_newCapacity_0f7a4_4 : decode cJ5_newCapacity_0f7a4 4 = .ok (.arraylength, 1) := by decide +kernel
theorem dJ5_newCapacity_0f7a4_5 : decode cJ5_newCapacity_0f7a4 5 = .ok (.istore_n 2, 1) := by decide +kernel
theorem dJ5_newCapacity_0f7a4_6 : decode cJ5_newCapacity_0f7a4 6 = .ok (.iload_n 1, 1) := by decide +kernel
theorem dJ5_newCapacity_0f7a4_7 : decode cJ5_newCapacity_0f7a4 7 = .ok (.aload_n 0, 1) := by decide +kernel
theorem dJ5_newCapacity_0f7a4_8 : decode cJ5_newCapacity_0f7a4 8 = .ok (.getfield 22, 3) := by decide +kernel
theorem dJ5_newCapacity_0f7a4_11 : decode cJ5_newCapacity_0f7a4 11 = .ok (.ishl, 1) := by decide +kernel
theorem dJ5_newCapacity_0f7a4_12 : decode cJ5_newCapacity_0f7a4 12 = .ok (.istore_n 3, 1) := by decide +kernel
theorem dJ5_newCapacity_0f7a4_13 : decode cJ5_newCapacity_0f7a4 13 = .ok (.iload_n 3, 1) := by decide +kernel
theorem dJ5_newCapacity_0f7a4_14 : decode cJ5_newCapacity_0f7a4 14 = .ok (.iload_n 2, 1) := by decide +kernel
theorem dJ5_newCapacity_0f7a4_15 : decode cJ5_newCapacity_0f7a4 15 = .ok (.isub, 1) := by decide +kernel
theorem dJ5_newCapacity_0f7a4_16 : decode cJ5_newCapacity_0f7a4 16 = .ok (.istore 4, 2) := by decide +kernel
theorem dJ5_newCapacity_0f7a4_18 : decode cJ5_newCapacity_0f7a4 18 = .ok (.iload_n 2, 1) := by decide +kernel
theorem dJ5_newCapacity_0f7a4_19 : decode cJ5_newCapacity_0f7a4 19 = .ok (.iload 4, 2) := by decide +kernel
theorem dJ5_newCapacity_0f7a4_21 : decode cJ5_newCapacity_0f7a4 21 = .ok (.iload_n 2, 1) := by decide +kernel
theorem dJ5_newCapacity_0f7a4_22 : decode cJ5_newCapacity_0f7a4 22 = .ok (.iconst 2, 1) := by decide +kernel
theorem dJ5_newCapacity_0f7a4_23 : decode cJ5_newCapacity_0f7a4 23 = .ok (.aload_n 0, 1) := by decide +kernel
theorem dJ5_newCapacity_0f7a4_24 : decode cJ5_newCapacity_0f7a4 24 = .ok (.getfield 22, 3) := by decide +kernel
theorem dJ5_newCapacity_0f7a4_27 : decode cJ5_newCapacity_0f7a4 27 = .ok (.ishl, 1) := by decide +kernel
theorem dJ5_newCapacity_0f7a4_28 : decode cJ5_newCapacity_0f7a4 28 = .ok (.iadd, 1) := by decide +kernel
theorem dJ5_newCapacity_0f7a4_29 : decode cJ5_newCapacity_0f7a4 29 = .ok (.invokestatic 114, 3) := by decide +kernel
theorem dJ5_newCapacity_0f7a4_32 : decode cJ5_newCapacity_0f7a4 32 = .ok (.istore 5, 2) := by decide +kernel
theorem dJ5_newCapacity_0f7a4_34 : decode cJ5_newCapacity_0f7a4 34 = .ok (.iload 5, 2) := by decide +kernel
theorem dJ5_newCapacity_0f7a4_36 : decode cJ5_newCapacity_0f7a4 36 = .ok (.ldc 39, 2) := by decide +kernel
theorem dJ5_newCapacity_0f7a4_38 : decode cJ5_newCapacity_0f7a4 38 = .ok (.if_icmp .ne 13, 3) := by decide +kernel
theorem dJ5_newCapacity_0f7a4_41 : decode cJ5_newCapacity_0f7a4 41 = .ok (.new 120, 3) := by decide +kernel
theorem dJ5_newCapacity_0f7a4_44 : decode cJ5_newCapacity_0f7a4 44 = .ok (.dup, 1) := by decide +kernel
theorem dJ5_newCapacity_0f7a4_45 : decode cJ5_newCapacity_0f7a4 45 = .ok (.ldc 122, 2) := by decide +kernel
theorem dJ5_newCapacity_0f7a4_47 : decode cJ5_newCapacity_0f7a4 47 = .ok (.invokespecial 124, 3) := by decide +kernel
theorem dJ5_newCapacity_0f7a4_50 : decode cJ5_newCapacity_0f7a4 50 = .ok (.athrow, 1) := by decide +kernel
theorem dJ5_newCapacity_0f7a4_51 : decode cJ5_newCapacity_0f7a4 51 = .ok (.iload 5, 2) := by decide +kernel
theorem dJ5_newCapacity_0f7a4_53 : decode cJ5_newCapacity_0f7a4 53 = .ok (.aload_n 0, 1) := by decide +kernel
theorem dJ5_newCapacity_0f7a4_54 : decode cJ5_newCapacity_0f7a4 54 = .ok (.getfield 22, 3) := by decide +kernel
theorem dJ5_newCapacity_0f7a4_57 : decode cJ5_newCapacity_0f7a4 57 = .ok (.ishr, 1) := by decide +kernel
theorem dJ5_newCapacity_0f7a4_58 : decode cJ5_newCapacity_0f7a4 58 = .ok (.ireturn, 1) := by decide +kernel
theorem dJ5_inflate_da8c8_0 : decode cJ5_inflate_da8c8 0 = .ok (.aload_n 0, 1) := by decide +kernel
theorem dJ5_inflate_da8c8_1 : decode cJ5_inflate_da8c8 1 = .ok (.invokevirtual 83, 3) := by decide +kernel
theorem dJ5_inflate_da8c8_4 : decode cJ5_inflate_da8c8 4 = .ok (.ifCond .ne 4, 3) := by decide +kernel
theorem dJ5_inflate_da8c8_7 : decode cJ5_inflate_da8c8 7 = .ok (.return_, 1) := by decide +kernel
theorem dJ5_inflate_da8c8_8 : decode cJ5_inflate_da8c8 8 = .ok (.aload_n 0, 1) := by decide +kernel
theorem dJ5_inflate_da8c8_9 : decode cJ5_inflate_da8c8 9 = .ok (.getfield 15, 3) := by decide +kernel
theorem dJ5_inflate_da8c8_12 : decode cJ5_inflate_da8c8 12 = .ok (.arraylength, 1) := by decide +kernel
theorem dJ5_inflate_da8c8_13 : decode cJ5_inflate_da8c8 13 = .ok (.invokestatic 26, 3) := by decide +kernel
theorem dJ5_inflate_da8c8_16 : decode cJ5_inflate_da8c8 16 = .ok (.astore_n 1, 1) := by decide +kernel
theorem dJ5_inflate_da8c8_17 : decode cJ5_inflate_da8c8 17 = .ok (.aload_n 0, 1) := by decide +kernel
theorem dJ5_inflate_da8c8_18 : decode cJ5_inflate_da8c8 18 = .ok (.getfield 15, 3) := by decide +kernel
theorem dJ5_inflate_da8c8_21 : decode cJ5_inflate_da8c8 21 = .ok (.iconst 0, 1) := by decide +kernel
theorem dJ5_inflate_da8c8_22 : decode cJ5_inflate_da8c8 22 = .ok (.aload_n 1, 1) := by decide +kernel
theorem dJ5_inflate_da8c8_23 : decode cJ5_inflate_da8c8 23 = .ok (.iconst 0, 1) := by decide +kernel
theorem dJ5_inflate_da8c8_24 : decode cJ5_inflate_da8c8 24 = .ok (.aload_n 0, 1) := by decide +kernel
theorem dJ5_inflate_da8c8_25 : decode cJ5_inflate_da8c8 25 = .ok (.getfield 79, 3) := by decide +kernel
theorem dJ5_inflate_da8c8_28 : decode cJ5_inflate_da8c8 28 = .ok (.invokestatic 125, 3) := by decide +kernel
theorem dJ5_inflate_da8c8_31 : decode cJ5_inflate_da8c8 31 = .ok (.aload_n 0, 1) := by decide +kernel
theorem dJ5_inflate_da8c8_32 : decode cJ5_inflate_da8c8 32 = .ok (.aload_n 1, 1) := by decide +kernel
theorem dJ5_inflate_da8c8_33 : decode cJ5_inflate_da8c8 33 = .ok (.putfield 15, 3) := by decide +kernel
theorem dJ5_inflate_da8c8_36 : decode cJ5_inflate_da8c8 36 = .ok (.aload_n 0, 1) := by decide +kernel
theorem dJ5_inflate_da8c8_37 : decode cJ5_inflate_da8c8 37 = .ok (.iconst 1, 1) := by decide +kernel
theorem dJ5_inflate_da8c8_38 : decode cJ5_inflate_da8c8 38 = .ok (.putfield 22, 3) := by decide +kernel
theorem dJ5_inflate_da8c8_41 : decode cJ5_inflate_da8c8 41 = .ok (.return_, 1) := by decide +kernel
theorem dJ5_append_cf1ce_0 : decode cJ5_append_cf1ce 0 = .ok (.aload_n 1, 1) := by decide +kernel
theorem dJ5_append_cf1ce_1 : decode cJ5_append_cf1ce 1 = .ok (.ifnonnull 8, 3) := by decide +kernel
theorem dJ5_append_cf1ce_4 : decode cJ5_append_cf1ce 4 = .ok (.aload_n 0, 1) := by decide +kernel
theorem dJ5_append_cf1ce_5 : decode cJ5_append_cf1ce 5 = .ok (.invokevirtual 204, 3) := by decide +kernel
theorem dJ5_append_cf1ce_8 : decode cJ5_append_cf1ce 8 = .ok (.areturn, 1) := by decide +kernel
theorem dJ5_append_cf1ce_9 : decode cJ5_append_cf1ce 9 = .ok (.aload_n 1, 1) := by decide +kernel
theorem dJ5_append_cf1ce_10 : decode cJ5_append_cf1ce 10 = .ok (.invokevirtual 32, 3) := by decide +kernel
theorem dJ5_append_cf1ce_13 : decode cJ5_append_cf1ce 13 = .ok (.istore_n 2, 1) := by decide +kernel
theorem dJ5_append_cf1ce_14 : decode cJ5_append_cf1ce 14 = .ok (.aload_n 0, 1) := by decide +kernel
theorem dJ5_append_cf1ce_15 : decode cJ5_append_cf1ce 15 = .ok (.aload_n 0, 1) := by decide +kernel
theorem dJ5_append_cf1ce_16 : decode cJ5_append_cf1ce 16 = .ok (.getfield 79, 3) := by decide +kernel
theorem dJ5_append_cf1ce_19 : decode cJ5_append_cf1ce 19 = .ok (.iload_n 2, 1) := by decide +kernel
theorem dJ5_append_cf1ce_20 : decode cJ5_append_cf1ce 20 = .ok (.iadd, 1) := by decide +kernel
theorem dJ5_append_cf1ce_21 : decode cJ5_append_cf1ce 21 = .ok (.invokevirtual 100, 3) := by decide +kernel
theorem dJ5_append_cf1ce_24 : decode cJ5_append_cf1ce 24 = .ok (.aload_n 0, 1) := by decide +kernel
theorem dJ5_append_cf1ce_25 : decode cJ5_append_cf1ce 25 = .ok (.aload_n 0, 1) := by decide +kernel
theorem dJ5_append_cf1ce_26 : decode cJ5_append_cf1ce 26 = .ok (.getfield 79, 3) := by decide +kernel
theorem dJ5_append_cf1ce_29 : decode cJ5_append_cf1ce 29 = .ok (.aload_n 1, 1) := by decide +kernel
theorem dJ5_append_cf1ce_30 : decode cJ5_append_cf1ce 30 = .ok (.invokevirtual 208, 3) := by decide +kernel
theorem dJ5_append_cf1ce_33 : decode cJ5_append_cf1ce 33 = .ok (.aload_n 0, 1) := by decide +kernel
theorem dJ5_append_cf1ce_34 : decode cJ5_append_cf1ce 34 = .ok (.dup, 1) := by decide +kernel
theorem dJ5_append_cf1ce_35 : decode cJ5_append_cf1ce 35 = .ok (.getfield 79, 3) := by decide +kernel
theorem dJ5_append_cf1ce_38 : decode cJ5_append_cf1ce 38 = .ok (.iload_n 2, 1) := by decide +kernel
theorem dJ5_append_cf1ce_39 : decode cJ5_append_cf1ce 39 = .ok (.iadd, 1) := by decide +kernel
theorem dJ5_append_cf1ce_40 : decode cJ5_append_cf1ce 40 = .ok (.putfield 79, 3) := by decide +kernel
theorem dJ5_append_cf1ce_43 : decode cJ5_append_cf1ce 43 = .ok (.aload_n 0, 1) := by decide +kernel
theorem dJ5_append_cf1ce_44 : decode cJ5_append_cf1ce 44 = .ok (.areturn, 1) := by decide +kernel
theorem dJ5_appendNull_278bc_0 : decode cJ5_appendNull_278bc 0 = .ok (.aload_n 0, 1) := by decide +kernel
theorem dJ5_appendNull_278bc_1 : decode cJ5_appendNull_278bc 1 = .ok (.aload_n 0, 1) := by decide +kernel
theorem dJ5_appendNull_278bc_2 : decode cJ5_appendNull_278bc 2 = .ok (.getfield 79, 3) := by decide +kernel
theorem dJ5_appendNull_278bc_5 : decode cJ5_appendNull_278bc 5 = .ok (.iconst 4, 1) := by decide +kernel
theorem dJ5_appendNull_278bc_6 : decode cJ5_appendNull_278bc 6 = .ok (.iadd, 1) := by decide +kernel
theorem dJ5_appendNull_278bc_7 : decode cJ5_appendNull_278bc 7 = .ok (.invokevirtual 100, 3) := by decide +kernel
theorem dJ5_appendNull_278bc_10 : decode cJ5_appendNull_278bc 10 = .ok (.aload_n 0, 1) := by decide +kernel
theorem dJ5_appendNull_278bc_11 : decode cJ5_appendNull_278bc 11 = .ok (.getfield 79, 3) := by decide +kernel
theorem dJ5_appendNull_278bc_14 : decode cJ5_appendNull_278bc 14 = .ok (.istore_n 1, 1) := by decide +kernel
theorem dJ5_appendNull_278bc_15 : decode cJ5_appendNull_278bc 15 = .ok (.aload_n 0, 1) := by decide +kernel
theorem dJ5_appendNull_278bc_16 : decode cJ5_appendNull_278bc 16 = .ok (.getfield 15, 3) := by decide +kernel
theorem dJ5_appendNull_278bc_19 : decode cJ5_appendNull_278bc 19 = .ok (.astore_n 2, 1) := by decide +kernel
theorem dJ5_appendNull_278bc_20 : decode cJ5_appendNull_278bc 20 = .ok (.aload_n 0, 1) := by decide +kernel
theorem dJ5_appendNull_278bc_21 : decode cJ5_appendNull_278bc 21 = .ok (.invokevirtual 83, 3) := by decide +kernel
theorem dJ5_appendNull_278bc_24 : decode cJ5_appendNull_278bc 24 = .ok (.ifCond .eq 38, 3) := by decide +kernel
theorem dJ5_appendNull_278bc_27 : decode cJ5_appendNull_278bc 27 = .ok (.aload_n 2, 1) := by decide +kernel
theorem dJ5_appendNull_278bc_28 : decode cJ5_appendNull_278bc 28 = .ok (.iload_n 1, 1) := by decide +kernel
theorem dJ5_appendNull_278bc_29 : decode cJ5_appendNull_278bc 29 = .ok (.iinc 1 1, 3) := by decide +kernel
theorem dJ5_appendNull_278bc_32 : decode cJ5_appendNull_278bc 32 = .ok (.bipush 110, 2) := by decide +kernel
theorem dJ5_appendNull_278bc_34 : decode cJ5_appendNull_278bc 34 = .ok (.bastore, 1) := by decide +kernel
theorem dJ5_appendNull_278bc_35 : decode cJ5_appendNull_278bc 35 = .ok (.aload_n 2, 1) := by decide +kernel
theorem dJ5_appendNull_278bc_36 : decode cJ5_appendNull_278bc 36 = .ok (.iload_n 1, 1) := by decide +kernel
theorem dJ5_appendNull_278bc_37 : decode cJ5_appendNull_278bc 37 = .ok (.iinc 1 1, 3) := by decide +kernel
theorem dJ5_appendNull_278bc_40 : decode cJ5_appendNull_278bc 40 = .ok (.bipush 117, 2) := by decide +kernel
theorem dJ5_appendNull_278bc_42 : decode cJ5_appendNull_278bc 42 = .ok (.bastore, 1) := by decide +kernel
theorem dJ5_appendNull_278bc_43 : decode cJ5_appendNull_278bc 43 = .ok (.aload_n 2, 1) := by decide +kernel
theorem dJ5_appendNull_278bc_44 : decode cJ5_appendNull_278bc 44 = .ok (.iload_n 1, 1) := by decide +kernel
theorem dJ5_appendNull_278bc_45 : decode cJ5_appendNull_278bc 45 = .ok (.iinc 1 1, 3) := by decide +kernel
theorem dJ5_appendNull_278bc_48 : decode cJ5_appendNull_278bc 48 = .ok (.bipush 108, 2) := by decide +kernel
theorem dJ5_appendNull_278bc_50 : decode cJ5_appendNull_278bc 50 = .ok (.bastore, 1) := by decide +kernel
theorem dJ5_appendNull_278bc_51 : decode cJ5_appendNull_278bc 51 = .ok (.aload_n 2, 1) := by decide +kernel
theorem dJ5_appendNull_278bc_52 : decode cJ5_appendNull_278bc 52 = .ok (.iload_n 1, 1) := by decide +kernel
theorem dJ5_appendNull_278bc_53 : decode cJ5_appendNull_278bc 53 = .ok (.iinc 1 1, 3) := by decide +kernel
theorem dJ5_appendNull_278bc_56 : decode cJ5_appendNull_278bc 56 = .ok (.bipush 108, 2) := by decide +kernel
theorem dJ5_appendNull_278bc_58 : decode cJ5_appendNull_278bc 58 = .ok (.bastore, 1) := by decide +kernel
theorem dJ5_appendNull_278bc_59 : decode cJ5_appendNull_278bc 59 = .ok (.goto 17, 3) := by decide +kernel
theorem dJ5_appendNull_278bc_62 : decode cJ5_appendNull_278bc 62 = .ok (.aload_n 2, 1) := by decide +kernel
theorem dJ5_appendNull_278bc_63 : decode cJ5_appendNull_278bc 63 = .ok (.iload_n 1, 1) := by decide +kernel
theorem dJ5_appendNull_278bc_64 : decode cJ5_appendNull_278bc 64 = .ok (.bipush 110, 2) := by decide +kernel
theorem dJ5_appendNull_278bc_66 : decode cJ5_appendNull_278bc 66 = .ok (.bipush 117, 2) := by decide +kernel
theorem dJ5_appendNull_278bc_68 : decode cJ5_appendNull_278bc 68 = .ok (.bipush 108, 2) := by decide +kernel
theorem dJ5_appendNull_278bc_70 : decode cJ5_appendNull_278bc 70 = .ok (.bipush 108, 2) := by decide +kernel
theorem dJ5_appendNull_278bc_72 : decode cJ5_appendNull_278bc 72 = .ok (.invokestatic 226, 3) := by decide +kernel
theorem dJ5_appendNull_278bc_75 : decode cJ5_appendNull_278bc 75 = .ok (.istore_n 1, 1) := by decide +kernel
theorem dJ5_appendNull_278bc_76 : decode cJ5_appendNull_278bc 76 = .ok (.aload_n 0, 1) := by decide +kernel
theorem dJ5_appendNull_278bc_77 : decode cJ5_appendNull_278bc 77 = .ok (.iload_n 1, 1) := by decide +kernel
theorem dJ5_appendNull_278bc_78 : decode cJ5_appendNull_278bc 78 = .ok (.putfield 79, 3) := by decide +kernel
theorem dJ5_appendNull_278bc_81 : decode cJ5_appendNull_278bc 81 = .ok (.aload_n 0, 1) := by decide +kernel
theorem dJ5_appendNull_278bc_82 : decode cJ5_appendNull_278bc 82 = .ok (.areturn, 1) := by decide +kernel
theorem dJ5_append_c97b9_0 : decode cJ5_append_c97b9 0 = .ok (.aload_n 0, 1) := by decide +kernel
theorem dJ5_append_c97b9_1 : decode cJ5_append_c97b9 1 = .ok (.getfield 79, 3) := by decide +kernel
theorem dJ5_append_c97b9_4 : decode cJ5_append_c97b9 4 = .ok (.istore_n 2, 1) := by decide +kernel
theorem dJ5_append_c97b9_5 : decode cJ5_append_c97b9 5 = .ok (.iload_n 2, 1) := by decide +kernel
theorem dJ5_append_c97b9_6 : decode cJ5_append_c97b9 6 = .ok (.iload_n 1, 1) := by decide +kernel
theorem dJ5_append_c97b9_7 : decode cJ5_append_c97b9 7 = .ok (.invokestatic 245, 3) := by decide +kernel
theorem dJ5_append_c97b9_10 : decode cJ5_append_c97b9 10 = .ok (.iadd, 1) := by decide +kernel
theorem dJ5_append_c97b9_11 : decode cJ5_append_c97b9 11 = .ok (.istore_n 3, 1) := by decide +kernel
theorem dJ5_append_c97b9_12 : decode cJ5_append_c97b9 12 = .ok (.aload_n 0, 1) := by decide +kernel
theorem dJ5_append_c97b9_13 : decode cJ5_append_c97b9 13 = .ok (.iload_n 3, 1) := by decide +kernel
theorem dJ5_append_c97b9_14 : decode cJ5_append_c97b9 14 = .ok (.invokevirtual 100, 3) := by decide +kernel
theorem dJ5_append_c97b9_17 : decode cJ5_append_c97b9 17 = .ok (.aload_n 0, 1) := by decide +kernel
theorem dJ5_append_c97b9_18 : decode cJ5_append_c97b9 18 = .ok (.invokevirtual 83, 3) := by decide +kernel
theorem dJ5_append_c97b9_21 : decode cJ5_append_c97b9 21 = .ok (.ifCond .eq 16, 3) := by decide +kernel
theorem dJ5_append_c97b9_24 : decode cJ5_append_c97b9 24 = .ok (.iload_n 1, 1) := by decide +kernel
theorem dJ5_append_c97b9_25 : decode cJ5_append_c97b9 25 = .ok (.iload_n 3, 1) := by decide +kernel
theorem dJ5_append_c97b9_26 : decode cJ5_append_c97b9 26 = .ok (.aload_n 0, 1) := by decide +kernel
theorem dJ5_append_c97b9_27 : decode cJ5_append_c97b9 27 = .ok (.getfield 15, 3) := by decide +kernel
theorem dJ5_append_c97b9_30 : decode cJ5_append_c97b9 30 = .ok (.invokestatic 248, 3) := by decide +kernel
theorem dJ5_append_c97b9_33 : decode cJ5_append_c97b9 33 = .ok (.pop, 1) := by decide +kernel
theorem dJ5_append_c97b9_34 : decode cJ5_append_c97b9 34 = .ok (.goto 14, 3) := by decide +kernel
theorem dJ5_append_c97b9_37 : decode cJ5_append_c97b9 37 = .ok (.iload_n 1, 1) := by decide +kernel
theorem dJ5_append_c97b9_38 : decode cJ5_append_c97b9 38 = .ok (.iload_n 2, 1) := by decide +kernel
theorem dJ5_append_c97b9_39 : decode cJ5_append_c97b9 39 = .ok (.iload_n 3, 1) := by decide +kernel
theorem dJ5_append_c97b9_40 : decode cJ5_append_c97b9 40 = .ok (.aload_n 0, 1) := by decide +kernel
theorem dJ5_append_c97b9_41 : decode cJ5_append_c97b9 41 = .ok (.getfield 15, 3) := by decide +kernel
theorem dJ5_append_c97b9_44 : decode cJ5_append_c97b9 44 = .ok (.invokestatic 251, 3) := by decide +kernel
theorem dJ5_append_c97b9_47 : decode cJ5_append_c97b9 47 = .ok (.pop, 1) := by decide +kernel
theorem dJ5_append_c97b9_48 : decode cJ5_append_c97b9 48 = .ok (.aload_n 0, 1) := by decide +kernel
theorem dJ5_append_c97b9_49 : decode cJ5_append_c97b9 49 = .ok (.iload_n 3, 1) := by decide +kernel
theorem dJ5_append_c97b9_50 : decode cJ5_append_c97b9 50 = .ok (.putfield 79, 3) := by decide +kernel
theorem dJ5_append_c97b9_53 : decode cJ5_append_c97b9 53 = .ok (.aload_n 0, 1) := by decide +kernel
theorem dJ5_append_c97b9_54 : decode cJ5_append_c97b9 54 = .ok (.areturn, 1) := by decide +kernel
theorem dJ5_getValue_6d5f1_0 : decode cJ5_getValue_6d5f1 0 = .ok (.aload_n 0, 1) := by decide +kernel
theorem dJ5_getValue_6d5f1_1 : decode cJ5_getValue_6d5f1 1 = .ok (.getfield 15, 3) := by decide +kernel
theorem dJ5_getValue_6d5f1_4 : decode cJ5_getValue_6d5f1 4 = .ok (.areturn, 1) := by decide +kernel
theorem dJ5_isLatin1_aae02_0 : decode cJ5_isLatin1_aae02 0 = .ok (.getstatic 18, 3) := by decide +kernel
theorem dJ5_isLatin1_aae02_3 : decode cJ5_isLatin1_aae02 3 = .ok (.ifCond .eq 14, 3) := by decide +kernel
theorem dJ5_isLatin1_aae02_6 : decode cJ5_isLatin1_aae02 6 = .ok (.aload_n 0, 1) := by decide +kernel
theorem dJ5_isLatin1_aae02_7 : decode cJ5_isLatin1_aae02 7 = .ok (.getfield 22, 3) := by decide +kernel
theorem dJ5_isLatin1_aae02_10 : decode cJ5_isLatin1_aae02 10 = .ok (.ifCond .ne 7, 3) := by decide +kernel
theorem dJ5_isLatin1_aae02_13 : decode cJ5_isLatin1_aae02 13 = .ok (.iconst 1, 1) := by decide +kernel
theorem dJ5_isLatin1_aae02_14 : decode cJ5_isLatin1_aae02 14 = .ok (.goto 4, 3) := by decide +kernel
theorem dJ5_isLatin1_aae02_17 : decode cJ5_isLatin1_aae02 17 = .ok (.iconst 0, 1) := by decide +kernel
theorem dJ5_isLatin1_aae02_18 : decode cJ5_isLatin1_aae02 18 = .ok (.ireturn, 1) := by decide +kernel
theorem dJ5_inflateIfNeededFor_a7421_0 : decode cJ5_inflateIfNeededFor_a7421 0 = .ok (.getstatic 18, 3) := by decide +kernel
theorem dJ5_inflateIfNeededFor_a7421_3 : decode cJ5_inflateIfNeededFor_a7421 3 = .ok (.ifCond .eq 18, 3) := by decide +kernel
theorem dJ5_inflateIfNeededFor_a7421_6 : decode cJ5_inflateIfNeededFor_a7421 6 = .ok (.aload_n 0, 1) := by decide +kernel
theorem dJ5_inflateIfNeededFor_a7421_7 : decode cJ5_inflateIfNeededFor_a7421 7 = .ok (.getfield 22, 3) := by decide +kernel
theorem dJ5_inflateIfNeededFor_a7421_10 : decode cJ5_inflateIfNeededFor_a7421 10 = .ok (.aload_n 1, 1) := by decide +kernel
theorem dJ5_inflateIfNeededFor_a7421_11 : decode cJ5_inflateIfNeededFor_a7421 11 = .ok (.invokevirtual 40, 3) := by decide +kernel
theorem dJ5_inflateIfNeededFor_a7421_14 : decode cJ5_inflateIfNeededFor_a7421 14 = .ok (.if_icmp .eq 7, 3) := by decide +kernel
theorem dJ5_inflateIfNeededFor_a7421_17 : decode cJ5_inflateIfNeededFor_a7421 17 = .ok (.aload_n 0, 1) := by decide +kernel
theorem dJ5_inflateIfNeededFor_a7421_18 : decode cJ5_inflateIfNeededFor_a7421 18 = .ok (.invokevirtual 195, 3) := by decide +kernel
theorem dJ5_inflateIfNeededFor_a7421_21 : decode cJ5_inflateIfNeededFor_a7421 21 = .ok (.return_, 1) := by decide +kernel
theorem dJ5_putStringAt_47b60_0 : decode cJ5_putStringAt_47b60 0 = .ok (.aload_n 0, 1) := by decide +kernel
theorem dJ5_putStringAt_47b60_1 : decode cJ5_putStringAt_47b60 1 = .ok (.aload_n 2, 1) := by decide +kernel
theorem dJ5_putStringAt_47b60_2 : decode cJ5_putStringAt_47b60 2 = .ok (.invokevirtual 397, 3) := by decide +kernel
theorem dJ5_putStringAt_47b60_5 : decode cJ5_putStringAt_47b60 5 = .ok (.aload_n 2, 1) := by decide +kernel
theorem dJ5_putStringAt_47b60_6 : decode cJ5_putStringAt_47b60 6 = .ok (.aload_n 0, 1) := by decide +kernel
theorem dJ5_putStringAt_47b60_7 : decode cJ5_putStringAt_47b60 7 = .ok (.getfield 15, 3) := by decide +kernel
theorem dJ5_putStringAt_47b60_10 : decode cJ5_putStringAt_47b60 10 = .ok (.iload_n 1, 1) := by decide +kernel
theorem dJ5_putStringAt_47b60_11 : decode cJ5_putStringAt_47b60 11 = .ok (.aload_n 0, 1) := by decide +kernel
theorem dJ5_putStringAt_47b60_12 : decode cJ5_putStringAt_47b60 12 = .ok (.getfield 22, 3) := by decide +kernel
theorem dJ5_putStringAt_47b60_15 : decode cJ5_putStringAt_47b60 15 = .ok (.invokevirtual 399, 3) := by decide +kernel
theorem dJ5_putStringAt_47b60_18 : decode cJ5_putStringAt_47b60 18 = .ok (.return_, 1) := by decide +kernel
theorem dJx29ce0_ordinal_8abf5_0 : decode cJx29ce0_ordinal_8abf5 0 = .ok (.aload_n 0, 1) := by decide +kernel
theorem dJx29ce0_ordinal_8abf5_1 : decode cJx29ce0_ordinal_8abf5 1 = .ok (.getfield 7, 3) := by decide +kernel
theorem dJx29ce0_ordinal_8abf5_4 : decode cJx29ce0_ordinal_8abf5 4 = .ok (.ireturn, 1) := by decide +kernel
theorem dJ6_getChars_ba4f3_0 : decode cJ6_getChars_ba4f3 0 = .ok (.iload_n 1, 1) := by decide +kernel
theorem dJ6_getChars_ba4f3_1 : decode cJ6_getChars_ba4f3 1 = .ok (.istore 5, 2) := by decide +kernel
theorem dJ6_getChars_ba4f3_3 : decode cJ6_getChars_ba4f3 3 = .ok (.iload_n 0, 1) := by decide +kernel
theorem dJ6_getChars_ba4f3_4 : decode cJ6_getChars_ba4f3 4 = .ok (.ifCond .ge 7, 3) := by decide +kernel
theorem dJ6_getChars_ba4f3_7 : decode cJ6_getChars_ba4f3 7 = .ok (.iconst 1, 1) := by decide +kernel
theorem dJ6_getChars_ba4f3_8 : decode cJ6_getChars_ba4f3 8 = .ok (.goto 4, 3) := by decide +kernel
theorem dJ6_getChars_ba4f3_11 : decode cJ6_getChars_ba4f3 11 = .ok (.iconst 0, 1) := by decide +kernel
theorem dJ6_getChars_ba4f3_12 : decode cJ6_getChars_ba4f3 12 = .ok (.istore 6, 2) := by decide +kernel
theorem dJ6_getChars_ba4f3_14 : decode cJ6_getChars_ba4f3 14 = .ok (.iload 6, 2) := by decide +kernel
theorem dJ6_getChars_ba4f3_16 : decode cJ6_getChars_ba4f3 16 = .ok (.ifCond .ne 6, 3) := by decide +kernel
theorem dJ6_getChars_ba4f3_19 : decode cJ6_getChars_ba4f3 19 = .ok (.iload_n 0, 1) := by decide +kernel
theorem dJ6_getChars_ba4f3_20 : decode cJ6_getChars_ba4f3 20 = .ok (.ineg, 1) := by decide +kernel
theorem dJ6_getChars_ba4f3_21 : decode cJ6_getChars_ba4f3 21 = .ok (.istore_n 0, 1) := by decide +kernel
theorem dJ6_getChars_ba4f3_22 : decode cJ6_getChars_ba4f3 22 = .ok (.iload_n 0, 1) := by decide +kernel
theorem dJ6_getChars_ba4f3_23 : decode cJ6_getChars_ba4f3 23 = .ok (.bipush (-100), 2) := by decide +kernel
theorem dJ6_getChars_ba4f3_25 : decode cJ6_getChars_ba4f3 25 = .ok (.if_icmp .gt 47, 3) := by decide +kernel
theorem dJ6_getChars_ba4f3_28 : decode cJ6_getChars_ba4f3 28 = .ok (.iload_n 0, 1) := by decide +kernel
theorem dJ6_getChars_ba4f3_29 : decode cJ6_getChars_ba4f3 29 = .ok (.bipush 100, 2) := by decide +kernel
theorem dJ6_getChars_ba4f3_31 : decode cJ6_getChars_ba4f3 31 = .ok (.idiv, 1) := by decide +kernel
theorem dJ6_getChars_ba4f3_32 : decode cJ6_getChars_ba4f3 32 = .ok (.istore_n 3, 1) := by decide +kernel
theorem dJ6_getChars_ba4f3_33 : decode cJ6_getChars_ba4f3 33 = .ok (.iload_n 3, 1) := by decide +kernel
theorem dJ6_getChars_ba4f3_34 : decode cJ6_getChars_ba4f3 34 = .ok (.bipush 100, 2) := by decide +kernel
theorem dJ6_getChars_ba4f3_36 : decode cJ6_getChars_ba4f3 36 = .ok (.imul, 1) := by decide +kernel
theorem dJ6_getChars_ba4f3_37 : decode cJ6_getChars_ba4f3 37 = .ok (.iload_n 0, 1) := by decide +kernel
theorem dJ6_getChars_ba4f3_38 : decode cJ6_getChars_ba4f3 38 = .ok (.isub, 1) := by decide +kernel
theorem dJ6_getChars_ba4f3_39 : decode cJ6_getChars_ba4f3 39 = .ok (.istore 4, 2) := by decide +kernel
theorem dJ6_getChars_ba4f3_41 : decode cJ6_getChars_ba4f3 41 = .ok (.iload_n 3, 1) := by decide +kernel
theorem dJ6_getChars_ba4f3_42 : decode cJ6_getChars_ba4f3 42 = .ok (.istore_n 0, 1) := by decide +kernel
theorem dJ6_getChars_ba4f3_43 : decode cJ6_getChars_ba4f3 43 = .ok (.aload_n 2, 1) := by decide +kernel
theorem dJ6_getChars_ba4f3_44 : decode cJ6_getChars_ba4f3 44 = .ok (.iinc 5 (-1), 3) := by decide +kernel
theorem dJ6_getChars_ba4f3_47 : decode cJ6_getChars_ba4f3 47 = .ok (.iload 5, 2) := by decide +kernel
theorem dJ6_getChars_ba4f3_49 : decode cJ6_getChars_ba4f3 49 = .ok (.getstatic 83, 3) := by decide +kernel
theorem dJ6_getChars_ba4f3_52 : decode cJ6_getChars_ba4f3 52 = .ok (.iload 4, 2) := by decide +kernel
theorem dJ6_getChars_ba4f3_54 : decode cJ6_getChars_ba4f3 54 = .ok (.baload, 1) := by decide +kernel
theorem dJ6_getChars_ba4f3_55 : decode cJ6_getChars_ba4f3 55 = .ok (.bastore, 1) := by decide +kernel
theorem dJ6_getChars_ba4f3_56 : decode cJ6_getChars_ba4f3 56 = .ok (.aload_n 2, 1) := by decide +kernel
theorem dJ6_getChars_ba4f3_57 : decode cJ6_getChars_ba4f3 57 = .ok (.iinc 5 (-1), 3) := by decide +kernel
theorem dJ6_getChars_ba4f3_60 : decode cJ6_getChars_ba4f3 60 = .ok (.iload 5, 2) := by decide +kernel
theorem dJ6_getChars_ba4f3_62 : decode cJ6_getChars_ba4f3 62 = .ok (.getstatic 87, 3) := by decide +kernel
theorem dJ6_getChars_ba4f3_65 : decode cJ6_getChars_ba4f3 65 = .ok (.iload 4, 2) := by decide +kernel
theorem dJ6_getChars_ba4f3_67 : decode cJ6_getChars_ba4f3 67 = .ok (.baload, 1) := by decide +kernel
theorem dJ6_getChars_ba4f3_68 : decode cJ6_getChars_ba4f3 68 = .ok (.bastore, 1) := by decide +kernel
theorem dJ6_getChars_ba4f3_69 : decode cJ6_getChars_ba4f3 69 = .ok (.goto (-47), 3) := by decide +kernel
theorem dJ6_getChars_ba4f3_72 : decode cJ6_getChars_ba4f3 72 = .ok (.aload_n 2, 1) := by decide +kernel
theorem dJ6_getChars_ba4f3_73 : decode cJ6_getChars_ba4f3 73 = .ok (.iinc 5 (-1), 3) := by decide +kernel
theorem dJ6_getChars_ba4f3_76 : decode cJ6_getChars_ba4f3 76 = .ok (.iload 5, 2) := by decide +kernel
theorem dJ6_getChars_ba4f3_78 : decode cJ6_getChars_ba4f3 78 = .ok (.getstatic 83, 3) := by decide +kernel
theorem dJ6_getChars_ba4f3_81 : decode cJ6_getChars_ba4f3 81 = .ok (.iload_n 0, 1) := by decide +kernel
theorem dJ6_getChars_ba4f3_82 : decode cJ6_getChars_ba4f3 82 = .ok (.ineg, 1) := by decide +kernel
theorem dJ6_getChars_ba4f3_83 : decode cJ6_getChars_ba4f3 83 = .ok (.baload, 1) := by decide +kernel
theorem dJ6_getChars_ba4f3_84 : decode cJ6_getChars_ba4f3 84 = .ok (.bastore, 1) := by decide +kernel
theorem dJ6_getChars_ba4f3_85 : decode cJ6_getChars_ba4f3 85 = .ok (.iload_n 0, 1) := by decide +kernel
theorem dJ6_getChars_ba4f3_86 : decode cJ6_getChars_ba4f3 86 = .ok (.bipush (-9), 2) := by decide +kernel
theorem dJ6_getChars_ba4f3_88 : decode cJ6_getChars_ba4f3 88 = .ok (.if_icmp .ge 16, 3) := by decide +kernel
theorem dJ6_getChars_ba4f3_91 : decode cJ6_getChars_ba4f3 91 = .ok (.aload_n 2, 1) := by decide +kernel
theorem dJ6_getChars_ba4f3_92 : decode cJ6_getChars_ba4f3 92 = .ok (.iinc 5 (-1), 3) := by decide +kernel
theorem dJ6_getChars_ba4f3_95 : decode cJ6_getChars_ba4f3 95 = .ok (.iload 5, 2) := by decide +kernel
theorem dJ6_getChars_ba4f3_97 : decode cJ6_getChars_ba4f3 97 = .ok (.getstatic 87, 3) := by decide +kernel
theorem dJ6_getChars_ba4f3_100 : decode cJ6_getChars_ba4f3 100 = .ok (.iload_n 0, 1) := by decide +kernel
theorem dJ6_getChars_ba4f3_101 : decode cJ6_getChars_ba4f3 101 = .ok (.ineg, 1) := by decide +kernel
theorem dJ6_getChars_ba4f3_102 : decode cJ6_getChars_ba4f3 102 = .ok (.baload, 1) := by decide +kernel
theorem dJ6_getChars_ba4f3_103 : decode cJ6_getChars_ba4f3 103 = .ok (.bastore, 1) := by decide +kernel
theorem dJ6_getChars_ba4f3_104 : decode cJ6_getChars_ba4f3 104 = .ok (.iload 6, 2) := by decide +kernel
theorem dJ6_getChars_ba4f3_106 : decode cJ6_getChars_ba4f3 106 = .ok (.ifCond .eq 12, 3) := by decide +kernel
theorem dJ6_getChars_ba4f3_109 : decode cJ6_getChars_ba4f3 109 = .ok (.aload_n 2, 1) := by decide +kernel
theorem dJ6_getChars_ba4f3_110 : decode cJ6_getChars_ba4f3 110 = .ok (.iinc 5 (-1), 3) := by decide +kernel
theorem dJ6_getChars_ba4f3_113 : decode cJ6_getChars_ba4f3 113 = .ok (.iload 5, 2) := by decide +kernel
theorem dJ6_getChars_ba4f3_115 : decode cJ6_getChars_ba4f3 115 = .ok (.bipush 45, 2) := by decide +kernel
theorem dJ6_getChars_ba4f3_117 : decode cJ6_getChars_ba4f3 117 = .ok (.bastore, 1) := by decide +kernel
theorem dJ6_getChars_ba4f3_118 : decode cJ6_getChars_ba4f3 118 = .ok (.iload 5, 2) := by decide +kernel
theorem dJ6_getChars_ba4f3_120 : decode cJ6_getChars_ba4f3 120 = .ok (.ireturn, 1) := by decide +kernel
theorem dJ6_stringSize_0f7a4_0 : decode cJ6_stringSize_0f7a4 0 = .ok (.iconst 1, 1) := by decide +kernel
theorem dJ6_stringSize_0f7a4_1 : decode cJ6_stringSize_0f7a4 1 = .ok (.istore_n 1, 1) := by decide +kernel
theorem dJ6_stringSize_0f7a4_2 : decode cJ6_stringSize_0f7a4 2 = .ok (.iload_n 0, 1) := by decide +kernel
theorem dJ6_stringSize_0f7a4_3 : decode cJ6_stringSize_0f7a4 3 = .ok (.ifCond .lt 8, 3) := by decide +kernel
theorem dJ6_stringSize_0f7a4_6 : decode cJ6_stringSize_0f7a4 6 = .ok (.iconst 0, 1) := by decide +kernel
theorem dJ6_stringSize_0f7a4_7 : decode cJ6_stringSize_0f7a4 7 = .ok (.istore_n 1, 1) := by decide +kernel
theorem dJ6_stringSize_0f7a4_8 : decode cJ6_stringSize_0f7a4 8 = .ok (.iload_n 0, 1) := by decide +kernel
theorem dJ6_stringSize_0f7a4_9 : decode cJ6_stringSize_0f7a4 9 = .ok (.ineg, 1) := by decide +kernel
theorem dJ6_stringSize_0f7a4_10 : decode cJ6_stringSize_0f7a4 10 = .ok (.istore_n 0, 1) := by decide +kernel
theorem dJ6_stringSize_0f7a4_11 : decode cJ6_stringSize_0f7a4 11 = .ok (.bipush (-10), 2) := by decide +kernel
theorem dJ6_stringSize_0f7a4_13 : decode cJ6_stringSize_0f7a4 13 = .ok (.istore_n 2, 1) := by decide +kernel
theorem dJ6_stringSize_0f7a4_14 : decode cJ6_stringSize_0f7a4 14 = .ok (.iconst 1, 1) := by decide +kernel
theorem dJ6_stringSize_0f7a4_15 : decode cJ6_stringSize_0f7a4 15 = .ok (.istore_n 3, 1) := by decide +kernel
theorem dJ6_stringSize_0f7a4_16 : decode cJ6_stringSize_0f7a4 16 = .ok (.iload_n 3, 1) := by decide +kernel
theorem dJ6_stringSize_0f7a4_17 : decode cJ6_stringSize_0f7a4 17 = .ok (.bipush 10, 2) := by decide +kernel
theorem dJ6_stringSize_0f7a4_19 : decode cJ6_stringSize_0f7a4 19 = .ok (.if_icmp .ge 23, 3) := by decide +kernel
theorem dJ6_stringSize_0f7a4_22 : decode cJ6_stringSize_0f7a4 22 = .ok (.iload_n 0, 1) := by decide +kernel
theorem dJ6_stringSize_0f7a4_23 : decode cJ6_stringSize_0f7a4 23 = .ok (.iload_n 2, 1) := by decide +kernel
theorem dJ6_stringSize_0f7a4_24 : decode cJ6_stringSize_0f7a4 24 = .ok (.if_icmp .le 7, 3) := by decide +kernel
theorem dJ6_stringSize_0f7a4_27 : decode cJ6_stringSize_0f7a4 27 = .ok (.iload_n 3, 1) := by decide +kernel
theorem dJ6_stringSize_0f7a4_28 : decode cJ6_stringSize_0f7a4 28 = .ok (.iload_n 1, 1) := by decide +kernel
theorem dJ6_stringSize_0f7a4_29 : decode cJ6_stringSize_0f7a4 29 = .ok (.iadd, 1) := by decide +kernel
theorem dJ6_stringSize_0f7a4_30 : decode cJ6_stringSize_0f7a4 30 = .ok (.ireturn, 1) := by decide +kernel
theorem dJ6_stringSize_0f7a4_31 : decode cJ6_stringSize_0f7a4 31 = .ok (.bipush 10, 2) := by decide +kernel
theorem dJ6_stringSize_0f7a4_33 : decode cJ6_stringSize_0f7a4 33 = .ok (.iload_n 2, 1) := by decide +kernel
theorem dJ6_stringSize_0f7a4_34 : decode cJ6_stringSize_0f7a4 34 = .ok (.imul, 1) := by decide +kernel
theorem dJ6_stringSize_0f7a4_35 : decode cJ6_stringSize_0f7a4 35 = .ok (.istore_n 2, 1) := by decide +kernel
theorem dJ6_stringSize_0f7a4_36 : decode cJ6_stringSize_0f7a4 36 = .ok (.iinc 3 1, 3) := by decide +kernel
theorem dJ6_stringSize_0f7a4_39 : decode cJ6_stringSize_0f7a4 39 = .ok (.goto (-23), 3) := by decide +kernel
theorem dJ6_stringSize_0f7a4_42 : decode cJ6_stringSize_0f7a4 42 = .ok (.bipush 10, 2) := by decide +kernel
theorem dJ6_stringSize_0f7a4_44 : decode cJ6_stringSize_0f7a4 44 = .ok (.iload_n 1, 1) := by decide +kernel
theorem dJ6_stringSize_0f7a4_45 : decode cJ6_stringSize_0f7a4 45 = .ok (.iadd, 1) := by decide +kernel
theorem dJ6_stringSize_0f7a4_46 : decode cJ6_stringSize_0f7a4 46 = .ok (.ireturn, 1) := by decide +kernel
theorem dJ9_abs_0f7a4_0 : decode cJ9_abs_0f7a4 0 = .ok (.iload_n 0, 1) := by decide +kernel
theorem dJ9_abs_0f7a4_1 : decode cJ9_abs_0f7a4 1 = .ok (.ifCond .ge 8, 3) := by decide +kernel
theorem dJ9_abs_0f7a4_4 : decode cJ9_abs_0f7a4 4 = .ok (.iload_n 0, 1) := by decide +kernel
theorem dJ9_abs_0f7a4_5 : decode cJ9_abs_0f7a4 5 = .ok (.ineg, 1) := by decide +kernel
theorem dJ9_abs_0f7a4_6 : decode cJ9_abs_0f7a4 6 = .ok (.goto 4, 3) := by decide +kernel
theorem dJ9_abs_0f7a4_9 : decode cJ9_abs_0f7a4 9 = .ok (.iload_n 0, 1) := by decide +kernel
theorem dJ9_abs_0f7a4_10 : decode cJ9_abs_0f7a4 10 = .ok (.ireturn, 1) := by decide +kernel
theorem dJ9_max_7cf53_0 : decode cJ9_max_7cf53 0 = .ok (.iload_n 0, 1) := by decide +kernel
theorem dJ9_max_7cf53_1 : decode cJ9_max_7cf53 1 = .ok (.iload_n 1, 1) := by decide +kernel
theorem dJ9_max_7cf53_2 : decode cJ9_max_7cf53 2 = .ok (.if_icmp .lt 7, 3) := by decide +kernel
theorem dJ9_max_7cf53_5 : decode cJ9_max_7cf53 5 = .ok (.iload_n 0, 1) := by decide +kernel
theorem dJ9_max_7cf53_6 : decode cJ9_max_7cf53 6 = .ok (.goto 4, 3) := by decide +kernel
theorem dJ9_max_7cf53_9 : decode cJ9_max_7cf53 9 = .ok (.iload_n 1, 1) := by decide +kernel
theorem dJ9_max_7cf53_10 : decode cJ9_max_7cf53 10 = .ok (.ireturn, 1) := by decide +kernel
theorem dJ9_min_7cf53_0 : decode cJ9_min_7cf53 0 = .ok (.iload_n 0, 1) := by decide +kernel
theorem dJ9_min_7cf53_1 : decode cJ9_min_7cf53 1 = .ok (.iload_n 1, 1) := by decide +kernel
theorem dJ9_min_7cf53_2 : decode cJ9_min_7cf53 2 = .ok (.if_icmp .gt 7, 3) := by decide +kernel
theorem dJ9_min_7cf53_5 : decode cJ9_min_7cf53 5 = .ok (.iload_n 0, 1) := by decide +kernel
theorem dJ9_min_7cf53_6 : decode cJ9_min_7cf53 6 = .ok (.goto 4, 3) := by decide +kernel
theorem dJ9_min_7cf53_9 : decode cJ9_min_7cf53 9 = .ok (.iload_n 1, 1) := by decide +kernel
theorem dJ9_min_7cf53_10 : decode cJ9_min_7cf53 10 = .ok (.ireturn, 1) := by decide +kernel
theorem dJ0_init_81219_0 : decode cJ0_init_81219 0 = .ok (.aload_n 0, 1) := by decide +kernel
theorem dJ0_init_81219_1 : decode cJ0_init_81219 1 = .ok (.aload_n 1, 1) := by decide +kernel
theorem dJ0_init_81219_2 : decode cJ0_init_81219 2 = .ok (.aconst_null, 1) := by decide +kernel
theorem dJ0_init_81219_3 : decode cJ0_init_81219 3 = .ok (.invokespecial 489, 3) := by decide +kernel
theorem dJ0_init_81219_6 : decode cJ0_init_81219 6 = .ok (.return_, 1) := by decide +kernel
theorem dJ0_length_8abf5_0 : decode cJ0_length_8abf5 0 = .ok (.aload_n 0, 1) := by decide +kernel
theorem dJ0_length_8abf5_1 : decode cJ0_length_8abf5 1 = .ok (.getfield 9, 3) := by decide +kernel
theorem dJ0_length_8abf5_4 : decode cJ0_length_8abf5 4 = .ok (.arraylength, 1) := by decide +kernel
theorem dJ0_length_8abf5_5 : decode cJ0_length_8abf5 5 = .ok (.aload_n 0, 1) := by decide +kernel
theorem dJ0_length_8abf5_6 : decode cJ0_length_8abf5 6 = .ok (.invokevirtual 335, 3) := by decide +kernel
theorem dJ0_length_8abf5_9 : decode cJ0_length_8abf5 9 = .ok (.ishr, 1) := by decide +kernel
theorem dJ0_length_8abf5_10 : decode cJ0_length_8abf5 10 = .ok (.ireturn, 1) := by decide +kernel
theorem dJ0_charAt_5068e_0 : decode cJ0_charAt_5068e 0 = .ok (.aload_n 0, 1) := by decide +kernel
theorem dJ0_charAt_5068e_1 : decode cJ0_charAt_5068e 1 = .ok (.invokevirtual 492, 3) := by decide +kernel
theorem dJ0_charAt_5068e_4 : decode cJ0_charAt_5068e 4 = .ok (.ifCond .eq 12, 3) := by decide +kernel
theorem dJ0_charAt_5068e_7 : decode cJ0_charAt_5068e 7 = .ok (.aload_n 0, 1) := by decide +kernel
theorem dJ0_charAt_5068e_8 : decode cJ0_charAt_5068e 8 = .ok (.getfield 9, 3) := by decide +kernel
theorem dJ0_charAt_5068e_11 : decode cJ0_charAt_5068e 11 = .ok (.iload_n 1, 1) := by decide +kernel
theorem dJ0_charAt_5068e_12 : decode cJ0_charAt_5068e 12 = .ok (.invokestatic 495, 3) := by decide +kernel
theorem dJ0_charAt_5068e_15 : decode cJ0_charAt_5068e 15 = .ok (.ireturn, 1) := by decide +kernel
theorem dJ0_charAt_5068e_16 : decode cJ0_charAt_5068e 16 = .ok (.aload_n 0, 1) := by decide +kernel
theorem dJ0_charAt_5068e_17 : decode cJ0_charAt_5068e 17 = .ok (.getfield 9, 3) := by decide +kernel
theorem dJ0_charAt_5068e_20 : decode cJ0_charAt_5068e 20 = .ok (.iload_n 1, 1) := by decide +kernel
theorem dJ0_charAt_5068e_21 : decode cJ0_charAt_5068e 21 = .ok (.invokestatic 498, 3) := by decide +kernel
theorem dJ0_charAt_5068e_24 : decode cJ0_charAt_5068e 24 = .ok (.ireturn, 1) := by decide +kernel
theorem dJ0_getBytes_840e7_0 : decode cJ0_getBytes_840e7 0 = .ok (.aload_n 0, 1) := by decide +kernel
theorem dJ0_getBytes_840e7_1 : decode cJ0_getBytes_840e7 1 = .ok (.invokevirtual 335, 3) := by decide +kernel
theorem dJ0_getBytes_840e7_4 : decode cJ0_getBytes_840e7 4 = .ok (.iload_n 3, 1) := by decide +kernel
theorem dJ0_getBytes_840e7_5 : decode cJ0_getBytes_840e7 5 = .ok (.if_icmp .ne 23, 3) := by decide +kernel
theorem dJ0_getBytes_840e7_8 : decode cJ0_getBytes_840e7 8 = .ok (.aload_n 0, 1) := by decide +kernel
theorem dJ0_getBytes_840e7_9 : decode cJ0_getBytes_840e7 9 = .ok (.getfield 9, 3) := by decide +kernel
theorem dJ0_getBytes_840e7_12 : decode cJ0_getBytes_840e7 12 = .ok (.iconst 0, 1) := by decide +kernel
theorem dJ0_getBytes_840e7_13 : decode cJ0_getBytes_840e7 13 = .ok (.aload_n 1, 1) := by decide +kernel
theorem dJ0_getBytes_840e7_14 : decode cJ0_getBytes_840e7 14 = .ok (.iload_n 2, 1) := by decide +kernel
theorem dJ0_getBytes_840e7_15 : decode cJ0_getBytes_840e7 15 = .ok (.iload_n 3, 1) := by decide +kernel
theorem dJ0_getBytes_840e7_16 : decode cJ0_getBytes_840e7 16 = .ok (.ishl, 1) := by decide +kernel
theorem dJ0_getBytes_840e7_17 : decode cJ0_getBytes_840e7 17 = .ok (.aload_n 0, 1) := by decide +kernel
theorem dJ0_getBytes_840e7_18 : decode cJ0_getBytes_840e7 18 = .ok (.getfield 9, 3) := by decide +kernel
theorem dJ0_getBytes_840e7_21 : decode cJ0_getBytes_840e7 21 = .ok (.arraylength, 1) := by decide +kernel
theorem dJ0_getBytes_840e7_22 : decode cJ0_getBytes_840e7 22 = .ok (.invokestatic 212, 3) := by decide +kernel
theorem dJ0_getBytes_840e7_25 : decode cJ0_getBytes_840e7 25 = .ok (.goto 18, 3) := by decide +kernel
theorem dJ0_getBytes_840e7_28 : decode cJ0_getBytes_840e7 28 = .ok (.aload_n 0, 1) := by decide +kernel
theorem dJ0_getBytes_840e7_29 : decode cJ0_getBytes_840e7 29 = .ok (.getfield 9, 3) := by decide +kernel
theorem dJ0_getBytes_840e7_32 : decode cJ0_getBytes_840e7 32 = .ok (.iconst 0, 1) := by decide +kernel
theorem dJ0_getBytes_840e7_33 : decode cJ0_getBytes_840e7 33 = .ok (.aload_n 1, 1) := by decide +kernel
theorem dJ0_getBytes_840e7_34 : decode cJ0_getBytes_840e7 34 = .ok (.iload_n 2, 1) := by decide +kernel
theorem dJ0_getBytes_840e7_35 : decode cJ0_getBytes_840e7 35 = .ok (.aload_n 0, 1) := by decide +kernel
theorem dJ0_getBytes_840e7_36 : decode cJ0_getBytes_840e7 36 = .ok (.getfield 9, 3) := by decide +kernel
theorem dJ0_getBytes_840e7_39 : decode cJ0_getBytes_840e7 39 = .ok (.arraylength, 1) := by decide +kernel
theorem dJ0_getBytes_840e7_40 : decode cJ0_getBytes_840e7 40 = .ok (.invokestatic 106, 3) := by decide +kernel
theorem dJ0_getBytes_840e7_43 : decode cJ0_getBytes_840e7 43 = .ok (.return_, 1) := by decide +kernel
theorem dJ0_init_db425_0 : decode cJ0_init_db425 0 = .ok (.aload_n 0, 1) := by decide +kernel
theorem dJ0_init_db425_1 : decode cJ0_init_db425 1 = .ok (.invokespecial 1, 3) := by decide +kernel
theorem dJ0_init_db425_4 : decode cJ0_init_db425 4 = .ok (.aload_n 1, 1) := by decide +kernel
theorem dJ0_init_db425_5 : decode cJ0_init_db425 5 = .ok (.invokevirtual 552, 3) := by decide +kernel
theorem dJ0_init_db425_8 : decode cJ0_init_db425 8 = .ok (.astore_n 3, 1) := by decide +kernel
theorem dJ0_init_db425_9 : decode cJ0_init_db425 9 = .ok (.aload_n 1, 1) := by decide +kernel
theorem dJ0_init_db425_10 : decode cJ0_init_db425 10 = .ok (.invokevirtual 549, 3) := by decide +kernel
theorem dJ0_init_db425_13 : decode cJ0_init_db425 13 = .ok (.istore 4, 2) := by decide +kernel
theorem dJ0_init_db425_15 : decode cJ0_init_db425 15 = .ok (.aload_n 1, 1) := by decide +kernel
theorem dJ0_init_db425_16 : decode cJ0_init_db425 16 = .ok (.invokevirtual 1047, 3) := by decide +kernel
theorem dJ0_init_db425_19 : decode cJ0_init_db425 19 = .ok (.ifCond .eq 22, 3) := by decide +kernel
theorem dJ0_init_db425_22 : decode cJ0_init_db425 22 = .ok (.aload_n 0, 1) := by decide +kernel
theorem dJ0_init_db425_23 : decode cJ0_init_db425 23 = .ok (.iconst 0, 1) := by decide +kernel
theorem dJ0_init_db425_24 : decode cJ0_init_db425 24 = .ok (.putfield 15, 3) := by decide +kernel
theorem dJ0_init_db425_27 : decode cJ0_init_db425 27 = .ok (.aload_n 0, 1) := by decide +kernel
theorem dJ0_init_db425_28 : decode cJ0_init_db425 28 = .ok (.aload_n 3, 1) := by decide +kernel
theorem dJ0_init_db425_29 : decode cJ0_init_db425 29 = .ok (.iconst 0, 1) := by decide +kernel
theorem dJ0_init_db425_30 : decode cJ0_init_db425 30 = .ok (.iload 4, 2) := by decide +kernel
theorem dJ0_init_db425_32 : decode cJ0_init_db425 32 = .ok (.invokestatic 54, 3) := by decide +kernel
theorem dJ0_init_db425_35 : decode cJ0_init_db425 35 = .ok (.putfield 9, 3) := by decide +kernel
theorem dJ0_init_db425_38 : decode cJ0_init_db425 38 = .ok (.goto 59, 3) := by decide +kernel
theorem dJ0_init_db425_41 : decode cJ0_init_db425 41 = .ok (.getstatic 38, 3) := by decide +kernel
theorem dJ0_init_db425_44 : decode cJ0_init_db425 44 = .ok (.ifCond .eq 35, 3) := by decide +kernel
theorem dJ0_init_db425_47 : decode cJ0_init_db425 47 = .ok (.aload_n 1, 1) := by decide +kernel
theorem dJ0_init_db425_48 : decode cJ0_init_db425 48 = .ok (.getfield 1048, 3) := by decide +kernel
theorem dJ0_init_db425_51 : decode cJ0_init_db425 51 = .ok (.ifCond .eq 28, 3) := by decide +kernel
theorem dJ0_init_db425_54 : decode cJ0_init_db425 54 = .ok (.aload_n 0, 1) := by decide +kernel
theorem dJ0_init_db425_55 : decode cJ0_init_db425 55 = .ok (.aload_n 3, 1) := by decide +kernel
theorem dJ0_init_db425_56 : decode cJ0_init_db425 56 = .ok (.iconst 0, 1) := by decide +kernel
theorem dJ0_init_db425_57 : decode cJ0_init_db425 57 = .ok (.iload 4, 2) := by decide +kernel
theorem dJ0_init_db425_59 : decode cJ0_init_db425 59 = .ok (.invokestatic 1051, 3) := by decide +kernel
theorem dJ0_init_db425_62 : decode cJ0_init_db425 62 = .ok (.putfield 9, 3) := by decide +kernel
theorem dJ0_init_db425_65 : decode cJ0_init_db425 65 = .ok (.aload_n 0, 1) := by decide +kernel
theorem dJ0_init_db425_66 : decode cJ0_init_db425 66 = .ok (.aload_n 0, 1) := by decide +kernel
theorem dJ0_init_db425_67 : decode cJ0_init_db425 67 = .ok (.getfield 9, 3) := by decide +kernel
theorem dJ0_init_db425_70 : decode cJ0_init_db425 70 = .ok (.iload 4, 2) := by decide +kernel
theorem dJ0_init_db425_72 : decode cJ0_init_db425 72 = .ok (.invokestatic 47, 3) := by decide +kernel
theorem dJ0_init_db425_75 : decode cJ0_init_db425 75 = .ok (.putfield 15, 3) := by decide +kernel
theorem dJ0_init_db425_78 : decode cJ0_init_db425 78 = .ok (.return_, 1) := by decide +kernel
theorem dJ0_init_db425_79 : decode cJ0_init_db425 79 = .ok (.aload_n 0, 1) := by decide +kernel
theorem dJ0_init_db425_80 : decode cJ0_init_db425 80 = .ok (.iconst 1, 1) := by decide +kernel
theorem dJ0_init_db425_81 : decode cJ0_init_db425 81 = .ok (.putfield 15, 3) := by decide +kernel
theorem dJ0_init_db425_84 : decode cJ0_init_db425 84 = .ok (.aload_n 0, 1) := by decide +kernel
theorem dJ0_init_db425_85 : decode cJ0_init_db425 85 = .ok (.aload_n 3, 1) := by decide +kernel
theorem dJ0_init_db425_86 : decode cJ0_init_db425 86 = .ok (.iconst 0, 1) := by decide +kernel
theorem dJ0_init_db425_87 : decode cJ0_init_db425 87 = .ok (.iload 4, 2) := by decide +kernel
theorem dJ0_init_db425_89 : decode cJ0_init_db425 89 = .ok (.iconst 1, 1) := by decide +kernel
theorem dJ0_init_db425_90 : decode cJ0_init_db425 90 = .ok (.ishl, 1) := by decide +kernel
theorem dJ0_init_db425_91 : decode cJ0_init_db425 91 = .ok (.invokestatic 54, 3) := by decide +kernel
theorem dJ0_init_db425_94 : decode cJ0_init_db425 94 = .ok (.putfield 9, 3) := by decide +kernel
theorem dJ0_init_db425_97 : decode cJ0_init_db425 97 = .ok (.return_, 1) := by decide +kernel
theorem dJ0_coder_7d493_0 : decode cJ0_coder_7d493 0 = .ok (.getstatic 38, 3) := by decide +kernel
theorem dJ0_coder_7d493_3 : decode cJ0_coder_7d493 3 = .ok (.ifCond .eq 10, 3) := by decide +kernel
theorem dJ0_coder_7d493_6 : decode cJ0_coder_7d493 6 = .ok (.aload_n 0, 1) := by decide +kernel
theorem dJ0_coder_7d493_7 : decode cJ0_coder_7d493 7 = .ok (.getfield 15, 3) := by decide +kernel
theorem dJ0_coder_7d493_10 : decode cJ0_coder_7d493 10 = .ok (.goto 4, 3) := by decide +kernel
theorem dJ0_coder_7d493_13 : decode cJ0_coder_7d493 13 = .ok (.iconst 1, 1) := by decide +kernel
theorem dJ0_coder_7d493_14 : decode cJ0_coder_7d493 14 = .ok (.ireturn, 1) := by decide +kernel
theorem dJ0_isLatin1_aae02_0 : decode cJ0_isLatin1_aae02 0 = .ok (.getstatic 38, 3) := by decide +kernel
theorem dJ0_isLatin1_aae02_3 : decode cJ0_isLatin1_aae02 3 = .ok (.ifCond .eq 14, 3) := by decide +kernel
theorem dJ0_isLatin1_aae02_6 : decode cJ0_isLatin1_aae02 6 = .ok (.aload_n 0, 1) := by decide +kernel
theorem dJ0_isLatin1_aae02_7 : decode cJ0_isLatin1_aae02 7 = .ok (.getfield 15, 3) := by decide +kernel
theorem dJ0_isLatin1_aae02_10 : decode cJ0_isLatin1_aae02 10 = .ok (.ifCond .ne 7, 3) := by decide +kernel
theorem dJ0_isLatin1_aae02_13 : decode cJ0_isLatin1_aae02 13 = .ok (.iconst 1, 1) := by decide +kernel
theorem dJ0_isLatin1_aae02_14 : decode cJ0_isLatin1_aae02 14 = .ok (.goto 4, 3) := by decide +kernel
theorem dJ0_isLatin1_aae02_17 : decode cJ0_isLatin1_aae02 17 = .ok (.iconst 0, 1) := by decide +kernel
theorem dJ0_isLatin1_aae02_18 : decode cJ0_isLatin1_aae02 18 = .ok (.ireturn, 1) := by decide +kernel
theorem dJ0_checkIndex_df160_0 : decode cJ0_checkIndex_df160 0 = .ok (.iload_n 0, 1) := by decide +kernel
theorem dJ0_checkIndex_df160_1 : decode cJ0_checkIndex_df160 1 = .ok (.iload_n 1, 1) := by decide +kernel
theorem dJ0_checkIndex_df160_2 : decode cJ0_checkIndex_df160 2 = .ok (.getstatic 1053, 3) := by decide +kernel
theorem dJ0_checkIndex_df160_5 : decode cJ0_checkIndex_df160 5 = .ok (.invokestatic 1059, 3) := by decide +kernel
theorem dJ0_checkIndex_df160_8 : decode cJ0_checkIndex_df160 8 = .ok (.pop, 1) := by decide +kernel
theorem dJ0_checkIndex_df160_9 : decode cJ0_checkIndex_df160 9 = .ok (.return_, 1) := by decide +kernel
theorem dJ0_checkBoundsOffCount_cabcc_0 : decode cJ0_checkBoundsOffCount_cabcc 0 = .ok (.iload_n 0, 1) := by decide +kernel
theorem dJ0_checkBoundsOffCount_cabcc_1 : decode cJ0_checkBoundsOffCount_cabcc 1 = .ok (.iload_n 1, 1) := by decide +kernel
theorem dJ0_checkBoundsOffCount_cabcc_2 : decode cJ0_checkBoundsOffCount_cabcc 2 = .ok (.iload_n 2, 1) := by decide +kernel
theorem dJ0_checkBoundsOffCount_cabcc_3 : decode cJ0_checkBoundsOffCount_cabcc 3 = .ok (.getstatic 1053, 3) := by decide +kernel
theorem dJ0_checkBoundsOffCount_cabcc_6 : decode cJ0_checkBoundsOffCount_cabcc 6 = .ok (.invokestatic 1065, 3) := by decide +kernel
theorem dJ0_checkBoundsOffCount_cabcc_9 : decode cJ0_checkBoundsOffCount_cabcc 9 = .ok (.ireturn, 1) := by decide +kernel
theorem dJ0_checkBoundsBeginEnd_23922_0 : decode cJ0_checkBoundsBeginEnd_23922 0 = .ok (.iload_n 0, 1) := by decide +kernel
theorem dJ0_checkBoundsBeginEnd_23922_1 : decode cJ0_checkBoundsBeginEnd_23922 1 = .ok (.iload_n 1, 1) := by decide +kernel
theorem dJ0_checkBoundsBeginEnd_23922_2 : decode cJ0_checkBoundsBeginEnd_23922 2 = .ok (.iload_n 2, 1) := by decide +kernel
theorem dJ0_checkBoundsBeginEnd_23922_3 : decode cJ0_checkBoundsBeginEnd_23922 3 = .ok (.getstatic 1053, 3) := by decide +kernel
theorem dJ0_checkBoundsBeginEnd_23922_6 : decode cJ0_checkBoundsBeginEnd_23922 6 = .ok (.invokestatic 1062, 3) := by decide +kernel
theorem dJ0_checkBoundsBeginEnd_23922_9 : decode cJ0_checkBoundsBeginEnd_23922 9 = .ok (.pop, 1) := by decide +kernel
theorem dJ0_checkBoundsBeginEnd_23922_10 : decode cJ0_checkBoundsBeginEnd_23922 10 = .ok (.return_, 1) := by decide +kernel
theorem dJ4_init_da8c8_0 : decode cJ4_init_da8c8 0 = .ok (.aload_n 0, 1) := by decide +kernel
theorem dJ4_init_da8c8_1 : decode cJ4_init_da8c8 1 = .ok (.bipush 16, 2) := by decide +kernel
theorem dJ4_init_da8c8_3 : decode cJ4_init_da8c8 3 = .ok (.invokespecial 1, 3) := by decide +kernel
theorem dJ4_init_da8c8_6 : decode cJ4_init_da8c8 6 = .ok (.return_, 1) := by decide +kernel
theorem dJ4_append_15ec4_0 : decode cJ4_append_15ec4 0 = .ok (.aload_n 0, 1) := by decide +kernel
theorem dJ4_append_15ec4_1 : decode cJ4_append_15ec4 1 = .ok (.aload_n 1, 1) := by decide +kernel
theorem dJ4_append_15ec4_2 : decode cJ4_append_15ec4 2 = .ok (.invokespecial 29, 3) := by decide +kernel
theorem dJ4_append_15ec4_5 : decode cJ4_append_15ec4 5 = .ok (.pop, 1) := by decide +kernel
theorem dJ4_append_15ec4_6 : decode cJ4_append_15ec4 6 = .ok (.aload_n 0, 1) := by decide +kernel
theorem dJ4_append_15ec4_7 : decode cJ4_append_15ec4 7 = .ok (.areturn, 1) := by decide +kernel
theorem dJ4_append_bf812_0 : decode cJ4_append_bf812 0 = .ok (.aload_n 0, 1) := by decide +kernel
theorem dJ4_append_bf812_1 : decode cJ4_append_bf812 1 = .ok (.iload_n 1, 1) := by decide +kernel
theorem dJ4_append_bf812_2 : decode cJ4_append_bf812 2 = .ok (.invokespecial 53, 3) := by decide +kernel
theorem dJ4_append_bf812_5 : decode cJ4_append_bf812 5 = .ok (.pop, 1) := by decide +kernel
theorem dJ4_append_bf812_6 : decode cJ4_append_bf812 6 = .ok (.aload_n 0, 1) := by decide +kernel
theorem dJ4_append_bf812_7 : decode cJ4_append_bf812 7 = .ok (.areturn, 1) := by decide +kernel
theorem dJ4_toString_0e30d_0 : decode cJ4_toString_0e30d 0 = .ok (.new 18, 3) := by decide +kernel
theorem dJ4_toString_0e30d_3 : decode cJ4_toString_0e30d 3 = .ok (.dup, 1) := by decide +kernel
theorem dJ4_toString_0e30d_4 : decode cJ4_toString_0e30d 4 = .ok (.aload_n 0, 1) := by decide +kernel
theorem dJ4_toString_0e30d_5 : decode cJ4_toString_0e30d 5 = .ok (.invokespecial 137, 3) := by decide +kernel
theorem dJ4_toString_0e30d_8 : decode cJ4_toString_0e30d 8 = .ok (.areturn, 1) := by decide +kernel
theorem dJ4_length_8abf5_0 : decode cJ4_length_8abf5 0 = .ok (.aload_n 0, 1) := by decide +kernel
theorem dJ4_length_8abf5_1 : decode cJ4_length_8abf5 1 = .ok (.invokespecial 343, 3) := by decide +kernel
theorem dJ4_length_8abf5_4 : decode cJ4_length_8abf5 4 = .ok (.ireturn, 1) := by decide +kernel
theorem dJ1_charAt_3b067_0 : decode cJ1_charAt_3b067 0 = .ok (.iload_n 1, 1) := by decide +kernel
theorem dJ1_charAt_3b067_1 : decode cJ1_charAt_3b067 1 = .ok (.aload_n 0, 1) := by decide +kernel
theorem dJ1_charAt_3b067_2 : decode cJ1_charAt_3b067 2 = .ok (.arraylength, 1) := by decide +kernel
theorem dJ1_charAt_3b067_3 : decode cJ1_charAt_3b067 3 = .ok (.invokestatic 9, 3) := by decide +kernel
theorem dJ1_charAt_3b067_6 : decode cJ1_charAt_3b067 6 = .ok (.aload_n 0, 1) := by decide +kernel
theorem dJ1_charAt_3b067_7 : decode cJ1_charAt_3b067 7 = .ok (.iload_n 1, 1) := by decide +kernel
theorem dJ1_charAt_3b067_8 : decode cJ1_charAt_3b067 8 = .ok (.baload, 1) := by decide +kernel
theorem dJ1_charAt_3b067_9 : decode cJ1_charAt_3b067 9 = .ok (.sipush 255, 3) := by decide +kernel
theorem dJ1_charAt_3b067_12 : decode cJ1_charAt_3b067 12 = .ok (.iand, 1) := by decide +kernel
theorem dJ1_charAt_3b067_13 : decode cJ1_charAt_3b067 13 = .ok (.i2c, 1) := by decide +kernel
theorem dJ1_charAt_3b067_14 : decode cJ1_charAt_3b067 14 = .ok (.ireturn, 1) := by decide +kernel
theorem dJ1_inflate_0e8fd_0 : decode cJ1_inflate_0e8fd 0 = .ok (.aload_n 0, 1) := by decide +kernel
theorem dJ1_inflate_0e8fd_1 : decode cJ1_inflate_0e8fd 1 = .ok (.iload_n 1, 1) := by decide +kernel
theorem dJ1_inflate_0e8fd_2 : decode cJ1_inflate_0e8fd 2 = .ok (.aload_n 2, 1) := by decide +kernel
theorem dJ1_inflate_0e8fd_3 : decode cJ1_inflate_0e8fd 3 = .ok (.iload_n 3, 1) := by decide +kernel
theorem dJ1_inflate_0e8fd_4 : decode cJ1_inflate_0e8fd 4 = .ok (.iload 4, 2) := by decide +kernel
theorem dJ1_inflate_0e8fd_6 : decode cJ1_inflate_0e8fd 6 = .ok (.invokestatic 240, 3) := by decide +kernel
theorem dJ1_inflate_0e8fd_9 : decode cJ1_inflate_0e8fd 9 = .ok (.return_, 1) := by decide +kernel
theorem dJ2_newBytesFor_77867_0 : decode cJ2_newBytesFor_77867 0 = .ok (.iload_n 0, 1) := by decide +kernel
theorem dJ2_newBytesFor_77867_1 : decode cJ2_newBytesFor_77867 1 = .ok (.invokestatic 11, 3) := by decide +kernel
theorem dJ2_newBytesFor_77867_4 : decode cJ2_newBytesFor_77867 4 = .ok (.newarray .byte, 2) := by decide +kernel
theorem dJ2_newBytesFor_77867_6 : decode cJ2_newBytesFor_77867 6 = .ok (.areturn, 1) := by decide +kernel
theorem dJ2_newBytesLength_0f7a4_0 : decode cJ2_newBytesLength_0f7a4 0 = .ok (.iload_n 0, 1) := by decide +kernel
theorem dJ2_newBytesLength_0f7a4_1 : decode cJ2_newBytesLength_0f7a4 1 = .ok (.ifCond .ge 11, 3) := by decide +kernel
theorem dJ2_newBytesLength_0f7a4_4 : decode cJ2_newBytesLength_0f7a4 4 = .ok (.new 17, 3) := by decide +kernel
theorem dJ2_newBytesLength_0f7a4_7 : decode cJ2_newBytesLength_0f7a4 7 = .ok (.dup, 1) := by decide +kernel
theorem dJ2_newBytesLength_0f7a4_8 : decode cJ2_newBytesLength_0f7a4 8 = .ok (.invokespecial 19, 3) := by decide +kernel
theorem dJ2_newBytesLength_0f7a4_11 : decode cJ2_newBytesLength_0f7a4 11 = .ok (.athrow, 1) := by decide +kernel
theorem dJ2_newBytesLength_0f7a4_12 : decode cJ2_newBytesLength_0f7a4 12 = .ok (.iload_n 0, 1) := by decide +kernel
theorem dJ2_newBytesLength_0f7a4_13 : decode cJ2_newBytesLength_0f7a4 13 = .ok (.ldc 20, 2) := by decide +kernel
theorem dJ2_newBytesLength_0f7a4_15 : decode cJ2_newBytesLength_0f7a4 15 = .ok (.if_icmp .lt 40, 3) := by decide +kernel
theorem dJ2_newBytesLength_0f7a4_18 : decode cJ2_newBytesLength_0f7a4 18 = .ok (.new 21, 3) := by decide +kernel
theorem dJ2_newBytesLength_0f7a4_21 : decode cJ2_newBytesLength_0f7a4 21 = .ok (.dup, 1) := by decide +kernel
theorem dJ2_newBytesLength_0f7a4_22 : decode cJ2_newBytesLength_0f7a4 22 = .ok (.new 23, 3) := by decide +kernel
theorem dJ2_newBytesLength_0f7a4_25 : decode cJ2_newBytesLength_0f7a4 25 = .ok (.dup, 1) := by decide +kernel
theorem dJ2_newBytesLength_0f7a4_26 : decode cJ2_newBytesLength_0f7a4 26 = .ok (.invokespecial 25, 3) := by decide +kernel
theorem dJ2_newBytesLength_0f7a4_29 : decode cJ2_newBytesLength_0f7a4 29 = .ok (.ldc 26, 2) := by decide +kernel
theorem dJ2_newBytesLength_0f7a4_31 : decode cJ2_newBytesLength_0f7a4 31 = .ok (.invokevirtual 28, 3) := by decide +kernel
theorem dJ2_newBytesLength_0f7a4_34 : decode cJ2_newBytesLength_0f7a4 34 = .ok (.iload_n 0, 1) := by decide +kernel
theorem dJ2_newBytesLength_0f7a4_35 : decode cJ2_newBytesLength_0f7a4 35 = .ok (.invokevirtual 32, 3) := by decide +kernel
theorem dJ2_newBytesLength_0f7a4_38 : decode cJ2_newBytesLength_0f7a4 38 = .ok (.ldc 35, 2) := by decide +kernel
theorem dJ2_newBytesLength_0f7a4_40 : decode cJ2_newBytesLength_0f7a4 40 = .ok (.invokevirtual 28, 3) := by decide +kernel
theorem dJ2_newBytesLength_0f7a4_43 : decode cJ2_newBytesLength_0f7a4 43 = .ok (.ldc 20, 2) := by decide +kernel
theorem dJ2_newBytesLength_0f7a4_45 : decode cJ2_newBytesLength_0f7a4 45 = .ok (.invokevirtual 32, 3) := by decide +kernel
theorem dJ2_newBytesLength_0f7a4_48 : decode cJ2_newBytesLength_0f7a4 48 = .ok (.invokevirtual 37, 3) := by decide +kernel
theorem dJ2_newBytesLength_0f7a4_51 : decode cJ2_newBytesLength_0f7a4 51 = .ok (.invokespecial 41, 3) := by decide +kernel
theorem dJ2_newBytesLength_0f7a4_54 : decode cJ2_newBytesLength_0f7a4 54 = .ok (.athrow, 1) := by decide +kernel
theorem dJ2_newBytesLength_0f7a4_55 : decode cJ2_newBytesLength_0f7a4 55 = .ok (.iload_n 0, 1) := by decide +kernel
theorem dJ2_newBytesLength_0f7a4_56 : decode cJ2_newBytesLength_0f7a4 56 = .ok (.iconst 1, 1) := by decide +kernel
theorem dJ2_newBytesLength_0f7a4_57 : decode cJ2_newBytesLength_0f7a4 57 = .ok (.ishl, 1) := by decide +kernel
theorem dJ2_newBytesLength_0f7a4_58 : decode cJ2_newBytesLength_0f7a4 58 = .ok (.ireturn, 1) := by decide +kernel
theorem dJ2_putChar_b72d1_0 : decode cJ2_putChar_b72d1 0 = .ok (.getstatic 44, 3) := by decide +kernel
theorem dJ2_putChar_b72d1_3 : decode cJ2_putChar_b72d1 3 = .ok (.ifCond .ne 25, 3) := by decide +kernel
theorem dJ2_putChar_b72d1_6 : decode cJ2_putChar_b72d1 6 = .ok (.iload_n 1, 1) := by decide +kernel
theorem dJ2_putChar_b72d1_7 : decode cJ2_putChar_b72d1 7 = .ok (.ifCond .lt 11, 3) := by decide +kernel
theorem dJ2_putChar_b72d1_10 : decode cJ2_putChar_b72d1 10 = .ok (.iload_n 1, 1) := by decide +kernel
theorem dJ2_putChar_b72d1_11 : decode cJ2_putChar_b72d1 11 = .ok (.aload_n 0, 1) := by decide +kernel
theorem dJ2_putChar_b72d1_12 : decode cJ2_putChar_b72d1 12 = .ok (.invokestatic 48, 3) := by decide +kernel
theorem dJ2_putChar_b72d1_15 : decode cJ2_putChar_b72d1 15 = .ok (.if_icmp .lt 13, 3) := by decide +kernel
theorem dJ2_putChar_b72d1_18 : decode cJ2_putChar_b72d1 18 = .ok (.new 52, 3) := by decide +kernel
theorem dJ2_putChar_b72d1_21 : decode cJ2_putChar_b72d1 21 = .ok (.dup, 1) := by decide +kernel
theorem dJ2_putChar_b72d1_22 : decode cJ2_putChar_b72d1 22 = .ok (.ldc 54, 2) := by decide +kernel
theorem dJ2_putChar_b72d1_24 : decode cJ2_putChar_b72d1 24 = .ok (.invokespecial 56, 3) := by decide +kernel
theorem dJ2_putChar_b72d1_27 : decode cJ2_putChar_b72d1 27 = .ok (.athrow, 1) := by decide +kernel
theorem dJ2_putChar_b72d1_28 : decode cJ2_putChar_b72d1 28 = .ok (.iload_n 1, 1) := by decide +kernel
theorem dJ2_putChar_b72d1_29 : decode cJ2_putChar_b72d1 29 = .ok (.iconst 1, 1) := by decide +kernel
theorem dJ2_putChar_b72d1_30 : decode cJ2_putChar_b72d1 30 = .ok (.ishl, 1) := by decide +kernel
theorem dJ2_putChar_b72d1_31 : decode cJ2_putChar_b72d1 31 = .ok (.istore_n 1, 1) := by decide +kernel
theorem dJ2_putChar_b72d1_32 : decode cJ2_putChar_b72d1 32 = .ok (.aload_n 0, 1) := by decide +kernel
theorem dJ2_putChar_b72d1_33 : decode cJ2_putChar_b72d1 33 = .ok (.iload_n 1, 1) := by decide +kernel
theorem dJ2_putChar_b72d1_34 : decode cJ2_putChar_b72d1 34 = .ok (.iinc 1 1, 3) := by decide +kernel
theorem dJ2_putChar_b72d1_37 : decode cJ2_putChar_b72d1 37 = .ok (.iload_n 2, 1) := by decide +kernel
theorem dJ2_putChar_b72d1_38 : decode cJ2_putChar_b72d1 38 = .ok (.getstatic 59, 3) := by decide +kernel
theorem dJ2_putChar_b72d1_41 : decode cJ2_putChar_b72d1 41 = .ok (.ishr, 1) := by decide +kernel
theorem dJ2_putChar_b72d1_42 : decode cJ2_putChar_b72d1 42 = .ok (.i2b, 1) := by decide +kernel
theorem dJ2_putChar_b72d1_43 : decode cJ2_putChar_b72d1 43 = .ok (.bastore, 1) := by decide +kernel
theorem dJ2_putChar_b72d1_44 : decode cJ2_putChar_b72d1 44 = .ok (.aload_n 0, 1) := by decide +kernel
theorem dJ2_putChar_b72d1_45 : decode cJ2_putChar_b72d1 45 = .ok (.iload_n 1, 1) := by decide +kernel
theorem dJ2_putChar_b72d1_46 : decode cJ2_putChar_b72d1 46 = .ok (.iload_n 2, 1) := by decide +kernel
theorem dJ2_putChar_b72d1_47 : decode cJ2_putChar_b72d1 47 = .ok (.getstatic 63, 3) := by decide +kernel
theorem dJ2_putChar_b72d1_50 : decode cJ2_putChar_b72d1 50 = .ok (.ishr, 1) := by decide +kernel
theorem dJ2_putChar_b72d1_51 : decode cJ2_putChar_b72d1 51 = .ok (.i2b, 1) := by decide +kernel
theorem dJ2_putChar_b72d1_52 : decode cJ2_putChar_b72d1 52 = .ok (.bastore, 1) := by decide +kernel
theorem dJ2_putChar_b72d1_53 : decode cJ2_putChar_b72d1 53 = .ok (.return_, 1) := by decide +kernel
theorem dJ2_getChar_3b067_0 : decode cJ2_getChar_3b067 0 = .ok (.getstatic 44, 3) := by decide +kernel
theorem dJ2_getChar_3b067_3 : decode cJ2_getChar_3b067 3 = .ok (.ifCond .ne 25, 3) := by decide +kernel
theorem dJ2_getChar_3b067_6 : decode cJ2_getChar_3b067 6 = .ok (.iload_n 1, 1) := by decide +kernel
theorem dJ2_getChar_3b067_7 : decode cJ2_getChar_3b067 7 = .ok (.ifCond .lt 11, 3) := by decide +kernel
theorem dJ2_getChar_3b067_10 : decode cJ2_getChar_3b067 10 = .ok (.iload_n 1, 1) := by decide +kernel
theorem dJ2_getChar_3b067_11 : decode cJ2_getChar_3b067 11 = .ok (.aload_n 0, 1) := by decide +kernel
theorem dJ2_getChar_3b067_12 : decode cJ2_getChar_3b067 12 = .ok (.invokestatic 48, 3) := by decide +kernel
theorem dJ2_getChar_3b067_15 : decode cJ2_getChar_3b067 15 = .ok (.if_icmp .lt 13, 3) := by decide +kernel
theorem dJ2_getChar_3b067_18 : decode cJ2_getChar_3b067 18 = .ok (.new 52, 3) := by decide +kernel
theorem dJ2_getChar_3b067_21 : decode cJ2_getChar_3b067 21 = .ok (.dup, 1) := by decide +kernel
theorem dJ2_getChar_3b067_22 : decode cJ2_getChar_3b067 22 = .ok (.ldc 54, 2) := by decide +kernel
theorem dJ2_getChar_3b067_24 : decode cJ2_getChar_3b067 24 = .ok (.invokespecial 56, 3) := by decide +kernel
theorem dJ2_getChar_3b067_27 : decode cJ2_getChar_3b067 27 = .ok (.athrow, 1) := by decide +kernel
theorem dJ2_getChar_3b067_28 : decode cJ2_getChar_3b067 28 = .ok (.iload_n 1, 1) := by decide +kernel
theorem dJ2_getChar_3b067_29 : decode cJ2_getChar_3b067 29 = .ok (.iconst 1, 1) := by decide +kernel
theorem dJ2_getChar_3b067_30 : decode cJ2_getChar_3b067 30 = .ok (.ishl, 1) := by decide +kernel
theorem dJ2_getChar_3b067_31 : decode cJ2_getChar_3b067 31 = .ok (.istore_n 1, 1) := by decide +kernel
theorem dJ2_getChar_3b067_32 : decode cJ2_getChar_3b067 32 = .ok (.aload_n 0, 1) := by decide +kernel
theorem dJ2_getChar_3b067_33 : decode cJ2_getChar_3b067 33 = .ok (.iload_n 1, 1) := by decide +kernel
theorem dJ2_getChar_3b067_34 : decode cJ2_getChar_3b067 34 = .ok (.iinc 1 1, 3) := by decide +kernel
theorem dJ2_getChar_3b067_37 : decode cJ2_getChar_3b067 37 = .ok (.baload, 1) := by decide +kernel
theorem dJ2_getChar_3b067_38 : decode cJ2_getChar_3b067 38 = .ok (.sipush 255, 3) := by decide +kernel
theorem dJ2_getChar_3b067_41 : decode cJ2_getChar_3b067 41 = .ok (.iand, 1) := by decide +kernel
theorem dJ2_getChar_3b067_42 : decode cJ2_getChar_3b067 42 = .ok (.getstatic 59, 3) := by decide +kernel
theorem dJ2_getChar_3b067_45 : decode cJ2_getChar_3b067 45 = .ok (.ishl, 1) := by decide +kernel
theorem dJ2_getChar_3b067_46 : decode cJ2_getChar_3b067 46 = .ok (.aload_n 0, 1) := by decide +kernel
theorem dJ2_getChar_3b067_47 : decode cJ2_getChar_3b067 47 = .ok (.iload_n 1, 1) := by decide +kernel
theorem dJ2_getChar_3b067_48 : decode cJ2_getChar_3b067 48 = .ok (.baload, 1) := by decide +kernel
theorem dJ2_getChar_3b067_49 : decode cJ2_getChar_3b067 49 = .ok (.sipush 255, 3) := by decide +kernel
theorem dJ2_getChar_3b067_52 : decode cJ2_getChar_3b067 52 = .ok (.iand, 1) := by decide +kernel
theorem dJ2_getChar_3b067_53 : decode cJ2_getChar_3b067 53 = .ok (.getstatic 63, 3) := by decide +kernel
theorem dJ2_getChar_3b067_56 : decode cJ2_getChar_3b067 56 = .ok (.ishl, 1) := by decide +kernel
theorem dJ2_getChar_3b067_57 : decode cJ2_getChar_3b067 57 = .ok (.ior, 1) := by decide +kernel
theorem dJ2_getChar_3b067_58 : decode cJ2_getChar_3b067 58 = .ok (.i2c, 1) := by decide +kernel
theorem dJ2_getChar_3b067_59 : decode cJ2_getChar_3b067 59 = .ok (.ireturn, 1) := by decide +kernel
theorem dJ2_length_9d52b_0 : decode cJ2_length_9d52b 0 = .ok (.aload_n 0, 1) := by decide +kernel
theorem dJ2_length_9d52b_1 : decode cJ2_length_9d52b 1 = .ok (.arraylength, 1) := by decide +kernel
theorem dJ2_length_9d52b_2 : decode cJ2_length_9d52b 2 = .ok (.iconst 1, 1) := by decide +kernel
theorem dJ2_length_9d52b_3 : decode cJ2_length_9d52b 3 = .ok (.ishr, 1) := by decide +kernel
theorem dJ2_length_9d52b_4 : decode cJ2_length_9d52b 4 = .ok (.ireturn, 1) := by decide +kernel
theorem dJ2_coderFromArrayLen_85cad_0 : decode cJ2_coderFromArrayLen_85cad 0 = .ok (.iload_n 1, 1) := by decide +kernel
theorem dJ2_coderFromArrayLen_85cad_1 : decode cJ2_coderFromArrayLen_85cad 1 = .ok (.aload_n 0, 1) := by decide +kernel
theorem dJ2_coderFromArrayLen_85cad_2 : decode cJ2_coderFromArrayLen_85cad 2 = .ok (.arraylength, 1) := by decide +kernel
theorem dJ2_coderFromArrayLen_85cad_3 : decode cJ2_coderFromArrayLen_85cad 3 = .ok (.isub, 1) := by decide +kernel
theorem dJ2_coderFromArrayLen_85cad_4 : decode cJ2_coderFromArrayLen_85cad 4 = .ok (.bipush 31, 2) := by decide +kernel
theorem dJ2_coderFromArrayLen_85cad_6 : decode cJ2_coderFromArrayLen_85cad 6 = .ok (.iushr, 1) := by decide +kernel
theorem dJ2_coderFromArrayLen_85cad_7 : decode cJ2_coderFromArrayLen_85cad 7 = .ok (.i2b, 1) := by decide +kernel
theorem dJ2_coderFromArrayLen_85cad_8 : decode cJ2_coderFromArrayLen_85cad 8 = .ok (.ireturn, 1) := by decide +kernel
theorem dJ2_compress_39247_0 : decode cJ2_compress_39247 0 = .ok (.iload_n 2, 1) := by decide +kernel
theorem dJ2_compress_39247_1 : decode cJ2_compress_39247 1 = .ok (.newarray .byte, 2) := by decide +kernel
theorem dJ2_compress_39247_3 : decode cJ2_compress_39247 3 = .ok (.astore_n 3, 1) := by decide +kernel
theorem dJ2_compress_39247_4 : decode cJ2_compress_39247 4 = .ok (.aload_n 0, 1) := by decide +kernel
theorem dJ2_compress_39247_5 : decode cJ2_compress_39247 5 = .ok (.iload_n 1, 1) := by decide +kernel
theorem dJ2_compress_39247_6 : decode cJ2_compress_39247 6 = .ok (.aload_n 3, 1) := by decide +kernel
theorem dJ2_compress_39247_7 : decode cJ2_compress_39247 7 = .ok (.iconst 0, 1) := by decide +kernel
theorem dJ2_compress_39247_8 : decode cJ2_compress_39247 8 = .ok (.iload_n 2, 1) := by decide +kernel
theorem dJ2_compress_39247_9 : decode cJ2_compress_39247 9 = .ok (.invokestatic 123, 3) := by decide +kernel
theorem dJ2_compress_39247_12 : decode cJ2_compress_39247 12 = .ok (.istore 4, 2) := by decide +kernel
theorem dJ2_compress_39247_14 : decode cJ2_compress_39247 14 = .ok (.iload 4, 2) := by decide +kernel
theorem dJ2_compress_39247_16 : decode cJ2_compress_39247 16 = .ok (.iload_n 2, 1) := by decide +kernel
theorem dJ2_compress_39247_17 : decode cJ2_compress_39247 17 = .ok (.if_icmp .eq 47, 3) := by decide +kernel
theorem dJ2_compress_39247_20 : decode cJ2_compress_39247 20 = .ok (.aload_n 0, 1) := by decide +kernel
theorem dJ2_compress_39247_21 : decode cJ2_compress_39247 21 = .ok (.iload_n 1, 1) := by decide +kernel
theorem dJ2_compress_39247_22 : decode cJ2_compress_39247 22 = .ok (.iconst 1, 1) := by decide +kernel
theorem dJ2_compress_39247_23 : decode cJ2_compress_39247 23 = .ok (.ishl, 1) := by decide +kernel
theorem dJ2_compress_39247_24 : decode cJ2_compress_39247 24 = .ok (.iload_n 1, 1) := by decide +kernel
theorem dJ2_compress_39247_25 : decode cJ2_compress_39247 25 = .ok (.iload_n 2, 1) := by decide +kernel
theorem dJ2_compress_39247_26 : decode cJ2_compress_39247 26 = .ok (.iadd, 1) := by decide +kernel
theorem dJ2_compress_39247_27 : decode cJ2_compress_39247 27 = .ok (.invokestatic 11, 3) := by decide +kernel
theorem dJ2_compress_39247_30 : decode cJ2_compress_39247 30 = .ok (.invokestatic 126, 3) := by decide +kernel
theorem dJ2_compress_39247_33 : decode cJ2_compress_39247 33 = .ok (.astore 5, 2) := by decide +kernel
theorem dJ2_compress_39247_35 : decode cJ2_compress_39247 35 = .ok (.aload 5, 2) := by decide +kernel
theorem dJ2_compress_39247_37 : decode cJ2_compress_39247 37 = .ok (.iload 4, 2) := by decide +kernel
theorem dJ2_compress_39247_39 : decode cJ2_compress_39247 39 = .ok (.invokestatic 71, 3) := by decide +kernel
theorem dJ2_compress_39247_42 : decode cJ2_compress_39247 42 = .ok (.sipush 255, 3) := by decide +kernel
theorem dJ2_compress_39247_45 : decode cJ2_compress_39247 45 = .ok (.if_icmp .gt 16, 3) := by decide +kernel
theorem dJ2_compress_39247_48 : decode cJ2_compress_39247 48 = .ok (.aload 5, 2) := by decide +kernel
theorem dJ2_compress_39247_50 : decode cJ2_compress_39247 50 = .ok (.iconst 0, 1) := by decide +kernel
theorem dJ2_compress_39247_51 : decode cJ2_compress_39247 51 = .ok (.aload_n 3, 1) := by decide +kernel
theorem dJ2_compress_39247_52 : decode cJ2_compress_39247 52 = .ok (.iconst 0, 1) := by decide +kernel
theorem dJ2_compress_39247_53 : decode cJ2_compress_39247 53 = .ok (.iload_n 2, 1) := by decide +kernel
theorem dJ2_compress_39247_54 : decode cJ2_compress_39247 54 = .ok (.invokestatic 123, 3) := by decide +kernel
theorem dJ2_compress_39247_57 : decode cJ2_compress_39247 57 = .ok (.iload_n 2, 1) := by decide +kernel
theorem dJ2_compress_39247_58 : decode cJ2_compress_39247 58 = .ok (.if_icmp .eq 6, 3) := by decide +kernel
theorem dJ2_compress_39247_61 : decode cJ2_compress_39247 61 = .ok (.aload 5, 2) := by decide +kernel
theorem dJ2_compress_39247_63 : decode cJ2_compress_39247 63 = .ok (.areturn, 1) := by decide +kernel
theorem dJ2_compress_39247_64 : decode cJ2_compress_39247 64 = .ok (.aload_n 3, 1) := by decide +kernel
theorem dJ2_compress_39247_65 : decode cJ2_compress_39247 65 = .ok (.areturn, 1) := by decide +kernel
theorem dJ2_compress_5af95_0 : decode cJ2_compress_5af95 0 = .ok (.iload_n 1, 1) := by decide +kernel
theorem dJ2_compress_5af95_1 : decode cJ2_compress_5af95 1 = .ok (.iload 4, 2) := by decide +kernel
theorem dJ2_compress_5af95_3 : decode cJ2_compress_5af95 3 = .ok (.aload_n 0, 1) := by decide +kernel
theorem dJ2_compress_5af95_4 : decode cJ2_compress_5af95 4 = .ok (.invokestatic 173, 3) := by decide +kernel
theorem dJ2_compress_5af95_7 : decode cJ2_compress_5af95 7 = .ok (.iconst 0, 1) := by decide +kernel
theorem dJ2_compress_5af95_8 : decode cJ2_compress_5af95 8 = .ok (.istore 5, 2) := by decide +kernel
theorem dJ2_compress_5af95_10 : decode cJ2_compress_5af95 10 = .ok (.iload 5, 2) := by decide +kernel
theorem dJ2_compress_5af95_12 : decode cJ2_compress_5af95 12 = .ok (.iload 4, 2) := by decide +kernel
theorem dJ2_compress_5af95_14 : decode cJ2_compress_5af95 14 = .ok (.if_icmp .ge 39, 3) := by decide +kernel
theorem dJ2_compress_5af95_17 : decode cJ2_compress_5af95 17 = .ok (.aload_n 0, 1) := by decide +kernel
theorem dJ2_compress_5af95_18 : decode cJ2_compress_5af95 18 = .ok (.iload_n 1, 1) := by decide +kernel
theorem dJ2_compress_5af95_19 : decode cJ2_compress_5af95 19 = .ok (.invokestatic 71, 3) := by decide +kernel
theorem dJ2_compress_5af95_22 : decode cJ2_compress_5af95 22 = .ok (.istore 6, 2) := by decide +kernel
theorem dJ2_compress_5af95_24 : decode cJ2_compress_5af95 24 = .ok (.iload 6, 2) := by decide +kernel
theorem dJ2_compress_5af95_26 : decode cJ2_compress_5af95 26 = .ok (.sipush 255, 3) := by decide +kernel
theorem dJ2_compress_5af95_29 : decode cJ2_compress_5af95 29 = .ok (.if_icmp .le 6, 3) := by decide +kernel
theorem dJ2_compress_5af95_32 : decode cJ2_compress_5af95 32 = .ok (.iload 5, 2) := by decide +kernel
theorem dJ2_compress_5af95_34 : decode cJ2_compress_5af95 34 = .ok (.ireturn, 1) := by decide +kernel
theorem dJ2_compress_5af95_35 : decode cJ2_compress_5af95 35 = .ok (.aload_n 2, 1) := by decide +kernel
theorem dJ2_compress_5af95_36 : decode cJ2_compress_5af95 36 = .ok (.iload_n 3, 1) := by decide +kernel
theorem dJ2_compress_5af95_37 : decode cJ2_compress_5af95 37 = .ok (.iload 6, 2) := by decide +kernel
theorem dJ2_compress_5af95_39 : decode cJ2_compress_5af95 39 = .ok (.i2b, 1) := by decide +kernel
theorem dJ2_compress_5af95_40 : decode cJ2_compress_5af95 40 = .ok (.bastore, 1) := by decide +kernel
theorem dJ2_compress_5af95_41 : decode cJ2_compress_5af95 41 = .ok (.iinc 1 1, 3) := by decide +kernel
theorem dJ2_compress_5af95_44 : decode cJ2_compress_5af95 44 = .ok (.iinc 3 1, 3) := by decide +kernel
theorem dJ2_compress_5af95_47 : decode cJ2_compress_5af95 47 = .ok (.iinc 5 1, 3) := by decide +kernel
theorem dJ2_compress_5af95_50 : decode cJ2_compress_5af95 50 = .ok (.goto (-40), 3) := by decide +kernel
theorem dJ2_compress_5af95_53 : decode cJ2_compress_5af95 53 = .ok (.iload 4, 2) := by decide +kernel
theorem dJ2_compress_5af95_55 : decode cJ2_compress_5af95 55 = .ok (.ireturn, 1) := by decide +kernel
theorem dJ2_getChars_46870_0 : decode cJ2_getChars_46870 0 = .ok (.iload_n 1, 1) := by decide +kernel
theorem dJ2_getChars_46870_1 : decode cJ2_getChars_46870 1 = .ok (.iload_n 2, 1) := by decide +kernel
theorem dJ2_getChars_46870_2 : decode cJ2_getChars_46870 2 = .ok (.aload_n 3, 1) := by decide +kernel
theorem dJ2_getChars_46870_3 : decode cJ2_getChars_46870 3 = .ok (.invokestatic 96, 3) := by decide +kernel
theorem dJ2_getChars_46870_6 : decode cJ2_getChars_46870 6 = .ok (.iload_n 0, 1) := by decide +kernel
theorem dJ2_getChars_46870_7 : decode cJ2_getChars_46870 7 = .ok (.iload_n 2, 1) := by decide +kernel
theorem dJ2_getChars_46870_8 : decode cJ2_getChars_46870 8 = .ok (.aload_n 3, 1) := by decide +kernel
theorem dJ2_getChars_46870_9 : decode cJ2_getChars_46870 9 = .ok (.invokestatic 393, 3) := by decide +kernel
theorem dJ2_getChars_46870_12 : decode cJ2_getChars_46870 12 = .ok (.istore 4, 2) := by decide +kernel
theorem dJ2_getChars_46870_14 : decode cJ2_getChars_46870 14 = .ok (.getstatic 44, 3) := by decide +kernel
theorem dJ2_getChars_46870_17 : decode cJ2_getChars_46870 17 = .ok (.ifCond .ne 17, 3) := by decide +kernel
theorem dJ2_getChars_46870_20 : decode cJ2_getChars_46870 20 = .ok (.iload_n 1, 1) := by decide +kernel
theorem dJ2_getChars_46870_21 : decode cJ2_getChars_46870 21 = .ok (.iload 4, 2) := by decide +kernel
theorem dJ2_getChars_46870_23 : decode cJ2_getChars_46870 23 = .ok (.if_icmp .eq 11, 3) := by decide +kernel
theorem dJ2_getChars_46870_26 : decode cJ2_getChars_46870 26 = .ok (.new 52, 3) := by decide +kernel
theorem dJ2_getChars_46870_29 : decode cJ2_getChars_46870 29 = .ok (.dup, 1) := by decide +kernel
theorem dJ2_getChars_46870_30 : decode cJ2_getChars_46870 30 = .ok (.invokespecial 66, 3) := by decide +kernel
theorem dJ2_getChars_46870_33 : decode cJ2_getChars_46870 33 = .ok (.athrow, 1) := by decide +kernel
theorem dJ2_getChars_46870_34 : decode cJ2_getChars_46870 34 = .ok (.iload 4, 2) := by decide +kernel
theorem dJ2_getChars_46870_36 : decode cJ2_getChars_46870 36 = .ok (.ireturn, 1) := by decide +kernel
theorem dJ2_putCharsAt_cd4e5_0 : decode cJ2_putCharsAt_cd4e5 0 = .ok (.iload_n 1, 1) := by decide +kernel
theorem dJ2_putCharsAt_cd4e5_1 : decode cJ2_putCharsAt_cd4e5 1 = .ok (.iconst 4, 1) := by decide +kernel
theorem dJ2_putCharsAt_cd4e5_2 : decode cJ2_putCharsAt_cd4e5 2 = .ok (.iadd, 1) := by decide +kernel
theorem dJ2_putCharsAt_cd4e5_3 : decode cJ2_putCharsAt_cd4e5 3 = .ok (.istore 6, 2) := by decide +kernel
theorem dJ2_putCharsAt_cd4e5_5 : decode cJ2_putCharsAt_cd4e5 5 = .ok (.iload_n 1, 1) := by decide +kernel
theorem dJ2_putCharsAt_cd4e5_6 : decode cJ2_putCharsAt_cd4e5 6 = .ok (.iload 6, 2) := by decide +kernel
theorem dJ2_putCharsAt_cd4e5_8 : decode cJ2_putCharsAt_cd4e5 8 = .ok (.aload_n 0, 1) := by decide +kernel
theorem dJ2_putCharsAt_cd4e5_9 : decode cJ2_putCharsAt_cd4e5 9 = .ok (.invokestatic 96, 3) := by decide +kernel
theorem dJ2_putCharsAt_cd4e5_12 : decode cJ2_putCharsAt_cd4e5 12 = .ok (.aload_n 0, 1) := by decide +kernel
theorem dJ2_putCharsAt_cd4e5_13 : decode cJ2_putCharsAt_cd4e5 13 = .ok (.iload_n 1, 1) := by decide +kernel
theorem dJ2_putCharsAt_cd4e5_14 : decode cJ2_putCharsAt_cd4e5 14 = .ok (.iinc 1 1, 3) := by decide +kernel
theorem dJ2_putCharsAt_cd4e5_17 : decode cJ2_putCharsAt_cd4e5 17 = .ok (.iload_n 2, 1) := by decide +kernel
theorem dJ2_putCharsAt_cd4e5_18 : decode cJ2_putCharsAt_cd4e5 18 = .ok (.invokestatic 111, 3) := by decide +kernel
theorem dJ2_putCharsAt_cd4e5_21 : decode cJ2_putCharsAt_cd4e5 21 = .ok (.aload_n 0, 1) := by decide +kernel
theorem dJ2_putCharsAt_cd4e5_22 : decode cJ2_putCharsAt_cd4e5 22 = .ok (.iload_n 1, 1) := by decide +kernel
theorem dJ2_putCharsAt_cd4e5_23 : decode cJ2_putCharsAt_cd4e5 23 = .ok (.iinc 1 1, 3) := by decide +kernel
theorem dJ2_putCharsAt_cd4e5_26 : decode cJ2_putCharsAt_cd4e5 26 = .ok (.iload_n 3, 1) := by decide +kernel
theorem dJ2_putCharsAt_cd4e5_27 : decode cJ2_putCharsAt_cd4e5 27 = .ok (.invokestatic 111, 3) := by decide +kernel
theorem dJ2_putCharsAt_cd4e5_30 : decode cJ2_putCharsAt_cd4e5 30 = .ok (.aload_n 0, 1) := by decide +kernel
theorem dJ2_putCharsAt_cd4e5_31 : decode cJ2_putCharsAt_cd4e5 31 = .ok (.iload_n 1, 1) := by decide +kernel
theorem dJ2_putCharsAt_cd4e5_32 : decode cJ2_putCharsAt_cd4e5 32 = .ok (.iinc 1 1, 3) := by decide +kernel
theorem dJ2_putCharsAt_cd4e5_35 : decode cJ2_putCharsAt_cd4e5 35 = .ok (.iload 4, 2) := by decide +kernel
theorem dJ2_putCharsAt_cd4e5_37 : decode cJ2_putCharsAt_cd4e5 37 = .ok (.invokestatic 111, 3) := by decide +kernel
theorem dJ2_putCharsAt_cd4e5_40 : decode cJ2_putCharsAt_cd4e5 40 = .ok (.aload_n 0, 1) := by decide +kernel
theorem dJ2_putCharsAt_cd4e5_41 : decode cJ2_putCharsAt_cd4e5 41 = .ok (.iload_n 1, 1) := by decide +kernel
theorem dJ2_putCharsAt_cd4e5_42 : decode cJ2_putCharsAt_cd4e5 42 = .ok (.iinc 1 1, 3) := by decide +kernel
theorem dJ2_putCharsAt_cd4e5_45 : decode cJ2_putCharsAt_cd4e5 45 = .ok (.iload 5, 2) := by decide +kernel
theorem dJ2_putCharsAt_cd4e5_47 : decode cJ2_putCharsAt_cd4e5 47 = .ok (.invokestatic 111, 3) := by decide +kernel
theorem dJ2_putCharsAt_cd4e5_50 : decode cJ2_putCharsAt_cd4e5 50 = .ok (.getstatic 44, 3) := by decide +kernel
theorem dJ2_putCharsAt_cd4e5_53 : decode cJ2_putCharsAt_cd4e5 53 = .ok (.ifCond .ne 17, 3) := by decide +kernel
theorem dJ2_putCharsAt_cd4e5_56 : decode cJ2_putCharsAt_cd4e5 56 = .ok (.iload_n 1, 1) := by decide +kernel
theorem dJ2_putCharsAt_cd4e5_57 : decode cJ2_putCharsAt_cd4e5 57 = .ok (.iload 6, 2) := by decide +kernel
theorem dJ2_putCharsAt_cd4e5_59 : decode cJ2_putCharsAt_cd4e5 59 = .ok (.if_icmp .eq 11, 3) := by decide +kernel
theorem dJ2_putCharsAt_cd4e5_62 : decode cJ2_putCharsAt_cd4e5 62 = .ok (.new 52, 3) := by decide +kernel
theorem dJ2_putCharsAt_cd4e5_65 : decode cJ2_putCharsAt_cd4e5 65 = .ok (.dup, 1) := by decide +kernel
theorem dJ2_putCharsAt_cd4e5_66 : decode cJ2_putCharsAt_cd4e5 66 = .ok (.invokespecial 66, 3) := by decide +kernel
theorem dJ2_putCharsAt_cd4e5_69 : decode cJ2_putCharsAt_cd4e5 69 = .ok (.athrow, 1) := by decide +kernel
theorem dJ2_putCharsAt_cd4e5_70 : decode cJ2_putCharsAt_cd4e5 70 = .ok (.iload 6, 2) := by decide +kernel
theorem dJ2_putCharsAt_cd4e5_72 : decode cJ2_putCharsAt_cd4e5 72 = .ok (.ireturn, 1) := by decide +kernel
theorem dJ2_charAt_3b067_0 : decode cJ2_charAt_3b067 0 = .ok (.iload_n 1, 1) := by decide +kernel
theorem dJ2_charAt_3b067_1 : decode cJ2_charAt_3b067 1 = .ok (.aload_n 0, 1) := by decide +kernel
theorem dJ2_charAt_3b067_2 : decode cJ2_charAt_3b067 2 = .ok (.invokestatic 67, 3) := by decide +kernel
theorem dJ2_charAt_3b067_5 : decode cJ2_charAt_3b067 5 = .ok (.aload_n 0, 1) := by decide +kernel
theorem dJ2_charAt_3b067_6 : decode cJ2_charAt_3b067 6 = .ok (.iload_n 1, 1) := by decide +kernel
theorem dJ2_charAt_3b067_7 : decode cJ2_charAt_3b067 7 = .ok (.invokestatic 71, 3) := by decide +kernel
theorem dJ2_charAt_3b067_10 : decode cJ2_charAt_3b067 10 = .ok (.ireturn, 1) := by decide +kernel
theorem dJ2_inflate_0e8fd_0 : decode cJ2_inflate_0e8fd 0 = .ok (.iload_n 3, 1) := by decide +kernel
theorem dJ2_inflate_0e8fd_1 : decode cJ2_inflate_0e8fd 1 = .ok (.iload 4, 2) := by decide +kernel
theorem dJ2_inflate_0e8fd_3 : decode cJ2_inflate_0e8fd 3 = .ok (.aload_n 2, 1) := by decide +kernel
theorem dJ2_inflate_0e8fd_4 : decode cJ2_inflate_0e8fd 4 = .ok (.invokestatic 173, 3) := by decide +kernel
theorem dJ2_inflate_0e8fd_7 : decode cJ2_inflate_0e8fd 7 = .ok (.iconst 0, 1) := by decide +kernel
theorem dJ2_inflate_0e8fd_8 : decode cJ2_inflate_0e8fd 8 = .ok (.istore 5, 2) := by decide +kernel
theorem dJ2_inflate_0e8fd_10 : decode cJ2_inflate_0e8fd 10 = .ok (.iload 5, 2) := by decide +kernel
theorem dJ2_inflate_0e8fd_12 : decode cJ2_inflate_0e8fd 12 = .ok (.iload 4, 2) := by decide +kernel
theorem dJ2_inflate_0e8fd_14 : decode cJ2_inflate_0e8fd 14 = .ok (.if_icmp .ge 27, 3) := by decide +kernel
theorem dJ2_inflate_0e8fd_17 : decode cJ2_inflate_0e8fd 17 = .ok (.aload_n 2, 1) := by decide +kernel
theorem dJ2_inflate_0e8fd_18 : decode cJ2_inflate_0e8fd 18 = .ok (.iload_n 3, 1) := by decide +kernel
theorem dJ2_inflate_0e8fd_19 : decode cJ2_inflate_0e8fd 19 = .ok (.iinc 3 1, 3) := by decide +kernel
theorem dJ2_inflate_0e8fd_22 : decode cJ2_inflate_0e8fd 22 = .ok (.aload_n 0, 1) := by decide +kernel
theorem dJ2_inflate_0e8fd_23 : decode cJ2_inflate_0e8fd 23 = .ok (.iload_n 1, 1) := by decide +kernel
theorem dJ2_inflate_0e8fd_24 : decode cJ2_inflate_0e8fd 24 = .ok (.iinc 1 1, 3) := by decide +kernel
theorem dJ2_inflate_0e8fd_27 : decode cJ2_inflate_0e8fd 27 = .ok (.baload, 1) := by decide +kernel
theorem dJ2_inflate_0e8fd_28 : decode cJ2_inflate_0e8fd 28 = .ok (.sipush 255, 3) := by decide +kernel
theorem dJ2_inflate_0e8fd_31 : decode cJ2_inflate_0e8fd 31 = .ok (.iand, 1) := by decide +kernel
theorem dJ2_inflate_0e8fd_32 : decode cJ2_inflate_0e8fd 32 = .ok (.invokestatic 111, 3) := by decide +kernel
theorem dJ2_inflate_0e8fd_35 : decode cJ2_inflate_0e8fd 35 = .ok (.iinc 5 1, 3) := by decide +kernel
theorem dJ2_inflate_0e8fd_38 : decode cJ2_inflate_0e8fd 38 = .ok (.goto (-28), 3) := by decide +kernel
theorem dJ2_inflate_0e8fd_41 : decode cJ2_inflate_0e8fd 41 = .ok (.return_, 1) := by decide +kernel
theorem dJ2_getChars_ba4f3_0 : decode cJ2_getChars_ba4f3 0 = .ok (.iload_n 1, 1) := by decide +kernel
theorem dJ2_getChars_ba4f3_1 : decode cJ2_getChars_ba4f3 1 = .ok (.istore 5, 2) := by decide +kernel
theorem dJ2_getChars_ba4f3_3 : decode cJ2_getChars_ba4f3 3 = .ok (.iload_n 0, 1) := by decide +kernel
theorem dJ2_getChars_ba4f3_4 : decode cJ2_getChars_ba4f3 4 = .ok (.ifCond .ge 7, 3) := by decide +kernel
theorem dJ2_getChars_ba4f3_7 : decode cJ2_getChars_ba4f3 7 = .ok (.iconst 1, 1) := by decide +kernel
theorem dJ2_getChars_ba4f3_8 : decode cJ2_getChars_ba4f3 8 = .ok (.goto 4, 3) := by decide +kernel
theorem dJ2_getChars_ba4f3_11 : decode cJ2_getChars_ba4f3 11 = .ok (.iconst 0, 1) := by decide +kernel
theorem dJ2_getChars_ba4f3_12 : decode cJ2_getChars_ba4f3 12 = .ok (.istore 6, 2) := by decide +kernel
theorem dJ2_getChars_ba4f3_14 : decode cJ2_getChars_ba4f3 14 = .ok (.iload 6, 2) := by decide +kernel
theorem dJ2_getChars_ba4f3_16 : decode cJ2_getChars_ba4f3 16 = .ok (.ifCond .ne 6, 3) := by decide +kernel
theorem dJ2_getChars_ba4f3_19 : decode cJ2_getChars_ba4f3 19 = .ok (.iload_n 0, 1) := by decide +kernel
theorem dJ2_getChars_ba4f3_20 : decode cJ2_getChars_ba4f3 20 = .ok (.ineg, 1) := by decide +kernel
theorem dJ2_getChars_ba4f3_21 : decode cJ2_getChars_ba4f3 21 = .ok (.istore_n 0, 1) := by decide +kernel
theorem dJ2_getChars_ba4f3_22 : decode cJ2_getChars_ba4f3 22 = .ok (.iload_n 0, 1) := by decide +kernel
theorem dJ2_getChars_ba4f3_23 : decode cJ2_getChars_ba4f3 23 = .ok (.bipush (-100), 2) := by decide +kernel
theorem dJ2_getChars_ba4f3_25 : decode cJ2_getChars_ba4f3 25 = .ok (.if_icmp .gt 51, 3) := by decide +kernel
theorem dJ2_getChars_ba4f3_28 : decode cJ2_getChars_ba4f3 28 = .ok (.iload_n 0, 1) := by decide +kernel
theorem dJ2_getChars_ba4f3_29 : decode cJ2_getChars_ba4f3 29 = .ok (.bipush 100, 2) := by decide +kernel
theorem dJ2_getChars_ba4f3_31 : decode cJ2_getChars_ba4f3 31 = .ok (.idiv, 1) := by decide +kernel
theorem dJ2_getChars_ba4f3_32 : decode cJ2_getChars_ba4f3 32 = .ok (.istore_n 3, 1) := by decide +kernel
theorem dJ2_getChars_ba4f3_33 : decode cJ2_getChars_ba4f3 33 = .ok (.iload_n 3, 1) := by decide +kernel
theorem dJ2_getChars_ba4f3_34 : decode cJ2_getChars_ba4f3 34 = .ok (.bipush 100, 2) := by decide +kernel
theorem dJ2_getChars_ba4f3_36 : decode cJ2_getChars_ba4f3 36 = .ok (.imul, 1) := by decide +kernel
theorem dJ2_getChars_ba4f3_37 : decode cJ2_getChars_ba4f3 37 = .ok (.iload_n 0, 1) := by decide +kernel
theorem dJ2_getChars_ba4f3_38 : decode cJ2_getChars_ba4f3 38 = .ok (.isub, 1) := by decide +kernel
theorem dJ2_getChars_ba4f3_39 : decode cJ2_getChars_ba4f3 39 = .ok (.istore 4, 2) := by decide +kernel
theorem dJ2_getChars_ba4f3_41 : decode cJ2_getChars_ba4f3 41 = .ok (.iload_n 3, 1) := by decide +kernel
theorem dJ2_getChars_ba4f3_42 : decode cJ2_getChars_ba4f3 42 = .ok (.istore_n 0, 1) := by decide +kernel
theorem dJ2_getChars_ba4f3_43 : decode cJ2_getChars_ba4f3 43 = .ok (.aload_n 2, 1) := by decide +kernel
theorem dJ2_getChars_ba4f3_44 : decode cJ2_getChars_ba4f3 44 = .ok (.iinc 5 (-1), 3) := by decide +kernel
theorem dJ2_getChars_ba4f3_47 : decode cJ2_getChars_ba4f3 47 = .ok (.iload 5, 2) := by decide +kernel
theorem dJ2_getChars_ba4f3_49 : decode cJ2_getChars_ba4f3 49 = .ok (.getstatic 403, 3) := by decide +kernel
theorem dJ2_getChars_ba4f3_52 : decode cJ2_getChars_ba4f3 52 = .ok (.iload 4, 2) := by decide +kernel
theorem dJ2_getChars_ba4f3_54 : decode cJ2_getChars_ba4f3 54 = .ok (.baload, 1) := by decide +kernel
theorem dJ2_getChars_ba4f3_55 : decode cJ2_getChars_ba4f3 55 = .ok (.invokestatic 111, 3) := by decide +kernel
theorem dJ2_getChars_ba4f3_58 : decode cJ2_getChars_ba4f3 58 = .ok (.aload_n 2, 1) := by decide +kernel
theorem dJ2_getChars_ba4f3_59 : decode cJ2_getChars_ba4f3 59 = .ok (.iinc 5 (-1), 3) := by decide +kernel
theorem dJ2_getChars_ba4f3_62 : decode cJ2_getChars_ba4f3 62 = .ok (.iload 5, 2) := by decide +kernel
theorem dJ2_getChars_ba4f3_64 : decode cJ2_getChars_ba4f3 64 = .ok (.getstatic 407, 3) := by decide +kernel
theorem dJ2_getChars_ba4f3_67 : decode cJ2_getChars_ba4f3 67 = .ok (.iload 4, 2) := by decide +kernel
theorem dJ2_getChars_ba4f3_69 : decode cJ2_getChars_ba4f3 69 = .ok (.baload, 1) := by decide +kernel
theorem dJ2_getChars_ba4f3_70 : decode cJ2_getChars_ba4f3 70 = .ok (.invokestatic 111, 3) := by decide +kernel
theorem dJ2_getChars_ba4f3_73 : decode cJ2_getChars_ba4f3 73 = .ok (.goto (-51), 3) := by decide +kernel
theorem dJ2_getChars_ba4f3_76 : decode cJ2_getChars_ba4f3 76 = .ok (.aload_n 2, 1) := by decide +kernel
theorem dJ2_getChars_ba4f3_77 : decode cJ2_getChars_ba4f3 77 = .ok (.iinc 5 (-1), 3) := by decide +kernel
theorem dJ2_getChars_ba4f3_80 : decode cJ2_getChars_ba4f3 80 = .ok (.iload 5, 2) := by decide +kernel
theorem dJ2_getChars_ba4f3_82 : decode cJ2_getChars_ba4f3 82 = .ok (.getstatic 403, 3) := by decide +kernel
theorem dJ2_getChars_ba4f3_85 : decode cJ2_getChars_ba4f3 85 = .ok (.iload_n 0, 1) := by decide +kernel
theorem dJ2_getChars_ba4f3_86 : decode cJ2_getChars_ba4f3 86 = .ok (.ineg, 1) := by decide +kernel
theorem dJ2_getChars_ba4f3_87 : decode cJ2_getChars_ba4f3 87 = .ok (.baload, 1) := by decide +kernel
theorem dJ2_getChars_ba4f3_88 : decode cJ2_getChars_ba4f3 88 = .ok (.invokestatic 111, 3) := by decide +kernel
theorem dJ2_getChars_ba4f3_91 : decode cJ2_getChars_ba4f3 91 = .ok (.iload_n 0, 1) := by decide +kernel
theorem dJ2_getChars_ba4f3_92 : decode cJ2_getChars_ba4f3 92 = .ok (.bipush (-9), 2) := by decide +kernel
theorem dJ2_getChars_ba4f3_94 : decode cJ2_getChars_ba4f3 94 = .ok (.if_icmp .ge 18, 3) := by decide +kernel
theorem dJ2_getChars_ba4f3_97 : decode cJ2_getChars_ba4f3 97 = .ok (.aload_n 2, 1) := by decide +kernel
theorem dJ2_getChars_ba4f3_98 : decode cJ2_getChars_ba4f3 98 = .ok (.iinc 5 (-1), 3) := by decide +kernel
theorem dJ2_getChars_ba4f3_101 : decode cJ2_getChars_ba4f3 101 = .ok (.iload 5, 2) := by decide +kernel
theorem dJ2_getChars_ba4f3_103 : decode cJ2_getChars_ba4f3 103 = .ok (.getstatic 407, 3) := by decide +kernel
theorem dJ2_getChars_ba4f3_106 : decode cJ2_getChars_ba4f3 106 = .ok (.iload_n 0, 1) := by decide +kernel
theorem dJ2_getChars_ba4f3_107 : decode cJ2_getChars_ba4f3 107 = .ok (.ineg, 1) := by decide +kernel
theorem dJ2_getChars_ba4f3_108 : decode cJ2_getChars_ba4f3 108 = .ok (.baload, 1) := by decide +kernel
theorem dJ2_getChars_ba4f3_109 : decode cJ2_getChars_ba4f3 109 = .ok (.invokestatic 111, 3) := by decide +kernel
theorem dJ2_getChars_ba4f3_112 : decode cJ2_getChars_ba4f3 112 = .ok (.iload 6, 2) := by decide +kernel
theorem dJ2_getChars_ba4f3_114 : decode cJ2_getChars_ba4f3 114 = .ok (.ifCond .eq 14, 3) := by decide +kernel
theorem dJ2_getChars_ba4f3_117 : decode cJ2_getChars_ba4f3 117 = .ok (.aload_n 2, 1) := by decide +kernel
theorem dJ2_getChars_ba4f3_118 : decode cJ2_getChars_ba4f3 118 = .ok (.iinc 5 (-1), 3) := by decide +kernel
theorem dJ2_getChars_ba4f3_121 : decode cJ2_getChars_ba4f3 121 = .ok (.iload 5, 2) := by decide +kernel
theorem dJ2_getChars_ba4f3_123 : decode cJ2_getChars_ba4f3 123 = .ok (.bipush 45, 2) := by decide +kernel
theorem dJ2_getChars_ba4f3_125 : decode cJ2_getChars_ba4f3 125 = .ok (.invokestatic 111, 3) := by decide +kernel
theorem dJ2_getChars_ba4f3_128 : decode cJ2_getChars_ba4f3 128 = .ok (.iload 5, 2) := by decide +kernel
theorem dJ2_getChars_ba4f3_130 : decode cJ2_getChars_ba4f3 130 = .ok (.ireturn, 1) := by decide +kernel
theorem dJ2_checkIndex_2214a_0 : decode cJ2_checkIndex_2214a 0 = .ok (.iload_n 0, 1) := by decide +kernel
theorem dJ2_checkIndex_2214a_1 : decode cJ2_checkIndex_2214a 1 = .ok (.aload_n 1, 1) := by decide +kernel
theorem dJ2_checkIndex_2214a_2 : decode cJ2_checkIndex_2214a 2 = .ok (.invokestatic 48, 3) := by decide +kernel
theorem dJ2_checkIndex_2214a_5 : decode cJ2_checkIndex_2214a 5 = .ok (.invokestatic 414, 3) := by decide +kernel
theorem dJ2_checkIndex_2214a_8 : decode cJ2_checkIndex_2214a 8 = .ok (.return_, 1) := by decide +kernel
theorem dJ2_checkBoundsBeginEnd_d044e_0 : decode cJ2_checkBoundsBeginEnd_d044e 0 = .ok (.iload_n 0, 1) := by decide +kernel
theorem dJ2_checkBoundsBeginEnd_d044e_1 : decode cJ2_checkBoundsBeginEnd_d044e 1 = .ok (.iload_n 1, 1) := by decide +kernel
theorem dJ2_checkBoundsBeginEnd_d044e_2 : decode cJ2_checkBoundsBeginEnd_d044e 2 = .ok (.aload_n 2, 1) := by decide +kernel
theorem dJ2_checkBoundsBeginEnd_d044e_3 : decode cJ2_checkBoundsBeginEnd_d044e 3 = .ok (.invokestatic 48, 3) := by decide +kernel
theorem dJ2_checkBoundsBeginEnd_d044e_6 : decode cJ2_checkBoundsBeginEnd_d044e 6 = .ok (.invokestatic 241, 3) := by decide +kernel
theorem dJ2_checkBoundsBeginEnd_d044e_9 : decode cJ2_checkBoundsBeginEnd_d044e 9 = .ok (.return_, 1) := by decide +kernel
theorem dJ2_checkBoundsOffCount_d044e_0 : decode cJ2_checkBoundsOffCount_d044e 0 = .ok (.iload_n 0, 1) := by decide +kernel
theorem dJ2_checkBoundsOffCount_d044e_1 : decode cJ2_checkBoundsOffCount_d044e 1 = .ok (.iload_n 1, 1) := by decide +kernel
theorem dJ2_checkBoundsOffCount_d044e_2 : decode cJ2_checkBoundsOffCount_d044e 2 = .ok (.aload_n 2, 1) := by decide +kernel
theorem dJ2_checkBoundsOffCount_d044e_3 : decode cJ2_checkBoundsOffCount_d044e 3 = .ok (.invokestatic 48, 3) := by decide +kernel
theorem dJ2_checkBoundsOffCount_d044e_6 : decode cJ2_checkBoundsOffCount_d044e 6 = .ok (.invokestatic 419, 3) := by decide +kernel
theorem dJ2_checkBoundsOffCount_d044e_9 : decode cJ2_checkBoundsOffCount_d044e 9 = .ok (.pop, 1) := by decide +kernel
theorem dJ2_checkBoundsOffCount_d044e_10 : decode cJ2_checkBoundsOffCount_d044e 10 = .ok (.return_, 1) := by decide +kernel
theorem dJ7_copyOf_9075b_0 : decode cJ7_copyOf_9075b 0 = .ok (.iload_n 1, 1) := by decide +kernel
theorem dJ7_copyOf_9075b_1 : decode cJ7_copyOf_9075b 1 = .ok (.aload_n 0, 1) := by decide +kernel
theorem dJ7_copyOf_9075b_2 : decode cJ7_copyOf_9075b 2 = .ok (.arraylength, 1) := by decide +kernel
theorem dJ7_copyOf_9075b_3 : decode cJ7_copyOf_9075b 3 = .ok (.if_icmp .ne 11, 3) := by decide +kernel
theorem dJ7_copyOf_9075b_6 : decode cJ7_copyOf_9075b 6 = .ok (.aload_n 0, 1) := by decide +kernel
theorem dJ7_copyOf_9075b_7 : decode cJ7_copyOf_9075b 7 = .ok (.invokevirtual 310, 3) := by decide +kernel
theorem dJ7_copyOf_9075b_10 : decode cJ7_copyOf_9075b 10 = .ok (.checkcast 311, 3) := by decide +kernel
theorem dJ7_copyOf_9075b_13 : decode cJ7_copyOf_9075b 13 = .ok (.areturn, 1) := by decide +kernel
theorem dJ7_copyOf_9075b_14 : decode cJ7_copyOf_9075b 14 = .ok (.iload_n 1, 1) := by decide +kernel
theorem dJ7_copyOf_9075b_15 : decode cJ7_copyOf_9075b 15 = .ok (.newarray .byte, 2) := by decide +kernel
theorem dJ7_copyOf_9075b_17 : decode cJ7_copyOf_9075b 17 = .ok (.astore_n 2, 1) := by decide +kernel
theorem dJ7_copyOf_9075b_18 : decode cJ7_copyOf_9075b 18 = .ok (.aload_n 0, 1) := by decide +kernel
theorem dJ7_copyOf_9075b_19 : decode cJ7_copyOf_9075b 19 = .ok (.iconst 0, 1) := by decide +kernel
theorem dJ7_copyOf_9075b_20 : decode cJ7_copyOf_9075b 20 = .ok (.aload_n 2, 1) := by decide +kernel
theorem dJ7_copyOf_9075b_21 : decode cJ7_copyOf_9075b 21 = .ok (.iconst 0, 1) := by decide +kernel
theorem dJ7_copyOf_9075b_22 : decode cJ7_copyOf_9075b 22 = .ok (.aload_n 0, 1) := by decide +kernel
theorem dJ7_copyOf_9075b_23 : decode cJ7_copyOf_9075b 23 = .ok (.arraylength, 1) := by decide +kernel
theorem dJ7_copyOf_9075b_24 : decode cJ7_copyOf_9075b 24 = .ok (.iload_n 1, 1) := by decide +kernel
theorem dJ7_copyOf_9075b_25 : decode cJ7_copyOf_9075b 25 = .ok (.invokestatic 304, 3) := by decide +kernel
theorem dJ7_copyOf_9075b_28 : decode cJ7_copyOf_9075b 28 = .ok (.invokestatic 150, 3) := by decide +kernel
theorem dJ7_copyOf_9075b_31 : decode cJ7_copyOf_9075b 31 = .ok (.aload_n 2, 1) := by decide +kernel
theorem dJ7_copyOf_9075b_32 : decode cJ7_copyOf_9075b 32 = .ok (.areturn, 1) := by decide +kernel
theorem dJ7_checkLength_df160_0 : decode cJ7_checkLength_df160 0 = .ok (.iload_n 1, 1) := by decide +kernel
theorem dJ7_checkLength_df160_1 : decode cJ7_checkLength_df160 1 = .ok (.iload_n 0, 1) := by decide +kernel
theorem dJ7_checkLength_df160_2 : decode cJ7_checkLength_df160 2 = .ok (.if_icmp .ge 35, 3) := by decide +kernel
theorem dJ7_checkLength_df160_5 : decode cJ7_checkLength_df160 5 = .ok (.new 43, 3) := by decide +kernel
theorem dJ7_checkLength_df160_8 : decode cJ7_checkLength_df160 8 = .ok (.dup, 1) := by decide +kernel
theorem dJ7_checkLength_df160_9 : decode cJ7_checkLength_df160 9 = .ok (.new 45, 3) := by decide +kernel
theorem dJ7_checkLength_df160_12 : decode cJ7_checkLength_df160 12 = .ok (.dup, 1) := by decide +kernel
theorem dJ7_checkLength_df160_13 : decode cJ7_checkLength_df160 13 = .ok (.invokespecial 47, 3) := by decide +kernel
theorem dJ7_checkLength_df160_16 : decode cJ7_checkLength_df160 16 = .ok (.iload_n 0, 1) := by decide +kernel
theorem dJ7_checkLength_df160_17 : decode cJ7_checkLength_df160 17 = .ok (.invokevirtual 54, 3) := by decide +kernel
theorem dJ7_checkLength_df160_20 : decode cJ7_checkLength_df160 20 = .ok (.ldc_w 337, 3) := by decide +kernel
theorem dJ7_checkLength_df160_23 : decode cJ7_checkLength_df160 23 = .ok (.invokevirtual 50, 3) := by decide +kernel
theorem dJ7_checkLength_df160_26 : decode cJ7_checkLength_df160 26 = .ok (.iload_n 1, 1) := by decide +kernel
theorem dJ7_checkLength_df160_27 : decode cJ7_checkLength_df160 27 = .ok (.invokevirtual 54, 3) := by decide +kernel
theorem dJ7_checkLength_df160_30 : decode cJ7_checkLength_df160 30 = .ok (.invokevirtual 61, 3) := by decide +kernel
theorem dJ7_checkLength_df160_33 : decode cJ7_checkLength_df160 33 = .ok (.invokespecial 65, 3) := by decide +kernel
theorem dJ7_checkLength_df160_36 : decode cJ7_checkLength_df160 36 = .ok (.athrow, 1) := by decide +kernel
theorem dJ7_checkLength_df160_37 : decode cJ7_checkLength_df160 37 = .ok (.return_, 1) := by decide +kernel
theorem dJ7_copyOfRange_39247_0 : decode cJ7_copyOfRange_39247 0 = .ok (.iload_n 1, 1) := by decide +kernel
theorem dJ7_copyOfRange_39247_1 : decode cJ7_copyOfRange_39247 1 = .ok (.ifCond .ne 9, 3) := by decide +kernel
theorem dJ7_copyOfRange_39247_4 : decode cJ7_copyOfRange_39247 4 = .ok (.iload_n 2, 1) := by decide +kernel
theorem dJ7_copyOfRange_39247_5 : decode cJ7_copyOfRange_39247 5 = .ok (.aload_n 0, 1) := by decide +kernel
theorem dJ7_copyOfRange_39247_6 : decode cJ7_copyOfRange_39247 6 = .ok (.arraylength, 1) := by decide +kernel
theorem dJ7_copyOfRange_39247_7 : decode cJ7_copyOfRange_39247 7 = .ok (.if_icmp .eq 10, 3) := by decide +kernel
theorem dJ7_copyOfRange_39247_10 : decode cJ7_copyOfRange_39247 10 = .ok (.aload_n 0, 1) := by decide +kernel
theorem dJ7_copyOfRange_39247_11 : decode cJ7_copyOfRange_39247 11 = .ok (.iload_n 1, 1) := by decide +kernel
theorem dJ7_copyOfRange_39247_12 : decode cJ7_copyOfRange_39247 12 = .ok (.iload_n 2, 1) := by decide +kernel
theorem dJ7_copyOfRange_39247_13 : decode cJ7_copyOfRange_39247 13 = .ok (.invokestatic 339, 3) := by decide +kernel
theorem dJ7_copyOfRange_39247_16 : decode cJ7_copyOfRange_39247 16 = .ok (.areturn, 1) := by decide +kernel
theorem dJ7_copyOfRange_39247_17 : decode cJ7_copyOfRange_39247 17 = .ok (.aload_n 0, 1) := by decide +kernel
theorem dJ7_copyOfRange_39247_18 : decode cJ7_copyOfRange_39247 18 = .ok (.invokevirtual 310, 3) := by decide +kernel
theorem dJ7_copyOfRange_39247_21 : decode cJ7_copyOfRange_39247 21 = .ok (.checkcast 311, 3) := by decide +kernel
theorem dJ7_copyOfRange_39247_24 : decode cJ7_copyOfRange_39247 24 = .ok (.areturn, 1) := by decide +kernel
theorem dJ7_copyOfRangeByte_39247_0 : decode cJ7_copyOfRangeByte_39247 0 = .ok (.iload_n 1, 1) := by decide +kernel
theorem dJ7_copyOfRangeByte_39247_1 : decode cJ7_copyOfRangeByte_39247 1 = .ok (.iload_n 2, 1) := by decide +kernel
theorem dJ7_copyOfRangeByte_39247_2 : decode cJ7_copyOfRangeByte_39247 2 = .ok (.invokestatic 343, 3) := by decide +kernel
theorem dJ7_copyOfRangeByte_39247_5 : decode cJ7_copyOfRangeByte_39247 5 = .ok (.iload_n 2, 1) := by decide +kernel
theorem dJ7_copyOfRangeByte_39247_6 : decode cJ7_copyOfRangeByte_39247 6 = .ok (.iload_n 1, 1) := by decide +kernel
theorem dJ7_copyOfRangeByte_39247_7 : decode cJ7_copyOfRangeByte_39247 7 = .ok (.isub, 1) := by decide +kernel
theorem dJ7_copyOfRangeByte_39247_8 : decode cJ7_copyOfRangeByte_39247 8 = .ok (.istore_n 3, 1) := by decide +kernel
theorem dJ7_copyOfRangeByte_39247_9 : decode cJ7_copyOfRangeByte_39247 9 = .ok (.iload_n 3, 1) := by decide +kernel
theorem dJ7_copyOfRangeByte_39247_10 : decode cJ7_copyOfRangeByte_39247 10 = .ok (.newarray .byte, 2) := by decide +kernel
theorem dJ7_copyOfRangeByte_39247_12 : decode cJ7_copyOfRangeByte_39247 12 = .ok (.astore 4, 2) := by decide +kernel
theorem dJ7_copyOfRangeByte_39247_14 : decode cJ7_copyOfRangeByte_39247 14 = .ok (.aload_n 0, 1) := by decide +kernel
theorem dJ7_copyOfRangeByte_39247_15 : decode cJ7_copyOfRangeByte_39247 15 = .ok (.iload_n 1, 1) := by decide +kernel
theorem dJ7_copyOfRangeByte_39247_16 : decode cJ7_copyOfRangeByte_39247 16 = .ok (.aload 4, 2) := by decide +kernel
theorem dJ7_copyOfRangeByte_39247_18 : decode cJ7_copyOfRangeByte_39247 18 = .ok (.iconst 0, 1) := by decide +kernel
theorem dJ7_copyOfRangeByte_39247_19 : decode cJ7_copyOfRangeByte_39247 19 = .ok (.aload_n 0, 1) := by decide +kernel
theorem dJ7_copyOfRangeByte_39247_20 : decode cJ7_copyOfRangeByte_39247 20 = .ok (.arraylength, 1) := by decide +kernel
theorem dJ7_copyOfRangeByte_39247_21 : decode cJ7_copyOfRangeByte_39247 21 = .ok (.iload_n 1, 1) := by decide +kernel
theorem dJ7_copyOfRangeByte_39247_22 : decode cJ7_copyOfRangeByte_39247 22 = .ok (.isub, 1) := by decide +kernel
theorem dJ7_copyOfRangeByte_39247_23 : decode cJ7_copyOfRangeByte_39247 23 = .ok (.iload_n 3, 1) := by decide +kernel
theorem dJ7_copyOfRangeByte_39247_24 : decode cJ7_copyOfRangeByte_39247 24 = .ok (.invokestatic 304, 3) := by decide +kernel
theorem dJ7_copyOfRangeByte_39247_27 : decode cJ7_copyOfRangeByte_39247 27 = .ok (.invokestatic 150, 3) := by decide +kernel
theorem dJ7_copyOfRangeByte_39247_30 : decode cJ7_copyOfRangeByte_39247 30 = .ok (.aload 4, 2) := by decide +kernel
theorem dJ7_copyOfRangeByte_39247_32 : decode cJ7_copyOfRangeByte_39247 32 = .ok (.areturn, 1) := by decide +kernel
theorem dJ8_newLength_cabcc_0 : decode cJ8_newLength_cabcc 0 = .ok (.iload_n 0, 1) := by decide +kernel
theorem dJ8_newLength_cabcc_1 : decode cJ8_newLength_cabcc 1 = .ok (.iload_n 1, 1) := by decide +kernel
theorem dJ8_newLength_cabcc_2 : decode cJ8_newLength_cabcc 2 = .ok (.iload_n 2, 1) := by decide +kernel
theorem dJ8_newLength_cabcc_3 : decode cJ8_newLength_cabcc 3 = .ok (.invokestatic 194, 3) := by decide +kernel
theorem dJ8_newLength_cabcc_6 : decode cJ8_newLength_cabcc 6 = .ok (.iadd, 1) := by decide +kernel
theorem dJ8_newLength_cabcc_7 : decode cJ8_newLength_cabcc 7 = .ok (.istore_n 3, 1) := by decide +kernel
theorem dJ8_newLength_cabcc_8 : decode cJ8_newLength_cabcc 8 = .ok (.iconst 0, 1) := by decide +kernel
theorem dJ8_newLength_cabcc_9 : decode cJ8_newLength_cabcc 9 = .ok (.iload_n 3, 1) := by decide +kernel
theorem dJ8_newLength_cabcc_10 : decode cJ8_newLength_cabcc 10 = .ok (.if_icmp .ge 11, 3) := by decide +kernel
theorem dJ8_newLength_cabcc_13 : decode cJ8_newLength_cabcc 13 = .ok (.iload_n 3, 1) := by decide +kernel
theorem dJ8_newLength_cabcc_14 : decode cJ8_newLength_cabcc 14 = .ok (.ldc 200, 2) := by decide +kernel
theorem dJ8_newLength_cabcc_16 : decode cJ8_newLength_cabcc 16 = .ok (.if_icmp .gt 5, 3) := by decide +kernel
theorem dJ8_newLength_cabcc_19 : decode cJ8_newLength_cabcc 19 = .ok (.iload_n 3, 1) := by decide +kernel
theorem dJ8_newLength_cabcc_20 : decode cJ8_newLength_cabcc 20 = .ok (.ireturn, 1) := by decide +kernel
theorem dJ8_newLength_cabcc_21 : decode cJ8_newLength_cabcc 21 = .ok (.iload_n 0, 1) := by decide +kernel
theorem dJ8_newLength_cabcc_22 : decode cJ8_newLength_cabcc 22 = .ok (.iload_n 1, 1) := by decide +kernel
theorem dJ8_newLength_cabcc_23 : decode cJ8_newLength_cabcc 23 = .ok (.invokestatic 201, 3) := by decide +kernel
theorem dJ8_newLength_cabcc_26 : decode cJ8_newLength_cabcc 26 = .ok (.ireturn, 1) := by decide +kernel
theorem dJ8_hugeLength_7cf53_0 : decode cJ8_hugeLength_7cf53 0 = .ok (.iload_n 0, 1) := by decide +kernel
theorem dJ8_hugeLength_7cf53_1 : decode cJ8_hugeLength_7cf53 1 = .ok (.iload_n 1, 1) := by decide +kernel
theorem dJ8_hugeLength_7cf53_2 : decode cJ8_hugeLength_7cf53 2 = .ok (.iadd, 1) := by decide +kernel
theorem dJ8_hugeLength_7cf53_3 : decode cJ8_hugeLength_7cf53 3 = .ok (.istore_n 2, 1) := by decide +kernel
theorem dJ8_hugeLength_7cf53_4 : decode cJ8_hugeLength_7cf53 4 = .ok (.iload_n 2, 1) := by decide +kernel
theorem dJ8_hugeLength_7cf53_5 : decode cJ8_hugeLength_7cf53 5 = .ok (.ifCond .ge 44, 3) := by decide +kernel
theorem dJ8_hugeLength_7cf53_8 : decode cJ8_hugeLength_7cf53 8 = .ok (.new 204, 3) := by decide +kernel
theorem dJ8_hugeLength_7cf53_11 : decode cJ8_hugeLength_7cf53 11 = .ok (.dup, 1) := by decide +kernel
theorem dJ8_hugeLength_7cf53_12 : decode cJ8_hugeLength_7cf53 12 = .ok (.new 89, 3) := by decide +kernel
theorem dJ8_hugeLength_7cf53_15 : decode cJ8_hugeLength_7cf53 15 = .ok (.dup, 1) := by decide +kernel
theorem dJ8_hugeLength_7cf53_16 : decode cJ8_hugeLength_7cf53 16 = .ok (.invokespecial 91, 3) := by decide +kernel
theorem dJ8_hugeLength_7cf53_19 : decode cJ8_hugeLength_7cf53 19 = .ok (.ldc 206, 2) := by decide +kernel
theorem dJ8_hugeLength_7cf53_21 : decode cJ8_hugeLength_7cf53 21 = .ok (.invokevirtual 94, 3) := by decide +kernel
theorem dJ8_hugeLength_7cf53_24 : decode cJ8_hugeLength_7cf53 24 = .ok (.iload_n 0, 1) := by decide +kernel
theorem dJ8_hugeLength_7cf53_25 : decode cJ8_hugeLength_7cf53 25 = .ok (.invokevirtual 98, 3) := by decide +kernel
theorem dJ8_hugeLength_7cf53_28 : decode cJ8_hugeLength_7cf53 28 = .ok (.ldc 208, 2) := by decide +kernel
theorem dJ8_hugeLength_7cf53_30 : decode cJ8_hugeLength_7cf53 30 = .ok (.invokevirtual 94, 3) := by decide +kernel
theorem dJ8_hugeLength_7cf53_33 : decode cJ8_hugeLength_7cf53 33 = .ok (.iload_n 1, 1) := by decide +kernel
theorem dJ8_hugeLength_7cf53_34 : decode cJ8_hugeLength_7cf53 34 = .ok (.invokevirtual 98, 3) := by decide +kernel
theorem dJ8_hugeLength_7cf53_37 : decode cJ8_hugeLength_7cf53 37 = .ok (.ldc 210, 2) := by decide +kernel
theorem dJ8_hugeLength_7cf53_39 : decode cJ8_hugeLength_7cf53 39 = .ok (.invokevirtual 94, 3) := by decide +kernel
theorem dJ8_hugeLength_7cf53_42 : decode cJ8_hugeLength_7cf53 42 = .ok (.invokevirtual 101, 3) := by decide +kernel
theorem dJ8_hugeLength_7cf53_45 : decode cJ8_hugeLength_7cf53 45 = .ok (.invokespecial 212, 3) := by decide +kernel
theorem dJ8_hugeLength_7cf53_48 : decode cJ8_hugeLength_7cf53 48 = .ok (.athrow, 1) := by decide +kernel
theorem dJ8_hugeLength_7cf53_49 : decode cJ8_hugeLength_7cf53 49 = .ok (.iload_n 2, 1) := by decide +kernel
theorem dJ8_hugeLength_7cf53_50 : decode cJ8_hugeLength_7cf53 50 = .ok (.ldc 200, 2) := by decide +kernel
theorem dJ8_hugeLength_7cf53_52 : decode cJ8_hugeLength_7cf53 52 = .ok (.if_icmp .gt 6, 3) := by decide +kernel
theorem dJ8_hugeLength_7cf53_55 : decode cJ8_hugeLength_7cf53 55 = .ok (.ldc 200, 2) := by decide +kernel
theorem dJ8_hugeLength_7cf53_57 : decode cJ8_hugeLength_7cf53 57 = .ok (.ireturn, 1) := by decide +kernel
theorem dJ8_hugeLength_7cf53_58 : decode cJ8_hugeLength_7cf53 58 = .ok (.iload_n 2, 1) := by decide +kernel
theorem dJ8_hugeLength_7cf53_59 : decode cJ8_hugeLength_7cf53 59 = .ok (.ireturn, 1) := by decide +kernel
theorem dJ3_checkIndex_8e157_0 : decode cJ3_checkIndex_8e157 0 = .ok (.iload_n 0, 1) := by decide +kernel
theorem dJ3_checkIndex_8e157_1 : decode cJ3_checkIndex_8e157 1 = .ok (.ifCond .lt 8, 3) := by decide +kernel
theorem dJ3_checkIndex_8e157_4 : decode cJ3_checkIndex_8e157 4 = .ok (.iload_n 0, 1) := by decide +kernel
theorem dJ3_checkIndex_8e157_5 : decode cJ3_checkIndex_8e157 5 = .ok (.iload_n 1, 1) := by decide +kernel
theorem dJ3_checkIndex_8e157_6 : decode cJ3_checkIndex_8e157 6 = .ok (.if_icmp .lt 10, 3) := by decide +kernel
theorem dJ3_checkIndex_8e157_9 : decode cJ3_checkIndex_8e157 9 = .ok (.aload_n 2, 1) := by decide +kernel
theorem dJ3_checkIndex_8e157_10 : decode cJ3_checkIndex_8e157 10 = .ok (.iload_n 0, 1) := by decide +kernel
theorem dJ3_checkIndex_8e157_11 : decode cJ3_checkIndex_8e157 11 = .ok (.iload_n 1, 1) := by decide +kernel
theorem dJ3_checkIndex_8e157_12 : decode cJ3_checkIndex_8e157 12 = .ok (.invokestatic 95, 3) := by decide +kernel
theorem dJ3_checkIndex_8e157_15 : decode cJ3_checkIndex_8e157 15 = .ok (.athrow, 1) := by decide +kernel
theorem dJ3_checkIndex_8e157_16 : decode cJ3_checkIndex_8e157 16 = .ok (.iload_n 0, 1) := by decide +kernel
theorem dJ3_checkIndex_8e157_17 : decode cJ3_checkIndex_8e157 17 = .ok (.ireturn, 1) := by decide +kernel
theorem dJ3_checkFromToIndex_8c36e_0 : decode cJ3_checkFromToIndex_8c36e 0 = .ok (.iload_n 0, 1) := by decide +kernel
theorem dJ3_checkFromToIndex_8c36e_1 : decode cJ3_checkFromToIndex_8c36e 1 = .ok (.ifCond .lt 13, 3) := by decide +kernel
theorem dJ3_checkFromToIndex_8c36e_4 : decode cJ3_checkFromToIndex_8c36e 4 = .ok (.iload_n 0, 1) := by decide +kernel
theorem dJ3_checkFromToIndex_8c36e_5 : decode cJ3_checkFromToIndex_8c36e 5 = .ok (.iload_n 1, 1) := by decide +kernel
theorem dJ3_checkFromToIndex_8c36e_6 : decode cJ3_checkFromToIndex_8c36e 6 = .ok (.if_icmp .gt 8, 3) := by decide +kernel
theorem dJ3_checkFromToIndex_8c36e_9 : decode cJ3_checkFromToIndex_8c36e 9 = .ok (.iload_n 1, 1) := by decide +kernel
theorem dJ3_checkFromToIndex_8c36e_10 : decode cJ3_checkFromToIndex_8c36e 10 = .ok (.iload_n 2, 1) := by decide +kernel
theorem dJ3_checkFromToIndex_8c36e_11 : decode cJ3_checkFromToIndex_8c36e 11 = .ok (.if_icmp .le 11, 3) := by decide +kernel
theorem dJ3_checkFromToIndex_8c36e_14 : decode cJ3_checkFromToIndex_8c36e 14 = .ok (.aload_n 3, 1) := by decide +kernel
theorem dJ3_checkFromToIndex_8c36e_15 : decode cJ3_checkFromToIndex_8c36e 15 = .ok (.iload_n 0, 1) := by decide +kernel
theorem dJ3_checkFromToIndex_8c36e_16 : decode cJ3_checkFromToIndex_8c36e 16 = .ok (.iload_n 1, 1) := by decide +kernel
theorem dJ3_checkFromToIndex_8c36e_17 : decode cJ3_checkFromToIndex_8c36e 17 = .ok (.iload_n 2, 1) := by decide +kernel
theorem dJ3_checkFromToIndex_8c36e_18 : decode cJ3_checkFromToIndex_8c36e 18 = .ok (.invokestatic 99, 3) := by decide +kernel
theorem dJ3_checkFromToIndex_8c36e_21 : decode cJ3_checkFromToIndex_8c36e 21 = .ok (.athrow, 1) := by decide +kernel
theorem dJ3_checkFromToIndex_8c36e_22 : decode cJ3_checkFromToIndex_8c36e 22 = .ok (.iload_n 0, 1) := by decide +kernel
theorem dJ3_checkFromToIndex_8c36e_23 : decode cJ3_checkFromToIndex_8c36e 23 = .ok (.ireturn, 1) := by decide +kernel
theorem dJ3_checkFromIndexSize_8c36e_0 : decode cJ3_checkFromIndexSize_8c36e 0 = .ok (.iload_n 2, 1) := by decide +kernel
theorem dJ3_checkFromIndexSize_8c36e_1 : decode cJ3_checkFromIndexSize_8c36e 1 = .ok (.iload_n 0, 1) := by decide +kernel
theorem dJ3_checkFromIndexSize_8c36e_2 : decode cJ3_checkFromIndexSize_8c36e 2 = .ok (.ior, 1) := by decide +kernel
theorem dJ3_checkFromIndexSize_8c36e_3 : decode cJ3_checkFromIndexSize_8c36e 3 = .ok (.iload_n 1, 1) := by decide +kernel
theorem dJ3_checkFromIndexSize_8c36e_4 : decode cJ3_checkFromIndexSize_8c36e 4 = .ok (.ior, 1) := by decide +kernel
theorem dJ3_checkFromIndexSize_8c36e_5 : decode cJ3_checkFromIndexSize_8c36e 5 = .ok (.ifCond .lt 10, 3) := by decide +kernel
theorem dJ3_checkFromIndexSize_8c36e_8 : decode cJ3_checkFromIndexSize_8c36e 8 = .ok (.iload_n 1, 1) := by decide +kernel
theorem dJ3_checkFromIndexSize_8c36e_9 : decode cJ3_checkFromIndexSize_8c36e 9 = .ok (.iload_n 2, 1) := by decide +kernel
theorem dJ3_checkFromIndexSize_8c36e_10 : decode cJ3_checkFromIndexSize_8c36e 10 = .ok (.iload_n 0, 1) := by decide +kernel
theorem dJ3_checkFromIndexSize_8c36e_11 : decode cJ3_checkFromIndexSize_8c36e 11 = .ok (.isub, 1) := by decide +kernel
theorem dJ3_checkFromIndexSize_8c36e_12 : decode cJ3_checkFromIndexSize_8c36e 12 = .ok (.if_icmp .le 11, 3) := by decide +kernel
theorem dJ3_checkFromIndexSize_8c36e_15 : decode cJ3_checkFromIndexSize_8c36e 15 = .ok (.aload_n 3, 1) := by decide +kernel
theorem dJ3_checkFromIndexSize_8c36e_16 : decode cJ3_checkFromIndexSize_8c36e 16 = .ok (.iload_n 0, 1) := by decide +kernel
theorem dJ3_checkFromIndexSize_8c36e_17 : decode cJ3_checkFromIndexSize_8c36e 17 = .ok (.iload_n 1, 1) := by decide +kernel
theorem dJ3_checkFromIndexSize_8c36e_18 : decode cJ3_checkFromIndexSize_8c36e 18 = .ok (.iload_n 2, 1) := by decide +kernel
theorem dJ3_checkFromIndexSize_8c36e_19 : decode cJ3_checkFromIndexSize_8c36e 19 = .ok (.invokestatic 103, 3) := by decide +kernel
theorem dJ3_checkFromIndexSize_8c36e_22 : decode cJ3_checkFromIndexSize_8c36e 22 = .ok (.athrow, 1) := by decide +kernel
theorem dJ3_checkFromIndexSize_8c36e_23 : decode cJ3_checkFromIndexSize_8c36e 23 = .ok (.iload_n 0, 1) := by decide +kernel
theorem dJ3_checkFromIndexSize_8c36e_24 : decode cJ3_checkFromIndexSize_8c36e 24 = .ok (.ireturn, 1) := by decide +kernel
theorem dL_below_0 : decode cL_below 0 = .ok (.iload_n 0, 1) := by decide +kernel
theorem dL_below_1 : decode cL_below 1 = .ok (.ldc 7, 2) := by decide +kernel
theorem dL_below_3 : decode cL_below 3 = .ok (.iand, 1) := by decide +kernel
theorem dL_below_4 : decode cL_below 4 = .ok (.iload_n 1, 1) := by decide +kernel
theorem dL_below_5 : decode cL_below 5 = .ok (.irem, 1) := by decide +kernel
theorem dL_below_6 : decode cL_below 6 = .ok (.ireturn, 1) := by decide +kernel
theorem dL_cell_0 : decode cL_cell 0 = .ok (.iload_n 1, 1) := by decide +kernel
theorem dL_cell_1 : decode cL_cell 1 = .ok (.aload_n 0, 1) := by decide +kernel
theorem dL_cell_2 : decode cL_cell 2 = .ok (.arraylength, 1) := by decide +kernel
theorem dL_cell_3 : decode cL_cell 3 = .ok (.if_icmp .ge 9, 3) := by decide +kernel
theorem dL_cell_6 : decode cL_cell 6 = .ok (.aload_n 0, 1) := by decide +kernel
theorem dL_cell_7 : decode cL_cell 7 = .ok (.iload_n 1, 1) := by decide +kernel
theorem dL_cell_8 : decode cL_cell 8 = .ok (.iaload, 1) := by decide +kernel
theorem dL_cell_9 : decode cL_cell 9 = .ok (.goto 9, 3) := by decide +kernel
theorem dL_cell_12 : decode cL_cell 12 = .ok (.ldc 8, 2) := by decide +kernel
theorem dL_cell_14 : decode cL_cell 14 = .ok (.iload_n 1, 1) := by decide +kernel
theorem dL_cell_15 : decode cL_cell 15 = .ok (.iconst 3, 1) := by decide +kernel
theorem dL_cell_16 : decode cL_cell 16 = .ok (.iadd, 1) := by decide +kernel
theorem dL_cell_17 : decode cL_cell 17 = .ok (.imul, 1) := by decide +kernel
theorem dL_cell_18 : decode cL_cell 18 = .ok (.ireturn, 1) := by decide +kernel
theorem dL_taught_0 : decode cL_taught 0 = .ok (.iconst 5, 1) := by decide +kernel
theorem dL_taught_1 : decode cL_taught 1 = .ok (.newarray .int, 2) := by decide +kernel
theorem dL_taught_3 : decode cL_taught 3 = .ok (.astore_n 2, 1) := by decide +kernel
theorem dL_taught_4 : decode cL_taught 4 = .ok (.aload_n 0, 1) := by decide +kernel
theorem dL_taught_5 : decode cL_taught 5 = .ok (.iconst 0, 1) := by decide +kernel
theorem dL_taught_6 : decode cL_taught 6 = .ok (.invokevirtual 9, 3) := by decide +kernel
theorem dL_taught_9 : decode cL_taught 9 = .ok (.pop, 1) := by decide +kernel
theorem dL_taught_10 : decode cL_taught 10 = .ok (.iconst 0, 1) := by decide +kernel
theorem dL_taught_11 : decode cL_taught 11 = .ok (.istore_n 3, 1) := by decide +kernel
theorem dL_taught_12 : decode cL_taught 12 = .ok (.iload_n 3, 1) := by decide +kernel
theorem dL_taught_13 : decode cL_taught 13 = .ok (.aload_n 1, 1) := by decide +kernel
theorem dL_taught_14 : decode cL_taught 14 = .ok (.invokevirtual 15, 3) := by decide +kernel
theorem dL_taught_17 : decode cL_taught 17 = .ok (.if_icmp .ge 85, 3) := by decide +kernel
theorem dL_taught_20 : decode cL_taught 20 = .ok (.iconst 0, 1) := by decide +kernel
theorem dL_taught_21 : decode cL_taught 21 = .ok (.istore 4, 2) := by decide +kernel
theorem dL_taught_23 : decode cL_taught 23 = .ok (.iload 4, 2) := by decide +kernel
theorem dL_taught_25 : decode cL_taught 25 = .ok (.bipush 20, 2) := by decide +kernel
theorem dL_taught_27 : decode cL_taught 27 = .ok (.if_icmp .ge 49, 3) := by decide +kernel
theorem dL_taught_30 : decode cL_taught 30 = .ok (.aload_n 2, 1) := by decide +kernel
theorem dL_taught_31 : decode cL_taught 31 = .ok (.iload 4, 2) := by decide +kernel
theorem dL_taught_33 : decode cL_taught 33 = .ok (.iconst 4, 1) := by decide +kernel
theorem dL_taught_34 : decode cL_taught 34 = .ok (.idiv, 1) := by decide +kernel
theorem dL_taught_35 : decode cL_taught 35 = .ok (.aload_n 2, 1) := by decide +kernel
theorem dL_taught_36 : decode cL_taught 36 = .ok (.iload 4, 2) := by decide +kernel
theorem dL_taught_38 : decode cL_taught 38 = .ok (.iconst 4, 1) := by decide +kernel
theorem dL_taught_39 : decode cL_taught 39 = .ok (.idiv, 1) := by decide +kernel
theorem dL_taught_40 : decode cL_taught 40 = .ok (.iaload, 1) := by decide +kernel
theorem dL_taught_41 : decode cL_taught 41 = .ok (.bipush 8, 2) := by decide +kernel
theorem dL_taught_43 : decode cL_taught 43 = .ok (.ishl, 1) := by decide +kernel
theorem dL_taught_44 : decode cL_taught 44 = .ok (.iload_n 3, 1) := by decide +kernel
theorem dL_taught_45 : decode cL_taught 45 = .ok (.iload 4, 2) := by decide +kernel
theorem dL_taught_47 : decode cL_taught 47 = .ok (.iadd, 1) := by decide +kernel
theorem dL_taught_48 : decode cL_taught 48 = .ok (.aload_n 1, 1) := by decide +kernel
theorem dL_taught_49 : decode cL_taught 49 = .ok (.invokevirtual 15, 3) := by decide +kernel
theorem dL_taught_52 : decode cL_taught 52 = .ok (.if_icmp .ge 14, 3) := by decide +kernel
theorem dL_taught_55 : decode cL_taught 55 = .ok (.aload_n 1, 1) := by decide +kernel
theorem dL_taught_56 : decode cL_taught 56 = .ok (.iload_n 3, 1) := by decide +kernel
theorem dL_taught_57 : decode cL_taught 57 = .ok (.iload 4, 2) := by decide +kernel
theorem dL_taught_59 : decode cL_taught 59 = .ok (.iadd, 1) := by decide +kernel
theorem dL_taught_60 : decode cL_taught 60 = .ok (.invokevirtual 21, 3) := by decide +kernel
theorem dL_taught_63 : decode cL_taught 63 = .ok (.goto 5, 3) := by decide +kernel
theorem dL_taught_66 : decode cL_taught 66 = .ok (.bipush 32, 2) := by decide +kernel
theorem dL_taught_68 : decode cL_taught 68 = .ok (.ior, 1) := by decide +kernel
theorem dL_taught_69 : decode cL_taught 69 = .ok (.iastore, 1) := by decide +kernel
theorem dL_taught_70 : decode cL_taught 70 = .ok (.iinc 4 1, 3) := by decide +kernel
theorem dL_taught_73 : decode cL_taught 73 = .ok (.goto (-50), 3) := by decide +kernel
theorem dL_taught_76 : decode cL_taught 76 = .ok (.aload_n 0, 1) := by decide +kernel
theorem dL_taught_77 : decode cL_taught 77 = .ok (.aload_n 2, 1) := by decide +kernel
theorem dL_taught_78 : decode cL_taught 78 = .ok (.iconst 0, 1) := by decide +kernel
theorem dL_taught_79 : decode cL_taught 79 = .ok (.iaload, 1) := by decide +kernel
theorem dL_taught_80 : decode cL_taught 80 = .ok (.aload_n 2, 1) := by decide +kernel
theorem dL_taught_81 : decode cL_taught 81 = .ok (.iconst 1, 1) := by decide +kernel
theorem dL_taught_82 : decode cL_taught 82 = .ok (.iaload, 1) := by decide +kernel
theorem dL_taught_83 : decode cL_taught 83 = .ok (.aload_n 2, 1) := by decide +kernel
theorem dL_taught_84 : decode cL_taught 84 = .ok (.iconst 2, 1) := by decide +kernel
theorem dL_taught_85 : decode cL_taught 85 = .ok (.iaload, 1) := by decide +kernel
theorem dL_taught_86 : decode cL_taught 86 = .ok (.aload_n 2, 1) := by decide +kernel
theorem dL_taught_87 : decode cL_taught 87 = .ok (.iconst 3, 1) := by decide +kernel
theorem dL_taught_88 : decode cL_taught 88 = .ok (.iaload, 1) := by decide +kernel
theorem dL_taught_89 : decode cL_taught 89 = .ok (.aload_n 2, 1) := by decide +kernel
theorem dL_taught_90 : decode cL_taught 90 = .ok (.iconst 4, 1) := by decide +kernel
theorem dL_taught_91 : decode cL_taught 91 = .ok (.iaload, 1) := by decide +kernel
theorem dL_taught_92 : decode cL_taught 92 = .ok (.invokevirtual 25, 3) := by decide +kernel
theorem dL_taught_95 : decode cL_taught 95 = .ok (.pop, 1) := by decide +kernel
theorem dL_taught_96 : decode cL_taught 96 = .ok (.iinc 3 20, 3) := by decide +kernel
theorem dL_taught_99 : decode cL_taught 99 = .ok (.goto (-87), 3) := by decide +kernel
theorem dL_taught_102 : decode cL_taught 102 = .ok (.aload_n 0, 1) := by decide +kernel
theorem dL_taught_103 : decode cL_taught 103 = .ok (.aload_n 1, 1) := by decide +kernel
theorem dL_taught_104 : decode cL_taught 104 = .ok (.invokevirtual 15, 3) := by decide +kernel
theorem dL_taught_107 : decode cL_taught 107 = .ok (.invokevirtual 9, 3) := by decide +kernel
theorem dL_taught_110 : decode cL_taught 110 = .ok (.pop, 1) := by decide +kernel
theorem dL_taught_111 : decode cL_taught 111 = .ok (.aload_n 0, 1) := by decide +kernel
theorem dL_taught_112 : decode cL_taught 112 = .ok (.invokevirtual 29, 3) := by decide +kernel
theorem dL_taught_115 : decode cL_taught 115 = .ok (.ireturn, 1) := by decide +kernel
theorem dL_test_0 : decode cL_test 0 = .ok (.new 32, 3) := by decide +kernel
theorem dL_test_3 : decode cL_test 3 = .ok (.dup, 1) := by decide +kernel
theorem dL_test_4 : decode cL_test 4 = .ok (.invokespecial 34, 3) := by decide +kernel
theorem dL_test_7 : decode cL_test 7 = .ok (.ldc 35, 2) := by decide +kernel
theorem dL_test_9 : decode cL_test 9 = .ok (.invokevirtual 37, 3) := by decide +kernel
theorem dL_test_12 : decode cL_test 12 = .ok (.iload_n 2, 1) := by decide +kernel
theorem dL_test_13 : decode cL_test 13 = .ok (.aload_n 3, 1) := by decide +kernel
theorem dL_test_14 : decode cL_test 14 = .ok (.getfield 41, 3) := by decide +kernel
theorem dL_test_17 : decode cL_test 17 = .ok (.arraylength, 1) := by decide +kernel
theorem dL_test_18 : decode cL_test 18 = .ok (.irem, 1) := by decide +kernel
theorem dL_test_19 : decode cL_test 19 = .ok (.invokevirtual 47, 3) := by decide +kernel
theorem dL_test_22 : decode cL_test 22 = .ok (.invokevirtual 50, 3) := by decide +kernel
theorem dL_test_25 : decode cL_test 25 = .ok (.astore 4, 2) := by decide +kernel
theorem dL_test_27 : decode cL_test 27 = .ok (.new 32, 3) := by decide +kernel
theorem dL_test_30 : decode cL_test 30 = .ok (.dup, 1) := by decide +kernel
theorem dL_test_31 : decode cL_test 31 = .ok (.invokespecial 34, 3) := by decide +kernel
theorem dL_test_34 : decode cL_test 34 = .ok (.ldc 35, 2) := by decide +kernel
theorem dL_test_36 : decode cL_test 36 = .ok (.invokevirtual 37, 3) := by decide +kernel
theorem dL_test_39 : decode cL_test 39 = .ok (.iload_n 1, 1) := by decide +kernel
theorem dL_test_40 : decode cL_test 40 = .ok (.aload_n 3, 1) := by decide +kernel
theorem dL_test_41 : decode cL_test 41 = .ok (.getfield 41, 3) := by decide +kernel
theorem dL_test_44 : decode cL_test 44 = .ok (.arraylength, 1) := by decide +kernel
theorem dL_test_45 : decode cL_test 45 = .ok (.irem, 1) := by decide +kernel
theorem dL_test_46 : decode cL_test 46 = .ok (.invokevirtual 47, 3) := by decide +kernel
theorem dL_test_49 : decode cL_test 49 = .ok (.invokevirtual 50, 3) := by decide +kernel
theorem dL_test_52 : decode cL_test 52 = .ok (.astore 5, 2) := by decide +kernel
theorem dL_test_54 : decode cL_test 54 = .ok (.new 32, 3) := by decide +kernel
theorem dL_test_57 : decode cL_test 57 = .ok (.dup, 1) := by decide +kernel
theorem dL_test_58 : decode cL_test 58 = .ok (.invokespecial 34, 3) := by decide +kernel
theorem dL_test_61 : decode cL_test 61 = .ok (.ldc 54, 2) := by decide +kernel
theorem dL_test_63 : decode cL_test 63 = .ok (.invokevirtual 37, 3) := by decide +kernel
theorem dL_test_66 : decode cL_test 66 = .ok (.iload_n 2, 1) := by decide +kernel
theorem dL_test_67 : decode cL_test 67 = .ok (.aload_n 3, 1) := by decide +kernel
theorem dL_test_68 : decode cL_test 68 = .ok (.getfield 56, 3) := by decide +kernel
theorem dL_test_71 : decode cL_test 71 = .ok (.arraylength, 1) := by decide +kernel
theorem dL_test_72 : decode cL_test 72 = .ok (.irem, 1) := by decide +kernel
theorem dL_test_73 : decode cL_test 73 = .ok (.invokevirtual 47, 3) := by decide +kernel
theorem dL_test_76 : decode cL_test 76 = .ok (.invokevirtual 50, 3) := by decide +kernel
theorem dL_test_79 : decode cL_test 79 = .ok (.astore 6, 2) := by decide +kernel
theorem dL_test_81 : decode cL_test 81 = .ok (.iload_n 0, 1) := by decide +kernel
theorem dL_test_82 : decode cL_test 82 = .ok (.tableswitch 240 0 5 #[38, 58, 91, 120, 161, 191], 38) := by decide +kernel
theorem dL_test_120 : decode cL_test 120 = .ok (.new 32, 3) := by decide +kernel
theorem dL_test_123 : decode cL_test 123 = .ok (.dup, 1) := by decide +kernel
theorem dL_test_124 : decode cL_test 124 = .ok (.invokespecial 34, 3) := by decide +kernel
theorem dL_test_127 : decode cL_test 127 = .ok (.ldc 59, 2) := by decide +kernel
theorem dL_test_129 : decode cL_test 129 = .ok (.invokevirtual 37, 3) := by decide +kernel
theorem dL_test_132 : decode cL_test 132 = .ok (.iload_n 1, 1) := by decide +kernel
theorem dL_test_133 : decode cL_test 133 = .ok (.invokevirtual 47, 3) := by decide +kernel
theorem dL_test_136 : decode cL_test 136 = .ok (.invokevirtual 50, 3) := by decide +kernel
theorem dL_test_139 : decode cL_test 139 = .ok (.areturn, 1) := by decide +kernel
theorem dL_test_140 : decode cL_test 140 = .ok (.new 32, 3) := by decide +kernel
theorem dL_test_143 : decode cL_test 143 = .ok (.dup, 1) := by decide +kernel
theorem dL_test_144 : decode cL_test 144 = .ok (.invokespecial 34, 3) := by decide +kernel
theorem dL_test_147 : decode cL_test 147 = .ok (.ldc 61, 2) := by decide +kernel
theorem dL_test_149 : decode cL_test 149 = .ok (.invokevirtual 37, 3) := by decide +kernel
theorem dL_test_152 : decode cL_test 152 = .ok (.aload 4, 2) := by decide +kernel
theorem dL_test_154 : decode cL_test 154 = .ok (.invokevirtual 37, 3) := by decide +kernel
theorem dL_test_157 : decode cL_test 157 = .ok (.ldc 63, 2) := by decide +kernel
theorem dL_test_159 : decode cL_test 159 = .ok (.invokevirtual 37, 3) := by decide +kernel
theorem dL_test_162 : decode cL_test 162 = .ok (.iload_n 1, 1) := by decide +kernel
theorem dL_test_163 : decode cL_test 163 = .ok (.bipush 20, 2) := by decide +kernel
theorem dL_test_165 : decode cL_test 165 = .ok (.irem, 1) := by decide +kernel
theorem dL_test_166 : decode cL_test 166 = .ok (.invokevirtual 47, 3) := by decide +kernel
theorem dL_test_169 : decode cL_test 169 = .ok (.invokevirtual 50, 3) := by decide +kernel
theorem dL_test_172 : decode cL_test 172 = .ok (.areturn, 1) := by decide +kernel
theorem dL_test_173 : decode cL_test 173 = .ok (.new 32, 3) := by decide +kernel
theorem dL_test_176 : decode cL_test 176 = .ok (.dup, 1) := by decide +kernel
theorem dL_test_177 : decode cL_test 177 = .ok (.invokespecial 34, 3) := by decide +kernel
theorem dL_test_180 : decode cL_test 180 = .ok (.ldc 65, 2) := by decide +kernel
theorem dL_test_182 : decode cL_test 182 = .ok (.invokevirtual 37, 3) := by decide +kernel
theorem dL_test_185 : decode cL_test 185 = .ok (.iload_n 1, 1) := by decide +kernel
theorem dL_test_186 : decode cL_test 186 = .ok (.invokevirtual 47, 3) := by decide +kernel
theorem dL_test_189 : decode cL_test 189 = .ok (.ldc 67, 2) := by decide +kernel
theorem dL_test_191 : decode cL_test 191 = .ok (.invokevirtual 37, 3) := by decide +kernel
theorem dL_test_194 : decode cL_test 194 = .ok (.iload_n 1, 1) := by decide +kernel
theorem dL_test_195 : decode cL_test 195 = .ok (.invokevirtual 47, 3) := by decide +kernel
theorem dL_test_198 : decode cL_test 198 = .ok (.invokevirtual 50, 3) := by decide +kernel
theorem dL_test_201 : decode cL_test 201 = .ok (.areturn, 1) := by decide +kernel
theorem dL_test_202 : decode cL_test 202 = .ok (.new 32, 3) := by decide +kernel
theorem dL_test_205 : decode cL_test 205 = .ok (.dup, 1) := by decide +kernel
theorem dL_test_206 : decode cL_test 206 = .ok (.invokespecial 34, 3) := by decide +kernel
theorem dL_test_209 : decode cL_test 209 = .ok (.ldc 69, 2) := by decide +kernel
theorem dL_test_211 : decode cL_test 211 = .ok (.invokevirtual 37, 3) := by decide +kernel
theorem dL_test_214 : decode cL_test 214 = .ok (.aload 6, 2) := by decide +kernel
theorem dL_test_216 : decode cL_test 216 = .ok (.invokevirtual 37, 3) := by decide +kernel
theorem dL_test_219 : decode cL_test 219 = .ok (.ldc 71, 2) := by decide +kernel
theorem dL_test_221 : decode cL_test 221 = .ok (.invokevirtual 37, 3) := by decide +kernel
theorem dL_test_224 : decode cL_test 224 = .ok (.aload 6, 2) := by decide +kernel
theorem dL_test_226 : decode cL_test 226 = .ok (.invokevirtual 37, 3) := by decide +kernel
theorem dL_test_229 : decode cL_test 229 = .ok (.ldc 73, 2) := by decide +kernel
theorem dL_test_231 : decode cL_test 231 = .ok (.invokevirtual 37, 3) := by decide +kernel
theorem dL_test_234 : decode cL_test 234 = .ok (.aload 6, 2) := by decide +kernel
theorem dL_test_236 : decode cL_test 236 = .ok (.invokevirtual 37, 3) := by decide +kernel
theorem dL_test_239 : decode cL_test 239 = .ok (.invokevirtual 50, 3) := by decide +kernel
theorem dL_test_242 : decode cL_test 242 = .ok (.areturn, 1) := by decide +kernel
theorem dL_test_243 : decode cL_test 243 = .ok (.new 32, 3) := by decide +kernel
theorem dL_test_246 : decode cL_test 246 = .ok (.dup, 1) := by decide +kernel
theorem dL_test_247 : decode cL_test 247 = .ok (.invokespecial 34, 3) := by decide +kernel
theorem dL_test_250 : decode cL_test 250 = .ok (.ldc 75, 2) := by decide +kernel
theorem dL_test_252 : decode cL_test 252 = .ok (.invokevirtual 37, 3) := by decide +kernel
theorem dL_test_255 : decode cL_test 255 = .ok (.aload 4, 2) := by decide +kernel
theorem dL_test_257 : decode cL_test 257 = .ok (.invokevirtual 37, 3) := by decide +kernel
theorem dL_test_260 : decode cL_test 260 = .ok (.ldc 77, 2) := by decide +kernel
theorem dL_test_262 : decode cL_test 262 = .ok (.invokevirtual 37, 3) := by decide +kernel
theorem dL_test_265 : decode cL_test 265 = .ok (.iload_n 1, 1) := by decide +kernel
theorem dL_test_266 : decode cL_test 266 = .ok (.invokevirtual 47, 3) := by decide +kernel
theorem dL_test_269 : decode cL_test 269 = .ok (.invokevirtual 50, 3) := by decide +kernel
theorem dL_test_272 : decode cL_test 272 = .ok (.areturn, 1) := by decide +kernel
theorem dL_test_273 : decode cL_test 273 = .ok (.new 32, 3) := by decide +kernel
theorem dL_test_276 : decode cL_test 276 = .ok (.dup, 1) := by decide +kernel
theorem dL_test_277 : decode cL_test 277 = .ok (.invokespecial 34, 3) := by decide +kernel
theorem dL_test_280 : decode cL_test 280 = .ok (.ldc 79, 2) := by decide +kernel
theorem dL_test_282 : decode cL_test 282 = .ok (.invokevirtual 37, 3) := by decide +kernel
theorem dL_test_285 : decode cL_test 285 = .ok (.aload 4, 2) := by decide +kernel
theorem dL_test_287 : decode cL_test 287 = .ok (.invokevirtual 37, 3) := by decide +kernel
theorem dL_test_290 : decode cL_test 290 = .ok (.ldc 81, 2) := by decide +kernel
theorem dL_test_292 : decode cL_test 292 = .ok (.invokevirtual 37, 3) := by decide +kernel
theorem dL_test_295 : decode cL_test 295 = .ok (.iload_n 1, 1) := by decide +kernel
theorem dL_test_296 : decode cL_test 296 = .ok (.bipush 9, 2) := by decide +kernel
theorem dL_test_298 : decode cL_test 298 = .ok (.irem, 1) := by decide +kernel
theorem dL_test_299 : decode cL_test 299 = .ok (.invokevirtual 47, 3) := by decide +kernel
theorem dL_test_302 : decode cL_test 302 = .ok (.ldc 83, 2) := by decide +kernel
theorem dL_test_304 : decode cL_test 304 = .ok (.invokevirtual 37, 3) := by decide +kernel
theorem dL_test_307 : decode cL_test 307 = .ok (.iload_n 1, 1) := by decide +kernel
theorem dL_test_308 : decode cL_test 308 = .ok (.iconst 3, 1) := by decide +kernel
theorem dL_test_309 : decode cL_test 309 = .ok (.irem, 1) := by decide +kernel
theorem dL_test_310 : decode cL_test 310 = .ok (.invokevirtual 47, 3) := by decide +kernel
theorem dL_test_313 : decode cL_test 313 = .ok (.ldc 85, 2) := by decide +kernel
theorem dL_test_315 : decode cL_test 315 = .ok (.invokevirtual 37, 3) := by decide +kernel
theorem dL_test_318 : decode cL_test 318 = .ok (.invokevirtual 50, 3) := by decide +kernel
theorem dL_test_321 : decode cL_test 321 = .ok (.areturn, 1) := by decide +kernel
theorem dL_test_322 : decode cL_test 322 = .ok (.new 32, 3) := by decide +kernel
theorem dL_test_325 : decode cL_test 325 = .ok (.dup, 1) := by decide +kernel
theorem dL_test_326 : decode cL_test 326 = .ok (.invokespecial 34, 3) := by decide +kernel
theorem dL_test_329 : decode cL_test 329 = .ok (.ldc 87, 2) := by decide +kernel
theorem dL_test_331 : decode cL_test 331 = .ok (.invokevirtual 37, 3) := by decide +kernel
theorem dL_test_334 : decode cL_test 334 = .ok (.aload 4, 2) := by decide +kernel
theorem dL_test_336 : decode cL_test 336 = .ok (.invokevirtual 37, 3) := by decide +kernel
theorem dL_test_339 : decode cL_test 339 = .ok (.ldc 89, 2) := by decide +kernel
theorem dL_test_341 : decode cL_test 341 = .ok (.invokevirtual 37, 3) := by decide +kernel
theorem dL_test_344 : decode cL_test 344 = .ok (.aload 5, 2) := by decide +kernel
theorem dL_test_346 : decode cL_test 346 = .ok (.invokevirtual 37, 3) := by decide +kernel
theorem dL_test_349 : decode cL_test 349 = .ok (.ldc 91, 2) := by decide +kernel
theorem dL_test_351 : decode cL_test 351 = .ok (.invokevirtual 37, 3) := by decide +kernel
theorem dL_test_354 : decode cL_test 354 = .ok (.iload_n 1, 1) := by decide +kernel
theorem dL_test_355 : decode cL_test 355 = .ok (.invokevirtual 47, 3) := by decide +kernel
theorem dL_test_358 : decode cL_test 358 = .ok (.invokevirtual 50, 3) := by decide +kernel
theorem dL_test_361 : decode cL_test 361 = .ok (.areturn, 1) := by decide +kernel
theorem dL_sum_0 : decode cL_sum 0 = .ok (.aload_n 0, 1) := by decide +kernel
theorem dL_sum_1 : decode cL_sum 1 = .ok (.iconst 2, 1) := by decide +kernel
theorem dL_sum_2 : decode cL_sum 2 = .ok (.iaload, 1) := by decide +kernel
theorem dL_sum_3 : decode cL_sum 3 = .ok (.istore_n 2, 1) := by decide +kernel
theorem dL_sum_4 : decode cL_sum 4 = .ok (.new 32, 3) := by decide +kernel
theorem dL_sum_7 : decode cL_sum 7 = .ok (.dup, 1) := by decide +kernel
theorem dL_sum_8 : decode cL_sum 8 = .ok (.invokespecial 34, 3) := by decide +kernel
theorem dL_sum_11 : decode cL_sum 11 = .ok (.ldc 35, 2) := by decide +kernel
theorem dL_sum_13 : decode cL_sum 13 = .ok (.invokevirtual 37, 3) := by decide +kernel
theorem dL_sum_16 : decode cL_sum 16 = .ok (.aload_n 0, 1) := by decide +kernel
theorem dL_sum_17 : decode cL_sum 17 = .ok (.iconst 3, 1) := by decide +kernel
theorem dL_sum_18 : decode cL_sum 18 = .ok (.iaload, 1) := by decide +kernel
theorem dL_sum_19 : decode cL_sum 19 = .ok (.aload_n 1, 1) := by decide +kernel
theorem dL_sum_20 : decode cL_sum 20 = .ok (.getfield 41, 3) := by decide +kernel
theorem dL_sum_23 : decode cL_sum 23 = .ok (.arraylength, 1) := by decide +kernel
theorem dL_sum_24 : decode cL_sum 24 = .ok (.irem, 1) := by decide +kernel
theorem dL_sum_25 : decode cL_sum 25 = .ok (.invokevirtual 47, 3) := by decide +kernel
theorem dL_sum_28 : decode cL_sum 28 = .ok (.invokevirtual 50, 3) := by decide +kernel
theorem dL_sum_31 : decode cL_sum 31 = .ok (.astore_n 3, 1) := by decide +kernel
theorem dL_sum_32 : decode cL_sum 32 = .ok (.new 32, 3) := by decide +kernel
theorem dL_sum_35 : decode cL_sum 35 = .ok (.dup, 1) := by decide +kernel
theorem dL_sum_36 : decode cL_sum 36 = .ok (.invokespecial 34, 3) := by decide +kernel
theorem dL_sum_39 : decode cL_sum 39 = .ok (.ldc 54, 2) := by decide +kernel
theorem dL_sum_41 : decode cL_sum 41 = .ok (.invokevirtual 37, 3) := by decide +kernel
theorem dL_sum_44 : decode cL_sum 44 = .ok (.aload_n 0, 1) := by decide +kernel
theorem dL_sum_45 : decode cL_sum 45 = .ok (.iconst 3, 1) := by decide +kernel
theorem dL_sum_46 : decode cL_sum 46 = .ok (.iaload, 1) := by decide +kernel
theorem dL_sum_47 : decode cL_sum 47 = .ok (.aload_n 1, 1) := by decide +kernel
theorem dL_sum_48 : decode cL_sum 48 = .ok (.getfield 56, 3) := by decide +kernel
theorem dL_sum_51 : decode cL_sum 51 = .ok (.arraylength, 1) := by decide +kernel
theorem dL_sum_52 : decode cL_sum 52 = .ok (.irem, 1) := by decide +kernel
theorem dL_sum_53 : decode cL_sum 53 = .ok (.invokevirtual 47, 3) := by decide +kernel
theorem dL_sum_56 : decode cL_sum 56 = .ok (.invokevirtual 50, 3) := by decide +kernel
theorem dL_sum_59 : decode cL_sum 59 = .ok (.astore 4, 2) := by decide +kernel
theorem dL_sum_61 : decode cL_sum 61 = .ok (.aload_n 0, 1) := by decide +kernel
theorem dL_sum_62 : decode cL_sum 62 = .ok (.iconst 1, 1) := by decide +kernel
theorem dL_sum_63 : decode cL_sum 63 = .ok (.iaload, 1) := by decide +kernel
theorem dL_sum_64 : decode cL_sum 64 = .ok (.tableswitch 164 0 4 #[36, 56, 81, 105, 144], 36) := by decide +kernel
theorem dL_sum_100 : decode cL_sum 100 = .ok (.new 32, 3) := by decide +kernel
theorem dL_sum_103 : decode cL_sum 103 = .ok (.dup, 1) := by decide +kernel
theorem dL_sum_104 : decode cL_sum 104 = .ok (.invokespecial 34, 3) := by decide +kernel
theorem dL_sum_107 : decode cL_sum 107 = .ok (.ldc 93, 2) := by decide +kernel
theorem dL_sum_109 : decode cL_sum 109 = .ok (.invokevirtual 37, 3) := by decide +kernel
theorem dL_sum_112 : decode cL_sum 112 = .ok (.iload_n 2, 1) := by decide +kernel
theorem dL_sum_113 : decode cL_sum 113 = .ok (.invokevirtual 47, 3) := by decide +kernel
theorem dL_sum_116 : decode cL_sum 116 = .ok (.invokevirtual 50, 3) := by decide +kernel
theorem dL_sum_119 : decode cL_sum 119 = .ok (.areturn, 1) := by decide +kernel
theorem dL_sum_120 : decode cL_sum 120 = .ok (.new 32, 3) := by decide +kernel
theorem dL_sum_123 : decode cL_sum 123 = .ok (.dup, 1) := by decide +kernel
theorem dL_sum_124 : decode cL_sum 124 = .ok (.invokespecial 34, 3) := by decide +kernel
theorem dL_sum_127 : decode cL_sum 127 = .ok (.ldc 95, 2) := by decide +kernel
theorem dL_sum_129 : decode cL_sum 129 = .ok (.invokevirtual 37, 3) := by decide +kernel
theorem dL_sum_132 : decode cL_sum 132 = .ok (.iload_n 2, 1) := by decide +kernel
theorem dL_sum_133 : decode cL_sum 133 = .ok (.invokevirtual 47, 3) := by decide +kernel
theorem dL_sum_136 : decode cL_sum 136 = .ok (.ldc 97, 2) := by decide +kernel
theorem dL_sum_138 : decode cL_sum 138 = .ok (.invokevirtual 37, 3) := by decide +kernel
theorem dL_sum_141 : decode cL_sum 141 = .ok (.invokevirtual 50, 3) := by decide +kernel
theorem dL_sum_144 : decode cL_sum 144 = .ok (.areturn, 1) := by decide +kernel
theorem dL_sum_145 : decode cL_sum 145 = .ok (.new 32, 3) := by decide +kernel
theorem dL_sum_148 : decode cL_sum 148 = .ok (.dup, 1) := by decide +kernel
theorem dL_sum_149 : decode cL_sum 149 = .ok (.invokespecial 34, 3) := by decide +kernel
theorem dL_sum_152 : decode cL_sum 152 = .ok (.iload_n 2, 1) := by decide +kernel
theorem dL_sum_153 : decode cL_sum 153 = .ok (.invokevirtual 47, 3) := by decide +kernel
theorem dL_sum_156 : decode cL_sum 156 = .ok (.ldc 99, 2) := by decide +kernel
theorem dL_sum_158 : decode cL_sum 158 = .ok (.invokevirtual 37, 3) := by decide +kernel
theorem dL_sum_161 : decode cL_sum 161 = .ok (.aload_n 3, 1) := by decide +kernel
theorem dL_sum_162 : decode cL_sum 162 = .ok (.invokevirtual 37, 3) := by decide +kernel
theorem dL_sum_165 : decode cL_sum 165 = .ok (.invokevirtual 50, 3) := by decide +kernel
theorem dL_sum_168 : decode cL_sum 168 = .ok (.areturn, 1) := by decide +kernel
theorem dL_sum_169 : decode cL_sum 169 = .ok (.new 32, 3) := by decide +kernel
theorem dL_sum_172 : decode cL_sum 172 = .ok (.dup, 1) := by decide +kernel
theorem dL_sum_173 : decode cL_sum 173 = .ok (.invokespecial 34, 3) := by decide +kernel
theorem dL_sum_176 : decode cL_sum 176 = .ok (.ldc 101, 2) := by decide +kernel
theorem dL_sum_178 : decode cL_sum 178 = .ok (.invokevirtual 37, 3) := by decide +kernel
theorem dL_sum_181 : decode cL_sum 181 = .ok (.aload_n 3, 1) := by decide +kernel
theorem dL_sum_182 : decode cL_sum 182 = .ok (.invokevirtual 37, 3) := by decide +kernel
theorem dL_sum_185 : decode cL_sum 185 = .ok (.ldc 103, 2) := by decide +kernel
theorem dL_sum_187 : decode cL_sum 187 = .ok (.invokevirtual 37, 3) := by decide +kernel
theorem dL_sum_190 : decode cL_sum 190 = .ok (.iload_n 2, 1) := by decide +kernel
theorem dL_sum_191 : decode cL_sum 191 = .ok (.invokevirtual 47, 3) := by decide +kernel
theorem dL_sum_194 : decode cL_sum 194 = .ok (.ldc 105, 2) := by decide +kernel
theorem dL_sum_196 : decode cL_sum 196 = .ok (.invokevirtual 37, 3) := by decide +kernel
theorem dL_sum_199 : decode cL_sum 199 = .ok (.aload 4, 2) := by decide +kernel
theorem dL_sum_201 : decode cL_sum 201 = .ok (.invokevirtual 37, 3) := by decide +kernel
theorem dL_sum_204 : decode cL_sum 204 = .ok (.invokevirtual 50, 3) := by decide +kernel
theorem dL_sum_207 : decode cL_sum 207 = .ok (.areturn, 1) := by decide +kernel
theorem dL_sum_208 : decode cL_sum 208 = .ok (.new 32, 3) := by decide +kernel
theorem dL_sum_211 : decode cL_sum 211 = .ok (.dup, 1) := by decide +kernel
theorem dL_sum_212 : decode cL_sum 212 = .ok (.invokespecial 34, 3) := by decide +kernel
theorem dL_sum_215 : decode cL_sum 215 = .ok (.iload_n 2, 1) := by decide +kernel
theorem dL_sum_216 : decode cL_sum 216 = .ok (.invokevirtual 47, 3) := by decide +kernel
theorem dL_sum_219 : decode cL_sum 219 = .ok (.ldc 107, 2) := by decide +kernel
theorem dL_sum_221 : decode cL_sum 221 = .ok (.invokevirtual 37, 3) := by decide +kernel
theorem dL_sum_224 : decode cL_sum 224 = .ok (.invokevirtual 50, 3) := by decide +kernel
theorem dL_sum_227 : decode cL_sum 227 = .ok (.areturn, 1) := by decide +kernel
theorem dL_sum_228 : decode cL_sum 228 = .ok (.new 32, 3) := by decide +kernel
theorem dL_sum_231 : decode cL_sum 231 = .ok (.dup, 1) := by decide +kernel
theorem dL_sum_232 : decode cL_sum 232 = .ok (.invokespecial 34, 3) := by decide +kernel
theorem dL_sum_235 : decode cL_sum 235 = .ok (.ldc 109, 2) := by decide +kernel
theorem dL_sum_237 : decode cL_sum 237 = .ok (.invokevirtual 37, 3) := by decide +kernel
theorem dL_sum_240 : decode cL_sum 240 = .ok (.iload_n 2, 1) := by decide +kernel
theorem dL_sum_241 : decode cL_sum 241 = .ok (.invokevirtual 47, 3) := by decide +kernel
theorem dL_sum_244 : decode cL_sum 244 = .ok (.ldc 111, 2) := by decide +kernel
theorem dL_sum_246 : decode cL_sum 246 = .ok (.invokevirtual 37, 3) := by decide +kernel
theorem dL_sum_249 : decode cL_sum 249 = .ok (.aload_n 3, 1) := by decide +kernel
theorem dL_sum_250 : decode cL_sum 250 = .ok (.invokevirtual 37, 3) := by decide +kernel
theorem dL_sum_253 : decode cL_sum 253 = .ok (.invokevirtual 50, 3) := by decide +kernel
theorem dL_sum_256 : decode cL_sum 256 = .ok (.areturn, 1) := by decide +kernel
theorem dL_list_0 : decode cL_list 0 = .ok (.new 42, 3) := by decide +kernel
theorem dL_list_3 : decode cL_list 3 = .ok (.dup, 1) := by decide +kernel
theorem dL_list_4 : decode cL_list 4 = .ok (.invokespecial 113, 3) := by decide +kernel
theorem dL_list_7 : decode cL_list 7 = .ok (.astore_n 2, 1) := by decide +kernel
theorem dL_list_8 : decode cL_list 8 = .ok (.aload_n 2, 1) := by decide +kernel
theorem dL_list_9 : decode cL_list 9 = .ok (.iconst 1, 1) := by decide +kernel
theorem dL_list_10 : decode cL_list 10 = .ok (.aload_n 0, 1) := by decide +kernel
theorem dL_list_11 : decode cL_list 11 = .ok (.iconst 0, 1) := by decide +kernel
theorem dL_list_12 : decode cL_list 12 = .ok (.invokestatic 114, 3) := by decide +kernel
theorem dL_list_15 : decode cL_list 15 = .ok (.bipush 6, 2) := by decide +kernel
theorem dL_list_17 : decode cL_list 17 = .ok (.invokestatic 120, 3) := by decide +kernel
theorem dL_list_20 : decode cL_list 20 = .ok (.iadd, 1) := by decide +kernel
theorem dL_list_21 : decode cL_list 21 = .ok (.anewarray 124, 3) := by decide +kernel
theorem dL_list_24 : decode cL_list 24 = .ok (.putfield 56, 3) := by decide +kernel
theorem dL_list_27 : decode cL_list 27 = .ok (.iconst 0, 1) := by decide +kernel
theorem dL_list_28 : decode cL_list 28 = .ok (.istore_n 3, 1) := by decide +kernel
theorem dL_list_29 : decode cL_list 29 = .ok (.iload_n 3, 1) := by decide +kernel
theorem dL_list_30 : decode cL_list 30 = .ok (.aload_n 2, 1) := by decide +kernel
theorem dL_list_31 : decode cL_list 31 = .ok (.getfield 56, 3) := by decide +kernel
theorem dL_list_34 : decode cL_list 34 = .ok (.arraylength, 1) := by decide +kernel
theorem dL_list_35 : decode cL_list 35 = .ok (.if_icmp .ge 156, 3) := by decide +kernel
theorem dL_list_38 : decode cL_list 38 = .ok (.aload_n 0, 1) := by decide +kernel
theorem dL_list_39 : decode cL_list 39 = .ok (.iconst 1, 1) := by decide +kernel
theorem dL_list_40 : decode cL_list 40 = .ok (.iload_n 3, 1) := by decide +kernel
theorem dL_list_41 : decode cL_list 41 = .ok (.iconst 3, 1) := by decide +kernel
theorem dL_list_42 : decode cL_list 42 = .ok (.irem, 1) := by decide +kernel
theorem dL_list_43 : decode cL_list 43 = .ok (.iadd, 1) := by decide +kernel
theorem dL_list_44 : decode cL_list 44 = .ok (.invokestatic 114, 3) := by decide +kernel
theorem dL_list_47 : decode cL_list 47 = .ok (.iload_n 3, 1) := by decide +kernel
theorem dL_list_48 : decode cL_list 48 = .ok (.iconst 3, 1) := by decide +kernel
theorem dL_list_49 : decode cL_list 49 = .ok (.idiv, 1) := by decide +kernel
theorem dL_list_50 : decode cL_list 50 = .ok (.bipush 9, 2) := by decide +kernel
theorem dL_list_52 : decode cL_list 52 = .ok (.imul, 1) := by decide +kernel
theorem dL_list_53 : decode cL_list 53 = .ok (.ishr, 1) := by decide +kernel
theorem dL_list_54 : decode cL_list 54 = .ok (.istore 4, 2) := by decide +kernel
theorem dL_list_56 : decode cL_list 56 = .ok (.aload_n 2, 1) := by decide +kernel
theorem dL_list_57 : decode cL_list 57 = .ok (.getfield 56, 3) := by decide +kernel
theorem dL_list_60 : decode cL_list 60 = .ok (.iload_n 3, 1) := by decide +kernel
theorem dL_list_61 : decode cL_list 61 = .ok (.iconst 3, 1) := by decide +kernel
theorem dL_list_62 : decode cL_list 62 = .ok (.newarray .int, 2) := by decide +kernel
theorem dL_list_64 : decode cL_list 64 = .ok (.dup, 1) := by decide +kernel
theorem dL_list_65 : decode cL_list 65 = .ok (.iconst 0, 1) := by decide +kernel
theorem dL_list_66 : decode cL_list 66 = .ok (.iconst 1, 1) := by decide +kernel
theorem dL_list_67 : decode cL_list 67 = .ok (.iload 4, 2) := by decide +kernel
theorem dL_list_69 : decode cL_list 69 = .ok (.bipush 9, 2) := by decide +kernel
theorem dL_list_71 : decode cL_list 71 = .ok (.invokestatic 120, 3) := by decide +kernel
theorem dL_list_74 : decode cL_list 74 = .ok (.iadd, 1) := by decide +kernel
theorem dL_list_75 : decode cL_list 75 = .ok (.iastore, 1) := by decide +kernel
theorem dL_list_76 : decode cL_list 76 = .ok (.dup, 1) := by decide +kernel
theorem dL_list_77 : decode cL_list 77 = .ok (.iconst 1, 1) := by decide +kernel
theorem dL_list_78 : decode cL_list 78 = .ok (.iload 4, 2) := by decide +kernel
theorem dL_list_80 : decode cL_list 80 = .ok (.iconst 4, 1) := by decide +kernel
theorem dL_list_81 : decode cL_list 81 = .ok (.ishr, 1) := by decide +kernel
theorem dL_list_82 : decode cL_list 82 = .ok (.bipush 19, 2) := by decide +kernel
theorem dL_list_84 : decode cL_list 84 = .ok (.invokestatic 120, 3) := by decide +kernel
theorem dL_list_87 : decode cL_list 87 = .ok (.bipush 9, 2) := by decide +kernel
theorem dL_list_89 : decode cL_list 89 = .ok (.isub, 1) := by decide +kernel
theorem dL_list_90 : decode cL_list 90 = .ok (.iastore, 1) := by decide +kernel
theorem dL_list_91 : decode cL_list 91 = .ok (.dup, 1) := by decide +kernel
theorem dL_list_92 : decode cL_list 92 = .ok (.iconst 2, 1) := by decide +kernel
theorem dL_list_93 : decode cL_list 93 = .ok (.iload 4, 2) := by decide +kernel
theorem dL_list_95 : decode cL_list 95 = .ok (.iconst 3, 1) := by decide +kernel
theorem dL_list_96 : decode cL_list 96 = .ok (.ishr, 1) := by decide +kernel
theorem dL_list_97 : decode cL_list 97 = .ok (.bipush 10, 2) := by decide +kernel
theorem dL_list_99 : decode cL_list 99 = .ok (.invokestatic 120, 3) := by decide +kernel
theorem dL_list_102 : decode cL_list 102 = .ok (.iastore, 1) := by decide +kernel
theorem dL_list_103 : decode cL_list 103 = .ok (.aastore, 1) := by decide +kernel
theorem dL_list_104 : decode cL_list 104 = .ok (.aload_n 2, 1) := by decide +kernel
theorem dL_list_105 : decode cL_list 105 = .ok (.getfield 56, 3) := by decide +kernel
theorem dL_list_108 : decode cL_list 108 = .ok (.iload_n 3, 1) := by decide +kernel
theorem dL_list_109 : decode cL_list 109 = .ok (.aaload, 1) := by decide +kernel
theorem dL_list_110 : decode cL_list 110 = .ok (.iconst 1, 1) := by decide +kernel
theorem dL_list_111 : decode cL_list 111 = .ok (.iaload, 1) := by decide +kernel
theorem dL_list_112 : decode cL_list 112 = .ok (.istore 5, 2) := by decide +kernel
theorem dL_list_114 : decode cL_list 114 = .ok (.aload_n 1, 1) := by decide +kernel
theorem dL_list_115 : decode cL_list 115 = .ok (.ldc 126, 2) := by decide +kernel
theorem dL_list_117 : decode cL_list 117 = .ok (.invokevirtual 37, 3) := by decide +kernel
theorem dL_list_120 : decode cL_list 120 = .ok (.iload_n 3, 1) := by decide +kernel
theorem dL_list_121 : decode cL_list 121 = .ok (.invokevirtual 47, 3) := by decide +kernel
theorem dL_list_124 : decode cL_list 124 = .ok (.ldc 128, 2) := by decide +kernel
theorem dL_list_126 : decode cL_list 126 = .ok (.invokevirtual 37, 3) := by decide +kernel
theorem dL_list_129 : decode cL_list 129 = .ok (.aload_n 2, 1) := by decide +kernel
theorem dL_list_130 : decode cL_list 130 = .ok (.getfield 56, 3) := by decide +kernel
theorem dL_list_133 : decode cL_list 133 = .ok (.iload_n 3, 1) := by decide +kernel
theorem dL_list_134 : decode cL_list 134 = .ok (.aaload, 1) := by decide +kernel
theorem dL_list_135 : decode cL_list 135 = .ok (.iconst 0, 1) := by decide +kernel
theorem dL_list_136 : decode cL_list 136 = .ok (.iaload, 1) := by decide +kernel
theorem dL_list_137 : decode cL_list 137 = .ok (.invokevirtual 47, 3) := by decide +kernel
theorem dL_list_140 : decode cL_list 140 = .ok (.iload 5, 2) := by decide +kernel
theorem dL_list_142 : decode cL_list 142 = .ok (.ifCond .ge 8, 3) := by decide +kernel
theorem dL_list_145 : decode cL_list 145 = .ok (.ldc 130, 2) := by decide +kernel
theorem dL_list_147 : decode cL_list 147 = .ok (.goto 5, 3) := by decide +kernel
theorem dL_list_150 : decode cL_list 150 = .ok (.ldc 132, 2) := by decide +kernel
theorem dL_list_152 : decode cL_list 152 = .ok (.invokevirtual 37, 3) := by decide +kernel
theorem dL_list_155 : decode cL_list 155 = .ok (.iload 5, 2) := by decide +kernel
theorem dL_list_157 : decode cL_list 157 = .ok (.invokestatic 134, 3) := by decide +kernel
theorem dL_list_160 : decode cL_list 160 = .ok (.invokevirtual 47, 3) := by decide +kernel
theorem dL_list_163 : decode cL_list 163 = .ok (.ldc 139, 2) := by decide +kernel
theorem dL_list_165 : decode cL_list 165 = .ok (.invokevirtual 37, 3) := by decide +kernel
theorem dL_list_168 : decode cL_list 168 = .ok (.aload_n 2, 1) := by decide +kernel
theorem dL_list_169 : decode cL_list 169 = .ok (.getfield 56, 3) := by decide +kernel
theorem dL_list_172 : decode cL_list 172 = .ok (.iload_n 3, 1) := by decide +kernel
theorem dL_list_173 : decode cL_list 173 = .ok (.aaload, 1) := by decide +kernel
theorem dL_list_174 : decode cL_list 174 = .ok (.iconst 2, 1) := by decide +kernel
theorem dL_list_175 : decode cL_list 175 = .ok (.iaload, 1) := by decide +kernel
theorem dL_list_176 : decode cL_list 176 = .ok (.invokevirtual 47, 3) := by decide +kernel
theorem dL_list_179 : decode cL_list 179 = .ok (.ldc 141, 2) := by decide +kernel
theorem dL_list_181 : decode cL_list 181 = .ok (.invokevirtual 37, 3) := by decide +kernel
theorem dL_list_184 : decode cL_list 184 = .ok (.pop, 1) := by decide +kernel
theorem dL_list_185 : decode cL_list 185 = .ok (.iinc 3 1, 3) := by decide +kernel
theorem dL_list_188 : decode cL_list 188 = .ok (.goto (-159), 3) := by decide +kernel
theorem dL_list_191 : decode cL_list 191 = .ok (.aload_n 2, 1) := by decide +kernel
theorem dL_list_192 : decode cL_list 192 = .ok (.iconst 1, 1) := by decide +kernel
theorem dL_list_193 : decode cL_list 193 = .ok (.aload_n 0, 1) := by decide +kernel
theorem dL_list_194 : decode cL_list 194 = .ok (.iconst 4, 1) := by decide +kernel
theorem dL_list_195 : decode cL_list 195 = .ok (.invokestatic 114, 3) := by decide +kernel
theorem dL_list_198 : decode cL_list 198 = .ok (.iconst 5, 1) := by decide +kernel
theorem dL_list_199 : decode cL_list 199 = .ok (.invokestatic 120, 3) := by decide +kernel
theorem dL_list_202 : decode cL_list 202 = .ok (.iadd, 1) := by decide +kernel
theorem dL_list_203 : decode cL_list 203 = .ok (.anewarray 124, 3) := by decide +kernel
theorem dL_list_206 : decode cL_list 206 = .ok (.putfield 41, 3) := by decide +kernel
theorem dL_list_209 : decode cL_list 209 = .ok (.iconst 0, 1) := by decide +kernel
theorem dL_list_210 : decode cL_list 210 = .ok (.istore_n 3, 1) := by decide +kernel
theorem dL_list_211 : decode cL_list 211 = .ok (.iload_n 3, 1) := by decide +kernel
theorem dL_list_212 : decode cL_list 212 = .ok (.aload_n 2, 1) := by decide +kernel
theorem dL_list_213 : decode cL_list 213 = .ok (.getfield 41, 3) := by decide +kernel
theorem dL_list_216 : decode cL_list 216 = .ok (.arraylength, 1) := by decide +kernel
theorem dL_list_217 : decode cL_list 217 = .ok (.if_icmp .ge 232, 3) := by decide +kernel
theorem dL_list_220 : decode cL_list 220 = .ok (.aload_n 0, 1) := by decide +kernel
theorem dL_list_221 : decode cL_list 221 = .ok (.iconst 5, 1) := by decide +kernel
theorem dL_list_222 : decode cL_list 222 = .ok (.iload_n 3, 1) := by decide +kernel
theorem dL_list_223 : decode cL_list 223 = .ok (.iconst 3, 1) := by decide +kernel
theorem dL_list_224 : decode cL_list 224 = .ok (.irem, 1) := by decide +kernel
theorem dL_list_225 : decode cL_list 225 = .ok (.iadd, 1) := by decide +kernel
theorem dL_list_226 : decode cL_list 226 = .ok (.invokestatic 114, 3) := by decide +kernel
theorem dL_list_229 : decode cL_list 229 = .ok (.iload_n 3, 1) := by decide +kernel
theorem dL_list_230 : decode cL_list 230 = .ok (.iconst 3, 1) := by decide +kernel
theorem dL_list_231 : decode cL_list 231 = .ok (.idiv, 1) := by decide +kernel
theorem dL_list_232 : decode cL_list 232 = .ok (.bipush 9, 2) := by decide +kernel
theorem dL_list_234 : decode cL_list 234 = .ok (.imul, 1) := by decide +kernel
theorem dL_list_235 : decode cL_list 235 = .ok (.ishr, 1) := by decide +kernel
theorem dL_list_236 : decode cL_list 236 = .ok (.istore 4, 2) := by decide +kernel
theorem dL_list_238 : decode cL_list 238 = .ok (.aload_n 2, 1) := by decide +kernel
theorem dL_list_239 : decode cL_list 239 = .ok (.getfield 41, 3) := by decide +kernel
theorem dL_list_242 : decode cL_list 242 = .ok (.iload_n 3, 1) := by decide +kernel
theorem dL_list_243 : decode cL_list 243 = .ok (.bipush 10, 2) := by decide +kernel
theorem dL_list_245 : decode cL_list 245 = .ok (.newarray .int, 2) := by decide +kernel
theorem dL_list_247 : decode cL_list 247 = .ok (.dup, 1) := by decide +kernel
theorem dL_list_248 : decode cL_list 248 = .ok (.iconst 0, 1) := by decide +kernel
theorem dL_list_249 : decode cL_list 249 = .ok (.iconst 1, 1) := by decide +kernel
theorem dL_list_250 : decode cL_list 250 = .ok (.iload 4, 2) := by decide +kernel
theorem dL_list_252 : decode cL_list 252 = .ok (.iload 4, 2) := by decide +kernel
theorem dL_list_254 : decode cL_list 254 = .ok (.bipush 8, 2) := by decide +kernel
theorem dL_list_256 : decode cL_list 256 = .ok (.ishr, 1) := by decide +kernel
theorem dL_list_257 : decode cL_list 257 = .ok (.iconst 2, 1) := by decide +kernel
theorem dL_list_258 : decode cL_list 258 = .ok (.invokestatic 120, 3) := by decide +kernel
theorem dL_list_261 : decode cL_list 261 = .ok (.ifCond .ne 8, 3) := by decide +kernel
theorem dL_list_264 : decode cL_list 264 = .ok (.bipush 99, 2) := by decide +kernel
theorem dL_list_266 : decode cL_list 266 = .ok (.goto 5, 3) := by decide +kernel
theorem dL_list_269 : decode cL_list 269 = .ok (.bipush 40, 2) := by decide +kernel
theorem dL_list_271 : decode cL_list 271 = .ok (.invokestatic 120, 3) := by decide +kernel
theorem dL_list_274 : decode cL_list 274 = .ok (.iadd, 1) := by decide +kernel
theorem dL_list_275 : decode cL_list 275 = .ok (.iastore, 1) := by decide +kernel
theorem dL_list_276 : decode cL_list 276 = .ok (.dup, 1) := by decide +kernel
theorem dL_list_277 : decode cL_list 277 = .ok (.iconst 1, 1) := by decide +kernel
theorem dL_list_278 : decode cL_list 278 = .ok (.iconst 1, 1) := by decide +kernel
theorem dL_list_279 : decode cL_list 279 = .ok (.iload 4, 2) := by decide +kernel
theorem dL_list_281 : decode cL_list 281 = .ok (.iconst 4, 1) := by decide +kernel
theorem dL_list_282 : decode cL_list 282 = .ok (.ishr, 1) := by decide +kernel
theorem dL_list_283 : decode cL_list 283 = .ok (.bipush 9, 2) := by decide +kernel
theorem dL_list_285 : decode cL_list 285 = .ok (.invokestatic 120, 3) := by decide +kernel
theorem dL_list_288 : decode cL_list 288 = .ok (.iadd, 1) := by decide +kernel
theorem dL_list_289 : decode cL_list 289 = .ok (.iastore, 1) := by decide +kernel
theorem dL_list_290 : decode cL_list 290 = .ok (.dup, 1) := by decide +kernel
theorem dL_list_291 : decode cL_list 291 = .ok (.iconst 2, 1) := by decide +kernel
theorem dL_list_292 : decode cL_list 292 = .ok (.iconst 1, 1) := by decide +kernel
theorem dL_list_293 : decode cL_list 293 = .ok (.iload 4, 2) := by decide +kernel
theorem dL_list_295 : decode cL_list 295 = .ok (.iconst 5, 1) := by decide +kernel
theorem dL_list_296 : decode cL_list 296 = .ok (.ishr, 1) := by decide +kernel
theorem dL_list_297 : decode cL_list 297 = .ok (.iload 4, 2) := by decide +kernel
theorem dL_list_299 : decode cL_list 299 = .ok (.bipush 7, 2) := by decide +kernel
theorem dL_list_301 : decode cL_list 301 = .ok (.ishr, 1) := by decide +kernel
theorem dL_list_302 : decode cL_list 302 = .ok (.iconst 3, 1) := by decide +kernel
theorem dL_list_303 : decode cL_list 303 = .ok (.invokestatic 120, 3) := by decide +kernel
theorem dL_list_306 : decode cL_list 306 = .ok (.ifCond .ne 8, 3) := by decide +kernel
theorem dL_list_309 : decode cL_list 309 = .ok (.bipush 30, 2) := by decide +kernel
theorem dL_list_311 : decode cL_list 311 = .ok (.goto 5, 3) := by decide +kernel
theorem dL_list_314 : decode cL_list 314 = .ok (.bipush 99, 2) := by decide +kernel
theorem dL_list_316 : decode cL_list 316 = .ok (.invokestatic 120, 3) := by decide +kernel
theorem dL_list_319 : decode cL_list 319 = .ok (.iadd, 1) := by decide +kernel
theorem dL_list_320 : decode cL_list 320 = .ok (.iastore, 1) := by decide +kernel
theorem dL_list_321 : decode cL_list 321 = .ok (.dup, 1) := by decide +kernel
theorem dL_list_322 : decode cL_list 322 = .ok (.iconst 3, 1) := by decide +kernel
theorem dL_list_323 : decode cL_list 323 = .ok (.iload 4, 2) := by decide +kernel
theorem dL_list_325 : decode cL_list 325 = .ok (.bipush 6, 2) := by decide +kernel
theorem dL_list_327 : decode cL_list 327 = .ok (.ishr, 1) := by decide +kernel
theorem dL_list_328 : decode cL_list 328 = .ok (.iconst 2, 1) := by decide +kernel
theorem dL_list_329 : decode cL_list 329 = .ok (.invokestatic 120, 3) := by decide +kernel
theorem dL_list_332 : decode cL_list 332 = .ok (.iastore, 1) := by decide +kernel
theorem dL_list_333 : decode cL_list 333 = .ok (.dup, 1) := by decide +kernel
theorem dL_list_334 : decode cL_list 334 = .ok (.iconst 4, 1) := by decide +kernel
theorem dL_list_335 : decode cL_list 335 = .ok (.iconst (-1), 1) := by decide +kernel
theorem dL_list_336 : decode cL_list 336 = .ok (.iastore, 1) := by decide +kernel
theorem dL_list_337 : decode cL_list 337 = .ok (.dup, 1) := by decide +kernel
theorem dL_list_338 : decode cL_list 338 = .ok (.iconst 5, 1) := by decide +kernel
theorem dL_list_339 : decode cL_list 339 = .ok (.iconst 0, 1) := by decide +kernel
theorem dL_list_340 : decode cL_list 340 = .ok (.iastore, 1) := by decide +kernel
theorem dL_list_341 : decode cL_list 341 = .ok (.dup, 1) := by decide +kernel
theorem dL_list_342 : decode cL_list 342 = .ok (.bipush 6, 2) := by decide +kernel
theorem dL_list_344 : decode cL_list 344 = .ok (.iconst 0, 1) := by decide +kernel
theorem dL_list_345 : decode cL_list 345 = .ok (.iastore, 1) := by decide +kernel
theorem dL_list_346 : decode cL_list 346 = .ok (.dup, 1) := by decide +kernel
theorem dL_list_347 : decode cL_list 347 = .ok (.bipush 7, 2) := by decide +kernel
theorem dL_list_349 : decode cL_list 349 = .ok (.iconst 0, 1) := by decide +kernel
theorem dL_list_350 : decode cL_list 350 = .ok (.iastore, 1) := by decide +kernel
theorem dL_list_351 : decode cL_list 351 = .ok (.dup, 1) := by decide +kernel
theorem dL_list_352 : decode cL_list 352 = .ok (.bipush 8, 2) := by decide +kernel
theorem dL_list_354 : decode cL_list 354 = .ok (.iconst 0, 1) := by decide +kernel
theorem dL_list_355 : decode cL_list 355 = .ok (.iastore, 1) := by decide +kernel
theorem dL_list_356 : decode cL_list 356 = .ok (.dup, 1) := by decide +kernel
theorem dL_list_357 : decode cL_list 357 = .ok (.bipush 9, 2) := by decide +kernel
theorem dL_list_359 : decode cL_list 359 = .ok (.iconst 0, 1) := by decide +kernel
theorem dL_list_360 : decode cL_list 360 = .ok (.iastore, 1) := by decide +kernel
theorem dL_list_361 : decode cL_list 361 = .ok (.aastore, 1) := by decide +kernel
theorem dL_list_362 : decode cL_list 362 = .ok (.aload_n 1, 1) := by decide +kernel
theorem dL_list_363 : decode cL_list 363 = .ok (.ldc 143, 2) := by decide +kernel
theorem dL_list_365 : decode cL_list 365 = .ok (.invokevirtual 37, 3) := by decide +kernel
theorem dL_list_368 : decode cL_list 368 = .ok (.iload_n 3, 1) := by decide +kernel
theorem dL_list_369 : decode cL_list 369 = .ok (.invokevirtual 47, 3) := by decide +kernel
theorem dL_list_372 : decode cL_list 372 = .ok (.ldc 145, 2) := by decide +kernel
theorem dL_list_374 : decode cL_list 374 = .ok (.invokevirtual 37, 3) := by decide +kernel
theorem dL_list_377 : decode cL_list 377 = .ok (.aload_n 2, 1) := by decide +kernel
theorem dL_list_378 : decode cL_list 378 = .ok (.getfield 41, 3) := by decide +kernel
theorem dL_list_381 : decode cL_list 381 = .ok (.iload_n 3, 1) := by decide +kernel
theorem dL_list_382 : decode cL_list 382 = .ok (.aaload, 1) := by decide +kernel
theorem dL_list_383 : decode cL_list 383 = .ok (.iconst 0, 1) := by decide +kernel
theorem dL_list_384 : decode cL_list 384 = .ok (.iaload, 1) := by decide +kernel
theorem dL_list_385 : decode cL_list 385 = .ok (.invokevirtual 47, 3) := by decide +kernel
theorem dL_list_388 : decode cL_list 388 = .ok (.ldc 147, 2) := by decide +kernel
theorem dL_list_390 : decode cL_list 390 = .ok (.invokevirtual 37, 3) := by decide +kernel
theorem dL_list_393 : decode cL_list 393 = .ok (.aload_n 2, 1) := by decide +kernel
theorem dL_list_394 : decode cL_list 394 = .ok (.getfield 41, 3) := by decide +kernel
theorem dL_list_397 : decode cL_list 397 = .ok (.iload_n 3, 1) := by decide +kernel
theorem dL_list_398 : decode cL_list 398 = .ok (.aaload, 1) := by decide +kernel
theorem dL_list_399 : decode cL_list 399 = .ok (.iconst 1, 1) := by decide +kernel
theorem dL_list_400 : decode cL_list 400 = .ok (.iaload, 1) := by decide +kernel
theorem dL_list_401 : decode cL_list 401 = .ok (.invokevirtual 47, 3) := by decide +kernel
theorem dL_list_404 : decode cL_list 404 = .ok (.ldc 149, 2) := by decide +kernel
theorem dL_list_406 : decode cL_list 406 = .ok (.invokevirtual 37, 3) := by decide +kernel
theorem dL_list_409 : decode cL_list 409 = .ok (.aload_n 2, 1) := by decide +kernel
theorem dL_list_410 : decode cL_list 410 = .ok (.getfield 41, 3) := by decide +kernel
theorem dL_list_413 : decode cL_list 413 = .ok (.iload_n 3, 1) := by decide +kernel
theorem dL_list_414 : decode cL_list 414 = .ok (.aaload, 1) := by decide +kernel
theorem dL_list_415 : decode cL_list 415 = .ok (.iconst 2, 1) := by decide +kernel
theorem dL_list_416 : decode cL_list 416 = .ok (.iaload, 1) := by decide +kernel
theorem dL_list_417 : decode cL_list 417 = .ok (.invokevirtual 47, 3) := by decide +kernel
theorem dL_list_420 : decode cL_list 420 = .ok (.aload_n 2, 1) := by decide +kernel
theorem dL_list_421 : decode cL_list 421 = .ok (.getfield 41, 3) := by decide +kernel
theorem dL_list_424 : decode cL_list 424 = .ok (.iload_n 3, 1) := by decide +kernel
theorem dL_list_425 : decode cL_list 425 = .ok (.aaload, 1) := by decide +kernel
theorem dL_list_426 : decode cL_list 426 = .ok (.iconst 3, 1) := by decide +kernel
theorem dL_list_427 : decode cL_list 427 = .ok (.iaload, 1) := by decide +kernel
theorem dL_list_428 : decode cL_list 428 = .ok (.iconst 1, 1) := by decide +kernel
theorem dL_list_429 : decode cL_list 429 = .ok (.if_icmp .ne 8, 3) := by decide +kernel
theorem dL_list_432 : decode cL_list 432 = .ok (.ldc 151, 2) := by decide +kernel
theorem dL_list_434 : decode cL_list 434 = .ok (.goto 5, 3) := by decide +kernel
theorem dL_list_437 : decode cL_list 437 = .ok (.ldc 141, 2) := by decide +kernel
theorem dL_list_439 : decode cL_list 439 = .ok (.invokevirtual 37, 3) := by decide +kernel
theorem dL_list_442 : decode cL_list 442 = .ok (.pop, 1) := by decide +kernel
theorem dL_list_443 : decode cL_list 443 = .ok (.iinc 3 1, 3) := by decide +kernel
theorem dL_list_446 : decode cL_list 446 = .ok (.goto (-235), 3) := by decide +kernel
theorem dL_list_449 : decode cL_list 449 = .ok (.aload_n 2, 1) := by decide +kernel
theorem dL_list_450 : decode cL_list 450 = .ok (.aload_n 0, 1) := by decide +kernel
theorem dL_list_451 : decode cL_list 451 = .ok (.bipush 8, 2) := by decide +kernel
theorem dL_list_453 : decode cL_list 453 = .ok (.invokestatic 114, 3) := by decide +kernel
theorem dL_list_456 : decode cL_list 456 = .ok (.bipush 15, 2) := by decide +kernel
theorem dL_list_458 : decode cL_list 458 = .ok (.invokestatic 120, 3) := by decide +kernel
theorem dL_list_461 : decode cL_list 461 = .ok (.anewarray 124, 3) := by decide +kernel
theorem dL_list_464 : decode cL_list 464 = .ok (.putfield 153, 3) := by decide +kernel
theorem dL_list_467 : decode cL_list 467 = .ok (.iconst 0, 1) := by decide +kernel
theorem dL_list_468 : decode cL_list 468 = .ok (.istore_n 3, 1) := by decide +kernel
theorem dL_list_469 : decode cL_list 469 = .ok (.iload_n 3, 1) := by decide +kernel
theorem dL_list_470 : decode cL_list 470 = .ok (.aload_n 2, 1) := by decide +kernel
theorem dL_list_471 : decode cL_list 471 = .ok (.getfield 153, 3) := by decide +kernel
theorem dL_list_474 : decode cL_list 474 = .ok (.arraylength, 1) := by decide +kernel
theorem dL_list_475 : decode cL_list 475 = .ok (.if_icmp .ge 109, 3) := by decide +kernel
theorem dL_list_478 : decode cL_list 478 = .ok (.aload_n 0, 1) := by decide +kernel
theorem dL_list_479 : decode cL_list 479 = .ok (.bipush 9, 2) := by decide +kernel
theorem dL_list_481 : decode cL_list 481 = .ok (.iload_n 3, 1) := by decide +kernel
theorem dL_list_482 : decode cL_list 482 = .ok (.iconst 4, 1) := by decide +kernel
theorem dL_list_483 : decode cL_list 483 = .ok (.irem, 1) := by decide +kernel
theorem dL_list_484 : decode cL_list 484 = .ok (.iadd, 1) := by decide +kernel
theorem dL_list_485 : decode cL_list 485 = .ok (.invokestatic 114, 3) := by decide +kernel
theorem dL_list_488 : decode cL_list 488 = .ok (.iload_n 3, 1) := by decide +kernel
theorem dL_list_489 : decode cL_list 489 = .ok (.iconst 4, 1) := by decide +kernel
theorem dL_list_490 : decode cL_list 490 = .ok (.idiv, 1) := by decide +kernel
theorem dL_list_491 : decode cL_list 491 = .ok (.bipush 6, 2) := by decide +kernel
theorem dL_list_493 : decode cL_list 493 = .ok (.imul, 1) := by decide +kernel
theorem dL_list_494 : decode cL_list 494 = .ok (.ishr, 1) := by decide +kernel
theorem dL_list_495 : decode cL_list 495 = .ok (.istore 4, 2) := by decide +kernel
theorem dL_list_497 : decode cL_list 497 = .ok (.aload_n 2, 1) := by decide +kernel
theorem dL_list_498 : decode cL_list 498 = .ok (.getfield 153, 3) := by decide +kernel
theorem dL_list_501 : decode cL_list 501 = .ok (.iload_n 3, 1) := by decide +kernel
theorem dL_list_502 : decode cL_list 502 = .ok (.iconst 4, 1) := by decide +kernel
theorem dL_list_503 : decode cL_list 503 = .ok (.newarray .int, 2) := by decide +kernel
theorem dL_list_505 : decode cL_list 505 = .ok (.dup, 1) := by decide +kernel
theorem dL_list_506 : decode cL_list 506 = .ok (.iconst 0, 1) := by decide +kernel
theorem dL_list_507 : decode cL_list 507 = .ok (.iconst 1, 1) := by decide +kernel
theorem dL_list_508 : decode cL_list 508 = .ok (.iload 4, 2) := by decide +kernel
theorem dL_list_510 : decode cL_list 510 = .ok (.iload 4, 2) := by decide +kernel
theorem dL_list_512 : decode cL_list 512 = .ok (.iconst 5, 1) := by decide +kernel
theorem dL_list_513 : decode cL_list 513 = .ok (.ishr, 1) := by decide +kernel
theorem dL_list_514 : decode cL_list 514 = .ok (.iconst 2, 1) := by decide +kernel
theorem dL_list_515 : decode cL_list 515 = .ok (.invokestatic 120, 3) := by decide +kernel
theorem dL_list_518 : decode cL_list 518 = .ok (.ifCond .ne 8, 3) := by decide +kernel
theorem dL_list_521 : decode cL_list 521 = .ok (.bipush 60, 2) := by decide +kernel
theorem dL_list_523 : decode cL_list 523 = .ok (.goto 5, 3) := by decide +kernel
theorem dL_list_526 : decode cL_list 526 = .ok (.bipush 15, 2) := by decide +kernel
theorem dL_list_528 : decode cL_list 528 = .ok (.invokestatic 120, 3) := by decide +kernel
theorem dL_list_531 : decode cL_list 531 = .ok (.iadd, 1) := by decide +kernel
theorem dL_list_532 : decode cL_list 532 = .ok (.iastore, 1) := by decide +kernel
theorem dL_list_533 : decode cL_list 533 = .ok (.dup, 1) := by decide +kernel
theorem dL_list_534 : decode cL_list 534 = .ok (.iconst 1, 1) := by decide +kernel
theorem dL_list_535 : decode cL_list 535 = .ok (.iconst 0, 1) := by decide +kernel
theorem dL_list_536 : decode cL_list 536 = .ok (.iastore, 1) := by decide +kernel
theorem dL_list_537 : decode cL_list 537 = .ok (.dup, 1) := by decide +kernel
theorem dL_list_538 : decode cL_list 538 = .ok (.iconst 2, 1) := by decide +kernel
theorem dL_list_539 : decode cL_list 539 = .ok (.iconst (-1), 1) := by decide +kernel
theorem dL_list_540 : decode cL_list 540 = .ok (.iastore, 1) := by decide +kernel
theorem dL_list_541 : decode cL_list 541 = .ok (.dup, 1) := by decide +kernel
theorem dL_list_542 : decode cL_list 542 = .ok (.iconst 3, 1) := by decide +kernel
theorem dL_list_543 : decode cL_list 543 = .ok (.iconst (-1), 1) := by decide +kernel
theorem dL_list_544 : decode cL_list 544 = .ok (.iastore, 1) := by decide +kernel
theorem dL_list_545 : decode cL_list 545 = .ok (.aastore, 1) := by decide +kernel
theorem dL_list_546 : decode cL_list 546 = .ok (.aload_n 1, 1) := by decide +kernel
theorem dL_list_547 : decode cL_list 547 = .ok (.ldc 156, 2) := by decide +kernel
theorem dL_list_549 : decode cL_list 549 = .ok (.invokevirtual 37, 3) := by decide +kernel
theorem dL_list_552 : decode cL_list 552 = .ok (.iload_n 3, 1) := by decide +kernel
theorem dL_list_553 : decode cL_list 553 = .ok (.invokevirtual 47, 3) := by decide +kernel
theorem dL_list_556 : decode cL_list 556 = .ok (.ldc 158, 2) := by decide +kernel
theorem dL_list_558 : decode cL_list 558 = .ok (.invokevirtual 37, 3) := by decide +kernel
theorem dL_list_561 : decode cL_list 561 = .ok (.aload_n 2, 1) := by decide +kernel
theorem dL_list_562 : decode cL_list 562 = .ok (.getfield 153, 3) := by decide +kernel
theorem dL_list_565 : decode cL_list 565 = .ok (.iload_n 3, 1) := by decide +kernel
theorem dL_list_566 : decode cL_list 566 = .ok (.aaload, 1) := by decide +kernel
theorem dL_list_567 : decode cL_list 567 = .ok (.iconst 0, 1) := by decide +kernel
theorem dL_list_568 : decode cL_list 568 = .ok (.iaload, 1) := by decide +kernel
theorem dL_list_569 : decode cL_list 569 = .ok (.invokevirtual 47, 3) := by decide +kernel
theorem dL_list_572 : decode cL_list 572 = .ok (.ldc 141, 2) := by decide +kernel
theorem dL_list_574 : decode cL_list 574 = .ok (.invokevirtual 37, 3) := by decide +kernel
theorem dL_list_577 : decode cL_list 577 = .ok (.pop, 1) := by decide +kernel
theorem dL_list_578 : decode cL_list 578 = .ok (.iinc 3 1, 3) := by decide +kernel
theorem dL_list_581 : decode cL_list 581 = .ok (.goto (-112), 3) := by decide +kernel
theorem dL_list_584 : decode cL_list 584 = .ok (.aload_n 2, 1) := by decide +kernel
theorem dL_list_585 : decode cL_list 585 = .ok (.iconst 5, 1) := by decide +kernel
theorem dL_list_586 : decode cL_list 586 = .ok (.aload_n 2, 1) := by decide +kernel
theorem dL_list_587 : decode cL_list 587 = .ok (.getfield 41, 3) := by decide +kernel
theorem dL_list_590 : decode cL_list 590 = .ok (.arraylength, 1) := by decide +kernel
theorem dL_list_591 : decode cL_list 591 = .ok (.aload_n 0, 1) := by decide +kernel
theorem dL_list_592 : decode cL_list 592 = .ok (.bipush 13, 2) := by decide +kernel
theorem dL_list_594 : decode cL_list 594 = .ok (.invokestatic 114, 3) := by decide +kernel
theorem dL_list_597 : decode cL_list 597 = .ok (.iconst 4, 1) := by decide +kernel
theorem dL_list_598 : decode cL_list 598 = .ok (.invokestatic 120, 3) := by decide +kernel
theorem dL_list_601 : decode cL_list 601 = .ok (.iadd, 1) := by decide +kernel
theorem dL_list_602 : decode cL_list 602 = .ok (.invokestatic 160, 3) := by decide +kernel
theorem dL_list_605 : decode cL_list 605 = .ok (.anewarray 124, 3) := by decide +kernel
theorem dL_list_608 : decode cL_list 608 = .ok (.putfield 163, 3) := by decide +kernel
theorem dL_list_611 : decode cL_list 611 = .ok (.iconst 0, 1) := by decide +kernel
theorem dL_list_612 : decode cL_list 612 = .ok (.istore_n 3, 1) := by decide +kernel
theorem dL_list_613 : decode cL_list 613 = .ok (.iload_n 3, 1) := by decide +kernel
theorem dL_list_614 : decode cL_list 614 = .ok (.aload_n 2, 1) := by decide +kernel
theorem dL_list_615 : decode cL_list 615 = .ok (.getfield 163, 3) := by decide +kernel
theorem dL_list_618 : decode cL_list 618 = .ok (.arraylength, 1) := by decide +kernel
theorem dL_list_619 : decode cL_list 619 = .ok (.if_icmp .ge 243, 3) := by decide +kernel
theorem dL_list_622 : decode cL_list 622 = .ok (.aload_n 0, 1) := by decide +kernel
theorem dL_list_623 : decode cL_list 623 = .ok (.bipush 13, 2) := by decide +kernel
theorem dL_list_625 : decode cL_list 625 = .ok (.iload_n 3, 1) := by decide +kernel
theorem dL_list_626 : decode cL_list 626 = .ok (.iconst 3, 1) := by decide +kernel
theorem dL_list_627 : decode cL_list 627 = .ok (.irem, 1) := by decide +kernel
theorem dL_list_628 : decode cL_list 628 = .ok (.iadd, 1) := by decide +kernel
theorem dL_list_629 : decode cL_list 629 = .ok (.invokestatic 114, 3) := by decide +kernel
theorem dL_list_632 : decode cL_list 632 = .ok (.iload_n 3, 1) := by decide +kernel
theorem dL_list_633 : decode cL_list 633 = .ok (.iconst 3, 1) := by decide +kernel
theorem dL_list_634 : decode cL_list 634 = .ok (.idiv, 1) := by decide +kernel
theorem dL_list_635 : decode cL_list 635 = .ok (.bipush 11, 2) := by decide +kernel
theorem dL_list_637 : decode cL_list 637 = .ok (.imul, 1) := by decide +kernel
theorem dL_list_638 : decode cL_list 638 = .ok (.ishr, 1) := by decide +kernel
theorem dL_list_639 : decode cL_list 639 = .ok (.istore 4, 2) := by decide +kernel
theorem dL_list_641 : decode cL_list 641 = .ok (.iload_n 3, 1) := by decide +kernel
theorem dL_list_642 : decode cL_list 642 = .ok (.aload_n 2, 1) := by decide +kernel
theorem dL_list_643 : decode cL_list 643 = .ok (.getfield 41, 3) := by decide +kernel
theorem dL_list_646 : decode cL_list 646 = .ok (.arraylength, 1) := by decide +kernel
theorem dL_list_647 : decode cL_list 647 = .ok (.irem, 1) := by decide +kernel
theorem dL_list_648 : decode cL_list 648 = .ok (.istore 5, 2) := by decide +kernel
theorem dL_list_650 : decode cL_list 650 = .ok (.aload_n 2, 1) := by decide +kernel
theorem dL_list_651 : decode cL_list 651 = .ok (.getfield 163, 3) := by decide +kernel
theorem dL_list_654 : decode cL_list 654 = .ok (.iload_n 3, 1) := by decide +kernel
theorem dL_list_655 : decode cL_list 655 = .ok (.bipush 7, 2) := by decide +kernel
theorem dL_list_657 : decode cL_list 657 = .ok (.newarray .int, 2) := by decide +kernel
theorem dL_list_659 : decode cL_list 659 = .ok (.dup, 1) := by decide +kernel
theorem dL_list_660 : decode cL_list 660 = .ok (.iconst 0, 1) := by decide +kernel
theorem dL_list_661 : decode cL_list 661 = .ok (.iload 5, 2) := by decide +kernel
theorem dL_list_663 : decode cL_list 663 = .ok (.iastore, 1) := by decide +kernel
theorem dL_list_664 : decode cL_list 664 = .ok (.dup, 1) := by decide +kernel
theorem dL_list_665 : decode cL_list 665 = .ok (.iconst 1, 1) := by decide +kernel
theorem dL_list_666 : decode cL_list 666 = .ok (.iload 4, 2) := by decide +kernel
theorem dL_list_668 : decode cL_list 668 = .ok (.bipush 6, 2) := by decide +kernel
theorem dL_list_670 : decode cL_list 670 = .ok (.invokestatic 120, 3) := by decide +kernel
theorem dL_list_673 : decode cL_list 673 = .ok (.iastore, 1) := by decide +kernel
theorem dL_list_674 : decode cL_list 674 = .ok (.dup, 1) := by decide +kernel
theorem dL_list_675 : decode cL_list 675 = .ok (.iconst 2, 1) := by decide +kernel
theorem dL_list_676 : decode cL_list 676 = .ok (.iload 4, 2) := by decide +kernel
theorem dL_list_678 : decode cL_list 678 = .ok (.iconst 3, 1) := by decide +kernel
theorem dL_list_679 : decode cL_list 679 = .ok (.ishr, 1) := by decide +kernel
theorem dL_list_680 : decode cL_list 680 = .ok (.iload 4, 2) := by decide +kernel
theorem dL_list_682 : decode cL_list 682 = .ok (.bipush 9, 2) := by decide +kernel
theorem dL_list_684 : decode cL_list 684 = .ok (.ishr, 1) := by decide +kernel
theorem dL_list_685 : decode cL_list 685 = .ok (.iconst 2, 1) := by decide +kernel
theorem dL_list_686 : decode cL_list 686 = .ok (.invokestatic 120, 3) := by decide +kernel
theorem dL_list_689 : decode cL_list 689 = .ok (.ifCond .ne 8, 3) := by decide +kernel
theorem dL_list_692 : decode cL_list 692 = .ok (.bipush 99, 2) := by decide +kernel
theorem dL_list_694 : decode cL_list 694 = .ok (.goto 5, 3) := by decide +kernel
theorem dL_list_697 : decode cL_list 697 = .ok (.bipush 40, 2) := by decide +kernel
theorem dL_list_699 : decode cL_list 699 = .ok (.invokestatic 120, 3) := by decide +kernel
theorem dL_list_702 : decode cL_list 702 = .ok (.iastore, 1) := by decide +kernel
theorem dL_list_703 : decode cL_list 703 = .ok (.dup, 1) := by decide +kernel
theorem dL_list_704 : decode cL_list 704 = .ok (.iconst 3, 1) := by decide +kernel
theorem dL_list_705 : decode cL_list 705 = .ok (.iload 4, 2) := by decide +kernel
theorem dL_list_707 : decode cL_list 707 = .ok (.iconst 5, 1) := by decide +kernel
theorem dL_list_708 : decode cL_list 708 = .ok (.ishr, 1) := by decide +kernel
theorem dL_list_709 : decode cL_list 709 = .ok (.bipush 10, 2) := by decide +kernel
theorem dL_list_711 : decode cL_list 711 = .ok (.invokestatic 120, 3) := by decide +kernel
theorem dL_list_714 : decode cL_list 714 = .ok (.iastore, 1) := by decide +kernel
theorem dL_list_715 : decode cL_list 715 = .ok (.dup, 1) := by decide +kernel
theorem dL_list_716 : decode cL_list 716 = .ok (.iconst 4, 1) := by decide +kernel
theorem dL_list_717 : decode cL_list 717 = .ok (.iload 4, 2) := by decide +kernel
theorem dL_list_719 : decode cL_list 719 = .ok (.iconst 4, 1) := by decide +kernel
theorem dL_list_720 : decode cL_list 720 = .ok (.ishr, 1) := by decide +kernel
theorem dL_list_721 : decode cL_list 721 = .ok (.bipush 10, 2) := by decide +kernel
theorem dL_list_723 : decode cL_list 723 = .ok (.invokestatic 120, 3) := by decide +kernel
theorem dL_list_726 : decode cL_list 726 = .ok (.iconst 3, 1) := by decide +kernel
theorem dL_list_727 : decode cL_list 727 = .ok (.isub, 1) := by decide +kernel
theorem dL_list_728 : decode cL_list 728 = .ok (.iastore, 1) := by decide +kernel
theorem dL_list_729 : decode cL_list 729 = .ok (.dup, 1) := by decide +kernel
theorem dL_list_730 : decode cL_list 730 = .ok (.iconst 5, 1) := by decide +kernel
theorem dL_list_731 : decode cL_list 731 = .ok (.iload 4, 2) := by decide +kernel
theorem dL_list_733 : decode cL_list 733 = .ok (.bipush 6, 2) := by decide +kernel
theorem dL_list_735 : decode cL_list 735 = .ok (.ishr, 1) := by decide +kernel
theorem dL_list_736 : decode cL_list 736 = .ok (.bipush 60, 2) := by decide +kernel
theorem dL_list_738 : decode cL_list 738 = .ok (.invokestatic 120, 3) := by decide +kernel
theorem dL_list_741 : decode cL_list 741 = .ok (.iastore, 1) := by decide +kernel
theorem dL_list_742 : decode cL_list 742 = .ok (.dup, 1) := by decide +kernel
theorem dL_list_743 : decode cL_list 743 = .ok (.bipush 6, 2) := by decide +kernel
theorem dL_list_745 : decode cL_list 745 = .ok (.iload 4, 2) := by decide +kernel
theorem dL_list_747 : decode cL_list 747 = .ok (.bipush 7, 2) := by decide +kernel
theorem dL_list_749 : decode cL_list 749 = .ok (.ishr, 1) := by decide +kernel
theorem dL_list_750 : decode cL_list 750 = .ok (.bipush 10, 2) := by decide +kernel
theorem dL_list_752 : decode cL_list 752 = .ok (.invokestatic 120, 3) := by decide +kernel
theorem dL_list_755 : decode cL_list 755 = .ok (.iastore, 1) := by decide +kernel
theorem dL_list_756 : decode cL_list 756 = .ok (.aastore, 1) := by decide +kernel
theorem dL_list_757 : decode cL_list 757 = .ok (.aload_n 1, 1) := by decide +kernel
theorem dL_list_758 : decode cL_list 758 = .ok (.ldc 166, 2) := by decide +kernel
theorem dL_list_760 : decode cL_list 760 = .ok (.invokevirtual 37, 3) := by decide +kernel
theorem dL_list_763 : decode cL_list 763 = .ok (.iload 5, 2) := by decide +kernel
theorem dL_list_765 : decode cL_list 765 = .ok (.invokevirtual 47, 3) := by decide +kernel
theorem dL_list_768 : decode cL_list 768 = .ok (.ldc 168, 2) := by decide +kernel
theorem dL_list_770 : decode cL_list 770 = .ok (.invokevirtual 37, 3) := by decide +kernel
theorem dL_list_773 : decode cL_list 773 = .ok (.aload_n 2, 1) := by decide +kernel
theorem dL_list_774 : decode cL_list 774 = .ok (.getfield 163, 3) := by decide +kernel
theorem dL_list_777 : decode cL_list 777 = .ok (.iload_n 3, 1) := by decide +kernel
theorem dL_list_778 : decode cL_list 778 = .ok (.aaload, 1) := by decide +kernel
theorem dL_list_779 : decode cL_list 779 = .ok (.aload_n 2, 1) := by decide +kernel
theorem dL_list_780 : decode cL_list 780 = .ok (.invokestatic 170, 3) := by decide +kernel
theorem dL_list_783 : decode cL_list 783 = .ok (.invokevirtual 37, 3) := by decide +kernel
theorem dL_list_786 : decode cL_list 786 = .ok (.pop, 1) := by decide +kernel
theorem dL_list_787 : decode cL_list 787 = .ok (.aload_n 2, 1) := by decide +kernel
theorem dL_list_788 : decode cL_list 788 = .ok (.getfield 163, 3) := by decide +kernel
theorem dL_list_791 : decode cL_list 791 = .ok (.iload_n 3, 1) := by decide +kernel
theorem dL_list_792 : decode cL_list 792 = .ok (.aaload, 1) := by decide +kernel
theorem dL_list_793 : decode cL_list 793 = .ok (.iconst 4, 1) := by decide +kernel
theorem dL_list_794 : decode cL_list 794 = .ok (.iaload, 1) := by decide +kernel
theorem dL_list_795 : decode cL_list 795 = .ok (.ifCond .lt 45, 3) := by decide +kernel
theorem dL_list_798 : decode cL_list 798 = .ok (.aload_n 1, 1) := by decide +kernel
theorem dL_list_799 : decode cL_list 799 = .ok (.ldc 174, 2) := by decide +kernel
theorem dL_list_801 : decode cL_list 801 = .ok (.invokevirtual 37, 3) := by decide +kernel
theorem dL_list_804 : decode cL_list 804 = .ok (.aload_n 2, 1) := by decide +kernel
theorem dL_list_805 : decode cL_list 805 = .ok (.getfield 163, 3) := by decide +kernel
theorem dL_list_808 : decode cL_list 808 = .ok (.iload_n 3, 1) := by decide +kernel
theorem dL_list_809 : decode cL_list 809 = .ok (.aaload, 1) := by decide +kernel
theorem dL_list_810 : decode cL_list 810 = .ok (.iconst 4, 1) := by decide +kernel
theorem dL_list_811 : decode cL_list 811 = .ok (.iaload, 1) := by decide +kernel
theorem dL_list_812 : decode cL_list 812 = .ok (.aload_n 2, 1) := by decide +kernel
theorem dL_list_813 : decode cL_list 813 = .ok (.getfield 163, 3) := by decide +kernel
theorem dL_list_816 : decode cL_list 816 = .ok (.iload_n 3, 1) := by decide +kernel
theorem dL_list_817 : decode cL_list 817 = .ok (.aaload, 1) := by decide +kernel
theorem dL_list_818 : decode cL_list 818 = .ok (.iconst 5, 1) := by decide +kernel
theorem dL_list_819 : decode cL_list 819 = .ok (.iaload, 1) := by decide +kernel
theorem dL_list_820 : decode cL_list 820 = .ok (.aload_n 2, 1) := by decide +kernel
theorem dL_list_821 : decode cL_list 821 = .ok (.getfield 163, 3) := by decide +kernel
theorem dL_list_824 : decode cL_list 824 = .ok (.iload_n 3, 1) := by decide +kernel
theorem dL_list_825 : decode cL_list 825 = .ok (.aaload, 1) := by decide +kernel
theorem dL_list_826 : decode cL_list 826 = .ok (.bipush 6, 2) := by decide +kernel
theorem dL_list_828 : decode cL_list 828 = .ok (.iaload, 1) := by decide +kernel
theorem dL_list_829 : decode cL_list 829 = .ok (.aload_n 2, 1) := by decide +kernel
theorem dL_list_830 : decode cL_list 830 = .ok (.invokestatic 176, 3) := by decide +kernel
theorem dL_list_833 : decode cL_list 833 = .ok (.invokevirtual 37, 3) := by decide +kernel
theorem dL_list_836 : decode cL_list 836 = .ok (.pop, 1) := by decide +kernel
theorem dL_list_837 : decode cL_list 837 = .ok (.goto 12, 3) := by decide +kernel
theorem dL_list_840 : decode cL_list 840 = .ok (.aload_n 2, 1) := by decide +kernel
theorem dL_list_841 : decode cL_list 841 = .ok (.getfield 163, 3) := by decide +kernel
theorem dL_list_844 : decode cL_list 844 = .ok (.iload_n 3, 1) := by decide +kernel
theorem dL_list_845 : decode cL_list 845 = .ok (.aaload, 1) := by decide +kernel
theorem dL_list_846 : decode cL_list 846 = .ok (.iconst 4, 1) := by decide +kernel
theorem dL_list_847 : decode cL_list 847 = .ok (.iconst (-1), 1) := by decide +kernel
theorem dL_list_848 : decode cL_list 848 = .ok (.iastore, 1) := by decide +kernel
theorem dL_list_849 : decode cL_list 849 = .ok (.aload_n 1, 1) := by decide +kernel
theorem dL_list_850 : decode cL_list 850 = .ok (.ldc 180, 2) := by decide +kernel
theorem dL_list_852 : decode cL_list 852 = .ok (.invokevirtual 37, 3) := by decide +kernel
theorem dL_list_855 : decode cL_list 855 = .ok (.pop, 1) := by decide +kernel
theorem dL_list_856 : decode cL_list 856 = .ok (.iinc 3 1, 3) := by decide +kernel
theorem dL_list_859 : decode cL_list 859 = .ok (.goto (-246), 3) := by decide +kernel
theorem dL_list_862 : decode cL_list 862 = .ok (.aload_n 2, 1) := by decide +kernel
theorem dL_list_863 : decode cL_list 863 = .ok (.aload_n 0, 1) := by decide +kernel
theorem dL_list_864 : decode cL_list 864 = .ok (.bipush 14, 2) := by decide +kernel
theorem dL_list_866 : decode cL_list 866 = .ok (.invokestatic 114, 3) := by decide +kernel
theorem dL_list_869 : decode cL_list 869 = .ok (.iconst 5, 1) := by decide +kernel
theorem dL_list_870 : decode cL_list 870 = .ok (.ishr, 1) := by decide +kernel
theorem dL_list_871 : decode cL_list 871 = .ok (.iconst 4, 1) := by decide +kernel
theorem dL_list_872 : decode cL_list 872 = .ok (.invokestatic 120, 3) := by decide +kernel
theorem dL_list_875 : decode cL_list 875 = .ok (.anewarray 124, 3) := by decide +kernel
theorem dL_list_878 : decode cL_list 878 = .ok (.putfield 182, 3) := by decide +kernel
theorem dL_list_881 : decode cL_list 881 = .ok (.iconst 0, 1) := by decide +kernel
theorem dL_list_882 : decode cL_list 882 = .ok (.istore_n 3, 1) := by decide +kernel
theorem dL_list_883 : decode cL_list 883 = .ok (.iload_n 3, 1) := by decide +kernel
theorem dL_list_884 : decode cL_list 884 = .ok (.aload_n 2, 1) := by decide +kernel
theorem dL_list_885 : decode cL_list 885 = .ok (.getfield 182, 3) := by decide +kernel
theorem dL_list_888 : decode cL_list 888 = .ok (.arraylength, 1) := by decide +kernel
theorem dL_list_889 : decode cL_list 889 = .ok (.if_icmp .ge 175, 3) := by decide +kernel
theorem dL_list_892 : decode cL_list 892 = .ok (.aload_n 0, 1) := by decide +kernel
theorem dL_list_893 : decode cL_list 893 = .ok (.bipush 14, 2) := by decide +kernel
theorem dL_list_895 : decode cL_list 895 = .ok (.iload_n 3, 1) := by decide +kernel
theorem dL_list_896 : decode cL_list 896 = .ok (.iconst 2, 1) := by decide +kernel
theorem dL_list_897 : decode cL_list 897 = .ok (.irem, 1) := by decide +kernel
theorem dL_list_898 : decode cL_list 898 = .ok (.iadd, 1) := by decide +kernel
theorem dL_list_899 : decode cL_list 899 = .ok (.invokestatic 114, 3) := by decide +kernel
theorem dL_list_902 : decode cL_list 902 = .ok (.iload_n 3, 1) := by decide +kernel
theorem dL_list_903 : decode cL_list 903 = .ok (.bipush 6, 2) := by decide +kernel
theorem dL_list_905 : decode cL_list 905 = .ok (.imul, 1) := by decide +kernel
theorem dL_list_906 : decode cL_list 906 = .ok (.ishr, 1) := by decide +kernel
theorem dL_list_907 : decode cL_list 907 = .ok (.istore 4, 2) := by decide +kernel
theorem dL_list_909 : decode cL_list 909 = .ok (.aload_n 2, 1) := by decide +kernel
theorem dL_list_910 : decode cL_list 910 = .ok (.getfield 182, 3) := by decide +kernel
theorem dL_list_913 : decode cL_list 913 = .ok (.iload_n 3, 1) := by decide +kernel
theorem dL_list_914 : decode cL_list 914 = .ok (.iconst 5, 1) := by decide +kernel
theorem dL_list_915 : decode cL_list 915 = .ok (.newarray .int, 2) := by decide +kernel
theorem dL_list_917 : decode cL_list 917 = .ok (.dup, 1) := by decide +kernel
theorem dL_list_918 : decode cL_list 918 = .ok (.iconst 0, 1) := by decide +kernel
theorem dL_list_919 : decode cL_list 919 = .ok (.iload 4, 2) := by decide +kernel
theorem dL_list_921 : decode cL_list 921 = .ok (.aload_n 2, 1) := by decide +kernel
theorem dL_list_922 : decode cL_list 922 = .ok (.getfield 41, 3) := by decide +kernel
theorem dL_list_925 : decode cL_list 925 = .ok (.arraylength, 1) := by decide +kernel
theorem dL_list_926 : decode cL_list 926 = .ok (.invokestatic 120, 3) := by decide +kernel
theorem dL_list_929 : decode cL_list 929 = .ok (.iastore, 1) := by decide +kernel
theorem dL_list_930 : decode cL_list 930 = .ok (.dup, 1) := by decide +kernel
theorem dL_list_931 : decode cL_list 931 = .ok (.iconst 1, 1) := by decide +kernel
theorem dL_list_932 : decode cL_list 932 = .ok (.iload 4, 2) := by decide +kernel
theorem dL_list_934 : decode cL_list 934 = .ok (.iconst 4, 1) := by decide +kernel
theorem dL_list_935 : decode cL_list 935 = .ok (.ishr, 1) := by decide +kernel
theorem dL_list_936 : decode cL_list 936 = .ok (.aload_n 2, 1) := by decide +kernel
theorem dL_list_937 : decode cL_list 937 = .ok (.getfield 56, 3) := by decide +kernel
theorem dL_list_940 : decode cL_list 940 = .ok (.arraylength, 1) := by decide +kernel
theorem dL_list_941 : decode cL_list 941 = .ok (.invokestatic 120, 3) := by decide +kernel
theorem dL_list_944 : decode cL_list 944 = .ok (.iastore, 1) := by decide +kernel
theorem dL_list_945 : decode cL_list 945 = .ok (.dup, 1) := by decide +kernel
theorem dL_list_946 : decode cL_list 946 = .ok (.iconst 2, 1) := by decide +kernel
theorem dL_list_947 : decode cL_list 947 = .ok (.iload 4, 2) := by decide +kernel
theorem dL_list_949 : decode cL_list 949 = .ok (.iconst 3, 1) := by decide +kernel
theorem dL_list_950 : decode cL_list 950 = .ok (.ishr, 1) := by decide +kernel
theorem dL_list_951 : decode cL_list 951 = .ok (.bipush 7, 2) := by decide +kernel
theorem dL_list_953 : decode cL_list 953 = .ok (.invokestatic 120, 3) := by decide +kernel
theorem dL_list_956 : decode cL_list 956 = .ok (.iastore, 1) := by decide +kernel
theorem dL_list_957 : decode cL_list 957 = .ok (.dup, 1) := by decide +kernel
theorem dL_list_958 : decode cL_list 958 = .ok (.iconst 3, 1) := by decide +kernel
theorem dL_list_959 : decode cL_list 959 = .ok (.iload 4, 2) := by decide +kernel
theorem dL_list_961 : decode cL_list 961 = .ok (.bipush 6, 2) := by decide +kernel
theorem dL_list_963 : decode cL_list 963 = .ok (.ishr, 1) := by decide +kernel
theorem dL_list_964 : decode cL_list 964 = .ok (.bipush 60, 2) := by decide +kernel
theorem dL_list_966 : decode cL_list 966 = .ok (.invokestatic 120, 3) := by decide +kernel
theorem dL_list_969 : decode cL_list 969 = .ok (.iastore, 1) := by decide +kernel
theorem dL_list_970 : decode cL_list 970 = .ok (.dup, 1) := by decide +kernel
theorem dL_list_971 : decode cL_list 971 = .ok (.iconst 4, 1) := by decide +kernel
theorem dL_list_972 : decode cL_list 972 = .ok (.iload 4, 2) := by decide +kernel
theorem dL_list_974 : decode cL_list 974 = .ok (.iconst 5, 1) := by decide +kernel
theorem dL_list_975 : decode cL_list 975 = .ok (.ishr, 1) := by decide +kernel
theorem dL_list_976 : decode cL_list 976 = .ok (.bipush 10, 2) := by decide +kernel
theorem dL_list_978 : decode cL_list 978 = .ok (.invokestatic 120, 3) := by decide +kernel
theorem dL_list_981 : decode cL_list 981 = .ok (.iastore, 1) := by decide +kernel
theorem dL_list_982 : decode cL_list 982 = .ok (.aastore, 1) := by decide +kernel
theorem dL_list_983 : decode cL_list 983 = .ok (.aload_n 1, 1) := by decide +kernel
theorem dL_list_984 : decode cL_list 984 = .ok (.ldc 185, 2) := by decide +kernel
theorem dL_list_986 : decode cL_list 986 = .ok (.invokevirtual 37, 3) := by decide +kernel
theorem dL_list_989 : decode cL_list 989 = .ok (.aload_n 2, 1) := by decide +kernel
theorem dL_list_990 : decode cL_list 990 = .ok (.getfield 182, 3) := by decide +kernel
theorem dL_list_993 : decode cL_list 993 = .ok (.iload_n 3, 1) := by decide +kernel
theorem dL_list_994 : decode cL_list 994 = .ok (.aaload, 1) := by decide +kernel
theorem dL_list_995 : decode cL_list 995 = .ok (.iconst 0, 1) := by decide +kernel
theorem dL_list_996 : decode cL_list 996 = .ok (.iaload, 1) := by decide +kernel
theorem dL_list_997 : decode cL_list 997 = .ok (.invokevirtual 47, 3) := by decide +kernel
theorem dL_list_1000 : decode cL_list 1000 = .ok (.ldc 187, 2) := by decide +kernel
theorem dL_list_1002 : decode cL_list 1002 = .ok (.invokevirtual 37, 3) := by decide +kernel
theorem dL_list_1005 : decode cL_list 1005 = .ok (.aload_n 2, 1) := by decide +kernel
theorem dL_list_1006 : decode cL_list 1006 = .ok (.getfield 182, 3) := by decide +kernel
theorem dL_list_1009 : decode cL_list 1009 = .ok (.iload_n 3, 1) := by decide +kernel
theorem dL_list_1010 : decode cL_list 1010 = .ok (.aaload, 1) := by decide +kernel
theorem dL_list_1011 : decode cL_list 1011 = .ok (.iconst 1, 1) := by decide +kernel
theorem dL_list_1012 : decode cL_list 1012 = .ok (.iaload, 1) := by decide +kernel
theorem dL_list_1013 : decode cL_list 1013 = .ok (.invokevirtual 47, 3) := by decide +kernel
theorem dL_list_1016 : decode cL_list 1016 = .ok (.ldc 174, 2) := by decide +kernel
theorem dL_list_1018 : decode cL_list 1018 = .ok (.invokevirtual 37, 3) := by decide +kernel
theorem dL_list_1021 : decode cL_list 1021 = .ok (.aload_n 2, 1) := by decide +kernel
theorem dL_list_1022 : decode cL_list 1022 = .ok (.getfield 182, 3) := by decide +kernel
theorem dL_list_1025 : decode cL_list 1025 = .ok (.iload_n 3, 1) := by decide +kernel
theorem dL_list_1026 : decode cL_list 1026 = .ok (.aaload, 1) := by decide +kernel
theorem dL_list_1027 : decode cL_list 1027 = .ok (.iconst 2, 1) := by decide +kernel
theorem dL_list_1028 : decode cL_list 1028 = .ok (.iaload, 1) := by decide +kernel
theorem dL_list_1029 : decode cL_list 1029 = .ok (.aload_n 2, 1) := by decide +kernel
theorem dL_list_1030 : decode cL_list 1030 = .ok (.getfield 182, 3) := by decide +kernel
theorem dL_list_1033 : decode cL_list 1033 = .ok (.iload_n 3, 1) := by decide +kernel
theorem dL_list_1034 : decode cL_list 1034 = .ok (.aaload, 1) := by decide +kernel
theorem dL_list_1035 : decode cL_list 1035 = .ok (.iconst 3, 1) := by decide +kernel
theorem dL_list_1036 : decode cL_list 1036 = .ok (.iaload, 1) := by decide +kernel
theorem dL_list_1037 : decode cL_list 1037 = .ok (.aload_n 2, 1) := by decide +kernel
theorem dL_list_1038 : decode cL_list 1038 = .ok (.getfield 182, 3) := by decide +kernel
theorem dL_list_1041 : decode cL_list 1041 = .ok (.iload_n 3, 1) := by decide +kernel
theorem dL_list_1042 : decode cL_list 1042 = .ok (.aaload, 1) := by decide +kernel
theorem dL_list_1043 : decode cL_list 1043 = .ok (.iconst 4, 1) := by decide +kernel
theorem dL_list_1044 : decode cL_list 1044 = .ok (.iaload, 1) := by decide +kernel
theorem dL_list_1045 : decode cL_list 1045 = .ok (.aload_n 2, 1) := by decide +kernel
theorem dL_list_1046 : decode cL_list 1046 = .ok (.invokestatic 176, 3) := by decide +kernel
theorem dL_list_1049 : decode cL_list 1049 = .ok (.invokevirtual 37, 3) := by decide +kernel
theorem dL_list_1052 : decode cL_list 1052 = .ok (.ldc 141, 2) := by decide +kernel
theorem dL_list_1054 : decode cL_list 1054 = .ok (.invokevirtual 37, 3) := by decide +kernel
theorem dL_list_1057 : decode cL_list 1057 = .ok (.pop, 1) := by decide +kernel
theorem dL_list_1058 : decode cL_list 1058 = .ok (.iinc 3 1, 3) := by decide +kernel
theorem dL_list_1061 : decode cL_list 1061 = .ok (.goto (-178), 3) := by decide +kernel
theorem dL_list_1064 : decode cL_list 1064 = .ok (.aload_n 2, 1) := by decide +kernel
theorem dL_list_1065 : decode cL_list 1065 = .ok (.areturn, 1) := by decide +kernel
theorem dL_act_0 : decode cL_act 0 = .ok (.iload_n 2, 1) := by decide +kernel
theorem dL_act_1 : decode cL_act 1 = .ok (.iconst 3, 1) := by decide +kernel
theorem dL_act_2 : decode cL_act 2 = .ok (.invokestatic 120, 3) := by decide +kernel
theorem dL_act_5 : decode cL_act 5 = .ok (.lookupswitch 148 #[(0, 27), (1, 64)], 27) := by decide +kernel
theorem dL_act_32 : decode cL_act 32 = .ok (.aload_n 1, 1) := by decide +kernel
theorem dL_act_33 : decode cL_act 33 = .ok (.getfield 189, 3) := by decide +kernel
theorem dL_act_36 : decode cL_act 36 = .ok (.istore_n 3, 1) := by decide +kernel
theorem dL_act_37 : decode cL_act 37 = .ok (.aload_n 1, 1) := by decide +kernel
theorem dL_act_38 : decode cL_act 38 = .ok (.iload_n 2, 1) := by decide +kernel
theorem dL_act_39 : decode cL_act 39 = .ok (.iconst 3, 1) := by decide +kernel
theorem dL_act_40 : decode cL_act 40 = .ok (.ishr, 1) := by decide +kernel
theorem dL_act_41 : decode cL_act 41 = .ok (.bipush 7, 2) := by decide +kernel
theorem dL_act_43 : decode cL_act 43 = .ok (.invokestatic 120, 3) := by decide +kernel
theorem dL_act_46 : decode cL_act 46 = .ok (.iconst 3, 1) := by decide +kernel
theorem dL_act_47 : decode cL_act 47 = .ok (.isub, 1) := by decide +kernel
theorem dL_act_48 : decode cL_act 48 = .ok (.putfield 189, 3) := by decide +kernel
theorem dL_act_51 : decode cL_act 51 = .ok (.aload_n 0, 1) := by decide +kernel
theorem dL_act_52 : decode cL_act 52 = .ok (.aload_n 1, 1) := by decide +kernel
theorem dL_act_53 : decode cL_act 53 = .ok (.getfield 189, 3) := by decide +kernel
theorem dL_act_56 : decode cL_act 56 = .ok (.invokevirtual 193, 3) := by decide +kernel
theorem dL_act_59 : decode cL_act 59 = .ok (.iload_n 3, 1) := by decide +kernel
theorem dL_act_60 : decode cL_act 60 = .ok (.if_icmp .ne 7, 3) := by decide +kernel
theorem dL_act_63 : decode cL_act 63 = .ok (.iconst 1, 1) := by decide +kernel
theorem dL_act_64 : decode cL_act 64 = .ok (.goto 4, 3) := by decide +kernel
theorem dL_act_67 : decode cL_act 67 = .ok (.iconst 0, 1) := by decide +kernel
theorem dL_act_68 : decode cL_act 68 = .ok (.ireturn, 1) := by decide +kernel
theorem dL_act_69 : decode cL_act 69 = .ok (.aload_n 1, 1) := by decide +kernel
theorem dL_act_70 : decode cL_act 70 = .ok (.getfield 41, 3) := by decide +kernel
theorem dL_act_73 : decode cL_act 73 = .ok (.iload_n 2, 1) := by decide +kernel
theorem dL_act_74 : decode cL_act 74 = .ok (.iconst 4, 1) := by decide +kernel
theorem dL_act_75 : decode cL_act 75 = .ok (.ishr, 1) := by decide +kernel
theorem dL_act_76 : decode cL_act 76 = .ok (.aload_n 1, 1) := by decide +kernel
theorem dL_act_77 : decode cL_act 77 = .ok (.getfield 41, 3) := by decide +kernel
theorem dL_act_80 : decode cL_act 80 = .ok (.arraylength, 1) := by decide +kernel
theorem dL_act_81 : decode cL_act 81 = .ok (.invokestatic 120, 3) := by decide +kernel
theorem dL_act_84 : decode cL_act 84 = .ok (.aaload, 1) := by decide +kernel
theorem dL_act_85 : decode cL_act 85 = .ok (.astore_n 3, 1) := by decide +kernel
theorem dL_act_86 : decode cL_act 86 = .ok (.iconst 1, 1) := by decide +kernel
theorem dL_act_87 : decode cL_act 87 = .ok (.iload_n 2, 1) := by decide +kernel
theorem dL_act_88 : decode cL_act 88 = .ok (.bipush 6, 2) := by decide +kernel
theorem dL_act_90 : decode cL_act 90 = .ok (.ishr, 1) := by decide +kernel
theorem dL_act_91 : decode cL_act 91 = .ok (.bipush 9, 2) := by decide +kernel
theorem dL_act_93 : decode cL_act 93 = .ok (.invokestatic 120, 3) := by decide +kernel
theorem dL_act_96 : decode cL_act 96 = .ok (.iadd, 1) := by decide +kernel
theorem dL_act_97 : decode cL_act 97 = .ok (.istore 4, 2) := by decide +kernel
theorem dL_act_99 : decode cL_act 99 = .ok (.aload_n 3, 1) := by decide +kernel
theorem dL_act_100 : decode cL_act 100 = .ok (.iconst 1, 1) := by decide +kernel
theorem dL_act_101 : decode cL_act 101 = .ok (.aload_n 3, 1) := by decide +kernel
theorem dL_act_102 : decode cL_act 102 = .ok (.iconst 1, 1) := by decide +kernel
theorem dL_act_103 : decode cL_act 103 = .ok (.iaload, 1) := by decide +kernel
theorem dL_act_104 : decode cL_act 104 = .ok (.iload 4, 2) := by decide +kernel
theorem dL_act_106 : decode cL_act 106 = .ok (.iadd, 1) := by decide +kernel
theorem dL_act_107 : decode cL_act 107 = .ok (.bipush 9, 2) := by decide +kernel
theorem dL_act_109 : decode cL_act 109 = .ok (.if_icmp .le 8, 3) := by decide +kernel
theorem dL_act_112 : decode cL_act 112 = .ok (.bipush 9, 2) := by decide +kernel
theorem dL_act_114 : decode cL_act 114 = .ok (.goto 9, 3) := by decide +kernel
theorem dL_act_117 : decode cL_act 117 = .ok (.aload_n 3, 1) := by decide +kernel
theorem dL_act_118 : decode cL_act 118 = .ok (.iconst 1, 1) := by decide +kernel
theorem dL_act_119 : decode cL_act 119 = .ok (.iaload, 1) := by decide +kernel
theorem dL_act_120 : decode cL_act 120 = .ok (.iload 4, 2) := by decide +kernel
theorem dL_act_122 : decode cL_act 122 = .ok (.iadd, 1) := by decide +kernel
theorem dL_act_123 : decode cL_act 123 = .ok (.iastore, 1) := by decide +kernel
theorem dL_act_124 : decode cL_act 124 = .ok (.aload_n 0, 1) := by decide +kernel
theorem dL_act_125 : decode cL_act 125 = .ok (.iload_n 2, 1) := by decide +kernel
theorem dL_act_126 : decode cL_act 126 = .ok (.iconst 4, 1) := by decide +kernel
theorem dL_act_127 : decode cL_act 127 = .ok (.ishr, 1) := by decide +kernel
theorem dL_act_128 : decode cL_act 128 = .ok (.aload_n 1, 1) := by decide +kernel
theorem dL_act_129 : decode cL_act 129 = .ok (.getfield 41, 3) := by decide +kernel
theorem dL_act_132 : decode cL_act 132 = .ok (.arraylength, 1) := by decide +kernel
theorem dL_act_133 : decode cL_act 133 = .ok (.invokestatic 120, 3) := by decide +kernel
theorem dL_act_136 : decode cL_act 136 = .ok (.iload 4, 2) := by decide +kernel
theorem dL_act_138 : decode cL_act 138 = .ok (.invokevirtual 196, 3) := by decide +kernel
theorem dL_act_141 : decode cL_act 141 = .ok (.aload_n 3, 1) := by decide +kernel
theorem dL_act_142 : decode cL_act 142 = .ok (.iconst 1, 1) := by decide +kernel
theorem dL_act_143 : decode cL_act 143 = .ok (.iaload, 1) := by decide +kernel
theorem dL_act_144 : decode cL_act 144 = .ok (.if_icmp .ne 7, 3) := by decide +kernel
theorem dL_act_147 : decode cL_act 147 = .ok (.iconst 1, 1) := by decide +kernel
theorem dL_act_148 : decode cL_act 148 = .ok (.goto 4, 3) := by decide +kernel
theorem dL_act_151 : decode cL_act 151 = .ok (.iconst 0, 1) := by decide +kernel
theorem dL_act_152 : decode cL_act 152 = .ok (.ireturn, 1) := by decide +kernel
theorem dL_act_153 : decode cL_act 153 = .ok (.iload_n 2, 1) := by decide +kernel
theorem dL_act_154 : decode cL_act 154 = .ok (.iconst 4, 1) := by decide +kernel
theorem dL_act_155 : decode cL_act 155 = .ok (.ishr, 1) := by decide +kernel
theorem dL_act_156 : decode cL_act 156 = .ok (.aload_n 1, 1) := by decide +kernel
theorem dL_act_157 : decode cL_act 157 = .ok (.getfield 56, 3) := by decide +kernel
theorem dL_act_160 : decode cL_act 160 = .ok (.arraylength, 1) := by decide +kernel
theorem dL_act_161 : decode cL_act 161 = .ok (.invokestatic 120, 3) := by decide +kernel
theorem dL_act_164 : decode cL_act 164 = .ok (.istore_n 3, 1) := by decide +kernel
theorem dL_act_165 : decode cL_act 165 = .ok (.iconst 0, 1) := by decide +kernel
theorem dL_act_166 : decode cL_act 166 = .ok (.istore 4, 2) := by decide +kernel
theorem dL_act_168 : decode cL_act 168 = .ok (.aload_n 1, 1) := by decide +kernel
theorem dL_act_169 : decode cL_act 169 = .ok (.getfield 153, 3) := by decide +kernel
theorem dL_act_172 : decode cL_act 172 = .ok (.astore 5, 2) := by decide +kernel
theorem dL_act_174 : decode cL_act 174 = .ok (.aload 5, 2) := by decide +kernel
theorem dL_act_176 : decode cL_act 176 = .ok (.arraylength, 1) := by decide +kernel
theorem dL_act_177 : decode cL_act 177 = .ok (.istore 6, 2) := by decide +kernel
theorem dL_act_179 : decode cL_act 179 = .ok (.iconst 0, 1) := by decide +kernel
theorem dL_act_180 : decode cL_act 180 = .ok (.istore 7, 2) := by decide +kernel
theorem dL_act_182 : decode cL_act 182 = .ok (.iload 7, 2) := by decide +kernel
theorem dL_act_184 : decode cL_act 184 = .ok (.iload 6, 2) := by decide +kernel
theorem dL_act_186 : decode cL_act 186 = .ok (.if_icmp .ge 48, 3) := by decide +kernel
theorem dL_act_189 : decode cL_act 189 = .ok (.aload 5, 2) := by decide +kernel
theorem dL_act_191 : decode cL_act 191 = .ok (.iload 7, 2) := by decide +kernel
theorem dL_act_193 : decode cL_act 193 = .ok (.aaload, 1) := by decide +kernel
theorem dL_act_194 : decode cL_act 194 = .ok (.astore 8, 2) := by decide +kernel
theorem dL_act_196 : decode cL_act 196 = .ok (.aload 8, 2) := by decide +kernel
theorem dL_act_198 : decode cL_act 198 = .ok (.iconst 1, 1) := by decide +kernel
theorem dL_act_199 : decode cL_act 199 = .ok (.iaload, 1) := by decide +kernel
theorem dL_act_200 : decode cL_act 200 = .ok (.iconst 2, 1) := by decide +kernel
theorem dL_act_201 : decode cL_act 201 = .ok (.if_icmp .ne 27, 3) := by decide +kernel
theorem dL_act_204 : decode cL_act 204 = .ok (.aload 8, 2) := by decide +kernel
theorem dL_act_206 : decode cL_act 206 = .ok (.iconst 2, 1) := by decide +kernel
theorem dL_act_207 : decode cL_act 207 = .ok (.iaload, 1) := by decide +kernel
theorem dL_act_208 : decode cL_act 208 = .ok (.iload_n 3, 1) := by decide +kernel
theorem dL_act_209 : decode cL_act 209 = .ok (.if_icmp .eq 6, 3) := by decide +kernel
theorem dL_act_212 : decode cL_act 212 = .ok (.goto 16, 3) := by decide +kernel
theorem dL_act_215 : decode cL_act 215 = .ok (.aload 8, 2) := by decide +kernel
theorem dL_act_217 : decode cL_act 217 = .ok (.iconst 1, 1) := by decide +kernel
theorem dL_act_218 : decode cL_act 218 = .ok (.iconst 0, 1) := by decide +kernel
theorem dL_act_219 : decode cL_act 219 = .ok (.iastore, 1) := by decide +kernel
theorem dL_act_220 : decode cL_act 220 = .ok (.aload 8, 2) := by decide +kernel
theorem dL_act_222 : decode cL_act 222 = .ok (.iconst 2, 1) := by decide +kernel
theorem dL_act_223 : decode cL_act 223 = .ok (.iconst (-1), 1) := by decide +kernel
theorem dL_act_224 : decode cL_act 224 = .ok (.iastore, 1) := by decide +kernel
theorem dL_act_225 : decode cL_act 225 = .ok (.iinc 4 1, 3) := by decide +kernel
theorem dL_act_228 : decode cL_act 228 = .ok (.iinc 7 1, 3) := by decide +kernel
theorem dL_act_231 : decode cL_act 231 = .ok (.goto (-49), 3) := by decide +kernel
theorem dL_act_234 : decode cL_act 234 = .ok (.aload_n 0, 1) := by decide +kernel
theorem dL_act_235 : decode cL_act 235 = .ok (.iload_n 3, 1) := by decide +kernel
theorem dL_act_236 : decode cL_act 236 = .ok (.invokevirtual 199, 3) := by decide +kernel
theorem dL_act_239 : decode cL_act 239 = .ok (.iload 4, 2) := by decide +kernel
theorem dL_act_241 : decode cL_act 241 = .ok (.if_icmp .ne 7, 3) := by decide +kernel
theorem dL_act_244 : decode cL_act 244 = .ok (.iconst 1, 1) := by decide +kernel
theorem dL_act_245 : decode cL_act 245 = .ok (.goto 4, 3) := by decide +kernel
theorem dL_act_248 : decode cL_act 248 = .ok (.iconst 0, 1) := by decide +kernel
theorem dL_act_249 : decode cL_act 249 = .ok (.ireturn, 1) := by decide +kernel
theorem dL_law_0 : decode cL_law 0 = .ok (.new 32, 3) := by decide +kernel
theorem dL_law_3 : decode cL_law 3 = .ok (.dup, 1) := by decide +kernel
theorem dL_law_4 : decode cL_law 4 = .ok (.invokespecial 34, 3) := by decide +kernel
theorem dL_law_7 : decode cL_law 7 = .ok (.astore_n 1, 1) := by decide +kernel
theorem dL_law_8 : decode cL_law 8 = .ok (.aload_n 0, 1) := by decide +kernel
theorem dL_law_9 : decode cL_law 9 = .ok (.aload_n 1, 1) := by decide +kernel
theorem dL_law_10 : decode cL_law 10 = .ok (.invokestatic 202, 3) := by decide +kernel
theorem dL_law_13 : decode cL_law 13 = .ok (.astore_n 2, 1) := by decide +kernel
theorem dL_law_14 : decode cL_law 14 = .ok (.new 10, 3) := by decide +kernel
theorem dL_law_17 : decode cL_law 17 = .ok (.dup, 1) := by decide +kernel
theorem dL_law_18 : decode cL_law 18 = .ok (.invokespecial 206, 3) := by decide +kernel
theorem dL_law_21 : decode cL_law 21 = .ok (.astore_n 3, 1) := by decide +kernel
theorem dL_law_22 : decode cL_law 22 = .ok (.aload_n 3, 1) := by decide +kernel
theorem dL_law_23 : decode cL_law 23 = .ok (.aload_n 1, 1) := by decide +kernel
theorem dL_law_24 : decode cL_law 24 = .ok (.invokevirtual 50, 3) := by decide +kernel
theorem dL_law_27 : decode cL_law 27 = .ok (.invokestatic 207, 3) := by decide +kernel
theorem dL_law_30 : decode cL_law 30 = .ok (.ifCond .eq 5, 3) := by decide +kernel
theorem dL_law_33 : decode cL_law 33 = .ok (.iconst 0, 1) := by decide +kernel
theorem dL_law_34 : decode cL_law 34 = .ok (.ireturn, 1) := by decide +kernel
theorem dL_law_35 : decode cL_law 35 = .ok (.aload_n 3, 1) := by decide +kernel
theorem dL_law_36 : decode cL_law 36 = .ok (.iconst 5, 1) := by decide +kernel
theorem dL_law_37 : decode cL_law 37 = .ok (.invokevirtual 211, 3) := by decide +kernel
theorem dL_law_40 : decode cL_law 40 = .ok (.istore 4, 2) := by decide +kernel
theorem dL_law_42 : decode cL_law 42 = .ok (.iconst 0, 1) := by decide +kernel
theorem dL_law_43 : decode cL_law 43 = .ok (.istore 5, 2) := by decide +kernel
theorem dL_law_45 : decode cL_law 45 = .ok (.iload 5, 2) := by decide +kernel
theorem dL_law_47 : decode cL_law 47 = .ok (.bipush 60, 2) := by decide +kernel
theorem dL_law_49 : decode cL_law 49 = .ok (.if_icmp .ge 1582, 3) := by decide +kernel
theorem dL_law_52 : decode cL_law 52 = .ok (.aload_n 0, 1) := by decide +kernel
theorem dL_law_53 : decode cL_law 53 = .ok (.iload 5, 2) := by decide +kernel
theorem dL_law_55 : decode cL_law 55 = .ok (.bipush 16, 2) := by decide +kernel
theorem dL_law_57 : decode cL_law 57 = .ok (.irem, 1) := by decide +kernel
theorem dL_law_58 : decode cL_law 58 = .ok (.invokestatic 114, 3) := by decide +kernel
theorem dL_law_61 : decode cL_law 61 = .ok (.iload 5, 2) := by decide +kernel
theorem dL_law_63 : decode cL_law 63 = .ok (.bipush 16, 2) := by decide +kernel
theorem dL_law_65 : decode cL_law 65 = .ok (.idiv, 1) := by decide +kernel
theorem dL_law_66 : decode cL_law 66 = .ok (.iconst 4, 1) := by decide +kernel
theorem dL_law_67 : decode cL_law 67 = .ok (.imul, 1) := by decide +kernel
theorem dL_law_68 : decode cL_law 68 = .ok (.ishr, 1) := by decide +kernel
theorem dL_law_69 : decode cL_law 69 = .ok (.bipush 47, 2) := by decide +kernel
theorem dL_law_71 : decode cL_law 71 = .ok (.iload 5, 2) := by decide +kernel
theorem dL_law_73 : decode cL_law 73 = .ok (.imul, 1) := by decide +kernel
theorem dL_law_74 : decode cL_law 74 = .ok (.iadd, 1) := by decide +kernel
theorem dL_law_75 : decode cL_law 75 = .ok (.istore 6, 2) := by decide +kernel
theorem dL_law_77 : decode cL_law 77 = .ok (.iload 6, 2) := by decide +kernel
theorem dL_law_79 : decode cL_law 79 = .ok (.bipush 8, 2) := by decide +kernel
theorem dL_law_81 : decode cL_law 81 = .ok (.invokestatic 120, 3) := by decide +kernel
theorem dL_law_84 : decode cL_law 84 = .ok (.ifCond .ne 18, 3) := by decide +kernel
theorem dL_law_87 : decode cL_law 87 = .ok (.aload_n 3, 1) := by decide +kernel
theorem dL_law_88 : decode cL_law 88 = .ok (.aload_n 2, 1) := by decide +kernel
theorem dL_law_89 : decode cL_law 89 = .ok (.iload 6, 2) := by decide +kernel
theorem dL_law_91 : decode cL_law 91 = .ok (.bipush 8, 2) := by decide +kernel
theorem dL_law_93 : decode cL_law 93 = .ok (.idiv, 1) := by decide +kernel
theorem dL_law_94 : decode cL_law 94 = .ok (.invokestatic 214, 3) := by decide +kernel
theorem dL_law_97 : decode cL_law 97 = .ok (.ifCond .ne 5, 3) := by decide +kernel
theorem dL_law_100 : decode cL_law 100 = .ok (.iconst 0, 1) := by decide +kernel
theorem dL_law_101 : decode cL_law 101 = .ok (.ireturn, 1) := by decide +kernel
theorem dL_law_102 : decode cL_law 102 = .ok (.aload_n 3, 1) := by decide +kernel
theorem dL_law_103 : decode cL_law 103 = .ok (.iconst 3, 1) := by decide +kernel
theorem dL_law_104 : decode cL_law 104 = .ok (.invokevirtual 211, 3) := by decide +kernel
theorem dL_law_107 : decode cL_law 107 = .ok (.istore 7, 2) := by decide +kernel
theorem dL_law_109 : decode cL_law 109 = .ok (.aload_n 3, 1) := by decide +kernel
theorem dL_law_110 : decode cL_law 110 = .ok (.iconst 2, 1) := by decide +kernel
theorem dL_law_111 : decode cL_law 111 = .ok (.invokevirtual 211, 3) := by decide +kernel
theorem dL_law_114 : decode cL_law 114 = .ok (.istore 8, 2) := by decide +kernel
theorem dL_law_116 : decode cL_law 116 = .ok (.aload_n 3, 1) := by decide +kernel
theorem dL_law_117 : decode cL_law 117 = .ok (.iconst 4, 1) := by decide +kernel
theorem dL_law_118 : decode cL_law 118 = .ok (.invokevirtual 211, 3) := by decide +kernel
theorem dL_law_121 : decode cL_law 121 = .ok (.istore 9, 2) := by decide +kernel
theorem dL_law_123 : decode cL_law 123 = .ok (.iload 7, 2) := by decide +kernel
theorem dL_law_125 : decode cL_law 125 = .ok (.bipush 10, 2) := by decide +kernel
theorem dL_law_127 : decode cL_law 127 = .ok (.multianewarray 218 2, 4) := by decide +kernel
theorem dL_law_131 : decode cL_law 131 = .ok (.astore 10, 2) := by decide +kernel
theorem dL_law_133 : decode cL_law 133 = .ok (.iload 9, 2) := by decide +kernel
theorem dL_law_135 : decode cL_law 135 = .ok (.iconst 4, 1) := by decide +kernel
theorem dL_law_136 : decode cL_law 136 = .ok (.multianewarray 218 2, 4) := by decide +kernel
theorem dL_law_140 : decode cL_law 140 = .ok (.astore 11, 2) := by decide +kernel
theorem dL_law_142 : decode cL_law 142 = .ok (.iload 8, 2) := by decide +kernel
theorem dL_law_144 : decode cL_law 144 = .ok (.newarray .int, 2) := by decide +kernel
theorem dL_law_146 : decode cL_law 146 = .ok (.astore 12, 2) := by decide +kernel
theorem dL_law_148 : decode cL_law 148 = .ok (.iload 7, 2) := by decide +kernel
theorem dL_law_150 : decode cL_law 150 = .ok (.newarray .int, 2) := by decide +kernel
theorem dL_law_152 : decode cL_law 152 = .ok (.astore 13, 2) := by decide +kernel
theorem dL_law_154 : decode cL_law 154 = .ok (.iconst 0, 1) := by decide +kernel
theorem dL_law_155 : decode cL_law 155 = .ok (.istore 14, 2) := by decide +kernel
theorem dL_law_157 : decode cL_law 157 = .ok (.iload 14, 2) := by decide +kernel
theorem dL_law_159 : decode cL_law 159 = .ok (.iload 7, 2) := by decide +kernel
theorem dL_law_161 : decode cL_law 161 = .ok (.if_icmp .ge 217, 3) := by decide +kernel
theorem dL_law_164 : decode cL_law 164 = .ok (.iconst 0, 1) := by decide +kernel
theorem dL_law_165 : decode cL_law 165 = .ok (.istore 15, 2) := by decide +kernel
theorem dL_law_167 : decode cL_law 167 = .ok (.iload 15, 2) := by decide +kernel
theorem dL_law_169 : decode cL_law 169 = .ok (.bipush 10, 2) := by decide +kernel
theorem dL_law_171 : decode cL_law 171 = .ok (.if_icmp .ge 25, 3) := by decide +kernel
theorem dL_law_174 : decode cL_law 174 = .ok (.aload 10, 2) := by decide +kernel
theorem dL_law_176 : decode cL_law 176 = .ok (.iload 14, 2) := by decide +kernel
theorem dL_law_178 : decode cL_law 178 = .ok (.aaload, 1) := by decide +kernel
theorem dL_law_179 : decode cL_law 179 = .ok (.iload 15, 2) := by decide +kernel
theorem dL_law_181 : decode cL_law 181 = .ok (.aload_n 3, 1) := by decide +kernel
theorem dL_law_182 : decode cL_law 182 = .ok (.iload 14, 2) := by decide +kernel
theorem dL_law_184 : decode cL_law 184 = .ok (.iload 15, 2) := by decide +kernel
theorem dL_law_186 : decode cL_law 186 = .ok (.invokevirtual 219, 3) := by decide +kernel
theorem dL_law_189 : decode cL_law 189 = .ok (.iastore, 1) := by decide +kernel
theorem dL_law_190 : decode cL_law 190 = .ok (.iinc 15 1, 3) := by decide +kernel
theorem dL_law_193 : decode cL_law 193 = .ok (.goto (-26), 3) := by decide +kernel
theorem dL_law_196 : decode cL_law 196 = .ok (.aload 10, 2) := by decide +kernel
theorem dL_law_198 : decode cL_law 198 = .ok (.iload 14, 2) := by decide +kernel
theorem dL_law_200 : decode cL_law 200 = .ok (.aaload, 1) := by decide +kernel
theorem dL_law_201 : decode cL_law 201 = .ok (.astore 15, 2) := by decide +kernel
theorem dL_law_203 : decode cL_law 203 = .ok (.aload 13, 2) := by decide +kernel
theorem dL_law_205 : decode cL_law 205 = .ok (.iload 14, 2) := by decide +kernel
theorem dL_law_207 : decode cL_law 207 = .ok (.aload 15, 2) := by decide +kernel
theorem dL_law_209 : decode cL_law 209 = .ok (.iconst 4, 1) := by decide +kernel
theorem dL_law_210 : decode cL_law 210 = .ok (.iaload, 1) := by decide +kernel
theorem dL_law_211 : decode cL_law 211 = .ok (.ifCond .lt 10, 3) := by decide +kernel
theorem dL_law_214 : decode cL_law 214 = .ok (.aload 15, 2) := by decide +kernel
theorem dL_law_216 : decode cL_law 216 = .ok (.iconst 5, 1) := by decide +kernel
theorem dL_law_217 : decode cL_law 217 = .ok (.iaload, 1) := by decide +kernel
theorem dL_law_218 : decode cL_law 218 = .ok (.ifCond .ne 7, 3) := by decide +kernel
theorem dL_law_221 : decode cL_law 221 = .ok (.iconst 0, 1) := by decide +kernel
theorem dL_law_222 : decode cL_law 222 = .ok (.goto 13, 3) := by decide +kernel
theorem dL_law_225 : decode cL_law 225 = .ok (.aload_n 3, 1) := by decide +kernel
theorem dL_law_226 : decode cL_law 226 = .ok (.iload 14, 2) := by decide +kernel
theorem dL_law_228 : decode cL_law 228 = .ok (.aload 15, 2) := by decide +kernel
theorem dL_law_230 : decode cL_law 230 = .ok (.iconst 4, 1) := by decide +kernel
theorem dL_law_231 : decode cL_law 231 = .ok (.iaload, 1) := by decide +kernel
theorem dL_law_232 : decode cL_law 232 = .ok (.invokevirtual 221, 3) := by decide +kernel
theorem dL_law_235 : decode cL_law 235 = .ok (.iastore, 1) := by decide +kernel
theorem dL_law_236 : decode cL_law 236 = .ok (.aload 15, 2) := by decide +kernel
theorem dL_law_238 : decode cL_law 238 = .ok (.iconst 4, 1) := by decide +kernel
theorem dL_law_239 : decode cL_law 239 = .ok (.iaload, 1) := by decide +kernel
theorem dL_law_240 : decode cL_law 240 = .ok (.iconst (-1), 1) := by decide +kernel
theorem dL_law_241 : decode cL_law 241 = .ok (.if_icmp .lt 129, 3) := by decide +kernel
theorem dL_law_244 : decode cL_law 244 = .ok (.aload 15, 2) := by decide +kernel
theorem dL_law_246 : decode cL_law 246 = .ok (.iconst 4, 1) := by decide +kernel
theorem dL_law_247 : decode cL_law 247 = .ok (.iaload, 1) := by decide +kernel
theorem dL_law_248 : decode cL_law 248 = .ok (.iload 8, 2) := by decide +kernel
theorem dL_law_250 : decode cL_law 250 = .ok (.if_icmp .ge 120, 3) := by decide +kernel
theorem dL_law_253 : decode cL_law 253 = .ok (.aload 15, 2) := by decide +kernel
theorem dL_law_255 : decode cL_law 255 = .ok (.iconst 4, 1) := by decide +kernel
theorem dL_law_256 : decode cL_law 256 = .ok (.iaload, 1) := by decide +kernel
theorem dL_law_257 : decode cL_law 257 = .ok (.ifCond .ge 18, 3) := by decide +kernel
theorem dL_law_260 : decode cL_law 260 = .ok (.aload 15, 2) := by decide +kernel
theorem dL_law_262 : decode cL_law 262 = .ok (.iconst 5, 1) := by decide +kernel
theorem dL_law_263 : decode cL_law 263 = .ok (.iaload, 1) := by decide +kernel
theorem dL_law_264 : decode cL_law 264 = .ok (.ifCond .ne 106, 3) := by decide +kernel
theorem dL_law_267 : decode cL_law 267 = .ok (.aload 15, 2) := by decide +kernel
theorem dL_law_269 : decode cL_law 269 = .ok (.bipush 6, 2) := by decide +kernel
theorem dL_law_271 : decode cL_law 271 = .ok (.iaload, 1) := by decide +kernel
theorem dL_law_272 : decode cL_law 272 = .ok (.ifCond .ne 98, 3) := by decide +kernel
theorem dL_law_275 : decode cL_law 275 = .ok (.aload 15, 2) := by decide +kernel
theorem dL_law_277 : decode cL_law 277 = .ok (.iconst 4, 1) := by decide +kernel
theorem dL_law_278 : decode cL_law 278 = .ok (.iaload, 1) := by decide +kernel
theorem dL_law_279 : decode cL_law 279 = .ok (.ifCond .lt 28, 3) := by decide +kernel
theorem dL_law_282 : decode cL_law 282 = .ok (.aload 15, 2) := by decide +kernel
theorem dL_law_284 : decode cL_law 284 = .ok (.bipush 6, 2) := by decide +kernel
theorem dL_law_286 : decode cL_law 286 = .ok (.iaload, 1) := by decide +kernel
theorem dL_law_287 : decode cL_law 287 = .ok (.ifCond .lt 83, 3) := by decide +kernel
theorem dL_law_290 : decode cL_law 290 = .ok (.aload 15, 2) := by decide +kernel
theorem dL_law_292 : decode cL_law 292 = .ok (.bipush 6, 2) := by decide +kernel
theorem dL_law_294 : decode cL_law 294 = .ok (.iaload, 1) := by decide +kernel
theorem dL_law_295 : decode cL_law 295 = .ok (.aload_n 3, 1) := by decide +kernel
theorem dL_law_296 : decode cL_law 296 = .ok (.aload 15, 2) := by decide +kernel
theorem dL_law_298 : decode cL_law 298 = .ok (.iconst 4, 1) := by decide +kernel
theorem dL_law_299 : decode cL_law 299 = .ok (.iaload, 1) := by decide +kernel
theorem dL_law_300 : decode cL_law 300 = .ok (.iconst 0, 1) := by decide +kernel
theorem dL_law_301 : decode cL_law 301 = .ok (.invokevirtual 224, 3) := by decide +kernel
theorem dL_law_304 : decode cL_law 304 = .ok (.if_icmp .ge 66, 3) := by decide +kernel
theorem dL_law_307 : decode cL_law 307 = .ok (.aload 15, 2) := by decide +kernel
theorem dL_law_309 : decode cL_law 309 = .ok (.bipush 7, 2) := by decide +kernel
theorem dL_law_311 : decode cL_law 311 = .ok (.iaload, 1) := by decide +kernel
theorem dL_law_312 : decode cL_law 312 = .ok (.ifCond .le 7, 3) := by decide +kernel
theorem dL_law_315 : decode cL_law 315 = .ok (.iconst 1, 1) := by decide +kernel
theorem dL_law_316 : decode cL_law 316 = .ok (.goto 4, 3) := by decide +kernel
theorem dL_law_319 : decode cL_law 319 = .ok (.iconst 0, 1) := by decide +kernel
theorem dL_law_320 : decode cL_law 320 = .ok (.aload 15, 2) := by decide +kernel
theorem dL_law_322 : decode cL_law 322 = .ok (.iconst 5, 1) := by decide +kernel
theorem dL_law_323 : decode cL_law 323 = .ok (.iaload, 1) := by decide +kernel
theorem dL_law_324 : decode cL_law 324 = .ok (.iconst 1, 1) := by decide +kernel
theorem dL_law_325 : decode cL_law 325 = .ok (.if_icmp .ne 7, 3) := by decide +kernel
theorem dL_law_328 : decode cL_law 328 = .ok (.iconst 1, 1) := by decide +kernel
theorem dL_law_329 : decode cL_law 329 = .ok (.goto 4, 3) := by decide +kernel
theorem dL_law_332 : decode cL_law 332 = .ok (.iconst 0, 1) := by decide +kernel
theorem dL_law_333 : decode cL_law 333 = .ok (.if_icmp .ne 37, 3) := by decide +kernel
theorem dL_law_336 : decode cL_law 336 = .ok (.aload 15, 2) := by decide +kernel
theorem dL_law_338 : decode cL_law 338 = .ok (.bipush 8, 2) := by decide +kernel
theorem dL_law_340 : decode cL_law 340 = .ok (.iaload, 1) := by decide +kernel
theorem dL_law_341 : decode cL_law 341 = .ok (.ifCond .lt 29, 3) := by decide +kernel
theorem dL_law_344 : decode cL_law 344 = .ok (.aload 15, 2) := by decide +kernel
theorem dL_law_346 : decode cL_law 346 = .ok (.bipush 8, 2) := by decide +kernel
theorem dL_law_348 : decode cL_law 348 = .ok (.iaload, 1) := by decide +kernel
theorem dL_law_349 : decode cL_law 349 = .ok (.bipush 60, 2) := by decide +kernel
theorem dL_law_351 : decode cL_law 351 = .ok (.if_icmp .gt 19, 3) := by decide +kernel
theorem dL_law_354 : decode cL_law 354 = .ok (.aload 15, 2) := by decide +kernel
theorem dL_law_356 : decode cL_law 356 = .ok (.iconst 1, 1) := by decide +kernel
theorem dL_law_357 : decode cL_law 357 = .ok (.iaload, 1) := by decide +kernel
theorem dL_law_358 : decode cL_law 358 = .ok (.ifCond .lt 12, 3) := by decide +kernel
theorem dL_law_361 : decode cL_law 361 = .ok (.aload 15, 2) := by decide +kernel
theorem dL_law_363 : decode cL_law 363 = .ok (.iconst 1, 1) := by decide +kernel
theorem dL_law_364 : decode cL_law 364 = .ok (.iaload, 1) := by decide +kernel
theorem dL_law_365 : decode cL_law 365 = .ok (.bipush 9, 2) := by decide +kernel
theorem dL_law_367 : decode cL_law 367 = .ok (.if_icmp .le 5, 3) := by decide +kernel
theorem dL_law_370 : decode cL_law 370 = .ok (.iconst 0, 1) := by decide +kernel
theorem dL_law_371 : decode cL_law 371 = .ok (.ireturn, 1) := by decide +kernel
theorem dL_law_372 : decode cL_law 372 = .ok (.iinc 14 1, 3) := by decide +kernel
theorem dL_law_375 : decode cL_law 375 = .ok (.goto (-218), 3) := by decide +kernel
theorem dL_law_378 : decode cL_law 378 = .ok (.iconst 0, 1) := by decide +kernel
theorem dL_law_379 : decode cL_law 379 = .ok (.istore 14, 2) := by decide +kernel
theorem dL_law_381 : decode cL_law 381 = .ok (.iload 14, 2) := by decide +kernel
theorem dL_law_383 : decode cL_law 383 = .ok (.iload 8, 2) := by decide +kernel
theorem dL_law_385 : decode cL_law 385 = .ok (.if_icmp .ge 21, 3) := by decide +kernel
theorem dL_law_388 : decode cL_law 388 = .ok (.aload 12, 2) := by decide +kernel
theorem dL_law_390 : decode cL_law 390 = .ok (.iload 14, 2) := by decide +kernel
theorem dL_law_392 : decode cL_law 392 = .ok (.aload_n 3, 1) := by decide +kernel
theorem dL_law_393 : decode cL_law 393 = .ok (.iload 14, 2) := by decide +kernel
theorem dL_law_395 : decode cL_law 395 = .ok (.iconst 2, 1) := by decide +kernel
theorem dL_law_396 : decode cL_law 396 = .ok (.invokevirtual 224, 3) := by decide +kernel
theorem dL_law_399 : decode cL_law 399 = .ok (.iastore, 1) := by decide +kernel
theorem dL_law_400 : decode cL_law 400 = .ok (.iinc 14 1, 3) := by decide +kernel
theorem dL_law_403 : decode cL_law 403 = .ok (.goto (-22), 3) := by decide +kernel
theorem dL_law_406 : decode cL_law 406 = .ok (.iconst 0, 1) := by decide +kernel
theorem dL_law_407 : decode cL_law 407 = .ok (.istore 14, 2) := by decide +kernel
theorem dL_law_409 : decode cL_law 409 = .ok (.iload 14, 2) := by decide +kernel
theorem dL_law_411 : decode cL_law 411 = .ok (.iload 9, 2) := by decide +kernel
theorem dL_law_413 : decode cL_law 413 = .ok (.if_icmp .ge 40, 3) := by decide +kernel
theorem dL_law_416 : decode cL_law 416 = .ok (.iconst 0, 1) := by decide +kernel
theorem dL_law_417 : decode cL_law 417 = .ok (.istore 15, 2) := by decide +kernel
theorem dL_law_419 : decode cL_law 419 = .ok (.iload 15, 2) := by decide +kernel
theorem dL_law_421 : decode cL_law 421 = .ok (.iconst 4, 1) := by decide +kernel
theorem dL_law_422 : decode cL_law 422 = .ok (.if_icmp .ge 25, 3) := by decide +kernel
theorem dL_law_425 : decode cL_law 425 = .ok (.aload 11, 2) := by decide +kernel
theorem dL_law_427 : decode cL_law 427 = .ok (.iload 14, 2) := by decide +kernel
theorem dL_law_429 : decode cL_law 429 = .ok (.aaload, 1) := by decide +kernel
theorem dL_law_430 : decode cL_law 430 = .ok (.iload 15, 2) := by decide +kernel
theorem dL_law_432 : decode cL_law 432 = .ok (.aload_n 3, 1) := by decide +kernel
theorem dL_law_433 : decode cL_law 433 = .ok (.iload 14, 2) := by decide +kernel
theorem dL_law_435 : decode cL_law 435 = .ok (.iload 15, 2) := by decide +kernel
theorem dL_law_437 : decode cL_law 437 = .ok (.invokevirtual 227, 3) := by decide +kernel
theorem dL_law_440 : decode cL_law 440 = .ok (.iastore, 1) := by decide +kernel
theorem dL_law_441 : decode cL_law 441 = .ok (.iinc 15 1, 3) := by decide +kernel
theorem dL_law_444 : decode cL_law 444 = .ok (.goto (-25), 3) := by decide +kernel
theorem dL_law_447 : decode cL_law 447 = .ok (.iinc 14 1, 3) := by decide +kernel
theorem dL_law_450 : decode cL_law 450 = .ok (.goto (-41), 3) := by decide +kernel
theorem dL_law_453 : decode cL_law 453 = .ok (.aload_n 3, 1) := by decide +kernel
theorem dL_law_454 : decode cL_law 454 = .ok (.invokevirtual 229, 3) := by decide +kernel
theorem dL_law_457 : decode cL_law 457 = .ok (.lstore 14, 2) := by decide +kernel
theorem dL_law_459 : decode cL_law 459 = .ok (.iconst 4, 1) := by decide +kernel
theorem dL_law_460 : decode cL_law 460 = .ok (.newarray .int, 2) := by decide +kernel
theorem dL_law_462 : decode cL_law 462 = .ok (.astore 16, 2) := by decide +kernel
theorem dL_law_464 : decode cL_law 464 = .ok (.iconst 0, 1) := by decide +kernel
theorem dL_law_465 : decode cL_law 465 = .ok (.istore 17, 2) := by decide +kernel
theorem dL_law_467 : decode cL_law 467 = .ok (.iload 17, 2) := by decide +kernel
theorem dL_law_469 : decode cL_law 469 = .ok (.iconst 4, 1) := by decide +kernel
theorem dL_law_470 : decode cL_law 470 = .ok (.if_icmp .ge 21, 3) := by decide +kernel
theorem dL_law_473 : decode cL_law 473 = .ok (.aload 16, 2) := by decide +kernel
theorem dL_law_475 : decode cL_law 475 = .ok (.iload 17, 2) := by decide +kernel
theorem dL_law_477 : decode cL_law 477 = .ok (.aload_n 3, 1) := by decide +kernel
theorem dL_law_478 : decode cL_law 478 = .ok (.iconst 1, 1) := by decide +kernel
theorem dL_law_479 : decode cL_law 479 = .ok (.iload 17, 2) := by decide +kernel
theorem dL_law_481 : decode cL_law 481 = .ok (.invokevirtual 233, 3) := by decide +kernel
theorem dL_law_484 : decode cL_law 484 = .ok (.iastore, 1) := by decide +kernel
theorem dL_law_485 : decode cL_law 485 = .ok (.iinc 17 1, 3) := by decide +kernel
theorem dL_law_488 : decode cL_law 488 = .ok (.goto (-21), 3) := by decide +kernel
theorem dL_law_491 : decode cL_law 491 = .ok (.iload 9, 2) := by decide +kernel
theorem dL_law_493 : decode cL_law 493 = .ok (.ifCond .ne 7, 3) := by decide +kernel
theorem dL_law_496 : decode cL_law 496 = .ok (.iconst (-1), 1) := by decide +kernel
theorem dL_law_497 : decode cL_law 497 = .ok (.goto 12, 3) := by decide +kernel
theorem dL_law_500 : decode cL_law 500 = .ok (.iload 6, 2) := by decide +kernel
theorem dL_law_502 : decode cL_law 502 = .ok (.iconst 3, 1) := by decide +kernel
theorem dL_law_503 : decode cL_law 503 = .ok (.ishr, 1) := by decide +kernel
theorem dL_law_504 : decode cL_law 504 = .ok (.iload 9, 2) := by decide +kernel
theorem dL_law_506 : decode cL_law 506 = .ok (.invokestatic 120, 3) := by decide +kernel
theorem dL_law_509 : decode cL_law 509 = .ok (.istore 17, 2) := by decide +kernel
theorem dL_law_511 : decode cL_law 511 = .ok (.iload 17, 2) := by decide +kernel
theorem dL_law_513 : decode cL_law 513 = .ok (.ifCond .ge 7, 3) := by decide +kernel
theorem dL_law_516 : decode cL_law 516 = .ok (.iconst (-1), 1) := by decide +kernel
theorem dL_law_517 : decode cL_law 517 = .ok (.goto 9, 3) := by decide +kernel
theorem dL_law_520 : decode cL_law 520 = .ok (.aload_n 3, 1) := by decide +kernel
theorem dL_law_521 : decode cL_law 521 = .ok (.iload 17, 2) := by decide +kernel
theorem dL_law_523 : decode cL_law 523 = .ok (.invokevirtual 236, 3) := by decide +kernel
theorem dL_law_526 : decode cL_law 526 = .ok (.istore 18, 2) := by decide +kernel
theorem dL_law_528 : decode cL_law 528 = .ok (.iload 6, 2) := by decide +kernel
theorem dL_law_530 : decode cL_law 530 = .ok (.iconst 5, 1) := by decide +kernel
theorem dL_law_531 : decode cL_law 531 = .ok (.ishr, 1) := by decide +kernel
theorem dL_law_532 : decode cL_law 532 = .ok (.iload 7, 2) := by decide +kernel
theorem dL_law_534 : decode cL_law 534 = .ok (.invokestatic 120, 3) := by decide +kernel
theorem dL_law_537 : decode cL_law 537 = .ok (.istore 19, 2) := by decide +kernel
theorem dL_law_539 : decode cL_law 539 = .ok (.aload_n 3, 1) := by decide +kernel
theorem dL_law_540 : decode cL_law 540 = .ok (.iload 19, 2) := by decide +kernel
theorem dL_law_542 : decode cL_law 542 = .ok (.invokevirtual 239, 3) := by decide +kernel
theorem dL_law_545 : decode cL_law 545 = .ok (.istore 20, 2) := by decide +kernel
theorem dL_law_547 : decode cL_law 547 = .ok (.iload 5, 2) := by decide +kernel
theorem dL_law_549 : decode cL_law 549 = .ok (.bipush 15, 2) := by decide +kernel
theorem dL_law_551 : decode cL_law 551 = .ok (.irem, 1) := by decide +kernel
theorem dL_law_552 : decode cL_law 552 = .ok (.ifCond .ne 12, 3) := by decide +kernel
theorem dL_law_555 : decode cL_law 555 = .ok (.aload_n 3, 1) := by decide +kernel
theorem dL_law_556 : decode cL_law 556 = .ok (.bipush 12, 2) := by decide +kernel
theorem dL_law_558 : decode cL_law 558 = .ok (.invokevirtual 242, 3) := by decide +kernel
theorem dL_law_561 : decode cL_law 561 = .ok (.goto 4, 3) := by decide +kernel
theorem dL_law_564 : decode cL_law 564 = .ok (.iconst 0, 1) := by decide +kernel
theorem dL_law_565 : decode cL_law 565 = .ok (.istore 21, 2) := by decide +kernel
theorem dL_law_567 : decode cL_law 567 = .ok (.iload 5, 2) := by decide +kernel
theorem dL_law_569 : decode cL_law 569 = .ok (.bipush 15, 2) := by decide +kernel
theorem dL_law_571 : decode cL_law 571 = .ok (.irem, 1) := by decide +kernel
theorem dL_law_572 : decode cL_law 572 = .ok (.iconst 5, 1) := by decide +kernel
theorem dL_law_573 : decode cL_law 573 = .ok (.if_icmp .ne 12, 3) := by decide +kernel
theorem dL_law_576 : decode cL_law 576 = .ok (.aload_n 3, 1) := by decide +kernel
theorem dL_law_577 : decode cL_law 577 = .ok (.bipush 24, 2) := by decide +kernel
theorem dL_law_579 : decode cL_law 579 = .ok (.invokevirtual 245, 3) := by decide +kernel
theorem dL_law_582 : decode cL_law 582 = .ok (.goto 4, 3) := by decide +kernel
theorem dL_law_585 : decode cL_law 585 = .ok (.iconst (-1), 1) := by decide +kernel
theorem dL_law_586 : decode cL_law 586 = .ok (.istore 22, 2) := by decide +kernel
theorem dL_law_588 : decode cL_law 588 = .ok (.aload_n 3, 1) := by decide +kernel
theorem dL_law_589 : decode cL_law 589 = .ok (.invokevirtual 229, 3) := by decide +kernel
theorem dL_law_592 : decode cL_law 592 = .ok (.lload 14, 2) := by decide +kernel
theorem dL_law_594 : decode cL_law 594 = .ok (.lcmp, 1) := by decide +kernel
theorem dL_law_595 : decode cL_law 595 = .ok (.ifCond .ne 62, 3) := by decide +kernel
theorem dL_law_598 : decode cL_law 598 = .ok (.iload 21, 2) := by decide +kernel
theorem dL_law_600 : decode cL_law 600 = .ok (.bipush (-3), 2) := by decide +kernel
theorem dL_law_602 : decode cL_law 602 = .ok (.if_icmp .lt 55, 3) := by decide +kernel
theorem dL_law_605 : decode cL_law 605 = .ok (.iload 21, 2) := by decide +kernel
theorem dL_law_607 : decode cL_law 607 = .ok (.iconst 3, 1) := by decide +kernel
theorem dL_law_608 : decode cL_law 608 = .ok (.if_icmp .gt 49, 3) := by decide +kernel
theorem dL_law_611 : decode cL_law 611 = .ok (.iload 22, 2) := by decide +kernel
theorem dL_law_613 : decode cL_law 613 = .ok (.iload 7, 2) := by decide +kernel
theorem dL_law_615 : decode cL_law 615 = .ok (.if_icmp .ge 42, 3) := by decide +kernel
theorem dL_law_618 : decode cL_law 618 = .ok (.iload 20, 2) := by decide +kernel
theorem dL_law_620 : decode cL_law 620 = .ok (.ifCond .eq 37, 3) := by decide +kernel
theorem dL_law_623 : decode cL_law 623 = .ok (.iload 17, 2) := by decide +kernel
theorem dL_law_625 : decode cL_law 625 = .ok (.ifCond .lt 34, 3) := by decide +kernel
theorem dL_law_628 : decode cL_law 628 = .ok (.iload 18, 2) := by decide +kernel
theorem dL_law_630 : decode cL_law 630 = .ok (.ifCond .ne 7, 3) := by decide +kernel
theorem dL_law_633 : decode cL_law 633 = .ok (.iconst 1, 1) := by decide +kernel
theorem dL_law_634 : decode cL_law 634 = .ok (.goto 4, 3) := by decide +kernel
theorem dL_law_637 : decode cL_law 637 = .ok (.iconst 0, 1) := by decide +kernel
theorem dL_law_638 : decode cL_law 638 = .ok (.aload 11, 2) := by decide +kernel
theorem dL_law_640 : decode cL_law 640 = .ok (.iload 17, 2) := by decide +kernel
theorem dL_law_642 : decode cL_law 642 = .ok (.aaload, 1) := by decide +kernel
theorem dL_law_643 : decode cL_law 643 = .ok (.iconst 1, 1) := by decide +kernel
theorem dL_law_644 : decode cL_law 644 = .ok (.iaload, 1) := by decide +kernel
theorem dL_law_645 : decode cL_law 645 = .ok (.iconst 3, 1) := by decide +kernel
theorem dL_law_646 : decode cL_law 646 = .ok (.if_icmp .ne 7, 3) := by decide +kernel
theorem dL_law_649 : decode cL_law 649 = .ok (.iconst 1, 1) := by decide +kernel
theorem dL_law_650 : decode cL_law 650 = .ok (.goto 4, 3) := by decide +kernel
theorem dL_law_653 : decode cL_law 653 = .ok (.iconst 0, 1) := by decide +kernel
theorem dL_law_654 : decode cL_law 654 = .ok (.if_icmp .eq 5, 3) := by decide +kernel
theorem dL_law_657 : decode cL_law 657 = .ok (.iconst 0, 1) := by decide +kernel
theorem dL_law_658 : decode cL_law 658 = .ok (.ireturn, 1) := by decide +kernel
theorem dL_law_659 : decode cL_law 659 = .ok (.aload_n 3, 1) := by decide +kernel
theorem dL_law_660 : decode cL_law 660 = .ok (.iconst 0, 1) := by decide +kernel
theorem dL_law_661 : decode cL_law 661 = .ok (.invokevirtual 211, 3) := by decide +kernel
theorem dL_law_664 : decode cL_law 664 = .ok (.istore 23, 2) := by decide +kernel
theorem dL_law_666 : decode cL_law 666 = .ok (.aload_n 3, 1) := by decide +kernel
theorem dL_law_667 : decode cL_law 667 = .ok (.bipush 11, 2) := by decide +kernel
theorem dL_law_669 : decode cL_law 669 = .ok (.invokevirtual 211, 3) := by decide +kernel
theorem dL_law_672 : decode cL_law 672 = .ok (.istore 24, 2) := by decide +kernel
theorem dL_law_674 : decode cL_law 674 = .ok (.aload_n 3, 1) := by decide +kernel
theorem dL_law_675 : decode cL_law 675 = .ok (.bipush 6, 2) := by decide +kernel
theorem dL_law_677 : decode cL_law 677 = .ok (.invokevirtual 211, 3) := by decide +kernel
theorem dL_law_680 : decode cL_law 680 = .ok (.istore 25, 2) := by decide +kernel
theorem dL_law_682 : decode cL_law 682 = .ok (.aload_n 3, 1) := by decide +kernel
theorem dL_law_683 : decode cL_law 683 = .ok (.iconst 1, 1) := by decide +kernel
theorem dL_law_684 : decode cL_law 684 = .ok (.invokevirtual 211, 3) := by decide +kernel
theorem dL_law_687 : decode cL_law 687 = .ok (.istore 26, 2) := by decide +kernel
theorem dL_law_689 : decode cL_law 689 = .ok (.aload_n 3, 1) := by decide +kernel
theorem dL_law_690 : decode cL_law 690 = .ok (.iconst 1, 1) := by decide +kernel
theorem dL_law_691 : decode cL_law 691 = .ok (.invokevirtual 248, 3) := by decide +kernel
theorem dL_law_694 : decode cL_law 694 = .ok (.istore 27, 2) := by decide +kernel
theorem dL_law_696 : decode cL_law 696 = .ok (.aload_n 2, 1) := by decide +kernel
theorem dL_law_697 : decode cL_law 697 = .ok (.invokevirtual 251, 3) := by decide +kernel
theorem dL_law_700 : decode cL_law 700 = .ok (.iload 27, 2) := by decide +kernel
theorem dL_law_702 : decode cL_law 702 = .ok (.aload 16, 2) := by decide +kernel
theorem dL_law_704 : decode cL_law 704 = .ok (.iconst 0, 1) := by decide +kernel
theorem dL_law_705 : decode cL_law 705 = .ok (.iaload, 1) := by decide +kernel
theorem dL_law_706 : decode cL_law 706 = .ok (.if_icmp .ne 171, 3) := by decide +kernel
theorem dL_law_709 : decode cL_law 709 = .ok (.aload_n 3, 1) := by decide +kernel
theorem dL_law_710 : decode cL_law 710 = .ok (.bipush 8, 2) := by decide +kernel
theorem dL_law_712 : decode cL_law 712 = .ok (.invokevirtual 211, 3) := by decide +kernel
theorem dL_law_715 : decode cL_law 715 = .ok (.aload 16, 2) := by decide +kernel
theorem dL_law_717 : decode cL_law 717 = .ok (.iconst 1, 1) := by decide +kernel
theorem dL_law_718 : decode cL_law 718 = .ok (.iaload, 1) := by decide +kernel
theorem dL_law_719 : decode cL_law 719 = .ok (.if_icmp .ne 158, 3) := by decide +kernel
theorem dL_law_722 : decode cL_law 722 = .ok (.aload_n 3, 1) := by decide +kernel
theorem dL_law_723 : decode cL_law 723 = .ok (.bipush 11, 2) := by decide +kernel
theorem dL_law_725 : decode cL_law 725 = .ok (.invokevirtual 211, 3) := by decide +kernel
theorem dL_law_728 : decode cL_law 728 = .ok (.iload 24, 2) := by decide +kernel
theorem dL_law_730 : decode cL_law 730 = .ok (.isub, 1) := by decide +kernel
theorem dL_law_731 : decode cL_law 731 = .ok (.aload 16, 2) := by decide +kernel
theorem dL_law_733 : decode cL_law 733 = .ok (.iconst 2, 1) := by decide +kernel
theorem dL_law_734 : decode cL_law 734 = .ok (.iaload, 1) := by decide +kernel
theorem dL_law_735 : decode cL_law 735 = .ok (.if_icmp .ne 142, 3) := by decide +kernel
theorem dL_law_738 : decode cL_law 738 = .ok (.aload_n 3, 1) := by decide +kernel
theorem dL_law_739 : decode cL_law 739 = .ok (.iconst 5, 1) := by decide +kernel
theorem dL_law_740 : decode cL_law 740 = .ok (.invokevirtual 211, 3) := by decide +kernel
theorem dL_law_743 : decode cL_law 743 = .ok (.aload 16, 2) := by decide +kernel
theorem dL_law_745 : decode cL_law 745 = .ok (.iconst 3, 1) := by decide +kernel
theorem dL_law_746 : decode cL_law 746 = .ok (.iaload, 1) := by decide +kernel
theorem dL_law_747 : decode cL_law 747 = .ok (.if_icmp .ne 130, 3) := by decide +kernel
theorem dL_law_750 : decode cL_law 750 = .ok (.aload_n 3, 1) := by decide +kernel
theorem dL_law_751 : decode cL_law 751 = .ok (.bipush 6, 2) := by decide +kernel
theorem dL_law_753 : decode cL_law 753 = .ok (.invokevirtual 211, 3) := by decide +kernel
theorem dL_law_756 : decode cL_law 756 = .ok (.iload 25, 2) := by decide +kernel
theorem dL_law_758 : decode cL_law 758 = .ok (.iload 27, 2) := by decide +kernel
theorem dL_law_760 : decode cL_law 760 = .ok (.iadd, 1) := by decide +kernel
theorem dL_law_761 : decode cL_law 761 = .ok (.if_icmp .ne 116, 3) := by decide +kernel
theorem dL_law_764 : decode cL_law 764 = .ok (.aload_n 3, 1) := by decide +kernel
theorem dL_law_765 : decode cL_law 765 = .ok (.iconst 0, 1) := by decide +kernel
theorem dL_law_766 : decode cL_law 766 = .ok (.invokevirtual 211, 3) := by decide +kernel
theorem dL_law_769 : decode cL_law 769 = .ok (.iload 23, 2) := by decide +kernel
theorem dL_law_771 : decode cL_law 771 = .ok (.iconst 1, 1) := by decide +kernel
theorem dL_law_772 : decode cL_law 772 = .ok (.iadd, 1) := by decide +kernel
theorem dL_law_773 : decode cL_law 773 = .ok (.if_icmp .ne 104, 3) := by decide +kernel
theorem dL_law_776 : decode cL_law 776 = .ok (.iload 17, 2) := by decide +kernel
theorem dL_law_778 : decode cL_law 778 = .ok (.ifCond .lt 44, 3) := by decide +kernel
theorem dL_law_781 : decode cL_law 781 = .ok (.iload 18, 2) := by decide +kernel
theorem dL_law_783 : decode cL_law 783 = .ok (.iconst 1, 1) := by decide +kernel
theorem dL_law_784 : decode cL_law 784 = .ok (.if_icmp .ne 7, 3) := by decide +kernel
theorem dL_law_787 : decode cL_law 787 = .ok (.iconst 1, 1) := by decide +kernel
theorem dL_law_788 : decode cL_law 788 = .ok (.goto 4, 3) := by decide +kernel
theorem dL_law_791 : decode cL_law 791 = .ok (.iconst 0, 1) := by decide +kernel
theorem dL_law_792 : decode cL_law 792 = .ok (.aload 11, 2) := by decide +kernel
theorem dL_law_794 : decode cL_law 794 = .ok (.iload 17, 2) := by decide +kernel
