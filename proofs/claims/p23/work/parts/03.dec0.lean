theorem dX1_init_0 : decode cX1_init 0 = .ok (.aload_n 0, 1) := by decide +kernel
theorem dX1_init_1 : decode cX1_init 1 = .ok (.invokespecial 3, 3) := by decide +kernel
theorem dX1_init_4 : decode cX1_init 4 = .ok (.return_, 1) := by decide +kernel
theorem dX1_tell_0 : decode cX1_tell 0 = .ok (.aload_n 0, 1) := by decide +kernel
theorem dX1_tell_1 : decode cX1_tell 1 = .ok (.lload_n 1, 1) := by decide +kernel
theorem dX1_tell_2 : decode cX1_tell 2 = .ok (.putfield 9, 3) := by decide +kernel
theorem dX1_tell_5 : decode cX1_tell 5 = .ok (.aload_n 0, 1) := by decide +kernel
theorem dX1_tell_6 : decode cX1_tell 6 = .ok (.iload_n 3, 1) := by decide +kernel
theorem dX1_tell_7 : decode cX1_tell 7 = .ok (.putfield 15, 3) := by decide +kernel
theorem dX1_tell_10 : decode cX1_tell 10 = .ok (.aload_n 0, 1) := by decide +kernel
theorem dX1_tell_11 : decode cX1_tell 11 = .ok (.iload 4, 2) := by decide +kernel
theorem dX1_tell_13 : decode cX1_tell 13 = .ok (.putfield 19, 3) := by decide +kernel
theorem dX1_tell_16 : decode cX1_tell 16 = .ok (.aload_n 0, 1) := by decide +kernel
theorem dX1_tell_17 : decode cX1_tell 17 = .ok (.iload 5, 2) := by decide +kernel
theorem dX1_tell_19 : decode cX1_tell 19 = .ok (.putfield 22, 3) := by decide +kernel
theorem dX1_tell_22 : decode cX1_tell 22 = .ok (.aload_n 0, 1) := by decide +kernel
theorem dX1_tell_23 : decode cX1_tell 23 = .ok (.iload 6, 2) := by decide +kernel
theorem dX1_tell_25 : decode cX1_tell 25 = .ok (.putfield 25, 3) := by decide +kernel
theorem dX1_tell_28 : decode cX1_tell 28 = .ok (.aload_n 0, 1) := by decide +kernel
theorem dX1_tell_29 : decode cX1_tell 29 = .ok (.iconst (-1), 1) := by decide +kernel
theorem dX1_tell_30 : decode cX1_tell 30 = .ok (.putfield 29, 3) := by decide +kernel
theorem dX1_tell_33 : decode cX1_tell 33 = .ok (.aload_n 0, 1) := by decide +kernel
theorem dX1_tell_34 : decode cX1_tell 34 = .ok (.iconst 0, 1) := by decide +kernel
theorem dX1_tell_35 : decode cX1_tell 35 = .ok (.putfield 32, 3) := by decide +kernel
theorem dX1_tell_38 : decode cX1_tell 38 = .ok (.aload_n 0, 1) := by decide +kernel
theorem dX1_tell_39 : decode cX1_tell 39 = .ok (.iconst 0, 1) := by decide +kernel
theorem dX1_tell_40 : decode cX1_tell 40 = .ok (.putfield 35, 3) := by decide +kernel
theorem dX1_tell_43 : decode cX1_tell 43 = .ok (.aload_n 0, 1) := by decide +kernel
theorem dX1_tell_44 : decode cX1_tell 44 = .ok (.iconst 0, 1) := by decide +kernel
theorem dX1_tell_45 : decode cX1_tell 45 = .ok (.putfield 38, 3) := by decide +kernel
theorem dX1_tell_48 : decode cX1_tell 48 = .ok (.aload_n 0, 1) := by decide +kernel
theorem dX1_tell_49 : decode cX1_tell 49 = .ok (.iconst 0, 1) := by decide +kernel
theorem dX1_tell_50 : decode cX1_tell 50 = .ok (.putfield 41, 3) := by decide +kernel
theorem dX1_tell_53 : decode cX1_tell 53 = .ok (.aload_n 0, 1) := by decide +kernel
theorem dX1_tell_54 : decode cX1_tell 54 = .ok (.iconst 0, 1) := by decide +kernel
theorem dX1_tell_55 : decode cX1_tell 55 = .ok (.putfield 44, 3) := by decide +kernel
theorem dX1_tell_58 : decode cX1_tell 58 = .ok (.return_, 1) := by decide +kernel
theorem dX1_become_0 : decode cX1_become 0 = .ok (.aload_n 0, 1) := by decide +kernel
theorem dX1_become_1 : decode cX1_become 1 = .ok (.aload_n 1, 1) := by decide +kernel
theorem dX1_become_2 : decode cX1_become 2 = .ok (.getfield 9, 3) := by decide +kernel
theorem dX1_become_5 : decode cX1_become 5 = .ok (.aload_n 1, 1) := by decide +kernel
theorem dX1_become_6 : decode cX1_become 6 = .ok (.getfield 15, 3) := by decide +kernel
theorem dX1_become_9 : decode cX1_become 9 = .ok (.aload_n 1, 1) := by decide +kernel
theorem dX1_become_10 : decode cX1_become 10 = .ok (.getfield 19, 3) := by decide +kernel
theorem dX1_become_13 : decode cX1_become 13 = .ok (.aload_n 1, 1) := by decide +kernel
theorem dX1_become_14 : decode cX1_become 14 = .ok (.getfield 22, 3) := by decide +kernel
theorem dX1_become_17 : decode cX1_become 17 = .ok (.aload_n 1, 1) := by decide +kernel
theorem dX1_become_18 : decode cX1_become 18 = .ok (.getfield 25, 3) := by decide +kernel
theorem dX1_become_21 : decode cX1_become 21 = .ok (.invokevirtual 47, 3) := by decide +kernel
theorem dX1_become_24 : decode cX1_become 24 = .ok (.aload_n 0, 1) := by decide +kernel
theorem dX1_become_25 : decode cX1_become 25 = .ok (.aload_n 1, 1) := by decide +kernel
theorem dX1_become_26 : decode cX1_become 26 = .ok (.getfield 29, 3) := by decide +kernel
theorem dX1_become_29 : decode cX1_become 29 = .ok (.putfield 29, 3) := by decide +kernel
theorem dX1_become_32 : decode cX1_become 32 = .ok (.aload_n 0, 1) := by decide +kernel
theorem dX1_become_33 : decode cX1_become 33 = .ok (.aload_n 1, 1) := by decide +kernel
theorem dX1_become_34 : decode cX1_become 34 = .ok (.getfield 32, 3) := by decide +kernel
theorem dX1_become_37 : decode cX1_become 37 = .ok (.putfield 32, 3) := by decide +kernel
theorem dX1_become_40 : decode cX1_become 40 = .ok (.aload_n 0, 1) := by decide +kernel
theorem dX1_become_41 : decode cX1_become 41 = .ok (.aload_n 1, 1) := by decide +kernel
theorem dX1_become_42 : decode cX1_become 42 = .ok (.getfield 35, 3) := by decide +kernel
theorem dX1_become_45 : decode cX1_become 45 = .ok (.putfield 35, 3) := by decide +kernel
theorem dX1_become_48 : decode cX1_become 48 = .ok (.aload_n 0, 1) := by decide +kernel
theorem dX1_become_49 : decode cX1_become 49 = .ok (.aload_n 1, 1) := by decide +kernel
theorem dX1_become_50 : decode cX1_become 50 = .ok (.getfield 38, 3) := by decide +kernel
theorem dX1_become_53 : decode cX1_become 53 = .ok (.putfield 38, 3) := by decide +kernel
theorem dX1_become_56 : decode cX1_become 56 = .ok (.aload_n 0, 1) := by decide +kernel
theorem dX1_become_57 : decode cX1_become 57 = .ok (.aload_n 1, 1) := by decide +kernel
theorem dX1_become_58 : decode cX1_become 58 = .ok (.getfield 41, 3) := by decide +kernel
theorem dX1_become_61 : decode cX1_become 61 = .ok (.putfield 41, 3) := by decide +kernel
theorem dX1_become_64 : decode cX1_become 64 = .ok (.aload_n 0, 1) := by decide +kernel
theorem dX1_become_65 : decode cX1_become 65 = .ok (.aload_n 1, 1) := by decide +kernel
theorem dX1_become_66 : decode cX1_become 66 = .ok (.getfield 44, 3) := by decide +kernel
theorem dX1_become_69 : decode cX1_become 69 = .ok (.putfield 44, 3) := by decide +kernel
theorem dX1_become_72 : decode cX1_become 72 = .ok (.return_, 1) := by decide +kernel
theorem dX1_stand_0 : decode cX1_stand 0 = .ok (.aload_n 0, 1) := by decide +kernel
theorem dX1_stand_1 : decode cX1_stand 1 = .ok (.iload_n 1, 1) := by decide +kernel
theorem dX1_stand_2 : decode cX1_stand 2 = .ok (.putfield 29, 3) := by decide +kernel
theorem dX1_stand_5 : decode cX1_stand 5 = .ok (.aload_n 0, 1) := by decide +kernel
theorem dX1_stand_6 : decode cX1_stand 6 = .ok (.iload_n 2, 1) := by decide +kernel
theorem dX1_stand_7 : decode cX1_stand 7 = .ok (.putfield 32, 3) := by decide +kernel
theorem dX1_stand_10 : decode cX1_stand 10 = .ok (.aload_n 0, 1) := by decide +kernel
theorem dX1_stand_11 : decode cX1_stand 11 = .ok (.iload_n 3, 1) := by decide +kernel
theorem dX1_stand_12 : decode cX1_stand 12 = .ok (.putfield 35, 3) := by decide +kernel
theorem dX1_stand_15 : decode cX1_stand 15 = .ok (.return_, 1) := by decide +kernel
theorem dX1_tire_0 : decode cX1_tire 0 = .ok (.aload_n 0, 1) := by decide +kernel
theorem dX1_tire_1 : decode cX1_tire 1 = .ok (.iconst 0, 1) := by decide +kernel
theorem dX1_tire_2 : decode cX1_tire 2 = .ok (.bipush 60, 2) := by decide +kernel
theorem dX1_tire_4 : decode cX1_tire 4 = .ok (.aload_n 0, 1) := by decide +kernel
theorem dX1_tire_5 : decode cX1_tire 5 = .ok (.getfield 38, 3) := by decide +kernel
theorem dX1_tire_8 : decode cX1_tire 8 = .ok (.iload_n 1, 1) := by decide +kernel
theorem dX1_tire_9 : decode cX1_tire 9 = .ok (.iadd, 1) := by decide +kernel
theorem dX1_tire_10 : decode cX1_tire 10 = .ok (.invokestatic 51, 3) := by decide +kernel
theorem dX1_tire_13 : decode cX1_tire 13 = .ok (.invokestatic 57, 3) := by decide +kernel
theorem dX1_tire_16 : decode cX1_tire 16 = .ok (.putfield 38, 3) := by decide +kernel
theorem dX1_tire_19 : decode cX1_tire 19 = .ok (.return_, 1) := by decide +kernel
theorem dX2_init_0 : decode cX2_init 0 = .ok (.aload_n 0, 1) := by decide +kernel
theorem dX2_init_1 : decode cX2_init 1 = .ok (.invokespecial 1, 3) := by decide +kernel
theorem dX2_init_4 : decode cX2_init 4 = .ok (.return_, 1) := by decide +kernel
theorem dX2_tell_0 : decode cX2_tell 0 = .ok (.aload_n 0, 1) := by decide +kernel
theorem dX2_tell_1 : decode cX2_tell 1 = .ok (.lload_n 1, 1) := by decide +kernel
theorem dX2_tell_2 : decode cX2_tell 2 = .ok (.putfield 7, 3) := by decide +kernel
theorem dX2_tell_5 : decode cX2_tell 5 = .ok (.aload_n 0, 1) := by decide +kernel
theorem dX2_tell_6 : decode cX2_tell 6 = .ok (.iload_n 3, 1) := by decide +kernel
theorem dX2_tell_7 : decode cX2_tell 7 = .ok (.putfield 13, 3) := by decide +kernel
theorem dX2_tell_10 : decode cX2_tell 10 = .ok (.aload_n 0, 1) := by decide +kernel
theorem dX2_tell_11 : decode cX2_tell 11 = .ok (.iconst 0, 1) := by decide +kernel
theorem dX2_tell_12 : decode cX2_tell 12 = .ok (.iconst (-1), 1) := by decide +kernel
theorem dX2_tell_13 : decode cX2_tell 13 = .ok (.invokevirtual 17, 3) := by decide +kernel
theorem dX2_tell_16 : decode cX2_tell 16 = .ok (.aload_n 0, 1) := by decide +kernel
theorem dX2_tell_17 : decode cX2_tell 17 = .ok (.iconst (-1), 1) := by decide +kernel
theorem dX2_tell_18 : decode cX2_tell 18 = .ok (.putfield 21, 3) := by decide +kernel
theorem dX2_tell_21 : decode cX2_tell 21 = .ok (.return_, 1) := by decide +kernel
theorem dX2_become_0 : decode cX2_become 0 = .ok (.aload_n 0, 1) := by decide +kernel
theorem dX2_become_1 : decode cX2_become 1 = .ok (.aload_n 1, 1) := by decide +kernel
theorem dX2_become_2 : decode cX2_become 2 = .ok (.getfield 7, 3) := by decide +kernel
theorem dX2_become_5 : decode cX2_become 5 = .ok (.aload_n 1, 1) := by decide +kernel
theorem dX2_become_6 : decode cX2_become 6 = .ok (.getfield 13, 3) := by decide +kernel
theorem dX2_become_9 : decode cX2_become 9 = .ok (.invokevirtual 24, 3) := by decide +kernel
theorem dX2_become_12 : decode cX2_become 12 = .ok (.aload_n 0, 1) := by decide +kernel
theorem dX2_become_13 : decode cX2_become 13 = .ok (.aload_n 1, 1) := by decide +kernel
theorem dX2_become_14 : decode cX2_become 14 = .ok (.getfield 28, 3) := by decide +kernel
theorem dX2_become_17 : decode cX2_become 17 = .ok (.aload_n 1, 1) := by decide +kernel
theorem dX2_become_18 : decode cX2_become 18 = .ok (.getfield 31, 3) := by decide +kernel
theorem dX2_become_21 : decode cX2_become 21 = .ok (.invokevirtual 17, 3) := by decide +kernel
theorem dX2_become_24 : decode cX2_become 24 = .ok (.aload_n 0, 1) := by decide +kernel
theorem dX2_become_25 : decode cX2_become 25 = .ok (.aload_n 1, 1) := by decide +kernel
theorem dX2_become_26 : decode cX2_become 26 = .ok (.getfield 21, 3) := by decide +kernel
theorem dX2_become_29 : decode cX2_become 29 = .ok (.putfield 21, 3) := by decide +kernel
theorem dX2_become_32 : decode cX2_become 32 = .ok (.return_, 1) := by decide +kernel
theorem dX2_lie_0 : decode cX2_lie 0 = .ok (.aload_n 0, 1) := by decide +kernel
theorem dX2_lie_1 : decode cX2_lie 1 = .ok (.iload_n 1, 1) := by decide +kernel
theorem dX2_lie_2 : decode cX2_lie 2 = .ok (.putfield 28, 3) := by decide +kernel
theorem dX2_lie_5 : decode cX2_lie 5 = .ok (.aload_n 0, 1) := by decide +kernel
theorem dX2_lie_6 : decode cX2_lie 6 = .ok (.iload_n 2, 1) := by decide +kernel
theorem dX2_lie_7 : decode cX2_lie 7 = .ok (.putfield 31, 3) := by decide +kernel
theorem dX2_lie_10 : decode cX2_lie 10 = .ok (.return_, 1) := by decide +kernel
theorem dX3_init_0 : decode cX3_init 0 = .ok (.aload_n 0, 1) := by decide +kernel
theorem dX3_init_1 : decode cX3_init 1 = .ok (.invokespecial 1, 3) := by decide +kernel
theorem dX3_init_4 : decode cX3_init 4 = .ok (.return_, 1) := by decide +kernel
theorem dX3_tell_0 : decode cX3_tell 0 = .ok (.aload_n 0, 1) := by decide +kernel
theorem dX3_tell_1 : decode cX3_tell 1 = .ok (.iload_n 1, 1) := by decide +kernel
theorem dX3_tell_2 : decode cX3_tell 2 = .ok (.putfield 7, 3) := by decide +kernel
theorem dX3_tell_5 : decode cX3_tell 5 = .ok (.aload_n 0, 1) := by decide +kernel
theorem dX3_tell_6 : decode cX3_tell 6 = .ok (.iload_n 2, 1) := by decide +kernel
theorem dX3_tell_7 : decode cX3_tell 7 = .ok (.putfield 13, 3) := by decide +kernel
theorem dX3_tell_10 : decode cX3_tell 10 = .ok (.aload_n 0, 1) := by decide +kernel
theorem dX3_tell_11 : decode cX3_tell 11 = .ok (.iload_n 3, 1) := by decide +kernel
theorem dX3_tell_12 : decode cX3_tell 12 = .ok (.putfield 16, 3) := by decide +kernel
theorem dX3_tell_15 : decode cX3_tell 15 = .ok (.aload_n 0, 1) := by decide +kernel
theorem dX3_tell_16 : decode cX3_tell 16 = .ok (.iload 4, 2) := by decide +kernel
theorem dX3_tell_18 : decode cX3_tell 18 = .ok (.putfield 19, 3) := by decide +kernel
theorem dX3_tell_21 : decode cX3_tell 21 = .ok (.aload_n 0, 1) := by decide +kernel
theorem dX3_tell_22 : decode cX3_tell 22 = .ok (.iload 5, 2) := by decide +kernel
theorem dX3_tell_24 : decode cX3_tell 24 = .ok (.putfield 22, 3) := by decide +kernel
theorem dX3_tell_27 : decode cX3_tell 27 = .ok (.return_, 1) := by decide +kernel
theorem dX4_init_0 : decode cX4_init 0 = .ok (.aload_n 0, 1) := by decide +kernel
theorem dX4_init_1 : decode cX4_init 1 = .ok (.invokespecial 3, 3) := by decide +kernel
theorem dX4_init_4 : decode cX4_init 4 = .ok (.aload_n 0, 1) := by decide +kernel
theorem dX4_init_5 : decode cX4_init 5 = .ok (.bipush 12, 2) := by decide +kernel
theorem dX4_init_7 : decode cX4_init 7 = .ok (.anewarray 9, 3) := by decide +kernel
theorem dX4_init_10 : decode cX4_init 10 = .ok (.putfield 11, 3) := by decide +kernel
theorem dX4_init_13 : decode cX4_init 13 = .ok (.aload_n 0, 1) := by decide +kernel
theorem dX4_init_14 : decode cX4_init 14 = .ok (.bipush 12, 2) := by decide +kernel
theorem dX4_init_16 : decode cX4_init 16 = .ok (.anewarray 9, 3) := by decide +kernel
theorem dX4_init_19 : decode cX4_init 19 = .ok (.putfield 17, 3) := by decide +kernel
theorem dX4_init_22 : decode cX4_init 22 = .ok (.iconst 0, 1) := by decide +kernel
theorem dX4_init_23 : decode cX4_init 23 = .ok (.istore_n 1, 1) := by decide +kernel
theorem dX4_init_24 : decode cX4_init 24 = .ok (.iload_n 1, 1) := by decide +kernel
theorem dX4_init_25 : decode cX4_init 25 = .ok (.bipush 12, 2) := by decide +kernel
theorem dX4_init_27 : decode cX4_init 27 = .ok (.if_icmp .ge 35, 3) := by decide +kernel
theorem dX4_init_30 : decode cX4_init 30 = .ok (.aload_n 0, 1) := by decide +kernel
theorem dX4_init_31 : decode cX4_init 31 = .ok (.getfield 11, 3) := by decide +kernel
theorem dX4_init_34 : decode cX4_init 34 = .ok (.iload_n 1, 1) := by decide +kernel
theorem dX4_init_35 : decode cX4_init 35 = .ok (.new 9, 3) := by decide +kernel
theorem dX4_init_38 : decode cX4_init 38 = .ok (.dup, 1) := by decide +kernel
theorem dX4_init_39 : decode cX4_init 39 = .ok (.invokespecial 20, 3) := by decide +kernel
theorem dX4_init_42 : decode cX4_init 42 = .ok (.aastore, 1) := by decide +kernel
theorem dX4_init_43 : decode cX4_init 43 = .ok (.aload_n 0, 1) := by decide +kernel
theorem dX4_init_44 : decode cX4_init 44 = .ok (.getfield 17, 3) := by decide +kernel
theorem dX4_init_47 : decode cX4_init 47 = .ok (.iload_n 1, 1) := by decide +kernel
theorem dX4_init_48 : decode cX4_init 48 = .ok (.new 9, 3) := by decide +kernel
theorem dX4_init_51 : decode cX4_init 51 = .ok (.dup, 1) := by decide +kernel
theorem dX4_init_52 : decode cX4_init 52 = .ok (.invokespecial 20, 3) := by decide +kernel
theorem dX4_init_55 : decode cX4_init 55 = .ok (.aastore, 1) := by decide +kernel
theorem dX4_init_56 : decode cX4_init 56 = .ok (.iinc 1 1, 3) := by decide +kernel
theorem dX4_init_59 : decode cX4_init 59 = .ok (.goto (-35), 3) := by decide +kernel
theorem dX4_init_62 : decode cX4_init 62 = .ok (.aload_n 0, 1) := by decide +kernel
theorem dX4_init_63 : decode cX4_init 63 = .ok (.sipush 400, 3) := by decide +kernel
theorem dX4_init_66 : decode cX4_init 66 = .ok (.anewarray 21, 3) := by decide +kernel
theorem dX4_init_69 : decode cX4_init 69 = .ok (.putfield 23, 3) := by decide +kernel
theorem dX4_init_72 : decode cX4_init 72 = .ok (.iconst 0, 1) := by decide +kernel
theorem dX4_init_73 : decode cX4_init 73 = .ok (.istore_n 1, 1) := by decide +kernel
theorem dX4_init_74 : decode cX4_init 74 = .ok (.iload_n 1, 1) := by decide +kernel
theorem dX4_init_75 : decode cX4_init 75 = .ok (.aload_n 0, 1) := by decide +kernel
theorem dX4_init_76 : decode cX4_init 76 = .ok (.getfield 23, 3) := by decide +kernel
theorem dX4_init_79 : decode cX4_init 79 = .ok (.arraylength, 1) := by decide +kernel
theorem dX4_init_80 : decode cX4_init 80 = .ok (.if_icmp .ge 18, 3) := by decide +kernel
theorem dX4_init_83 : decode cX4_init 83 = .ok (.aload_n 0, 1) := by decide +kernel
theorem dX4_init_84 : decode cX4_init 84 = .ok (.getfield 23, 3) := by decide +kernel
theorem dX4_init_87 : decode cX4_init 87 = .ok (.iload_n 1, 1) := by decide +kernel
theorem dX4_init_88 : decode cX4_init 88 = .ok (.getstatic 27, 3) := by decide +kernel
theorem dX4_init_91 : decode cX4_init 91 = .ok (.aastore, 1) := by decide +kernel
theorem dX4_init_92 : decode cX4_init 92 = .ok (.iinc 1 1, 3) := by decide +kernel
theorem dX4_init_95 : decode cX4_init 95 = .ok (.goto (-21), 3) := by decide +kernel
theorem dX4_init_98 : decode cX4_init 98 = .ok (.aload_n 0, 1) := by decide +kernel
theorem dX4_init_99 : decode cX4_init 99 = .ok (.sipush 400, 3) := by decide +kernel
theorem dX4_init_102 : decode cX4_init 102 = .ok (.newarray .int, 2) := by decide +kernel
theorem dX4_init_104 : decode cX4_init 104 = .ok (.putfield 31, 3) := by decide +kernel
theorem dX4_init_107 : decode cX4_init 107 = .ok (.aload_n 0, 1) := by decide +kernel
theorem dX4_init_108 : decode cX4_init 108 = .ok (.sipush 401, 3) := by decide +kernel
theorem dX4_init_111 : decode cX4_init 111 = .ok (.newarray .int, 2) := by decide +kernel
theorem dX4_init_113 : decode cX4_init 113 = .ok (.putfield 35, 3) := by decide +kernel
theorem dX4_init_116 : decode cX4_init 116 = .ok (.aload_n 0, 1) := by decide +kernel
theorem dX4_init_117 : decode cX4_init 117 = .ok (.iconst 0, 1) := by decide +kernel
theorem dX4_init_118 : decode cX4_init 118 = .ok (.putfield 38, 3) := by decide +kernel
theorem dX4_init_121 : decode cX4_init 121 = .ok (.aload_n 0, 1) := by decide +kernel
theorem dX4_init_122 : decode cX4_init 122 = .ok (.iconst 0, 1) := by decide +kernel
theorem dX4_init_123 : decode cX4_init 123 = .ok (.putfield 42, 3) := by decide +kernel
theorem dX4_init_126 : decode cX4_init 126 = .ok (.aload_n 0, 1) := by decide +kernel
theorem dX4_init_127 : decode cX4_init 127 = .ok (.iconst 0, 1) := by decide +kernel
theorem dX4_init_128 : decode cX4_init 128 = .ok (.putfield 45, 3) := by decide +kernel
theorem dX4_init_131 : decode cX4_init 131 = .ok (.return_, 1) := by decide +kernel
theorem dX4_empty_0 : decode cX4_empty 0 = .ok (.aload_n 0, 1) := by decide +kernel
theorem dX4_empty_1 : decode cX4_empty 1 = .ok (.iconst 0, 1) := by decide +kernel
theorem dX4_empty_2 : decode cX4_empty 2 = .ok (.putfield 38, 3) := by decide +kernel
theorem dX4_empty_5 : decode cX4_empty 5 = .ok (.aload_n 0, 1) := by decide +kernel
theorem dX4_empty_6 : decode cX4_empty 6 = .ok (.iconst 0, 1) := by decide +kernel
theorem dX4_empty_7 : decode cX4_empty 7 = .ok (.putfield 42, 3) := by decide +kernel
theorem dX4_empty_10 : decode cX4_empty 10 = .ok (.aload_n 0, 1) := by decide +kernel
theorem dX4_empty_11 : decode cX4_empty 11 = .ok (.iconst 0, 1) := by decide +kernel
theorem dX4_empty_12 : decode cX4_empty 12 = .ok (.putfield 45, 3) := by decide +kernel
theorem dX4_empty_15 : decode cX4_empty 15 = .ok (.return_, 1) := by decide +kernel
theorem dX4_addStep_0 : decode cX4_addStep 0 = .ok (.aload_n 0, 1) := by decide +kernel
theorem dX4_addStep_1 : decode cX4_addStep 1 = .ok (.getfield 45, 3) := by decide +kernel
theorem dX4_addStep_4 : decode cX4_addStep 4 = .ok (.sipush 400, 3) := by decide +kernel
theorem dX4_addStep_7 : decode cX4_addStep 7 = .ok (.if_icmp .ge 33, 3) := by decide +kernel
theorem dX4_addStep_10 : decode cX4_addStep 10 = .ok (.aload_n 0, 1) := by decide +kernel
theorem dX4_addStep_11 : decode cX4_addStep 11 = .ok (.getfield 23, 3) := by decide +kernel
theorem dX4_addStep_14 : decode cX4_addStep 14 = .ok (.aload_n 0, 1) := by decide +kernel
theorem dX4_addStep_15 : decode cX4_addStep 15 = .ok (.getfield 45, 3) := by decide +kernel
theorem dX4_addStep_18 : decode cX4_addStep 18 = .ok (.aload_n 1, 1) := by decide +kernel
theorem dX4_addStep_19 : decode cX4_addStep 19 = .ok (.aastore, 1) := by decide +kernel
theorem dX4_addStep_20 : decode cX4_addStep 20 = .ok (.aload_n 0, 1) := by decide +kernel
theorem dX4_addStep_21 : decode cX4_addStep 21 = .ok (.getfield 31, 3) := by decide +kernel
theorem dX4_addStep_24 : decode cX4_addStep 24 = .ok (.aload_n 0, 1) := by decide +kernel
theorem dX4_addStep_25 : decode cX4_addStep 25 = .ok (.getfield 45, 3) := by decide +kernel
theorem dX4_addStep_28 : decode cX4_addStep 28 = .ok (.iload_n 2, 1) := by decide +kernel
theorem dX4_addStep_29 : decode cX4_addStep 29 = .ok (.iastore, 1) := by decide +kernel
theorem dX4_addStep_30 : decode cX4_addStep 30 = .ok (.aload_n 0, 1) := by decide +kernel
theorem dX4_addStep_31 : decode cX4_addStep 31 = .ok (.dup, 1) := by decide +kernel
theorem dX4_addStep_32 : decode cX4_addStep 32 = .ok (.getfield 45, 3) := by decide +kernel
theorem dX4_addStep_35 : decode cX4_addStep 35 = .ok (.iconst 1, 1) := by decide +kernel
theorem dX4_addStep_36 : decode cX4_addStep 36 = .ok (.iadd, 1) := by decide +kernel
theorem dX4_addStep_37 : decode cX4_addStep 37 = .ok (.putfield 45, 3) := by decide +kernel
theorem dX4_addStep_40 : decode cX4_addStep 40 = .ok (.return_, 1) := by decide +kernel
theorem dX4_addHaul_0 : decode cX4_addHaul 0 = .ok (.aload_n 0, 1) := by decide +kernel
theorem dX4_addHaul_1 : decode cX4_addHaul 1 = .ok (.getfield 38, 3) := by decide +kernel
theorem dX4_addHaul_4 : decode cX4_addHaul 4 = .ok (.bipush 12, 2) := by decide +kernel
theorem dX4_addHaul_6 : decode cX4_addHaul 6 = .ok (.if_icmp .ge 33, 3) := by decide +kernel
theorem dX4_addHaul_9 : decode cX4_addHaul 9 = .ok (.aload_n 0, 1) := by decide +kernel
theorem dX4_addHaul_10 : decode cX4_addHaul 10 = .ok (.getfield 11, 3) := by decide +kernel
theorem dX4_addHaul_13 : decode cX4_addHaul 13 = .ok (.aload_n 0, 1) := by decide +kernel
theorem dX4_addHaul_14 : decode cX4_addHaul 14 = .ok (.getfield 38, 3) := by decide +kernel
theorem dX4_addHaul_17 : decode cX4_addHaul 17 = .ok (.aaload, 1) := by decide +kernel
theorem dX4_addHaul_18 : decode cX4_addHaul 18 = .ok (.iload_n 1, 1) := by decide +kernel
theorem dX4_addHaul_19 : decode cX4_addHaul 19 = .ok (.iconst (-1), 1) := by decide +kernel
theorem dX4_addHaul_20 : decode cX4_addHaul 20 = .ok (.iload_n 2, 1) := by decide +kernel
theorem dX4_addHaul_21 : decode cX4_addHaul 21 = .ok (.iload_n 3, 1) := by decide +kernel
theorem dX4_addHaul_22 : decode cX4_addHaul 22 = .ok (.aload_n 0, 1) := by decide +kernel
theorem dX4_addHaul_23 : decode cX4_addHaul 23 = .ok (.getfield 45, 3) := by decide +kernel
theorem dX4_addHaul_26 : decode cX4_addHaul 26 = .ok (.invokevirtual 48, 3) := by decide +kernel
theorem dX4_addHaul_29 : decode cX4_addHaul 29 = .ok (.aload_n 0, 1) := by decide +kernel
theorem dX4_addHaul_30 : decode cX4_addHaul 30 = .ok (.dup, 1) := by decide +kernel
theorem dX4_addHaul_31 : decode cX4_addHaul 31 = .ok (.getfield 38, 3) := by decide +kernel
theorem dX4_addHaul_34 : decode cX4_addHaul 34 = .ok (.iconst 1, 1) := by decide +kernel
theorem dX4_addHaul_35 : decode cX4_addHaul 35 = .ok (.iadd, 1) := by decide +kernel
theorem dX4_addHaul_36 : decode cX4_addHaul 36 = .ok (.putfield 38, 3) := by decide +kernel
theorem dX4_addHaul_39 : decode cX4_addHaul 39 = .ok (.return_, 1) := by decide +kernel
theorem dX4_addWait_0 : decode cX4_addWait 0 = .ok (.aload_n 0, 1) := by decide +kernel
theorem dX4_addWait_1 : decode cX4_addWait 1 = .ok (.getfield 42, 3) := by decide +kernel
theorem dX4_addWait_4 : decode cX4_addWait 4 = .ok (.bipush 12, 2) := by decide +kernel
theorem dX4_addWait_6 : decode cX4_addWait 6 = .ok (.if_icmp .ge 33, 3) := by decide +kernel
theorem dX4_addWait_9 : decode cX4_addWait 9 = .ok (.aload_n 0, 1) := by decide +kernel
theorem dX4_addWait_10 : decode cX4_addWait 10 = .ok (.getfield 17, 3) := by decide +kernel
theorem dX4_addWait_13 : decode cX4_addWait 13 = .ok (.aload_n 0, 1) := by decide +kernel
theorem dX4_addWait_14 : decode cX4_addWait 14 = .ok (.getfield 42, 3) := by decide +kernel
theorem dX4_addWait_17 : decode cX4_addWait 17 = .ok (.aaload, 1) := by decide +kernel
theorem dX4_addWait_18 : decode cX4_addWait 18 = .ok (.iload_n 1, 1) := by decide +kernel
theorem dX4_addWait_19 : decode cX4_addWait 19 = .ok (.iload_n 2, 1) := by decide +kernel
theorem dX4_addWait_20 : decode cX4_addWait 20 = .ok (.iload_n 3, 1) := by decide +kernel
theorem dX4_addWait_21 : decode cX4_addWait 21 = .ok (.iload_n 3, 1) := by decide +kernel
theorem dX4_addWait_22 : decode cX4_addWait 22 = .ok (.aload_n 0, 1) := by decide +kernel
theorem dX4_addWait_23 : decode cX4_addWait 23 = .ok (.getfield 45, 3) := by decide +kernel
theorem dX4_addWait_26 : decode cX4_addWait 26 = .ok (.invokevirtual 48, 3) := by decide +kernel
theorem dX4_addWait_29 : decode cX4_addWait 29 = .ok (.aload_n 0, 1) := by decide +kernel
theorem dX4_addWait_30 : decode cX4_addWait 30 = .ok (.dup, 1) := by decide +kernel
theorem dX4_addWait_31 : decode cX4_addWait 31 = .ok (.getfield 42, 3) := by decide +kernel
theorem dX4_addWait_34 : decode cX4_addWait 34 = .ok (.iconst 1, 1) := by decide +kernel
theorem dX4_addWait_35 : decode cX4_addWait 35 = .ok (.iadd, 1) := by decide +kernel
theorem dX4_addWait_36 : decode cX4_addWait 36 = .ok (.putfield 42, 3) := by decide +kernel
theorem dX4_addWait_39 : decode cX4_addWait 39 = .ok (.return_, 1) := by decide +kernel
theorem dX4_mostWeight_0 : decode cX4_mostWeight 0 = .ok (.iconst 0, 1) := by decide +kernel
theorem dX4_mostWeight_1 : decode cX4_mostWeight 1 = .ok (.istore_n 3, 1) := by decide +kernel
theorem dX4_mostWeight_2 : decode cX4_mostWeight 2 = .ok (.iload_n 3, 1) := by decide +kernel
theorem dX4_mostWeight_3 : decode cX4_mostWeight 3 = .ok (.aload_n 0, 1) := by decide +kernel
theorem dX4_mostWeight_4 : decode cX4_mostWeight 4 = .ok (.getfield 38, 3) := by decide +kernel
theorem dX4_mostWeight_7 : decode cX4_mostWeight 7 = .ok (.if_icmp .ge 73, 3) := by decide +kernel
theorem dX4_mostWeight_10 : decode cX4_mostWeight 10 = .ok (.aload_n 0, 1) := by decide +kernel
theorem dX4_mostWeight_11 : decode cX4_mostWeight 11 = .ok (.getfield 11, 3) := by decide +kernel
theorem dX4_mostWeight_14 : decode cX4_mostWeight 14 = .ok (.iload_n 3, 1) := by decide +kernel
theorem dX4_mostWeight_15 : decode cX4_mostWeight 15 = .ok (.aaload, 1) := by decide +kernel
theorem dX4_mostWeight_16 : decode cX4_mostWeight 16 = .ok (.astore 4, 2) := by decide +kernel
theorem dX4_mostWeight_18 : decode cX4_mostWeight 18 = .ok (.aload 4, 2) := by decide +kernel
theorem dX4_mostWeight_20 : decode cX4_mostWeight 20 = .ok (.getfield 52, 3) := by decide +kernel
theorem dX4_mostWeight_23 : decode cX4_mostWeight 23 = .ok (.iload_n 1, 1) := by decide +kernel
theorem dX4_mostWeight_24 : decode cX4_mostWeight 24 = .ok (.if_icmp .ne 50, 3) := by decide +kernel
theorem dX4_mostWeight_27 : decode cX4_mostWeight 27 = .ok (.aload 4, 2) := by decide +kernel
theorem dX4_mostWeight_29 : decode cX4_mostWeight 29 = .ok (.getfield 55, 3) := by decide +kernel
theorem dX4_mostWeight_32 : decode cX4_mostWeight 32 = .ok (.aload 4, 2) := by decide +kernel
theorem dX4_mostWeight_34 : decode cX4_mostWeight 34 = .ok (.getfield 58, 3) := by decide +kernel
theorem dX4_mostWeight_37 : decode cX4_mostWeight 37 = .ok (.if_icmp .eq 21, 3) := by decide +kernel
theorem dX4_mostWeight_40 : decode cX4_mostWeight 40 = .ok (.aload_n 0, 1) := by decide +kernel
theorem dX4_mostWeight_41 : decode cX4_mostWeight 41 = .ok (.aload 4, 2) := by decide +kernel
theorem dX4_mostWeight_43 : decode cX4_mostWeight 43 = .ok (.getfield 55, 3) := by decide +kernel
theorem dX4_mostWeight_46 : decode cX4_mostWeight 46 = .ok (.aload 4, 2) := by decide +kernel
theorem dX4_mostWeight_48 : decode cX4_mostWeight 48 = .ok (.getfield 58, 3) := by decide +kernel
theorem dX4_mostWeight_51 : decode cX4_mostWeight 51 = .ok (.aload_n 2, 1) := by decide +kernel
theorem dX4_mostWeight_52 : decode cX4_mostWeight 52 = .ok (.invokevirtual 61, 3) := by decide +kernel
theorem dX4_mostWeight_55 : decode cX4_mostWeight 55 = .ok (.ifCond .eq 19, 3) := by decide +kernel
theorem dX4_mostWeight_58 : decode cX4_mostWeight 58 = .ok (.aload_n 0, 1) := by decide +kernel
theorem dX4_mostWeight_59 : decode cX4_mostWeight 59 = .ok (.aload 4, 2) := by decide +kernel
theorem dX4_mostWeight_61 : decode cX4_mostWeight 61 = .ok (.getfield 65, 3) := by decide +kernel
theorem dX4_mostWeight_64 : decode cX4_mostWeight 64 = .ok (.aload 4, 2) := by decide +kernel
theorem dX4_mostWeight_66 : decode cX4_mostWeight 66 = .ok (.getfield 55, 3) := by decide +kernel
theorem dX4_mostWeight_69 : decode cX4_mostWeight 69 = .ok (.aload_n 2, 1) := by decide +kernel
theorem dX4_mostWeight_70 : decode cX4_mostWeight 70 = .ok (.invokevirtual 61, 3) := by decide +kernel
theorem dX4_mostWeight_73 : decode cX4_mostWeight 73 = .ok (.ireturn, 1) := by decide +kernel
theorem dX4_mostWeight_74 : decode cX4_mostWeight 74 = .ok (.iinc 3 1, 3) := by decide +kernel
theorem dX4_mostWeight_77 : decode cX4_mostWeight 77 = .ok (.goto (-75), 3) := by decide +kernel
theorem dX4_mostWeight_80 : decode cX4_mostWeight 80 = .ok (.iconst 0, 1) := by decide +kernel
theorem dX4_mostWeight_81 : decode cX4_mostWeight 81 = .ok (.ireturn, 1) := by decide +kernel
theorem dX4_waitsNow_0 : decode cX4_waitsNow 0 = .ok (.iconst 0, 1) := by decide +kernel
theorem dX4_waitsNow_1 : decode cX4_waitsNow 1 = .ok (.istore 4, 2) := by decide +kernel
theorem dX4_waitsNow_3 : decode cX4_waitsNow 3 = .ok (.iload 4, 2) := by decide +kernel
theorem dX4_waitsNow_5 : decode cX4_waitsNow 5 = .ok (.aload_n 0, 1) := by decide +kernel
theorem dX4_waitsNow_6 : decode cX4_waitsNow 6 = .ok (.getfield 42, 3) := by decide +kernel
theorem dX4_waitsNow_9 : decode cX4_waitsNow 9 = .ok (.if_icmp .ge 56, 3) := by decide +kernel
theorem dX4_waitsNow_12 : decode cX4_waitsNow 12 = .ok (.aload_n 0, 1) := by decide +kernel
theorem dX4_waitsNow_13 : decode cX4_waitsNow 13 = .ok (.getfield 17, 3) := by decide +kernel
theorem dX4_waitsNow_16 : decode cX4_waitsNow 16 = .ok (.iload 4, 2) := by decide +kernel
theorem dX4_waitsNow_18 : decode cX4_waitsNow 18 = .ok (.aaload, 1) := by decide +kernel
theorem dX4_waitsNow_19 : decode cX4_waitsNow 19 = .ok (.astore 5, 2) := by decide +kernel
theorem dX4_waitsNow_21 : decode cX4_waitsNow 21 = .ok (.aload 5, 2) := by decide +kernel
theorem dX4_waitsNow_23 : decode cX4_waitsNow 23 = .ok (.getfield 52, 3) := by decide +kernel
theorem dX4_waitsNow_26 : decode cX4_waitsNow 26 = .ok (.iload_n 1, 1) := by decide +kernel
theorem dX4_waitsNow_27 : decode cX4_waitsNow 27 = .ok (.if_icmp .ne 32, 3) := by decide +kernel
theorem dX4_waitsNow_30 : decode cX4_waitsNow 30 = .ok (.aload 5, 2) := by decide +kernel
theorem dX4_waitsNow_32 : decode cX4_waitsNow 32 = .ok (.getfield 68, 3) := by decide +kernel
theorem dX4_waitsNow_35 : decode cX4_waitsNow 35 = .ok (.iload_n 2, 1) := by decide +kernel
theorem dX4_waitsNow_36 : decode cX4_waitsNow 36 = .ok (.if_icmp .ne 23, 3) := by decide +kernel
theorem dX4_waitsNow_39 : decode cX4_waitsNow 39 = .ok (.aload_n 0, 1) := by decide +kernel
theorem dX4_waitsNow_40 : decode cX4_waitsNow 40 = .ok (.aload 5, 2) := by decide +kernel
theorem dX4_waitsNow_42 : decode cX4_waitsNow 42 = .ok (.getfield 65, 3) := by decide +kernel
theorem dX4_waitsNow_45 : decode cX4_waitsNow 45 = .ok (.aload 5, 2) := by decide +kernel
theorem dX4_waitsNow_47 : decode cX4_waitsNow 47 = .ok (.getfield 58, 3) := by decide +kernel
theorem dX4_waitsNow_50 : decode cX4_waitsNow 50 = .ok (.aload_n 3, 1) := by decide +kernel
theorem dX4_waitsNow_51 : decode cX4_waitsNow 51 = .ok (.invokevirtual 61, 3) := by decide +kernel
theorem dX4_waitsNow_54 : decode cX4_waitsNow 54 = .ok (.ifCond .eq 5, 3) := by decide +kernel
theorem dX4_waitsNow_57 : decode cX4_waitsNow 57 = .ok (.iconst 1, 1) := by decide +kernel
theorem dX4_waitsNow_58 : decode cX4_waitsNow 58 = .ok (.ireturn, 1) := by decide +kernel
theorem dX4_waitsNow_59 : decode cX4_waitsNow 59 = .ok (.iinc 4 1, 3) := by decide +kernel
theorem dX4_waitsNow_62 : decode cX4_waitsNow 62 = .ok (.goto (-59), 3) := by decide +kernel
theorem dX4_waitsNow_65 : decode cX4_waitsNow 65 = .ok (.iconst 0, 1) := by decide +kernel
theorem dX4_waitsNow_66 : decode cX4_waitsNow 66 = .ok (.ireturn, 1) := by decide +kernel
theorem dX4_reckon_0 : decode cX4_reckon 0 = .ok (.iconst 0, 1) := by decide +kernel
theorem dX4_reckon_1 : decode cX4_reckon 1 = .ok (.istore 4, 2) := by decide +kernel
theorem dX4_reckon_3 : decode cX4_reckon 3 = .ok (.iload_n 1, 1) := by decide +kernel
theorem dX4_reckon_4 : decode cX4_reckon 4 = .ok (.istore 5, 2) := by decide +kernel
theorem dX4_reckon_6 : decode cX4_reckon 6 = .ok (.iload 5, 2) := by decide +kernel
theorem dX4_reckon_8 : decode cX4_reckon 8 = .ok (.iload_n 2, 1) := by decide +kernel
theorem dX4_reckon_9 : decode cX4_reckon 9 = .ok (.if_icmp .ge 98, 3) := by decide +kernel
theorem dX4_reckon_12 : decode cX4_reckon 12 = .ok (.aload_n 0, 1) := by decide +kernel
theorem dX4_reckon_13 : decode cX4_reckon 13 = .ok (.getfield 23, 3) := by decide +kernel
theorem dX4_reckon_16 : decode cX4_reckon 16 = .ok (.iload 5, 2) := by decide +kernel
theorem dX4_reckon_18 : decode cX4_reckon 18 = .ok (.aaload, 1) := by decide +kernel
theorem dX4_reckon_19 : decode cX4_reckon 19 = .ok (.astore 6, 2) := by decide +kernel
theorem dX4_reckon_21 : decode cX4_reckon 21 = .ok (.iload 4, 2) := by decide +kernel
theorem dX4_reckon_23 : decode cX4_reckon 23 = .ok (.aload 6, 2) := by decide +kernel
theorem dX4_reckon_25 : decode cX4_reckon 25 = .ok (.getfield 71, 3) := by decide +kernel
theorem dX4_reckon_28 : decode cX4_reckon 28 = .ok (.isub, 1) := by decide +kernel
theorem dX4_reckon_29 : decode cX4_reckon 29 = .ok (.istore 4, 2) := by decide +kernel
theorem dX4_reckon_31 : decode cX4_reckon 31 = .ok (.iload 4, 2) := by decide +kernel
theorem dX4_reckon_33 : decode cX4_reckon 33 = .ok (.ifCond .lt 11, 3) := by decide +kernel
theorem dX4_reckon_36 : decode cX4_reckon 36 = .ok (.iload 4, 2) := by decide +kernel
theorem dX4_reckon_38 : decode cX4_reckon 38 = .ok (.sipush 400, 3) := by decide +kernel
theorem dX4_reckon_41 : decode cX4_reckon 41 = .ok (.if_icmp .lt 5, 3) := by decide +kernel
theorem dX4_reckon_44 : decode cX4_reckon 44 = .ok (.iconst 0, 1) := by decide +kernel
theorem dX4_reckon_45 : decode cX4_reckon 45 = .ok (.ireturn, 1) := by decide +kernel
theorem dX4_reckon_46 : decode cX4_reckon 46 = .ok (.aload_n 0, 1) := by decide +kernel
theorem dX4_reckon_47 : decode cX4_reckon 47 = .ok (.getfield 35, 3) := by decide +kernel
theorem dX4_reckon_50 : decode cX4_reckon 50 = .ok (.iload 4, 2) := by decide +kernel
theorem dX4_reckon_52 : decode cX4_reckon 52 = .ok (.aload 6, 2) := by decide +kernel
theorem dX4_reckon_54 : decode cX4_reckon 54 = .ok (.getfield 71, 3) := by decide +kernel
theorem dX4_reckon_57 : decode cX4_reckon 57 = .ok (.ifCond .ne 19, 3) := by decide +kernel
theorem dX4_reckon_60 : decode cX4_reckon 60 = .ok (.aload 6, 2) := by decide +kernel
theorem dX4_reckon_62 : decode cX4_reckon 62 = .ok (.aload_n 0, 1) := by decide +kernel
theorem dX4_reckon_63 : decode cX4_reckon 63 = .ok (.getfield 31, 3) := by decide +kernel
theorem dX4_reckon_66 : decode cX4_reckon 66 = .ok (.iload 5, 2) := by decide +kernel
theorem dX4_reckon_68 : decode cX4_reckon 68 = .ok (.iaload, 1) := by decide +kernel
theorem dX4_reckon_69 : decode cX4_reckon 69 = .ok (.aload_n 3, 1) := by decide +kernel
theorem dX4_reckon_70 : decode cX4_reckon 70 = .ok (.invokestatic 74, 3) := by decide +kernel
theorem dX4_reckon_73 : decode cX4_reckon 73 = .ok (.goto 24, 3) := by decide +kernel
theorem dX4_reckon_76 : decode cX4_reckon 76 = .ok (.aload 6, 2) := by decide +kernel
theorem dX4_reckon_78 : decode cX4_reckon 78 = .ok (.aload_n 0, 1) := by decide +kernel
theorem dX4_reckon_79 : decode cX4_reckon 79 = .ok (.getfield 35, 3) := by decide +kernel
theorem dX4_reckon_82 : decode cX4_reckon 82 = .ok (.iload 4, 2) := by decide +kernel
theorem dX4_reckon_84 : decode cX4_reckon 84 = .ok (.iaload, 1) := by decide +kernel
theorem dX4_reckon_85 : decode cX4_reckon 85 = .ok (.aload_n 0, 1) := by decide +kernel
theorem dX4_reckon_86 : decode cX4_reckon 86 = .ok (.getfield 35, 3) := by decide +kernel
theorem dX4_reckon_89 : decode cX4_reckon 89 = .ok (.iload 4, 2) := by decide +kernel
theorem dX4_reckon_91 : decode cX4_reckon 91 = .ok (.iconst 1, 1) := by decide +kernel
theorem dX4_reckon_92 : decode cX4_reckon 92 = .ok (.iadd, 1) := by decide +kernel
theorem dX4_reckon_93 : decode cX4_reckon 93 = .ok (.iaload, 1) := by decide +kernel
theorem dX4_reckon_94 : decode cX4_reckon 94 = .ok (.invokestatic 78, 3) := by decide +kernel
theorem dX4_reckon_97 : decode cX4_reckon 97 = .ok (.iastore, 1) := by decide +kernel
theorem dX4_reckon_98 : decode cX4_reckon 98 = .ok (.iinc 4 1, 3) := by decide +kernel
theorem dX4_reckon_101 : decode cX4_reckon 101 = .ok (.iinc 5 1, 3) := by decide +kernel
theorem dX4_reckon_104 : decode cX4_reckon 104 = .ok (.goto (-98), 3) := by decide +kernel
theorem dX4_reckon_107 : decode cX4_reckon 107 = .ok (.aload_n 0, 1) := by decide +kernel
theorem dX4_reckon_108 : decode cX4_reckon 108 = .ok (.getfield 35, 3) := by decide +kernel
theorem dX4_reckon_111 : decode cX4_reckon 111 = .ok (.iconst 0, 1) := by decide +kernel
theorem dX4_reckon_112 : decode cX4_reckon 112 = .ok (.iaload, 1) := by decide +kernel
theorem dX4_reckon_113 : decode cX4_reckon 113 = .ok (.ireturn, 1) := by decide +kernel
theorem dX4_found_0 : decode cX4_found 0 = .ok (.getstatic 82, 3) := by decide +kernel
theorem dX4_found_3 : decode cX4_found 3 = .ok (.aload_n 0, 1) := by decide +kernel
theorem dX4_found_4 : decode cX4_found 4 = .ok (.invokevirtual 87, 3) := by decide +kernel
theorem dX4_found_7 : decode cX4_found 7 = .ok (.iaload, 1) := by decide +kernel
theorem dX4_found_8 : decode cX4_found 8 = .ok (.tableswitch 110 6 15 #[56, 58, 63, 68, 74, 80, 86, 92, 98, 104], 56) := by decide +kernel
theorem dX4_found_64 : decode cX4_found 64 = .ok (.iload_n 1, 1) := by decide +kernel
theorem dX4_found_65 : decode cX4_found 65 = .ok (.ireturn, 1) := by decide +kernel
theorem dX4_found_66 : decode cX4_found 66 = .ok (.aload_n 2, 1) := by decide +kernel
theorem dX4_found_67 : decode cX4_found 67 = .ok (.getfield 91, 3) := by decide +kernel
theorem dX4_found_70 : decode cX4_found 70 = .ok (.ireturn, 1) := by decide +kernel
theorem dX4_found_71 : decode cX4_found 71 = .ok (.aload_n 2, 1) := by decide +kernel
theorem dX4_found_72 : decode cX4_found 72 = .ok (.getfield 96, 3) := by decide +kernel
theorem dX4_found_75 : decode cX4_found 75 = .ok (.ireturn, 1) := by decide +kernel
theorem dX4_found_76 : decode cX4_found 76 = .ok (.aload_n 2, 1) := by decide +kernel
theorem dX4_found_77 : decode cX4_found 77 = .ok (.iconst 0, 1) := by decide +kernel
theorem dX4_found_78 : decode cX4_found 78 = .ok (.invokevirtual 101, 3) := by decide +kernel
theorem dX4_found_81 : decode cX4_found 81 = .ok (.ireturn, 1) := by decide +kernel
theorem dX4_found_82 : decode cX4_found 82 = .ok (.aload_n 2, 1) := by decide +kernel
theorem dX4_found_83 : decode cX4_found 83 = .ok (.iconst 3, 1) := by decide +kernel
theorem dX4_found_84 : decode cX4_found 84 = .ok (.invokevirtual 101, 3) := by decide +kernel
theorem dX4_found_87 : decode cX4_found 87 = .ok (.ireturn, 1) := by decide +kernel
theorem dX4_found_88 : decode cX4_found 88 = .ok (.aload_n 2, 1) := by decide +kernel
theorem dX4_found_89 : decode cX4_found 89 = .ok (.iload_n 1, 1) := by decide +kernel
theorem dX4_found_90 : decode cX4_found 90 = .ok (.invokevirtual 105, 3) := by decide +kernel
theorem dX4_found_93 : decode cX4_found 93 = .ok (.ireturn, 1) := by decide +kernel
theorem dX4_found_94 : decode cX4_found 94 = .ok (.aload_n 2, 1) := by decide +kernel
theorem dX4_found_95 : decode cX4_found 95 = .ok (.iload_n 1, 1) := by decide +kernel
theorem dX4_found_96 : decode cX4_found 96 = .ok (.invokevirtual 108, 3) := by decide +kernel
theorem dX4_found_99 : decode cX4_found 99 = .ok (.ireturn, 1) := by decide +kernel
theorem dX4_found_100 : decode cX4_found 100 = .ok (.aload_n 2, 1) := by decide +kernel
theorem dX4_found_101 : decode cX4_found 101 = .ok (.iload_n 1, 1) := by decide +kernel
theorem dX4_found_102 : decode cX4_found 102 = .ok (.invokevirtual 111, 3) := by decide +kernel
theorem dX4_found_105 : decode cX4_found 105 = .ok (.ireturn, 1) := by decide +kernel
theorem dX4_found_106 : decode cX4_found 106 = .ok (.aload_n 2, 1) := by decide +kernel
theorem dX4_found_107 : decode cX4_found 107 = .ok (.iload_n 1, 1) := by decide +kernel
theorem dX4_found_108 : decode cX4_found 108 = .ok (.invokevirtual 114, 3) := by decide +kernel
theorem dX4_found_111 : decode cX4_found 111 = .ok (.ireturn, 1) := by decide +kernel
theorem dX4_found_112 : decode cX4_found 112 = .ok (.aload_n 2, 1) := by decide +kernel
theorem dX4_found_113 : decode cX4_found 113 = .ok (.iload_n 1, 1) := by decide +kernel
theorem dX4_found_114 : decode cX4_found 114 = .ok (.invokevirtual 117, 3) := by decide +kernel
theorem dX4_found_117 : decode cX4_found 117 = .ok (.ireturn, 1) := by decide +kernel
theorem dX4_found_118 : decode cX4_found 118 = .ok (.iconst 0, 1) := by decide +kernel
theorem dX4_found_119 : decode cX4_found 119 = .ok (.ireturn, 1) := by decide +kernel
theorem dX4_joined_0 : decode cX4_joined 0 = .ok (.getstatic 82, 3) := by decide +kernel
theorem dX4_joined_3 : decode cX4_joined 3 = .ok (.aload_n 0, 1) := by decide +kernel
theorem dX4_joined_4 : decode cX4_joined 4 = .ok (.invokevirtual 87, 3) := by decide +kernel
theorem dX4_joined_7 : decode cX4_joined 7 = .ok (.iaload, 1) := by decide +kernel
theorem dX4_joined_8 : decode cX4_joined 8 = .ok (.tableswitch 186 16 31 #[84, 186, 107, 113, 119, 130, 141, 152, 163, 80, 88, 92, 104, 174, 178, 182], 80) := by decide +kernel
theorem dX4_joined_88 : decode cX4_joined 88 = .ok (.iload_n 1, 1) := by decide +kernel
theorem dX4_joined_89 : decode cX4_joined 89 = .ok (.iload_n 2, 1) := by decide +kernel
theorem dX4_joined_90 : decode cX4_joined 90 = .ok (.iadd, 1) := by decide +kernel
theorem dX4_joined_91 : decode cX4_joined 91 = .ok (.ireturn, 1) := by decide +kernel
theorem dX4_joined_92 : decode cX4_joined 92 = .ok (.iload_n 1, 1) := by decide +kernel
theorem dX4_joined_93 : decode cX4_joined 93 = .ok (.iload_n 2, 1) := by decide +kernel
theorem dX4_joined_94 : decode cX4_joined 94 = .ok (.isub, 1) := by decide +kernel
theorem dX4_joined_95 : decode cX4_joined 95 = .ok (.ireturn, 1) := by decide +kernel
theorem dX4_joined_96 : decode cX4_joined 96 = .ok (.iload_n 1, 1) := by decide +kernel
theorem dX4_joined_97 : decode cX4_joined 97 = .ok (.iload_n 2, 1) := by decide +kernel
theorem dX4_joined_98 : decode cX4_joined 98 = .ok (.imul, 1) := by decide +kernel
theorem dX4_joined_99 : decode cX4_joined 99 = .ok (.ireturn, 1) := by decide +kernel
theorem dX4_joined_100 : decode cX4_joined 100 = .ok (.iload_n 2, 1) := by decide +kernel
theorem dX4_joined_101 : decode cX4_joined 101 = .ok (.ifCond .ne 7, 3) := by decide +kernel
theorem dX4_joined_104 : decode cX4_joined 104 = .ok (.iconst 0, 1) := by decide +kernel
theorem dX4_joined_105 : decode cX4_joined 105 = .ok (.goto 6, 3) := by decide +kernel
theorem dX4_joined_108 : decode cX4_joined 108 = .ok (.iload_n 1, 1) := by decide +kernel
theorem dX4_joined_109 : decode cX4_joined 109 = .ok (.iload_n 2, 1) := by decide +kernel
theorem dX4_joined_110 : decode cX4_joined 110 = .ok (.idiv, 1) := by decide +kernel
theorem dX4_joined_111 : decode cX4_joined 111 = .ok (.ireturn, 1) := by decide +kernel
theorem dX4_joined_112 : decode cX4_joined 112 = .ok (.iload_n 1, 1) := by decide +kernel
theorem dX4_joined_113 : decode cX4_joined 113 = .ok (.ineg, 1) := by decide +kernel
theorem dX4_joined_114 : decode cX4_joined 114 = .ok (.ireturn, 1) := by decide +kernel
theorem dX4_joined_115 : decode cX4_joined 115 = .ok (.iload_n 1, 1) := by decide +kernel
theorem dX4_joined_116 : decode cX4_joined 116 = .ok (.iload_n 2, 1) := by decide +kernel
theorem dX4_joined_117 : decode cX4_joined 117 = .ok (.invokestatic 120, 3) := by decide +kernel
theorem dX4_joined_120 : decode cX4_joined 120 = .ok (.ireturn, 1) := by decide +kernel
theorem dX4_joined_121 : decode cX4_joined 121 = .ok (.iload_n 1, 1) := by decide +kernel
theorem dX4_joined_122 : decode cX4_joined 122 = .ok (.iload_n 2, 1) := by decide +kernel
theorem dX4_joined_123 : decode cX4_joined 123 = .ok (.invokestatic 126, 3) := by decide +kernel
theorem dX4_joined_126 : decode cX4_joined 126 = .ok (.ireturn, 1) := by decide +kernel
theorem dX4_joined_127 : decode cX4_joined 127 = .ok (.iload_n 1, 1) := by decide +kernel
theorem dX4_joined_128 : decode cX4_joined 128 = .ok (.iload_n 2, 1) := by decide +kernel
theorem dX4_joined_129 : decode cX4_joined 129 = .ok (.if_icmp .ge 7, 3) := by decide +kernel
theorem dX4_joined_132 : decode cX4_joined 132 = .ok (.iconst 1, 1) := by decide +kernel
theorem dX4_joined_133 : decode cX4_joined 133 = .ok (.goto 4, 3) := by decide +kernel
theorem dX4_joined_136 : decode cX4_joined 136 = .ok (.iconst 0, 1) := by decide +kernel
theorem dX4_joined_137 : decode cX4_joined 137 = .ok (.ireturn, 1) := by decide +kernel
theorem dX4_joined_138 : decode cX4_joined 138 = .ok (.iload_n 1, 1) := by decide +kernel
theorem dX4_joined_139 : decode cX4_joined 139 = .ok (.iload_n 2, 1) := by decide +kernel
theorem dX4_joined_140 : decode cX4_joined 140 = .ok (.if_icmp .le 7, 3) := by decide +kernel
theorem dX4_joined_143 : decode cX4_joined 143 = .ok (.iconst 1, 1) := by decide +kernel
theorem dX4_joined_144 : decode cX4_joined 144 = .ok (.goto 4, 3) := by decide +kernel
theorem dX4_joined_147 : decode cX4_joined 147 = .ok (.iconst 0, 1) := by decide +kernel
theorem dX4_joined_148 : decode cX4_joined 148 = .ok (.ireturn, 1) := by decide +kernel
theorem dX4_joined_149 : decode cX4_joined 149 = .ok (.iload_n 1, 1) := by decide +kernel
theorem dX4_joined_150 : decode cX4_joined 150 = .ok (.iload_n 2, 1) := by decide +kernel
theorem dX4_joined_151 : decode cX4_joined 151 = .ok (.if_icmp .ne 7, 3) := by decide +kernel
theorem dX4_joined_154 : decode cX4_joined 154 = .ok (.iconst 1, 1) := by decide +kernel
theorem dX4_joined_155 : decode cX4_joined 155 = .ok (.goto 4, 3) := by decide +kernel
theorem dX4_joined_158 : decode cX4_joined 158 = .ok (.iconst 0, 1) := by decide +kernel
theorem dX4_joined_159 : decode cX4_joined 159 = .ok (.ireturn, 1) := by decide +kernel
theorem dX4_joined_160 : decode cX4_joined 160 = .ok (.iload_n 1, 1) := by decide +kernel
theorem dX4_joined_161 : decode cX4_joined 161 = .ok (.iload_n 2, 1) := by decide +kernel
theorem dX4_joined_162 : decode cX4_joined 162 = .ok (.if_icmp .gt 7, 3) := by decide +kernel
theorem dX4_joined_165 : decode cX4_joined 165 = .ok (.iconst 1, 1) := by decide +kernel
theorem dX4_joined_166 : decode cX4_joined 166 = .ok (.goto 4, 3) := by decide +kernel
theorem dX4_joined_169 : decode cX4_joined 169 = .ok (.iconst 0, 1) := by decide +kernel
theorem dX4_joined_170 : decode cX4_joined 170 = .ok (.ireturn, 1) := by decide +kernel
theorem dX4_joined_171 : decode cX4_joined 171 = .ok (.iload_n 1, 1) := by decide +kernel
theorem dX4_joined_172 : decode cX4_joined 172 = .ok (.iload_n 2, 1) := by decide +kernel
theorem dX4_joined_173 : decode cX4_joined 173 = .ok (.if_icmp .lt 7, 3) := by decide +kernel
theorem dX4_joined_176 : decode cX4_joined 176 = .ok (.iconst 1, 1) := by decide +kernel
theorem dX4_joined_177 : decode cX4_joined 177 = .ok (.goto 4, 3) := by decide +kernel
theorem dX4_joined_180 : decode cX4_joined 180 = .ok (.iconst 0, 1) := by decide +kernel
theorem dX4_joined_181 : decode cX4_joined 181 = .ok (.ireturn, 1) := by decide +kernel
theorem dX4_joined_182 : decode cX4_joined 182 = .ok (.iconst 1, 1) := by decide +kernel
theorem dX4_joined_183 : decode cX4_joined 183 = .ok (.iload_n 1, 1) := by decide +kernel
theorem dX4_joined_184 : decode cX4_joined 184 = .ok (.isub, 1) := by decide +kernel
theorem dX4_joined_185 : decode cX4_joined 185 = .ok (.ireturn, 1) := by decide +kernel
theorem dX4_joined_186 : decode cX4_joined 186 = .ok (.iload_n 1, 1) := by decide +kernel
theorem dX4_joined_187 : decode cX4_joined 187 = .ok (.iload_n 2, 1) := by decide +kernel
theorem dX4_joined_188 : decode cX4_joined 188 = .ok (.iand, 1) := by decide +kernel
theorem dX4_joined_189 : decode cX4_joined 189 = .ok (.ireturn, 1) := by decide +kernel
theorem dX4_joined_190 : decode cX4_joined 190 = .ok (.iload_n 1, 1) := by decide +kernel
theorem dX4_joined_191 : decode cX4_joined 191 = .ok (.iload_n 2, 1) := by decide +kernel
theorem dX4_joined_192 : decode cX4_joined 192 = .ok (.ior, 1) := by decide +kernel
theorem dX4_joined_193 : decode cX4_joined 193 = .ok (.ireturn, 1) := by decide +kernel
theorem dX4_joined_194 : decode cX4_joined 194 = .ok (.iconst 0, 1) := by decide +kernel
theorem dX4_joined_195 : decode cX4_joined 195 = .ok (.ireturn, 1) := by decide +kernel
theorem dX5_init_0 : decode cX5_init 0 = .ok (.aload_n 0, 1) := by decide +kernel
theorem dX5_init_1 : decode cX5_init 1 = .ok (.invokespecial 3, 3) := by decide +kernel
theorem dX5_init_4 : decode cX5_init 4 = .ok (.aload_n 0, 1) := by decide +kernel
theorem dX5_init_5 : decode cX5_init 5 = .ok (.new 9, 3) := by decide +kernel
theorem dX5_init_8 : decode cX5_init 8 = .ok (.dup, 1) := by decide +kernel
theorem dX5_init_9 : decode cX5_init 9 = .ok (.invokespecial 11, 3) := by decide +kernel
theorem dX5_init_12 : decode cX5_init 12 = .ok (.putfield 12, 3) := by decide +kernel
theorem dX5_init_15 : decode cX5_init 15 = .ok (.aload_n 0, 1) := by decide +kernel
theorem dX5_init_16 : decode cX5_init 16 = .ok (.aload_n 1, 1) := by decide +kernel
theorem dX5_init_17 : decode cX5_init 17 = .ok (.putfield 18, 3) := by decide +kernel
theorem dX5_init_20 : decode cX5_init 20 = .ok (.aload_n 0, 1) := by decide +kernel
theorem dX5_init_21 : decode cX5_init 21 = .ok (.aload_n 2, 1) := by decide +kernel
theorem dX5_init_22 : decode cX5_init 22 = .ok (.putfield 22, 3) := by decide +kernel
theorem dX5_init_25 : decode cX5_init 25 = .ok (.aload_n 0, 1) := by decide +kernel
theorem dX5_init_26 : decode cX5_init 26 = .ok (.iconst 0, 1) := by decide +kernel
theorem dX5_init_27 : decode cX5_init 27 = .ok (.putfield 26, 3) := by decide +kernel
theorem dX5_init_30 : decode cX5_init 30 = .ok (.aload_n 0, 1) := by decide +kernel
theorem dX5_init_31 : decode cX5_init 31 = .ok (.iconst 0, 1) := by decide +kernel
theorem dX5_init_32 : decode cX5_init 32 = .ok (.putfield 30, 3) := by decide +kernel
theorem dX5_init_35 : decode cX5_init 35 = .ok (.aload_n 0, 1) := by decide +kernel
theorem dX5_init_36 : decode cX5_init 36 = .ok (.iconst (-1), 1) := by decide +kernel
theorem dX5_init_37 : decode cX5_init 37 = .ok (.putfield 34, 3) := by decide +kernel
theorem dX5_init_40 : decode cX5_init 40 = .ok (.aload_n 0, 1) := by decide +kernel
theorem dX5_init_41 : decode cX5_init 41 = .ok (.iconst 0, 1) := by decide +kernel
theorem dX5_init_42 : decode cX5_init 42 = .ok (.putfield 37, 3) := by decide +kernel
theorem dX5_init_45 : decode cX5_init 45 = .ok (.aload_n 0, 1) := by decide +kernel
theorem dX5_init_46 : decode cX5_init 46 = .ok (.iconst (-1), 1) := by decide +kernel
theorem dX5_init_47 : decode cX5_init 47 = .ok (.putfield 40, 3) := by decide +kernel
theorem dX5_init_50 : decode cX5_init 50 = .ok (.return_, 1) := by decide +kernel
theorem dX5_read_0 : decode cX5_read 0 = .ok (.aload_n 0, 1) := by decide +kernel
theorem dX5_read_1 : decode cX5_read 1 = .ok (.aload_n 3, 1) := by decide +kernel
theorem dX5_read_2 : decode cX5_read 2 = .ok (.aload 4, 2) := by decide +kernel
theorem dX5_read_4 : decode cX5_read 4 = .ok (.invokevirtual 43, 3) := by decide +kernel
theorem dX5_read_7 : decode cX5_read 7 = .ok (.aload_n 0, 1) := by decide +kernel
theorem dX5_read_8 : decode cX5_read 8 = .ok (.getfield 12, 3) := by decide +kernel
theorem dX5_read_11 : decode cX5_read 11 = .ok (.aload_n 1, 1) := by decide +kernel
theorem dX5_read_12 : decode cX5_read 12 = .ok (.iload_n 2, 1) := by decide +kernel
theorem dX5_read_13 : decode cX5_read 13 = .ok (.invokevirtual 47, 3) := by decide +kernel
theorem dX5_read_16 : decode cX5_read 16 = .ok (.iconst 0, 1) := by decide +kernel
theorem dX5_read_17 : decode cX5_read 17 = .ok (.istore 5, 2) := by decide +kernel
theorem dX5_read_19 : decode cX5_read 19 = .ok (.iload 5, 2) := by decide +kernel
theorem dX5_read_21 : decode cX5_read 21 = .ok (.sipush 400, 3) := by decide +kernel
theorem dX5_read_24 : decode cX5_read 24 = .ok (.if_icmp .gt 116, 3) := by decide +kernel
theorem dX5_read_27 : decode cX5_read 27 = .ok (.aload_n 0, 1) := by decide +kernel
theorem dX5_read_28 : decode cX5_read 28 = .ok (.getfield 30, 3) := by decide +kernel
theorem dX5_read_31 : decode cX5_read 31 = .ok (.ifCond .ne 109, 3) := by decide +kernel
theorem dX5_read_34 : decode cX5_read 34 = .ok (.aload_n 0, 1) := by decide +kernel
theorem dX5_read_35 : decode cX5_read 35 = .ok (.invokevirtual 51, 3) := by decide +kernel
theorem dX5_read_38 : decode cX5_read 38 = .ok (.getstatic 55, 3) := by decide +kernel
theorem dX5_read_41 : decode cX5_read 41 = .ok (.if_acmp .eq 99, 3) := by decide +kernel
theorem dX5_read_44 : decode cX5_read 44 = .ok (.getstatic 61, 3) := by decide +kernel
theorem dX5_read_47 : decode cX5_read 47 = .ok (.aload_n 0, 1) := by decide +kernel
theorem dX5_read_48 : decode cX5_read 48 = .ok (.invokevirtual 51, 3) := by decide +kernel
theorem dX5_read_51 : decode cX5_read 51 = .ok (.invokevirtual 67, 3) := by decide +kernel
theorem dX5_read_54 : decode cX5_read 54 = .ok (.iaload, 1) := by decide +kernel
theorem dX5_read_55 : decode cX5_read 55 = .ok (.tableswitch 68 1 5 #[33, 40, 47, 54, 61], 33) := by decide +kernel
theorem dX5_read_88 : decode cX5_read 88 = .ok (.aload_n 0, 1) := by decide +kernel
theorem dX5_read_89 : decode cX5_read 89 = .ok (.invokevirtual 71, 3) := by decide +kernel
theorem dX5_read_92 : decode cX5_read 92 = .ok (.goto 35, 3) := by decide +kernel
theorem dX5_read_95 : decode cX5_read 95 = .ok (.aload_n 0, 1) := by decide +kernel
theorem dX5_read_96 : decode cX5_read 96 = .ok (.invokevirtual 74, 3) := by decide +kernel
theorem dX5_read_99 : decode cX5_read 99 = .ok (.goto 28, 3) := by decide +kernel
theorem dX5_read_102 : decode cX5_read 102 = .ok (.aload_n 0, 1) := by decide +kernel
theorem dX5_read_103 : decode cX5_read 103 = .ok (.invokevirtual 77, 3) := by decide +kernel
theorem dX5_read_106 : decode cX5_read 106 = .ok (.goto 21, 3) := by decide +kernel
theorem dX5_read_109 : decode cX5_read 109 = .ok (.aload_n 0, 1) := by decide +kernel
theorem dX5_read_110 : decode cX5_read 110 = .ok (.invokevirtual 80, 3) := by decide +kernel
theorem dX5_read_113 : decode cX5_read 113 = .ok (.goto 14, 3) := by decide +kernel
theorem dX5_read_116 : decode cX5_read 116 = .ok (.aload_n 0, 1) := by decide +kernel
theorem dX5_read_117 : decode cX5_read 117 = .ok (.invokevirtual 83, 3) := by decide +kernel
theorem dX5_read_120 : decode cX5_read 120 = .ok (.goto 7, 3) := by decide +kernel
theorem dX5_read_123 : decode cX5_read 123 = .ok (.aload_n 0, 1) := by decide +kernel
theorem dX5_read_124 : decode cX5_read 124 = .ok (.invokevirtual 86, 3) := by decide +kernel
theorem dX5_read_127 : decode cX5_read 127 = .ok (.aload_n 0, 1) := by decide +kernel
theorem dX5_read_128 : decode cX5_read 128 = .ok (.getstatic 89, 3) := by decide +kernel
theorem dX5_read_131 : decode cX5_read 131 = .ok (.invokevirtual 92, 3) := by decide +kernel
theorem dX5_read_134 : decode cX5_read 134 = .ok (.iinc 5 1, 3) := by decide +kernel
theorem dX5_read_137 : decode cX5_read 137 = .ok (.goto (-118), 3) := by decide +kernel
theorem dX5_read_140 : decode cX5_read 140 = .ok (.aload_n 0, 1) := by decide +kernel
theorem dX5_read_141 : decode cX5_read 141 = .ok (.getfield 30, 3) := by decide +kernel
theorem dX5_read_144 : decode cX5_read 144 = .ok (.ifCond .eq 7, 3) := by decide +kernel
theorem dX5_read_147 : decode cX5_read 147 = .ok (.iconst 1, 1) := by decide +kernel
theorem dX5_read_148 : decode cX5_read 148 = .ok (.goto 7, 3) := by decide +kernel
theorem dX5_read_151 : decode cX5_read 151 = .ok (.aload_n 0, 1) := by decide +kernel
theorem dX5_read_152 : decode cX5_read 152 = .ok (.getfield 37, 3) := by decide +kernel
theorem dX5_read_155 : decode cX5_read 155 = .ok (.ireturn, 1) := by decide +kernel
theorem dX5_begin_0 : decode cX5_begin 0 = .ok (.aload_n 0, 1) := by decide +kernel
theorem dX5_begin_1 : decode cX5_begin 1 = .ok (.aload_n 1, 1) := by decide +kernel
theorem dX5_begin_2 : decode cX5_begin 2 = .ok (.putfield 18, 3) := by decide +kernel
theorem dX5_begin_5 : decode cX5_begin 5 = .ok (.aload_n 0, 1) := by decide +kernel
theorem dX5_begin_6 : decode cX5_begin 6 = .ok (.aload_n 2, 1) := by decide +kernel
theorem dX5_begin_7 : decode cX5_begin 7 = .ok (.putfield 22, 3) := by decide +kernel
theorem dX5_begin_10 : decode cX5_begin 10 = .ok (.aload_n 0, 1) := by decide +kernel
theorem dX5_begin_11 : decode cX5_begin 11 = .ok (.getfield 18, 3) := by decide +kernel
theorem dX5_begin_14 : decode cX5_begin 14 = .ok (.invokevirtual 96, 3) := by decide +kernel
theorem dX5_begin_17 : decode cX5_begin 17 = .ok (.aload_n 0, 1) := by decide +kernel
theorem dX5_begin_18 : decode cX5_begin 18 = .ok (.getfield 22, 3) := by decide +kernel
theorem dX5_begin_21 : decode cX5_begin 21 = .ok (.invokevirtual 101, 3) := by decide +kernel
theorem dX5_begin_24 : decode cX5_begin 24 = .ok (.aload_n 0, 1) := by decide +kernel
theorem dX5_begin_25 : decode cX5_begin 25 = .ok (.iconst 0, 1) := by decide +kernel
theorem dX5_begin_26 : decode cX5_begin 26 = .ok (.putfield 26, 3) := by decide +kernel
theorem dX5_begin_29 : decode cX5_begin 29 = .ok (.aload_n 0, 1) := by decide +kernel
theorem dX5_begin_30 : decode cX5_begin 30 = .ok (.iconst 0, 1) := by decide +kernel
theorem dX5_begin_31 : decode cX5_begin 31 = .ok (.putfield 30, 3) := by decide +kernel
theorem dX5_begin_34 : decode cX5_begin 34 = .ok (.aload_n 0, 1) := by decide +kernel
theorem dX5_begin_35 : decode cX5_begin 35 = .ok (.iconst (-1), 1) := by decide +kernel
theorem dX5_begin_36 : decode cX5_begin 36 = .ok (.putfield 34, 3) := by decide +kernel
theorem dX5_begin_39 : decode cX5_begin 39 = .ok (.aload_n 0, 1) := by decide +kernel
theorem dX5_begin_40 : decode cX5_begin 40 = .ok (.iconst 0, 1) := by decide +kernel
theorem dX5_begin_41 : decode cX5_begin 41 = .ok (.putfield 37, 3) := by decide +kernel
theorem dX5_begin_44 : decode cX5_begin 44 = .ok (.aload_n 0, 1) := by decide +kernel
theorem dX5_begin_45 : decode cX5_begin 45 = .ok (.iconst (-1), 1) := by decide +kernel
theorem dX5_begin_46 : decode cX5_begin 46 = .ok (.putfield 40, 3) := by decide +kernel
theorem dX5_begin_49 : decode cX5_begin 49 = .ok (.return_, 1) := by decide +kernel
theorem dX5_errorPlace_0 : decode cX5_errorPlace 0 = .ok (.aload_n 0, 1) := by decide +kernel
theorem dX5_errorPlace_1 : decode cX5_errorPlace 1 = .ok (.getfield 30, 3) := by decide +kernel
theorem dX5_errorPlace_4 : decode cX5_errorPlace 4 = .ok (.ifCond .eq 10, 3) := by decide +kernel
theorem dX5_errorPlace_7 : decode cX5_errorPlace 7 = .ok (.aload_n 0, 1) := by decide +kernel
theorem dX5_errorPlace_8 : decode cX5_errorPlace 8 = .ok (.getfield 34, 3) := by decide +kernel
theorem dX5_errorPlace_11 : decode cX5_errorPlace 11 = .ok (.goto 7, 3) := by decide +kernel
theorem dX5_errorPlace_14 : decode cX5_errorPlace 14 = .ok (.aload_n 0, 1) := by decide +kernel
theorem dX5_errorPlace_15 : decode cX5_errorPlace 15 = .ok (.getfield 40, 3) := by decide +kernel
theorem dX5_errorPlace_18 : decode cX5_errorPlace 18 = .ok (.ireturn, 1) := by decide +kernel
theorem dX5_readStretch_0 : decode cX5_readStretch 0 = .ok (.aload_n 0, 1) := by decide +kernel
theorem dX5_readStretch_1 : decode cX5_readStretch 1 = .ok (.invokevirtual 104, 3) := by decide +kernel
theorem dX5_readStretch_4 : decode cX5_readStretch 4 = .ok (.aload_n 0, 1) := by decide +kernel
theorem dX5_readStretch_5 : decode cX5_readStretch 5 = .ok (.aload_n 0, 1) := by decide +kernel
theorem dX5_readStretch_6 : decode cX5_readStretch 6 = .ok (.getfield 18, 3) := by decide +kernel
theorem dX5_readStretch_9 : decode cX5_readStretch 9 = .ok (.aload_n 0, 1) := by decide +kernel
theorem dX5_readStretch_10 : decode cX5_readStretch 10 = .ok (.invokevirtual 107, 3) := by decide +kernel
theorem dX5_readStretch_13 : decode cX5_readStretch 13 = .ok (.invokevirtual 111, 3) := by decide +kernel
theorem dX5_readStretch_16 : decode cX5_readStretch 16 = .ok (.ifCond .lt 7, 3) := by decide +kernel
theorem dX5_readStretch_19 : decode cX5_readStretch 19 = .ok (.iconst 1, 1) := by decide +kernel
theorem dX5_readStretch_20 : decode cX5_readStretch 20 = .ok (.goto 4, 3) := by decide +kernel
theorem dX5_readStretch_23 : decode cX5_readStretch 23 = .ok (.iconst 0, 1) := by decide +kernel
theorem dX5_readStretch_24 : decode cX5_readStretch 24 = .ok (.aload_n 0, 1) := by decide +kernel
theorem dX5_readStretch_25 : decode cX5_readStretch 25 = .ok (.getfield 18, 3) := by decide +kernel
theorem dX5_readStretch_28 : decode cX5_readStretch 28 = .ok (.getfield 115, 3) := by decide +kernel
theorem dX5_readStretch_31 : decode cX5_readStretch 31 = .ok (.bipush 8, 2) := by decide +kernel
theorem dX5_readStretch_33 : decode cX5_readStretch 33 = .ok (.if_icmp .lt 7, 3) := by decide +kernel
theorem dX5_readStretch_36 : decode cX5_readStretch 36 = .ok (.iconst 1, 1) := by decide +kernel
theorem dX5_readStretch_37 : decode cX5_readStretch 37 = .ok (.goto 4, 3) := by decide +kernel
theorem dX5_readStretch_40 : decode cX5_readStretch 40 = .ok (.iconst 0, 1) := by decide +kernel
theorem dX5_readStretch_41 : decode cX5_readStretch 41 = .ok (.invokevirtual 118, 3) := by decide +kernel
theorem dX5_readStretch_44 : decode cX5_readStretch 44 = .ok (.aload_n 0, 1) := by decide +kernel
theorem dX5_readStretch_45 : decode cX5_readStretch 45 = .ok (.invokevirtual 122, 3) := by decide +kernel
theorem dX5_readStretch_48 : decode cX5_readStretch 48 = .ok (.lstore_n 1, 1) := by decide +kernel
theorem dX5_readStretch_49 : decode cX5_readStretch 49 = .ok (.aload_n 0, 1) := by decide +kernel
theorem dX5_readStretch_50 : decode cX5_readStretch 50 = .ok (.getstatic 125, 3) := by decide +kernel
theorem dX5_readStretch_53 : decode cX5_readStretch 53 = .ok (.invokevirtual 92, 3) := by decide +kernel
theorem dX5_readStretch_56 : decode cX5_readStretch 56 = .ok (.aload_n 0, 1) := by decide +kernel
theorem dX5_readStretch_57 : decode cX5_readStretch 57 = .ok (.iconst 1, 1) := by decide +kernel
theorem dX5_readStretch_58 : decode cX5_readStretch 58 = .ok (.bipush 9, 2) := by decide +kernel
theorem dX5_readStretch_60 : decode cX5_readStretch 60 = .ok (.invokevirtual 128, 3) := by decide +kernel
theorem dX5_readStretch_63 : decode cX5_readStretch 63 = .ok (.istore_n 3, 1) := by decide +kernel
theorem dX5_readStretch_64 : decode cX5_readStretch 64 = .ok (.aload_n 0, 1) := by decide +kernel
theorem dX5_readStretch_65 : decode cX5_readStretch 65 = .ok (.getstatic 132, 3) := by decide +kernel
theorem dX5_readStretch_68 : decode cX5_readStretch 68 = .ok (.invokevirtual 92, 3) := by decide +kernel
theorem dX5_readStretch_71 : decode cX5_readStretch 71 = .ok (.aload_n 0, 1) := by decide +kernel
theorem dX5_readStretch_72 : decode cX5_readStretch 72 = .ok (.getstatic 135, 3) := by decide +kernel
theorem dX5_readStretch_75 : decode cX5_readStretch 75 = .ok (.invokevirtual 138, 3) := by decide +kernel
theorem dX5_readStretch_78 : decode cX5_readStretch 78 = .ok (.istore 4, 2) := by decide +kernel
theorem dX5_readStretch_80 : decode cX5_readStretch 80 = .ok (.aload_n 0, 1) := by decide +kernel
theorem dX5_readStretch_81 : decode cX5_readStretch 81 = .ok (.iconst 0, 1) := by decide +kernel
theorem dX5_readStretch_82 : decode cX5_readStretch 82 = .ok (.bipush 9, 2) := by decide +kernel
theorem dX5_readStretch_84 : decode cX5_readStretch 84 = .ok (.invokevirtual 128, 3) := by decide +kernel
theorem dX5_readStretch_87 : decode cX5_readStretch 87 = .ok (.istore 5, 2) := by decide +kernel
theorem dX5_readStretch_89 : decode cX5_readStretch 89 = .ok (.aload_n 0, 1) := by decide +kernel
theorem dX5_readStretch_90 : decode cX5_readStretch 90 = .ok (.getstatic 142, 3) := by decide +kernel
theorem dX5_readStretch_93 : decode cX5_readStretch 93 = .ok (.invokevirtual 92, 3) := by decide +kernel
theorem dX5_readStretch_96 : decode cX5_readStretch 96 = .ok (.aload_n 0, 1) := by decide +kernel
theorem dX5_readStretch_97 : decode cX5_readStretch 97 = .ok (.iconst 0, 1) := by decide +kernel
theorem dX5_readStretch_98 : decode cX5_readStretch 98 = .ok (.bipush 9, 2) := by decide +kernel
theorem dX5_readStretch_100 : decode cX5_readStretch 100 = .ok (.invokevirtual 128, 3) := by decide +kernel
theorem dX5_readStretch_103 : decode cX5_readStretch 103 = .ok (.istore 6, 2) := by decide +kernel
theorem dX5_readStretch_105 : decode cX5_readStretch 105 = .ok (.aload_n 0, 1) := by decide +kernel
theorem dX5_readStretch_106 : decode cX5_readStretch 106 = .ok (.getfield 18, 3) := by decide +kernel
theorem dX5_readStretch_109 : decode cX5_readStretch 109 = .ok (.lload_n 1, 1) := by decide +kernel
theorem dX5_readStretch_110 : decode cX5_readStretch 110 = .ok (.iload_n 3, 1) := by decide +kernel
theorem dX5_readStretch_111 : decode cX5_readStretch 111 = .ok (.iload 4, 2) := by decide +kernel
theorem dX5_readStretch_113 : decode cX5_readStretch 113 = .ok (.ifCond .eq 9, 3) := by decide +kernel
theorem dX5_readStretch_116 : decode cX5_readStretch 116 = .ok (.iload 5, 2) := by decide +kernel
theorem dX5_readStretch_118 : decode cX5_readStretch 118 = .ok (.ineg, 1) := by decide +kernel
theorem dX5_readStretch_119 : decode cX5_readStretch 119 = .ok (.goto 5, 3) := by decide +kernel
theorem dX5_readStretch_122 : decode cX5_readStretch 122 = .ok (.iload 5, 2) := by decide +kernel
theorem dX5_readStretch_124 : decode cX5_readStretch 124 = .ok (.iload 6, 2) := by decide +kernel
theorem dX5_readStretch_126 : decode cX5_readStretch 126 = .ok (.invokevirtual 145, 3) := by decide +kernel
theorem dX5_readStretch_129 : decode cX5_readStretch 129 = .ok (.return_, 1) := by decide +kernel
theorem dX5_readHorse_0 : decode cX5_readHorse 0 = .ok (.aload_n 0, 1) := by decide +kernel
theorem dX5_readHorse_1 : decode cX5_readHorse 1 = .ok (.invokevirtual 104, 3) := by decide +kernel
theorem dX5_readHorse_4 : decode cX5_readHorse 4 = .ok (.aload_n 0, 1) := by decide +kernel
theorem dX5_readHorse_5 : decode cX5_readHorse 5 = .ok (.aload_n 0, 1) := by decide +kernel
theorem dX5_readHorse_6 : decode cX5_readHorse 6 = .ok (.getfield 18, 3) := by decide +kernel
theorem dX5_readHorse_9 : decode cX5_readHorse 9 = .ok (.aload_n 0, 1) := by decide +kernel
theorem dX5_readHorse_10 : decode cX5_readHorse 10 = .ok (.invokevirtual 107, 3) := by decide +kernel
theorem dX5_readHorse_13 : decode cX5_readHorse 13 = .ok (.invokevirtual 149, 3) := by decide +kernel
theorem dX5_readHorse_16 : decode cX5_readHorse 16 = .ok (.ifCond .lt 7, 3) := by decide +kernel
theorem dX5_readHorse_19 : decode cX5_readHorse 19 = .ok (.iconst 1, 1) := by decide +kernel
theorem dX5_readHorse_20 : decode cX5_readHorse 20 = .ok (.goto 4, 3) := by decide +kernel
theorem dX5_readHorse_23 : decode cX5_readHorse 23 = .ok (.iconst 0, 1) := by decide +kernel
theorem dX5_readHorse_24 : decode cX5_readHorse 24 = .ok (.aload_n 0, 1) := by decide +kernel
theorem dX5_readHorse_25 : decode cX5_readHorse 25 = .ok (.getfield 18, 3) := by decide +kernel
theorem dX5_readHorse_28 : decode cX5_readHorse 28 = .ok (.getfield 152, 3) := by decide +kernel
theorem dX5_readHorse_31 : decode cX5_readHorse 31 = .ok (.bipush 6, 2) := by decide +kernel
theorem dX5_readHorse_33 : decode cX5_readHorse 33 = .ok (.if_icmp .lt 7, 3) := by decide +kernel
theorem dX5_readHorse_36 : decode cX5_readHorse 36 = .ok (.iconst 1, 1) := by decide +kernel
theorem dX5_readHorse_37 : decode cX5_readHorse 37 = .ok (.goto 4, 3) := by decide +kernel
theorem dX5_readHorse_40 : decode cX5_readHorse 40 = .ok (.iconst 0, 1) := by decide +kernel
theorem dX5_readHorse_41 : decode cX5_readHorse 41 = .ok (.invokevirtual 118, 3) := by decide +kernel
theorem dX5_readHorse_44 : decode cX5_readHorse 44 = .ok (.aload_n 0, 1) := by decide +kernel
theorem dX5_readHorse_45 : decode cX5_readHorse 45 = .ok (.invokevirtual 122, 3) := by decide +kernel
theorem dX5_readHorse_48 : decode cX5_readHorse 48 = .ok (.lstore_n 1, 1) := by decide +kernel
theorem dX5_readHorse_49 : decode cX5_readHorse 49 = .ok (.aload_n 0, 1) := by decide +kernel
theorem dX5_readHorse_50 : decode cX5_readHorse 50 = .ok (.getstatic 155, 3) := by decide +kernel
theorem dX5_readHorse_53 : decode cX5_readHorse 53 = .ok (.invokevirtual 92, 3) := by decide +kernel
theorem dX5_readHorse_56 : decode cX5_readHorse 56 = .ok (.aload_n 0, 1) := by decide +kernel
theorem dX5_readHorse_57 : decode cX5_readHorse 57 = .ok (.iconst 1, 1) := by decide +kernel
theorem dX5_readHorse_58 : decode cX5_readHorse 58 = .ok (.bipush 99, 2) := by decide +kernel
theorem dX5_readHorse_60 : decode cX5_readHorse 60 = .ok (.invokevirtual 128, 3) := by decide +kernel
theorem dX5_readHorse_63 : decode cX5_readHorse 63 = .ok (.istore_n 3, 1) := by decide +kernel
theorem dX5_readHorse_64 : decode cX5_readHorse 64 = .ok (.aload_n 0, 1) := by decide +kernel
theorem dX5_readHorse_65 : decode cX5_readHorse 65 = .ok (.getstatic 158, 3) := by decide +kernel
theorem dX5_readHorse_68 : decode cX5_readHorse 68 = .ok (.invokevirtual 92, 3) := by decide +kernel
theorem dX5_readHorse_71 : decode cX5_readHorse 71 = .ok (.aload_n 0, 1) := by decide +kernel
theorem dX5_readHorse_72 : decode cX5_readHorse 72 = .ok (.iconst 1, 1) := by decide +kernel
theorem dX5_readHorse_73 : decode cX5_readHorse 73 = .ok (.bipush 9, 2) := by decide +kernel
theorem dX5_readHorse_75 : decode cX5_readHorse 75 = .ok (.invokevirtual 128, 3) := by decide +kernel
theorem dX5_readHorse_78 : decode cX5_readHorse 78 = .ok (.istore 4, 2) := by decide +kernel
theorem dX5_readHorse_80 : decode cX5_readHorse 80 = .ok (.aload_n 0, 1) := by decide +kernel
theorem dX5_readHorse_81 : decode cX5_readHorse 81 = .ok (.getstatic 161, 3) := by decide +kernel
theorem dX5_readHorse_84 : decode cX5_readHorse 84 = .ok (.invokevirtual 92, 3) := by decide +kernel
theorem dX5_readHorse_87 : decode cX5_readHorse 87 = .ok (.aload_n 0, 1) := by decide +kernel
theorem dX5_readHorse_88 : decode cX5_readHorse 88 = .ok (.iconst 1, 1) := by decide +kernel
theorem dX5_readHorse_89 : decode cX5_readHorse 89 = .ok (.bipush 99, 2) := by decide +kernel
theorem dX5_readHorse_91 : decode cX5_readHorse 91 = .ok (.invokevirtual 128, 3) := by decide +kernel
theorem dX5_readHorse_94 : decode cX5_readHorse 94 = .ok (.istore 5, 2) := by decide +kernel
theorem dX5_readHorse_96 : decode cX5_readHorse 96 = .ok (.aload_n 0, 1) := by decide +kernel
theorem dX5_readHorse_97 : decode cX5_readHorse 97 = .ok (.getstatic 164, 3) := by decide +kernel
theorem dX5_readHorse_100 : decode cX5_readHorse 100 = .ok (.invokevirtual 138, 3) := by decide +kernel
theorem dX5_readHorse_103 : decode cX5_readHorse 103 = .ok (.istore 6, 2) := by decide +kernel
theorem dX5_readHorse_105 : decode cX5_readHorse 105 = .ok (.aload_n 0, 1) := by decide +kernel
theorem dX5_readHorse_106 : decode cX5_readHorse 106 = .ok (.getfield 18, 3) := by decide +kernel
theorem dX5_readHorse_109 : decode cX5_readHorse 109 = .ok (.lload_n 1, 1) := by decide +kernel
theorem dX5_readHorse_110 : decode cX5_readHorse 110 = .ok (.iload_n 3, 1) := by decide +kernel
theorem dX5_readHorse_111 : decode cX5_readHorse 111 = .ok (.iload 4, 2) := by decide +kernel
theorem dX5_readHorse_113 : decode cX5_readHorse 113 = .ok (.iload 5, 2) := by decide +kernel
theorem dX5_readHorse_115 : decode cX5_readHorse 115 = .ok (.iload 6, 2) := by decide +kernel
theorem dX5_readHorse_117 : decode cX5_readHorse 117 = .ok (.invokevirtual 167, 3) := by decide +kernel
theorem dX5_readHorse_120 : decode cX5_readHorse 120 = .ok (.return_, 1) := by decide +kernel
theorem dX5_readLog_0 : decode cX5_readLog 0 = .ok (.aload_n 0, 1) := by decide +kernel
theorem dX5_readLog_1 : decode cX5_readLog 1 = .ok (.invokevirtual 104, 3) := by decide +kernel
theorem dX5_readLog_4 : decode cX5_readLog 4 = .ok (.aload_n 0, 1) := by decide +kernel
theorem dX5_readLog_5 : decode cX5_readLog 5 = .ok (.aload_n 0, 1) := by decide +kernel
theorem dX5_readLog_6 : decode cX5_readLog 6 = .ok (.getfield 18, 3) := by decide +kernel
theorem dX5_readLog_9 : decode cX5_readLog 9 = .ok (.aload_n 0, 1) := by decide +kernel
theorem dX5_readLog_10 : decode cX5_readLog 10 = .ok (.invokevirtual 107, 3) := by decide +kernel
theorem dX5_readLog_13 : decode cX5_readLog 13 = .ok (.invokevirtual 171, 3) := by decide +kernel
theorem dX5_readLog_16 : decode cX5_readLog 16 = .ok (.ifCond .lt 7, 3) := by decide +kernel
theorem dX5_readLog_19 : decode cX5_readLog 19 = .ok (.iconst 1, 1) := by decide +kernel
theorem dX5_readLog_20 : decode cX5_readLog 20 = .ok (.goto 4, 3) := by decide +kernel
theorem dX5_readLog_23 : decode cX5_readLog 23 = .ok (.iconst 0, 1) := by decide +kernel
theorem dX5_readLog_24 : decode cX5_readLog 24 = .ok (.aload_n 0, 1) := by decide +kernel
theorem dX5_readLog_25 : decode cX5_readLog 25 = .ok (.getfield 18, 3) := by decide +kernel
theorem dX5_readLog_28 : decode cX5_readLog 28 = .ok (.getfield 174, 3) := by decide +kernel
theorem dX5_readLog_31 : decode cX5_readLog 31 = .ok (.bipush 20, 2) := by decide +kernel
theorem dX5_readLog_33 : decode cX5_readLog 33 = .ok (.if_icmp .lt 7, 3) := by decide +kernel
theorem dX5_readLog_36 : decode cX5_readLog 36 = .ok (.iconst 1, 1) := by decide +kernel
theorem dX5_readLog_37 : decode cX5_readLog 37 = .ok (.goto 4, 3) := by decide +kernel
theorem dX5_readLog_40 : decode cX5_readLog 40 = .ok (.iconst 0, 1) := by decide +kernel
theorem dX5_readLog_41 : decode cX5_readLog 41 = .ok (.invokevirtual 118, 3) := by decide +kernel
theorem dX5_readLog_44 : decode cX5_readLog 44 = .ok (.aload_n 0, 1) := by decide +kernel
theorem dX5_readLog_45 : decode cX5_readLog 45 = .ok (.invokevirtual 122, 3) := by decide +kernel
theorem dX5_readLog_48 : decode cX5_readLog 48 = .ok (.lstore_n 1, 1) := by decide +kernel
theorem dX5_readLog_49 : decode cX5_readLog 49 = .ok (.aload_n 0, 1) := by decide +kernel
theorem dX5_readLog_50 : decode cX5_readLog 50 = .ok (.getstatic 177, 3) := by decide +kernel
theorem dX5_readLog_53 : decode cX5_readLog 53 = .ok (.invokevirtual 92, 3) := by decide +kernel
theorem dX5_readLog_56 : decode cX5_readLog 56 = .ok (.aload_n 0, 1) := by decide +kernel
theorem dX5_readLog_57 : decode cX5_readLog 57 = .ok (.getfield 18, 3) := by decide +kernel
theorem dX5_readLog_60 : decode cX5_readLog 60 = .ok (.lload_n 1, 1) := by decide +kernel
theorem dX5_readLog_61 : decode cX5_readLog 61 = .ok (.aload_n 0, 1) := by decide +kernel
theorem dX5_readLog_62 : decode cX5_readLog 62 = .ok (.iconst 1, 1) := by decide +kernel
theorem dX5_readLog_63 : decode cX5_readLog 63 = .ok (.bipush 60, 2) := by decide +kernel
theorem dX5_readLog_65 : decode cX5_readLog 65 = .ok (.invokevirtual 128, 3) := by decide +kernel
theorem dX5_readLog_68 : decode cX5_readLog 68 = .ok (.invokevirtual 180, 3) := by decide +kernel
theorem dX5_readLog_71 : decode cX5_readLog 71 = .ok (.return_, 1) := by decide +kernel
theorem dX5_readHaul_0 : decode cX5_readHaul 0 = .ok (.aload_n 0, 1) := by decide +kernel
theorem dX5_readHaul_1 : decode cX5_readHaul 1 = .ok (.iconst 0, 1) := by decide +kernel
theorem dX5_readHaul_2 : decode cX5_readHaul 2 = .ok (.aload_n 0, 1) := by decide +kernel
theorem dX5_readHaul_3 : decode cX5_readHaul 3 = .ok (.getfield 22, 3) := by decide +kernel
theorem dX5_readHaul_6 : decode cX5_readHaul 6 = .ok (.getfield 184, 3) := by decide +kernel
theorem dX5_readHaul_9 : decode cX5_readHaul 9 = .ok (.bipush 12, 2) := by decide +kernel
theorem dX5_readHaul_11 : decode cX5_readHaul 11 = .ok (.if_icmp .lt 7, 3) := by decide +kernel
theorem dX5_readHaul_14 : decode cX5_readHaul 14 = .ok (.iconst 1, 1) := by decide +kernel
theorem dX5_readHaul_15 : decode cX5_readHaul 15 = .ok (.goto 4, 3) := by decide +kernel
theorem dX5_readHaul_18 : decode cX5_readHaul 18 = .ok (.iconst 0, 1) := by decide +kernel
theorem dX5_readHaul_19 : decode cX5_readHaul 19 = .ok (.invokevirtual 118, 3) := by decide +kernel
theorem dX5_readHaul_22 : decode cX5_readHaul 22 = .ok (.aload_n 0, 1) := by decide +kernel
theorem dX5_readHaul_23 : decode cX5_readHaul 23 = .ok (.invokevirtual 104, 3) := by decide +kernel
theorem dX5_readHaul_26 : decode cX5_readHaul 26 = .ok (.aload_n 0, 1) := by decide +kernel
theorem dX5_readHaul_27 : decode cX5_readHaul 27 = .ok (.invokevirtual 187, 3) := by decide +kernel
theorem dX5_readHaul_30 : decode cX5_readHaul 30 = .ok (.istore_n 1, 1) := by decide +kernel
theorem dX5_readHaul_31 : decode cX5_readHaul 31 = .ok (.aload_n 0, 1) := by decide +kernel
theorem dX5_readHaul_32 : decode cX5_readHaul 32 = .ok (.getstatic 190, 3) := by decide +kernel
theorem dX5_readHaul_35 : decode cX5_readHaul 35 = .ok (.invokevirtual 92, 3) := by decide +kernel
theorem dX5_readHaul_38 : decode cX5_readHaul 38 = .ok (.aload_n 0, 1) := by decide +kernel
theorem dX5_readHaul_39 : decode cX5_readHaul 39 = .ok (.getfield 22, 3) := by decide +kernel
theorem dX5_readHaul_42 : decode cX5_readHaul 42 = .ok (.getfield 193, 3) := by decide +kernel
theorem dX5_readHaul_45 : decode cX5_readHaul 45 = .ok (.istore_n 2, 1) := by decide +kernel
theorem dX5_readHaul_46 : decode cX5_readHaul 46 = .ok (.aload_n 0, 1) := by decide +kernel
theorem dX5_readHaul_47 : decode cX5_readHaul 47 = .ok (.iconst 0, 1) := by decide +kernel
theorem dX5_readHaul_48 : decode cX5_readHaul 48 = .ok (.invokevirtual 196, 3) := by decide +kernel
theorem dX5_readHaul_51 : decode cX5_readHaul 51 = .ok (.aload_n 0, 1) := by decide +kernel
theorem dX5_readHaul_52 : decode cX5_readHaul 52 = .ok (.getfield 22, 3) := by decide +kernel
theorem dX5_readHaul_55 : decode cX5_readHaul 55 = .ok (.getfield 193, 3) := by decide +kernel
theorem dX5_readHaul_58 : decode cX5_readHaul 58 = .ok (.istore_n 3, 1) := by decide +kernel
theorem dX5_readHaul_59 : decode cX5_readHaul 59 = .ok (.aload_n 0, 1) := by decide +kernel
theorem dX5_readHaul_60 : decode cX5_readHaul 60 = .ok (.getstatic 200, 3) := by decide +kernel
theorem dX5_readHaul_63 : decode cX5_readHaul 63 = .ok (.invokevirtual 138, 3) := by decide +kernel
theorem dX5_readHaul_66 : decode cX5_readHaul 66 = .ok (.ifCond .eq 8, 3) := by decide +kernel
theorem dX5_readHaul_69 : decode cX5_readHaul 69 = .ok (.aload_n 0, 1) := by decide +kernel
theorem dX5_readHaul_70 : decode cX5_readHaul 70 = .ok (.iconst 0, 1) := by decide +kernel
theorem dX5_readHaul_71 : decode cX5_readHaul 71 = .ok (.invokevirtual 203, 3) := by decide +kernel
theorem dX5_readHaul_74 : decode cX5_readHaul 74 = .ok (.aload_n 0, 1) := by decide +kernel
theorem dX5_readHaul_75 : decode cX5_readHaul 75 = .ok (.getfield 22, 3) := by decide +kernel
theorem dX5_readHaul_78 : decode cX5_readHaul 78 = .ok (.iload_n 1, 1) := by decide +kernel
theorem dX5_readHaul_79 : decode cX5_readHaul 79 = .ok (.iload_n 2, 1) := by decide +kernel
theorem dX5_readHaul_80 : decode cX5_readHaul 80 = .ok (.iload_n 3, 1) := by decide +kernel
theorem dX5_readHaul_81 : decode cX5_readHaul 81 = .ok (.invokevirtual 206, 3) := by decide +kernel
theorem dX5_readHaul_84 : decode cX5_readHaul 84 = .ok (.return_, 1) := by decide +kernel
theorem dX5_readWait_0 : decode cX5_readWait 0 = .ok (.aload_n 0, 1) := by decide +kernel
theorem dX5_readWait_1 : decode cX5_readWait 1 = .ok (.iconst 0, 1) := by decide +kernel
theorem dX5_readWait_2 : decode cX5_readWait 2 = .ok (.aload_n 0, 1) := by decide +kernel
theorem dX5_readWait_3 : decode cX5_readWait 3 = .ok (.getfield 22, 3) := by decide +kernel
theorem dX5_readWait_6 : decode cX5_readWait 6 = .ok (.getfield 210, 3) := by decide +kernel
theorem dX5_readWait_9 : decode cX5_readWait 9 = .ok (.bipush 12, 2) := by decide +kernel
theorem dX5_readWait_11 : decode cX5_readWait 11 = .ok (.if_icmp .lt 7, 3) := by decide +kernel
theorem dX5_readWait_14 : decode cX5_readWait 14 = .ok (.iconst 1, 1) := by decide +kernel
theorem dX5_readWait_15 : decode cX5_readWait 15 = .ok (.goto 4, 3) := by decide +kernel
theorem dX5_readWait_18 : decode cX5_readWait 18 = .ok (.iconst 0, 1) := by decide +kernel
theorem dX5_readWait_19 : decode cX5_readWait 19 = .ok (.invokevirtual 118, 3) := by decide +kernel
theorem dX5_readWait_22 : decode cX5_readWait 22 = .ok (.aload_n 0, 1) := by decide +kernel
theorem dX5_readWait_23 : decode cX5_readWait 23 = .ok (.invokevirtual 104, 3) := by decide +kernel
theorem dX5_readWait_26 : decode cX5_readWait 26 = .ok (.aload_n 0, 1) := by decide +kernel
theorem dX5_readWait_27 : decode cX5_readWait 27 = .ok (.invokevirtual 187, 3) := by decide +kernel
theorem dX5_readWait_30 : decode cX5_readWait 30 = .ok (.istore_n 1, 1) := by decide +kernel
theorem dX5_readWait_31 : decode cX5_readWait 31 = .ok (.aload_n 0, 1) := by decide +kernel
theorem dX5_readWait_32 : decode cX5_readWait 32 = .ok (.getstatic 213, 3) := by decide +kernel
theorem dX5_readWait_35 : decode cX5_readWait 35 = .ok (.invokevirtual 92, 3) := by decide +kernel
theorem dX5_readWait_38 : decode cX5_readWait 38 = .ok (.aload_n 0, 1) := by decide +kernel
theorem dX5_readWait_39 : decode cX5_readWait 39 = .ok (.invokevirtual 216, 3) := by decide +kernel
theorem dX5_readWait_42 : decode cX5_readWait 42 = .ok (.istore_n 2, 1) := by decide +kernel
theorem dX5_readWait_43 : decode cX5_readWait 43 = .ok (.aload_n 0, 1) := by decide +kernel
theorem dX5_readWait_44 : decode cX5_readWait 44 = .ok (.getstatic 200, 3) := by decide +kernel
theorem dX5_readWait_47 : decode cX5_readWait 47 = .ok (.invokevirtual 92, 3) := by decide +kernel
theorem dX5_readWait_50 : decode cX5_readWait 50 = .ok (.aload_n 0, 1) := by decide +kernel
theorem dX5_readWait_51 : decode cX5_readWait 51 = .ok (.getfield 22, 3) := by decide +kernel
theorem dX5_readWait_54 : decode cX5_readWait 54 = .ok (.getfield 193, 3) := by decide +kernel
theorem dX5_readWait_57 : decode cX5_readWait 57 = .ok (.istore_n 3, 1) := by decide +kernel
theorem dX5_readWait_58 : decode cX5_readWait 58 = .ok (.aload_n 0, 1) := by decide +kernel
theorem dX5_readWait_59 : decode cX5_readWait 59 = .ok (.iconst 0, 1) := by decide +kernel
theorem dX5_readWait_60 : decode cX5_readWait 60 = .ok (.invokevirtual 203, 3) := by decide +kernel
theorem dX5_readWait_63 : decode cX5_readWait 63 = .ok (.aload_n 0, 1) := by decide +kernel
theorem dX5_readWait_64 : decode cX5_readWait 64 = .ok (.getfield 22, 3) := by decide +kernel
theorem dX5_readWait_67 : decode cX5_readWait 67 = .ok (.iload_n 1, 1) := by decide +kernel
theorem dX5_readWait_68 : decode cX5_readWait 68 = .ok (.iload_n 2, 1) := by decide +kernel
theorem dX5_readWait_69 : decode cX5_readWait 69 = .ok (.iload_n 3, 1) := by decide +kernel
theorem dX5_readWait_70 : decode cX5_readWait 70 = .ok (.invokevirtual 219, 3) := by decide +kernel
theorem dX5_readWait_73 : decode cX5_readWait 73 = .ok (.return_, 1) := by decide +kernel
theorem dX5_readTest_0 : decode cX5_readTest 0 = .ok (.aload_n 0, 1) := by decide +kernel
theorem dX5_readTest_1 : decode cX5_readTest 1 = .ok (.iload_n 1, 1) := by decide +kernel
theorem dX5_readTest_2 : decode cX5_readTest 2 = .ok (.invokevirtual 222, 3) := by decide +kernel
theorem dX5_readTest_5 : decode cX5_readTest 5 = .ok (.iconst 0, 1) := by decide +kernel
theorem dX5_readTest_6 : decode cX5_readTest 6 = .ok (.istore_n 2, 1) := by decide +kernel
theorem dX5_readTest_7 : decode cX5_readTest 7 = .ok (.iload_n 2, 1) := by decide +kernel
theorem dX5_readTest_8 : decode cX5_readTest 8 = .ok (.sipush 400, 3) := by decide +kernel
theorem dX5_readTest_11 : decode cX5_readTest 11 = .ok (.if_icmp .ge 35, 3) := by decide +kernel
theorem dX5_readTest_14 : decode cX5_readTest 14 = .ok (.aload_n 0, 1) := by decide +kernel
theorem dX5_readTest_15 : decode cX5_readTest 15 = .ok (.getstatic 225, 3) := by decide +kernel
theorem dX5_readTest_18 : decode cX5_readTest 18 = .ok (.invokevirtual 138, 3) := by decide +kernel
theorem dX5_readTest_21 : decode cX5_readTest 21 = .ok (.ifCond .eq 25, 3) := by decide +kernel
theorem dX5_readTest_24 : decode cX5_readTest 24 = .ok (.aload_n 0, 1) := by decide +kernel
theorem dX5_readTest_25 : decode cX5_readTest 25 = .ok (.iload_n 1, 1) := by decide +kernel
theorem dX5_readTest_26 : decode cX5_readTest 26 = .ok (.invokevirtual 222, 3) := by decide +kernel
theorem dX5_readTest_29 : decode cX5_readTest 29 = .ok (.aload_n 0, 1) := by decide +kernel
theorem dX5_readTest_30 : decode cX5_readTest 30 = .ok (.getfield 22, 3) := by decide +kernel
theorem dX5_readTest_33 : decode cX5_readTest 33 = .ok (.getstatic 225, 3) := by decide +kernel
theorem dX5_readTest_36 : decode cX5_readTest 36 = .ok (.iconst 0, 1) := by decide +kernel
theorem dX5_readTest_37 : decode cX5_readTest 37 = .ok (.invokevirtual 228, 3) := by decide +kernel
theorem dX5_readTest_40 : decode cX5_readTest 40 = .ok (.iinc 2 1, 3) := by decide +kernel
theorem dX5_readTest_43 : decode cX5_readTest 43 = .ok (.goto (-36), 3) := by decide +kernel
theorem dX5_readTest_46 : decode cX5_readTest 46 = .ok (.return_, 1) := by decide +kernel
theorem dX5_readBoth_0 : decode cX5_readBoth 0 = .ok (.aload_n 0, 1) := by decide +kernel
theorem dX5_readBoth_1 : decode cX5_readBoth 1 = .ok (.iload_n 1, 1) := by decide +kernel
theorem dX5_readBoth_2 : decode cX5_readBoth 2 = .ok (.invokevirtual 232, 3) := by decide +kernel
theorem dX5_readBoth_5 : decode cX5_readBoth 5 = .ok (.iconst 0, 1) := by decide +kernel
theorem dX5_readBoth_6 : decode cX5_readBoth 6 = .ok (.istore_n 2, 1) := by decide +kernel
theorem dX5_readBoth_7 : decode cX5_readBoth 7 = .ok (.iload_n 2, 1) := by decide +kernel
theorem dX5_readBoth_8 : decode cX5_readBoth 8 = .ok (.sipush 400, 3) := by decide +kernel
theorem dX5_readBoth_11 : decode cX5_readBoth 11 = .ok (.if_icmp .ge 35, 3) := by decide +kernel
theorem dX5_readBoth_14 : decode cX5_readBoth 14 = .ok (.aload_n 0, 1) := by decide +kernel
theorem dX5_readBoth_15 : decode cX5_readBoth 15 = .ok (.getstatic 235, 3) := by decide +kernel
theorem dX5_readBoth_18 : decode cX5_readBoth 18 = .ok (.invokevirtual 138, 3) := by decide +kernel
theorem dX5_readBoth_21 : decode cX5_readBoth 21 = .ok (.ifCond .eq 25, 3) := by decide +kernel
theorem dX5_readBoth_24 : decode cX5_readBoth 24 = .ok (.aload_n 0, 1) := by decide +kernel
theorem dX5_readBoth_25 : decode cX5_readBoth 25 = .ok (.iload_n 1, 1) := by decide +kernel
theorem dX5_readBoth_26 : decode cX5_readBoth 26 = .ok (.invokevirtual 232, 3) := by decide +kernel
theorem dX5_readBoth_29 : decode cX5_readBoth 29 = .ok (.aload_n 0, 1) := by decide +kernel
theorem dX5_readBoth_30 : decode cX5_readBoth 30 = .ok (.getfield 22, 3) := by decide +kernel
theorem dX5_readBoth_33 : decode cX5_readBoth 33 = .ok (.getstatic 235, 3) := by decide +kernel
theorem dX5_readBoth_36 : decode cX5_readBoth 36 = .ok (.iconst 0, 1) := by decide +kernel
theorem dX5_readBoth_37 : decode cX5_readBoth 37 = .ok (.invokevirtual 228, 3) := by decide +kernel
theorem dX5_readBoth_40 : decode cX5_readBoth 40 = .ok (.iinc 2 1, 3) := by decide +kernel
theorem dX5_readBoth_43 : decode cX5_readBoth 43 = .ok (.goto (-36), 3) := by decide +kernel
theorem dX5_readBoth_46 : decode cX5_readBoth 46 = .ok (.return_, 1) := by decide +kernel
theorem dX5_readSingle_0 : decode cX5_readSingle 0 = .ok (.aload_n 0, 1) := by decide +kernel
theorem dX5_readSingle_1 : decode cX5_readSingle 1 = .ok (.invokevirtual 51, 3) := by decide +kernel
theorem dX5_readSingle_4 : decode cX5_readSingle 4 = .ok (.getstatic 238, 3) := by decide +kernel
theorem dX5_readSingle_7 : decode cX5_readSingle 7 = .ok (.if_acmp .ne 32, 3) := by decide +kernel
theorem dX5_readSingle_10 : decode cX5_readSingle 10 = .ok (.aload_n 0, 1) := by decide +kernel
theorem dX5_readSingle_11 : decode cX5_readSingle 11 = .ok (.iload_n 1, 1) := by decide +kernel
theorem dX5_readSingle_12 : decode cX5_readSingle 12 = .ok (.invokevirtual 241, 3) := by decide +kernel
theorem dX5_readSingle_15 : decode cX5_readSingle 15 = .ok (.ifCond .eq 83, 3) := by decide +kernel
theorem dX5_readSingle_18 : decode cX5_readSingle 18 = .ok (.aload_n 0, 1) := by decide +kernel
theorem dX5_readSingle_19 : decode cX5_readSingle 19 = .ok (.iload_n 1, 1) := by decide +kernel
theorem dX5_readSingle_20 : decode cX5_readSingle 20 = .ok (.iconst 1, 1) := by decide +kernel
theorem dX5_readSingle_21 : decode cX5_readSingle 21 = .ok (.iadd, 1) := by decide +kernel
theorem dX5_readSingle_22 : decode cX5_readSingle 22 = .ok (.invokevirtual 232, 3) := by decide +kernel
theorem dX5_readSingle_25 : decode cX5_readSingle 25 = .ok (.aload_n 0, 1) := by decide +kernel
theorem dX5_readSingle_26 : decode cX5_readSingle 26 = .ok (.getfield 22, 3) := by decide +kernel
theorem dX5_readSingle_29 : decode cX5_readSingle 29 = .ok (.getstatic 238, 3) := by decide +kernel
theorem dX5_readSingle_32 : decode cX5_readSingle 32 = .ok (.iconst 0, 1) := by decide +kernel
theorem dX5_readSingle_33 : decode cX5_readSingle 33 = .ok (.invokevirtual 228, 3) := by decide +kernel
theorem dX5_readSingle_36 : decode cX5_readSingle 36 = .ok (.goto 62, 3) := by decide +kernel
theorem dX5_readSingle_39 : decode cX5_readSingle 39 = .ok (.aload_n 0, 1) := by decide +kernel
theorem dX5_readSingle_40 : decode cX5_readSingle 40 = .ok (.invokevirtual 51, 3) := by decide +kernel
theorem dX5_readSingle_43 : decode cX5_readSingle 43 = .ok (.getstatic 245, 3) := by decide +kernel
theorem dX5_readSingle_46 : decode cX5_readSingle 46 = .ok (.if_acmp .ne 28, 3) := by decide +kernel
theorem dX5_readSingle_49 : decode cX5_readSingle 49 = .ok (.aload_n 0, 1) := by decide +kernel
theorem dX5_readSingle_50 : decode cX5_readSingle 50 = .ok (.iload_n 1, 1) := by decide +kernel
theorem dX5_readSingle_51 : decode cX5_readSingle 51 = .ok (.invokevirtual 241, 3) := by decide +kernel
theorem dX5_readSingle_54 : decode cX5_readSingle 54 = .ok (.ifCond .eq 44, 3) := by decide +kernel
theorem dX5_readSingle_57 : decode cX5_readSingle 57 = .ok (.aload_n 0, 1) := by decide +kernel
theorem dX5_readSingle_58 : decode cX5_readSingle 58 = .ok (.iload_n 1, 1) := by decide +kernel
theorem dX5_readSingle_59 : decode cX5_readSingle 59 = .ok (.iconst 1, 1) := by decide +kernel
theorem dX5_readSingle_60 : decode cX5_readSingle 60 = .ok (.iadd, 1) := by decide +kernel
theorem dX5_readSingle_61 : decode cX5_readSingle 61 = .ok (.invokevirtual 203, 3) := by decide +kernel
theorem dX5_readSingle_64 : decode cX5_readSingle 64 = .ok (.aload_n 0, 1) := by decide +kernel
theorem dX5_readSingle_65 : decode cX5_readSingle 65 = .ok (.getstatic 248, 3) := by decide +kernel
theorem dX5_readSingle_68 : decode cX5_readSingle 68 = .ok (.invokevirtual 92, 3) := by decide +kernel
theorem dX5_readSingle_71 : decode cX5_readSingle 71 = .ok (.goto 27, 3) := by decide +kernel
theorem dX5_readSingle_74 : decode cX5_readSingle 74 = .ok (.aload_n 0, 1) := by decide +kernel
theorem dX5_readSingle_75 : decode cX5_readSingle 75 = .ok (.iload_n 1, 1) := by decide +kernel
theorem dX5_readSingle_76 : decode cX5_readSingle 76 = .ok (.invokevirtual 196, 3) := by decide +kernel
theorem dX5_readSingle_79 : decode cX5_readSingle 79 = .ok (.aload_n 0, 1) := by decide +kernel
theorem dX5_readSingle_80 : decode cX5_readSingle 80 = .ok (.invokevirtual 251, 3) := by decide +kernel
theorem dX5_readSingle_83 : decode cX5_readSingle 83 = .ok (.astore_n 2, 1) := by decide +kernel
theorem dX5_readSingle_84 : decode cX5_readSingle 84 = .ok (.aload_n 0, 1) := by decide +kernel
theorem dX5_readSingle_85 : decode cX5_readSingle 85 = .ok (.iload_n 1, 1) := by decide +kernel
theorem dX5_readSingle_86 : decode cX5_readSingle 86 = .ok (.invokevirtual 196, 3) := by decide +kernel
theorem dX5_readSingle_89 : decode cX5_readSingle 89 = .ok (.aload_n 0, 1) := by decide +kernel
theorem dX5_readSingle_90 : decode cX5_readSingle 90 = .ok (.getfield 22, 3) := by decide +kernel
theorem dX5_readSingle_93 : decode cX5_readSingle 93 = .ok (.aload_n 2, 1) := by decide +kernel
theorem dX5_readSingle_94 : decode cX5_readSingle 94 = .ok (.iconst 0, 1) := by decide +kernel
theorem dX5_readSingle_95 : decode cX5_readSingle 95 = .ok (.invokevirtual 228, 3) := by decide +kernel
theorem dX5_readSingle_98 : decode cX5_readSingle 98 = .ok (.return_, 1) := by decide +kernel
theorem dX5_readSum_0 : decode cX5_readSum 0 = .ok (.aload_n 0, 1) := by decide +kernel
theorem dX5_readSum_1 : decode cX5_readSum 1 = .ok (.iload_n 1, 1) := by decide +kernel
theorem dX5_readSum_2 : decode cX5_readSum 2 = .ok (.invokevirtual 254, 3) := by decide +kernel
theorem dX5_readSum_5 : decode cX5_readSum 5 = .ok (.iconst 0, 1) := by decide +kernel
theorem dX5_readSum_6 : decode cX5_readSum 6 = .ok (.istore_n 2, 1) := by decide +kernel
theorem dX5_readSum_7 : decode cX5_readSum 7 = .ok (.iload_n 2, 1) := by decide +kernel
theorem dX5_readSum_8 : decode cX5_readSum 8 = .ok (.sipush 400, 3) := by decide +kernel
theorem dX5_readSum_11 : decode cX5_readSum 11 = .ok (.if_icmp .ge 52, 3) := by decide +kernel
theorem dX5_readSum_14 : decode cX5_readSum 14 = .ok (.aload_n 0, 1) := by decide +kernel
theorem dX5_readSum_15 : decode cX5_readSum 15 = .ok (.invokevirtual 51, 3) := by decide +kernel
theorem dX5_readSum_18 : decode cX5_readSum 18 = .ok (.getstatic 257, 3) := by decide +kernel
theorem dX5_readSum_21 : decode cX5_readSum 21 = .ok (.if_acmp .eq 13, 3) := by decide +kernel
theorem dX5_readSum_24 : decode cX5_readSum 24 = .ok (.aload_n 0, 1) := by decide +kernel
theorem dX5_readSum_25 : decode cX5_readSum 25 = .ok (.invokevirtual 51, 3) := by decide +kernel
theorem dX5_readSum_28 : decode cX5_readSum 28 = .ok (.getstatic 135, 3) := by decide +kernel
theorem dX5_readSum_31 : decode cX5_readSum 31 = .ok (.if_acmp .ne 32, 3) := by decide +kernel
theorem dX5_readSum_34 : decode cX5_readSum 34 = .ok (.aload_n 0, 1) := by decide +kernel
theorem dX5_readSum_35 : decode cX5_readSum 35 = .ok (.invokevirtual 51, 3) := by decide +kernel
theorem dX5_readSum_38 : decode cX5_readSum 38 = .ok (.astore_n 3, 1) := by decide +kernel
theorem dX5_readSum_39 : decode cX5_readSum 39 = .ok (.aload_n 0, 1) := by decide +kernel
theorem dX5_readSum_40 : decode cX5_readSum 40 = .ok (.invokevirtual 104, 3) := by decide +kernel
theorem dX5_readSum_43 : decode cX5_readSum 43 = .ok (.aload_n 0, 1) := by decide +kernel
theorem dX5_readSum_44 : decode cX5_readSum 44 = .ok (.iload_n 1, 1) := by decide +kernel
theorem dX5_readSum_45 : decode cX5_readSum 45 = .ok (.invokevirtual 254, 3) := by decide +kernel
theorem dX5_readSum_48 : decode cX5_readSum 48 = .ok (.aload_n 0, 1) := by decide +kernel
theorem dX5_readSum_49 : decode cX5_readSum 49 = .ok (.getfield 22, 3) := by decide +kernel
theorem dX5_readSum_52 : decode cX5_readSum 52 = .ok (.aload_n 3, 1) := by decide +kernel
theorem dX5_readSum_53 : decode cX5_readSum 53 = .ok (.iconst 0, 1) := by decide +kernel
theorem dX5_readSum_54 : decode cX5_readSum 54 = .ok (.invokevirtual 228, 3) := by decide +kernel
theorem dX5_readSum_57 : decode cX5_readSum 57 = .ok (.iinc 2 1, 3) := by decide +kernel
theorem dX5_readSum_60 : decode cX5_readSum 60 = .ok (.goto (-53), 3) := by decide +kernel
theorem dX5_readSum_63 : decode cX5_readSum 63 = .ok (.return_, 1) := by decide +kernel
theorem dX5_readProduct_0 : decode cX5_readProduct 0 = .ok (.aload_n 0, 1) := by decide +kernel
theorem dX5_readProduct_1 : decode cX5_readProduct 1 = .ok (.iload_n 1, 1) := by decide +kernel
theorem dX5_readProduct_2 : decode cX5_readProduct 2 = .ok (.invokevirtual 260, 3) := by decide +kernel
theorem dX5_readProduct_5 : decode cX5_readProduct 5 = .ok (.iconst 0, 1) := by decide +kernel
theorem dX5_readProduct_6 : decode cX5_readProduct 6 = .ok (.istore_n 2, 1) := by decide +kernel
theorem dX5_readProduct_7 : decode cX5_readProduct 7 = .ok (.iload_n 2, 1) := by decide +kernel
theorem dX5_readProduct_8 : decode cX5_readProduct 8 = .ok (.sipush 400, 3) := by decide +kernel
theorem dX5_readProduct_11 : decode cX5_readProduct 11 = .ok (.if_icmp .ge 52, 3) := by decide +kernel
theorem dX5_readProduct_14 : decode cX5_readProduct 14 = .ok (.aload_n 0, 1) := by decide +kernel
theorem dX5_readProduct_15 : decode cX5_readProduct 15 = .ok (.invokevirtual 51, 3) := by decide +kernel
theorem dX5_readProduct_18 : decode cX5_readProduct 18 = .ok (.getstatic 263, 3) := by decide +kernel
theorem dX5_readProduct_21 : decode cX5_readProduct 21 = .ok (.if_acmp .eq 13, 3) := by decide +kernel
theorem dX5_readProduct_24 : decode cX5_readProduct 24 = .ok (.aload_n 0, 1) := by decide +kernel
theorem dX5_readProduct_25 : decode cX5_readProduct 25 = .ok (.invokevirtual 51, 3) := by decide +kernel
theorem dX5_readProduct_28 : decode cX5_readProduct 28 = .ok (.getstatic 266, 3) := by decide +kernel
theorem dX5_readProduct_31 : decode cX5_readProduct 31 = .ok (.if_acmp .ne 32, 3) := by decide +kernel
theorem dX5_readProduct_34 : decode cX5_readProduct 34 = .ok (.aload_n 0, 1) := by decide +kernel
theorem dX5_readProduct_35 : decode cX5_readProduct 35 = .ok (.invokevirtual 51, 3) := by decide +kernel
theorem dX5_readProduct_38 : decode cX5_readProduct 38 = .ok (.astore_n 3, 1) := by decide +kernel
theorem dX5_readProduct_39 : decode cX5_readProduct 39 = .ok (.aload_n 0, 1) := by decide +kernel
theorem dX5_readProduct_40 : decode cX5_readProduct 40 = .ok (.invokevirtual 104, 3) := by decide +kernel
theorem dX5_readProduct_43 : decode cX5_readProduct 43 = .ok (.aload_n 0, 1) := by decide +kernel
theorem dX5_readProduct_44 : decode cX5_readProduct 44 = .ok (.iload_n 1, 1) := by decide +kernel
theorem dX5_readProduct_45 : decode cX5_readProduct 45 = .ok (.invokevirtual 260, 3) := by decide +kernel
theorem dX5_readProduct_48 : decode cX5_readProduct 48 = .ok (.aload_n 0, 1) := by decide +kernel
theorem dX5_readProduct_49 : decode cX5_readProduct 49 = .ok (.getfield 22, 3) := by decide +kernel
theorem dX5_readProduct_52 : decode cX5_readProduct 52 = .ok (.aload_n 3, 1) := by decide +kernel
theorem dX5_readProduct_53 : decode cX5_readProduct 53 = .ok (.iconst 0, 1) := by decide +kernel
theorem dX5_readProduct_54 : decode cX5_readProduct 54 = .ok (.invokevirtual 228, 3) := by decide +kernel
theorem dX5_readProduct_57 : decode cX5_readProduct 57 = .ok (.iinc 2 1, 3) := by decide +kernel
theorem dX5_readProduct_60 : decode cX5_readProduct 60 = .ok (.goto (-53), 3) := by decide +kernel
theorem dX5_readProduct_63 : decode cX5_readProduct 63 = .ok (.return_, 1) := by decide +kernel
theorem dX5_readValue_0 : decode cX5_readValue 0 = .ok (.aload_n 0, 1) := by decide +kernel
theorem dX5_readValue_1 : decode cX5_readValue 1 = .ok (.invokevirtual 51, 3) := by decide +kernel
theorem dX5_readValue_4 : decode cX5_readValue 4 = .ok (.astore_n 2, 1) := by decide +kernel
theorem dX5_readValue_5 : decode cX5_readValue 5 = .ok (.getstatic 61, 3) := by decide +kernel
theorem dX5_readValue_8 : decode cX5_readValue 8 = .ok (.aload_n 2, 1) := by decide +kernel
theorem dX5_readValue_9 : decode cX5_readValue 9 = .ok (.invokevirtual 67, 3) := by decide +kernel
theorem dX5_readValue_12 : decode cX5_readValue 12 = .ok (.iaload, 1) := by decide +kernel
theorem dX5_readValue_13 : decode cX5_readValue 13 = .ok (.tableswitch 212 6 19 #[71, 91, 91, 91, 91, 107, 107, 107, 126, 126, 145, 174, 199, 199], 71) := by decide +kernel
theorem dX5_readValue_84 : decode cX5_readValue 84 = .ok (.aload_n 0, 1) := by decide +kernel
theorem dX5_readValue_85 : decode cX5_readValue 85 = .ok (.getfield 22, 3) := by decide +kernel
theorem dX5_readValue_88 : decode cX5_readValue 88 = .ok (.aload_n 2, 1) := by decide +kernel
theorem dX5_readValue_89 : decode cX5_readValue 89 = .ok (.aload_n 0, 1) := by decide +kernel
theorem dX5_readValue_90 : decode cX5_readValue 90 = .ok (.invokevirtual 107, 3) := by decide +kernel
theorem dX5_readValue_93 : decode cX5_readValue 93 = .ok (.l2i, 1) := by decide +kernel
theorem dX5_readValue_94 : decode cX5_readValue 94 = .ok (.invokevirtual 228, 3) := by decide +kernel
theorem dX5_readValue_97 : decode cX5_readValue 97 = .ok (.aload_n 0, 1) := by decide +kernel
theorem dX5_readValue_98 : decode cX5_readValue 98 = .ok (.invokevirtual 104, 3) := by decide +kernel
theorem dX5_readValue_101 : decode cX5_readValue 101 = .ok (.goto 128, 3) := by decide +kernel
theorem dX5_readValue_104 : decode cX5_readValue 104 = .ok (.aload_n 0, 1) := by decide +kernel
theorem dX5_readValue_105 : decode cX5_readValue 105 = .ok (.getfield 22, 3) := by decide +kernel
theorem dX5_readValue_108 : decode cX5_readValue 108 = .ok (.aload_n 2, 1) := by decide +kernel
theorem dX5_readValue_109 : decode cX5_readValue 109 = .ok (.iconst 0, 1) := by decide +kernel
theorem dX5_readValue_110 : decode cX5_readValue 110 = .ok (.invokevirtual 228, 3) := by decide +kernel
theorem dX5_readValue_113 : decode cX5_readValue 113 = .ok (.aload_n 0, 1) := by decide +kernel
theorem dX5_readValue_114 : decode cX5_readValue 114 = .ok (.invokevirtual 104, 3) := by decide +kernel
theorem dX5_readValue_117 : decode cX5_readValue 117 = .ok (.goto 112, 3) := by decide +kernel
theorem dX5_readValue_120 : decode cX5_readValue 120 = .ok (.aload_n 0, 1) := by decide +kernel
theorem dX5_readValue_121 : decode cX5_readValue 121 = .ok (.invokevirtual 104, 3) := by decide +kernel
theorem dX5_readValue_124 : decode cX5_readValue 124 = .ok (.aload_n 0, 1) := by decide +kernel
theorem dX5_readValue_125 : decode cX5_readValue 125 = .ok (.getfield 22, 3) := by decide +kernel
theorem dX5_readValue_128 : decode cX5_readValue 128 = .ok (.aload_n 2, 1) := by decide +kernel
theorem dX5_readValue_129 : decode cX5_readValue 129 = .ok (.aload_n 0, 1) := by decide +kernel
theorem dX5_readValue_130 : decode cX5_readValue 130 = .ok (.invokevirtual 187, 3) := by decide +kernel
theorem dX5_readValue_133 : decode cX5_readValue 133 = .ok (.invokevirtual 228, 3) := by decide +kernel
theorem dX5_readValue_136 : decode cX5_readValue 136 = .ok (.goto 93, 3) := by decide +kernel
theorem dX5_readValue_139 : decode cX5_readValue 139 = .ok (.aload_n 0, 1) := by decide +kernel
theorem dX5_readValue_140 : decode cX5_readValue 140 = .ok (.invokevirtual 104, 3) := by decide +kernel
theorem dX5_readValue_143 : decode cX5_readValue 143 = .ok (.aload_n 0, 1) := by decide +kernel
theorem dX5_readValue_144 : decode cX5_readValue 144 = .ok (.getfield 22, 3) := by decide +kernel
theorem dX5_readValue_147 : decode cX5_readValue 147 = .ok (.aload_n 2, 1) := by decide +kernel
theorem dX5_readValue_148 : decode cX5_readValue 148 = .ok (.aload_n 0, 1) := by decide +kernel
theorem dX5_readValue_149 : decode cX5_readValue 149 = .ok (.invokevirtual 216, 3) := by decide +kernel
theorem dX5_readValue_152 : decode cX5_readValue 152 = .ok (.invokevirtual 228, 3) := by decide +kernel
theorem dX5_readValue_155 : decode cX5_readValue 155 = .ok (.goto 74, 3) := by decide +kernel
theorem dX5_readValue_158 : decode cX5_readValue 158 = .ok (.aload_n 0, 1) := by decide +kernel
theorem dX5_readValue_159 : decode cX5_readValue 159 = .ok (.iload_n 1, 1) := by decide +kernel
theorem dX5_readValue_160 : decode cX5_readValue 160 = .ok (.invokevirtual 241, 3) := by decide +kernel
theorem dX5_readValue_163 : decode cX5_readValue 163 = .ok (.ifCond .eq 66, 3) := by decide +kernel
theorem dX5_readValue_166 : decode cX5_readValue 166 = .ok (.aload_n 0, 1) := by decide +kernel
theorem dX5_readValue_167 : decode cX5_readValue 167 = .ok (.iload_n 1, 1) := by decide +kernel
theorem dX5_readValue_168 : decode cX5_readValue 168 = .ok (.iconst 1, 1) := by decide +kernel
theorem dX5_readValue_169 : decode cX5_readValue 169 = .ok (.iadd, 1) := by decide +kernel
theorem dX5_readValue_170 : decode cX5_readValue 170 = .ok (.invokevirtual 260, 3) := by decide +kernel
theorem dX5_readValue_173 : decode cX5_readValue 173 = .ok (.aload_n 0, 1) := by decide +kernel
theorem dX5_readValue_174 : decode cX5_readValue 174 = .ok (.getfield 22, 3) := by decide +kernel
theorem dX5_readValue_177 : decode cX5_readValue 177 = .ok (.getstatic 269, 3) := by decide +kernel
theorem dX5_readValue_180 : decode cX5_readValue 180 = .ok (.iconst 0, 1) := by decide +kernel
theorem dX5_readValue_181 : decode cX5_readValue 181 = .ok (.invokevirtual 228, 3) := by decide +kernel
theorem dX5_readValue_184 : decode cX5_readValue 184 = .ok (.goto 45, 3) := by decide +kernel
theorem dX5_readValue_187 : decode cX5_readValue 187 = .ok (.aload_n 0, 1) := by decide +kernel
theorem dX5_readValue_188 : decode cX5_readValue 188 = .ok (.iload_n 1, 1) := by decide +kernel
theorem dX5_readValue_189 : decode cX5_readValue 189 = .ok (.invokevirtual 241, 3) := by decide +kernel
theorem dX5_readValue_192 : decode cX5_readValue 192 = .ok (.ifCond .eq 37, 3) := by decide +kernel
theorem dX5_readValue_195 : decode cX5_readValue 195 = .ok (.aload_n 0, 1) := by decide +kernel
theorem dX5_readValue_196 : decode cX5_readValue 196 = .ok (.iload_n 1, 1) := by decide +kernel
theorem dX5_readValue_197 : decode cX5_readValue 197 = .ok (.iconst 1, 1) := by decide +kernel
theorem dX5_readValue_198 : decode cX5_readValue 198 = .ok (.iadd, 1) := by decide +kernel
theorem dX5_readValue_199 : decode cX5_readValue 199 = .ok (.invokevirtual 196, 3) := by decide +kernel
theorem dX5_readValue_202 : decode cX5_readValue 202 = .ok (.aload_n 0, 1) := by decide +kernel
theorem dX5_readValue_203 : decode cX5_readValue 203 = .ok (.getstatic 272, 3) := by decide +kernel
theorem dX5_readValue_206 : decode cX5_readValue 206 = .ok (.invokevirtual 92, 3) := by decide +kernel
theorem dX5_readValue_209 : decode cX5_readValue 209 = .ok (.goto 20, 3) := by decide +kernel
theorem dX5_readValue_212 : decode cX5_readValue 212 = .ok (.aload_n 0, 1) := by decide +kernel
theorem dX5_readValue_213 : decode cX5_readValue 213 = .ok (.invokevirtual 104, 3) := by decide +kernel
theorem dX5_readValue_216 : decode cX5_readValue 216 = .ok (.aload_n 0, 1) := by decide +kernel
theorem dX5_readValue_217 : decode cX5_readValue 217 = .ok (.aload_n 2, 1) := by decide +kernel
theorem dX5_readValue_218 : decode cX5_readValue 218 = .ok (.iload_n 1, 1) := by decide +kernel
theorem dX5_readValue_219 : decode cX5_readValue 219 = .ok (.invokevirtual 275, 3) := by decide +kernel
theorem dX5_readValue_222 : decode cX5_readValue 222 = .ok (.goto 7, 3) := by decide +kernel
theorem dX5_readValue_225 : decode cX5_readValue 225 = .ok (.aload_n 0, 1) := by decide +kernel
theorem dX5_readValue_226 : decode cX5_readValue 226 = .ok (.invokevirtual 86, 3) := by decide +kernel
theorem dX5_readValue_229 : decode cX5_readValue 229 = .ok (.return_, 1) := by decide +kernel
theorem dX5_readPair_0 : decode cX5_readPair 0 = .ok (.aload_n 0, 1) := by decide +kernel
theorem dX5_readPair_1 : decode cX5_readPair 1 = .ok (.invokevirtual 51, 3) := by decide +kernel
theorem dX5_readPair_4 : decode cX5_readPair 4 = .ok (.getstatic 278, 3) := by decide +kernel
theorem dX5_readPair_7 : decode cX5_readPair 7 = .ok (.if_acmp .eq 10, 3) := by decide +kernel
theorem dX5_readPair_10 : decode cX5_readPair 10 = .ok (.aload_n 0, 1) := by decide +kernel
theorem dX5_readPair_11 : decode cX5_readPair 11 = .ok (.invokevirtual 86, 3) := by decide +kernel
theorem dX5_readPair_14 : decode cX5_readPair 14 = .ok (.goto 48, 3) := by decide +kernel
theorem dX5_readPair_17 : decode cX5_readPair 17 = .ok (.aload_n 0, 1) := by decide +kernel
theorem dX5_readPair_18 : decode cX5_readPair 18 = .ok (.iload_n 2, 1) := by decide +kernel
theorem dX5_readPair_19 : decode cX5_readPair 19 = .ok (.invokevirtual 241, 3) := by decide +kernel
theorem dX5_readPair_22 : decode cX5_readPair 22 = .ok (.ifCond .eq 40, 3) := by decide +kernel
theorem dX5_readPair_25 : decode cX5_readPair 25 = .ok (.aload_n 0, 1) := by decide +kernel
theorem dX5_readPair_26 : decode cX5_readPair 26 = .ok (.iload_n 2, 1) := by decide +kernel
theorem dX5_readPair_27 : decode cX5_readPair 27 = .ok (.iconst 1, 1) := by decide +kernel
theorem dX5_readPair_28 : decode cX5_readPair 28 = .ok (.iadd, 1) := by decide +kernel
theorem dX5_readPair_29 : decode cX5_readPair 29 = .ok (.invokevirtual 196, 3) := by decide +kernel
theorem dX5_readPair_32 : decode cX5_readPair 32 = .ok (.aload_n 0, 1) := by decide +kernel
theorem dX5_readPair_33 : decode cX5_readPair 33 = .ok (.getstatic 281, 3) := by decide +kernel
theorem dX5_readPair_36 : decode cX5_readPair 36 = .ok (.invokevirtual 92, 3) := by decide +kernel
theorem dX5_readPair_39 : decode cX5_readPair 39 = .ok (.aload_n 0, 1) := by decide +kernel
theorem dX5_readPair_40 : decode cX5_readPair 40 = .ok (.iload_n 2, 1) := by decide +kernel
theorem dX5_readPair_41 : decode cX5_readPair 41 = .ok (.iconst 1, 1) := by decide +kernel
theorem dX5_readPair_42 : decode cX5_readPair 42 = .ok (.iadd, 1) := by decide +kernel
theorem dX5_readPair_43 : decode cX5_readPair 43 = .ok (.invokevirtual 196, 3) := by decide +kernel
theorem dX5_readPair_46 : decode cX5_readPair 46 = .ok (.aload_n 0, 1) := by decide +kernel
theorem dX5_readPair_47 : decode cX5_readPair 47 = .ok (.getstatic 272, 3) := by decide +kernel
theorem dX5_readPair_50 : decode cX5_readPair 50 = .ok (.invokevirtual 92, 3) := by decide +kernel
theorem dX5_readPair_53 : decode cX5_readPair 53 = .ok (.aload_n 0, 1) := by decide +kernel
theorem dX5_readPair_54 : decode cX5_readPair 54 = .ok (.getfield 22, 3) := by decide +kernel
theorem dX5_readPair_57 : decode cX5_readPair 57 = .ok (.aload_n 1, 1) := by decide +kernel
theorem dX5_readPair_58 : decode cX5_readPair 58 = .ok (.iconst 0, 1) := by decide +kernel
theorem dX5_readPair_59 : decode cX5_readPair 59 = .ok (.invokevirtual 228, 3) := by decide +kernel
theorem dX5_readPair_62 : decode cX5_readPair 62 = .ok (.return_, 1) := by decide +kernel
theorem dX5_goesDeeper_0 : decode cX5_goesDeeper 0 = .ok (.iload_n 1, 1) := by decide +kernel
theorem dX5_goesDeeper_1 : decode cX5_goesDeeper 1 = .ok (.bipush 8, 2) := by decide +kernel
theorem dX5_goesDeeper_3 : decode cX5_goesDeeper 3 = .ok (.if_icmp .lt 9, 3) := by decide +kernel
theorem dX5_goesDeeper_6 : decode cX5_goesDeeper 6 = .ok (.aload_n 0, 1) := by decide +kernel
theorem dX5_goesDeeper_7 : decode cX5_goesDeeper 7 = .ok (.invokevirtual 86, 3) := by decide +kernel
theorem dX5_goesDeeper_10 : decode cX5_goesDeeper 10 = .ok (.iconst 0, 1) := by decide +kernel
theorem dX5_goesDeeper_11 : decode cX5_goesDeeper 11 = .ok (.ireturn, 1) := by decide +kernel
theorem dX5_goesDeeper_12 : decode cX5_goesDeeper 12 = .ok (.aload_n 0, 1) := by decide +kernel
theorem dX5_goesDeeper_13 : decode cX5_goesDeeper 13 = .ok (.invokevirtual 104, 3) := by decide +kernel
theorem dX5_goesDeeper_16 : decode cX5_goesDeeper 16 = .ok (.iconst 1, 1) := by decide +kernel
theorem dX5_goesDeeper_17 : decode cX5_goesDeeper 17 = .ok (.ireturn, 1) := by decide +kernel
theorem dX5_checkNew_0 : decode cX5_checkNew 0 = .ok (.iload_n 1, 1) := by decide +kernel
theorem dX5_checkNew_1 : decode cX5_checkNew 1 = .ok (.ifCond .eq 11, 3) := by decide +kernel
theorem dX5_checkNew_4 : decode cX5_checkNew 4 = .ok (.aload_n 0, 1) := by decide +kernel
theorem dX5_checkNew_5 : decode cX5_checkNew 5 = .ok (.iconst 2, 1) := by decide +kernel
theorem dX5_checkNew_6 : decode cX5_checkNew 6 = .ok (.invokevirtual 284, 3) := by decide +kernel
theorem dX5_checkNew_9 : decode cX5_checkNew 9 = .ok (.goto 12, 3) := by decide +kernel
theorem dX5_checkNew_12 : decode cX5_checkNew 12 = .ok (.iload_n 2, 1) := by decide +kernel
theorem dX5_checkNew_13 : decode cX5_checkNew 13 = .ok (.ifCond .eq 8, 3) := by decide +kernel
theorem dX5_checkNew_16 : decode cX5_checkNew 16 = .ok (.aload_n 0, 1) := by decide +kernel
theorem dX5_checkNew_17 : decode cX5_checkNew 17 = .ok (.iconst 4, 1) := by decide +kernel
theorem dX5_checkNew_18 : decode cX5_checkNew 18 = .ok (.invokevirtual 284, 3) := by decide +kernel
theorem dX5_checkNew_21 : decode cX5_checkNew 21 = .ok (.return_, 1) := by decide +kernel
theorem dX5_takeComparison_0 : decode cX5_takeComparison 0 = .ok (.aload_n 0, 1) := by decide +kernel
theorem dX5_takeComparison_1 : decode cX5_takeComparison 1 = .ok (.invokevirtual 51, 3) := by decide +kernel
theorem dX5_takeComparison_4 : decode cX5_takeComparison 4 = .ok (.astore_n 1, 1) := by decide +kernel
theorem dX5_takeComparison_5 : decode cX5_takeComparison 5 = .ok (.getstatic 61, 3) := by decide +kernel
theorem dX5_takeComparison_8 : decode cX5_takeComparison 8 = .ok (.aload_n 1, 1) := by decide +kernel
theorem dX5_takeComparison_9 : decode cX5_takeComparison 9 = .ok (.invokevirtual 67, 3) := by decide +kernel
theorem dX5_takeComparison_12 : decode cX5_takeComparison 12 = .ok (.iaload, 1) := by decide +kernel
theorem dX5_takeComparison_13 : decode cX5_takeComparison 13 = .ok (.tableswitch 42 20 24 #[35, 35, 35, 35, 35], 35) := by decide +kernel
theorem dX5_takeComparison_48 : decode cX5_takeComparison 48 = .ok (.aload_n 0, 1) := by decide +kernel
theorem dX5_takeComparison_49 : decode cX5_takeComparison 49 = .ok (.invokevirtual 104, 3) := by decide +kernel
theorem dX5_takeComparison_52 : decode cX5_takeComparison 52 = .ok (.goto 7, 3) := by decide +kernel
theorem dX5_takeComparison_55 : decode cX5_takeComparison 55 = .ok (.aload_n 0, 1) := by decide +kernel
theorem dX5_takeComparison_56 : decode cX5_takeComparison 56 = .ok (.invokevirtual 86, 3) := by decide +kernel
theorem dX5_takeComparison_59 : decode cX5_takeComparison 59 = .ok (.aload_n 1, 1) := by decide +kernel
theorem dX5_takeComparison_60 : decode cX5_takeComparison 60 = .ok (.areturn, 1) := by decide +kernel
theorem dX5_takeName_0 : decode cX5_takeName 0 = .ok (.aload_n 0, 1) := by decide +kernel
theorem dX5_takeName_1 : decode cX5_takeName 1 = .ok (.invokevirtual 107, 3) := by decide +kernel
theorem dX5_takeName_4 : decode cX5_takeName 4 = .ok (.lstore_n 1, 1) := by decide +kernel
theorem dX5_takeName_5 : decode cX5_takeName 5 = .ok (.aload_n 0, 1) := by decide +kernel
theorem dX5_takeName_6 : decode cX5_takeName 6 = .ok (.getstatic 287, 3) := by decide +kernel
theorem dX5_takeName_9 : decode cX5_takeName 9 = .ok (.invokevirtual 92, 3) := by decide +kernel
theorem dX5_takeName_12 : decode cX5_takeName 12 = .ok (.lload_n 1, 1) := by decide +kernel
theorem dX5_takeName_13 : decode cX5_takeName 13 = .ok (.lreturn, 1) := by decide +kernel
theorem dX5_takeHorse_0 : decode cX5_takeHorse 0 = .ok (.aload_n 0, 1) := by decide +kernel
theorem dX5_takeHorse_1 : decode cX5_takeHorse 1 = .ok (.getfield 18, 3) := by decide +kernel
theorem dX5_takeHorse_4 : decode cX5_takeHorse 4 = .ok (.aload_n 0, 1) := by decide +kernel
theorem dX5_takeHorse_5 : decode cX5_takeHorse 5 = .ok (.invokevirtual 107, 3) := by decide +kernel
theorem dX5_takeHorse_8 : decode cX5_takeHorse 8 = .ok (.invokevirtual 149, 3) := by decide +kernel
theorem dX5_takeHorse_11 : decode cX5_takeHorse 11 = .ok (.istore_n 1, 1) := by decide +kernel
theorem dX5_takeHorse_12 : decode cX5_takeHorse 12 = .ok (.iload_n 1, 1) := by decide +kernel
theorem dX5_takeHorse_13 : decode cX5_takeHorse 13 = .ok (.ifCond .ge 8, 3) := by decide +kernel
theorem dX5_takeHorse_16 : decode cX5_takeHorse 16 = .ok (.aload_n 0, 1) := by decide +kernel
theorem dX5_takeHorse_17 : decode cX5_takeHorse 17 = .ok (.iconst 3, 1) := by decide +kernel
theorem dX5_takeHorse_18 : decode cX5_takeHorse 18 = .ok (.invokevirtual 284, 3) := by decide +kernel
theorem dX5_takeHorse_21 : decode cX5_takeHorse 21 = .ok (.aload_n 0, 1) := by decide +kernel
theorem dX5_takeHorse_22 : decode cX5_takeHorse 22 = .ok (.getstatic 287, 3) := by decide +kernel
theorem dX5_takeHorse_25 : decode cX5_takeHorse 25 = .ok (.invokevirtual 92, 3) := by decide +kernel
theorem dX5_takeHorse_28 : decode cX5_takeHorse 28 = .ok (.iload_n 1, 1) := by decide +kernel
theorem dX5_takeHorse_29 : decode cX5_takeHorse 29 = .ok (.ireturn, 1) := by decide +kernel
theorem dX5_takeStretch_0 : decode cX5_takeStretch 0 = .ok (.aload_n 0, 1) := by decide +kernel
theorem dX5_takeStretch_1 : decode cX5_takeStretch 1 = .ok (.getfield 18, 3) := by decide +kernel
theorem dX5_takeStretch_4 : decode cX5_takeStretch 4 = .ok (.aload_n 0, 1) := by decide +kernel
theorem dX5_takeStretch_5 : decode cX5_takeStretch 5 = .ok (.invokevirtual 107, 3) := by decide +kernel
theorem dX5_takeStretch_8 : decode cX5_takeStretch 8 = .ok (.invokevirtual 111, 3) := by decide +kernel
theorem dX5_takeStretch_11 : decode cX5_takeStretch 11 = .ok (.istore_n 1, 1) := by decide +kernel
theorem dX5_takeStretch_12 : decode cX5_takeStretch 12 = .ok (.iload_n 1, 1) := by decide +kernel
theorem dX5_takeStretch_13 : decode cX5_takeStretch 13 = .ok (.ifCond .ge 8, 3) := by decide +kernel
theorem dX5_takeStretch_16 : decode cX5_takeStretch 16 = .ok (.aload_n 0, 1) := by decide +kernel
theorem dX5_takeStretch_17 : decode cX5_takeStretch 17 = .ok (.iconst 3, 1) := by decide +kernel
theorem dX5_takeStretch_18 : decode cX5_takeStretch 18 = .ok (.invokevirtual 284, 3) := by decide +kernel
theorem dX5_takeStretch_21 : decode cX5_takeStretch 21 = .ok (.aload_n 0, 1) := by decide +kernel
theorem dX5_takeStretch_22 : decode cX5_takeStretch 22 = .ok (.getstatic 287, 3) := by decide +kernel
theorem dX5_takeStretch_25 : decode cX5_takeStretch 25 = .ok (.invokevirtual 92, 3) := by decide +kernel
theorem dX5_takeStretch_28 : decode cX5_takeStretch 28 = .ok (.iload_n 1, 1) := by decide +kernel
theorem dX5_takeStretch_29 : decode cX5_takeStretch 29 = .ok (.ireturn, 1) := by decide +kernel
theorem dX5_takeNumber_0 : decode cX5_takeNumber 0 = .ok (.aload_n 0, 1) := by decide +kernel
theorem dX5_takeNumber_1 : decode cX5_takeNumber 1 = .ok (.invokevirtual 107, 3) := by decide +kernel
theorem dX5_takeNumber_4 : decode cX5_takeNumber 4 = .ok (.lstore_n 3, 1) := by decide +kernel
theorem dX5_takeNumber_5 : decode cX5_takeNumber 5 = .ok (.lload_n 3, 1) := by decide +kernel
theorem dX5_takeNumber_6 : decode cX5_takeNumber 6 = .ok (.iload_n 1, 1) := by decide +kernel
theorem dX5_takeNumber_7 : decode cX5_takeNumber 7 = .ok (.i2l, 1) := by decide +kernel
theorem dX5_takeNumber_8 : decode cX5_takeNumber 8 = .ok (.lcmp, 1) := by decide +kernel
theorem dX5_takeNumber_9 : decode cX5_takeNumber 9 = .ok (.ifCond .lt 10, 3) := by decide +kernel
theorem dX5_takeNumber_12 : decode cX5_takeNumber 12 = .ok (.lload_n 3, 1) := by decide +kernel
theorem dX5_takeNumber_13 : decode cX5_takeNumber 13 = .ok (.iload_n 2, 1) := by decide +kernel
theorem dX5_takeNumber_14 : decode cX5_takeNumber 14 = .ok (.i2l, 1) := by decide +kernel
theorem dX5_takeNumber_15 : decode cX5_takeNumber 15 = .ok (.lcmp, 1) := by decide +kernel
theorem dX5_takeNumber_16 : decode cX5_takeNumber 16 = .ok (.ifCond .le 8, 3) := by decide +kernel
theorem dX5_takeNumber_19 : decode cX5_takeNumber 19 = .ok (.aload_n 0, 1) := by decide +kernel
theorem dX5_takeNumber_20 : decode cX5_takeNumber 20 = .ok (.iconst 5, 1) := by decide +kernel
theorem dX5_takeNumber_21 : decode cX5_takeNumber 21 = .ok (.invokevirtual 284, 3) := by decide +kernel
theorem dX5_takeNumber_24 : decode cX5_takeNumber 24 = .ok (.aload_n 0, 1) := by decide +kernel
theorem dX5_takeNumber_25 : decode cX5_takeNumber 25 = .ok (.getstatic 290, 3) := by decide +kernel
theorem dX5_takeNumber_28 : decode cX5_takeNumber 28 = .ok (.invokevirtual 92, 3) := by decide +kernel
theorem dX5_takeNumber_31 : decode cX5_takeNumber 31 = .ok (.lload_n 3, 1) := by decide +kernel
theorem dX5_takeNumber_32 : decode cX5_takeNumber 32 = .ok (.l2i, 1) := by decide +kernel
theorem dX5_takeNumber_33 : decode cX5_takeNumber 33 = .ok (.ireturn, 1) := by decide +kernel
theorem dX5_noteFlaw_0 : decode cX5_noteFlaw 0 = .ok (.aload_n 0, 1) := by decide +kernel
theorem dX5_noteFlaw_1 : decode cX5_noteFlaw 1 = .ok (.getfield 37, 3) := by decide +kernel
theorem dX5_noteFlaw_4 : decode cX5_noteFlaw 4 = .ok (.ifCond .ne 24, 3) := by decide +kernel
theorem dX5_noteFlaw_7 : decode cX5_noteFlaw 7 = .ok (.aload_n 0, 1) := by decide +kernel
theorem dX5_noteFlaw_8 : decode cX5_noteFlaw 8 = .ok (.iload_n 1, 1) := by decide +kernel
theorem dX5_noteFlaw_9 : decode cX5_noteFlaw 9 = .ok (.putfield 37, 3) := by decide +kernel
theorem dX5_noteFlaw_12 : decode cX5_noteFlaw 12 = .ok (.aload_n 0, 1) := by decide +kernel
theorem dX5_noteFlaw_13 : decode cX5_noteFlaw 13 = .ok (.aload_n 0, 1) := by decide +kernel
theorem dX5_noteFlaw_14 : decode cX5_noteFlaw 14 = .ok (.getfield 12, 3) := by decide +kernel
theorem dX5_noteFlaw_17 : decode cX5_noteFlaw 17 = .ok (.getfield 293, 3) := by decide +kernel
theorem dX5_noteFlaw_20 : decode cX5_noteFlaw 20 = .ok (.aload_n 0, 1) := by decide +kernel
theorem dX5_noteFlaw_21 : decode cX5_noteFlaw 21 = .ok (.getfield 26, 3) := by decide +kernel
theorem dX5_noteFlaw_24 : decode cX5_noteFlaw 24 = .ok (.iaload, 1) := by decide +kernel
theorem dX5_noteFlaw_25 : decode cX5_noteFlaw 25 = .ok (.putfield 40, 3) := by decide +kernel
theorem dX5_noteFlaw_28 : decode cX5_noteFlaw 28 = .ok (.return_, 1) := by decide +kernel
theorem dX5_tryTake_0 : decode cX5_tryTake 0 = .ok (.aload_n 0, 1) := by decide +kernel
theorem dX5_tryTake_1 : decode cX5_tryTake 1 = .ok (.invokevirtual 51, 3) := by decide +kernel
theorem dX5_tryTake_4 : decode cX5_tryTake 4 = .ok (.aload_n 1, 1) := by decide +kernel
theorem dX5_tryTake_5 : decode cX5_tryTake 5 = .ok (.if_acmp .eq 5, 3) := by decide +kernel
theorem dX5_tryTake_8 : decode cX5_tryTake 8 = .ok (.iconst 0, 1) := by decide +kernel
theorem dX5_tryTake_9 : decode cX5_tryTake 9 = .ok (.ireturn, 1) := by decide +kernel
theorem dX5_tryTake_10 : decode cX5_tryTake 10 = .ok (.aload_n 0, 1) := by decide +kernel
theorem dX5_tryTake_11 : decode cX5_tryTake 11 = .ok (.invokevirtual 104, 3) := by decide +kernel
theorem dX5_tryTake_14 : decode cX5_tryTake 14 = .ok (.iconst 1, 1) := by decide +kernel
theorem dX5_tryTake_15 : decode cX5_tryTake 15 = .ok (.ireturn, 1) := by decide +kernel
theorem dX5_take_0 : decode cX5_take 0 = .ok (.aload_n 0, 1) := by decide +kernel
theorem dX5_take_1 : decode cX5_take 1 = .ok (.invokevirtual 51, 3) := by decide +kernel
theorem dX5_take_4 : decode cX5_take 4 = .ok (.aload_n 1, 1) := by decide +kernel
theorem dX5_take_5 : decode cX5_take 5 = .ok (.if_acmp .ne 10, 3) := by decide +kernel
theorem dX5_take_8 : decode cX5_take 8 = .ok (.aload_n 0, 1) := by decide +kernel
theorem dX5_take_9 : decode cX5_take 9 = .ok (.invokevirtual 104, 3) := by decide +kernel
theorem dX5_take_12 : decode cX5_take 12 = .ok (.goto 7, 3) := by decide +kernel
theorem dX5_take_15 : decode cX5_take 15 = .ok (.aload_n 0, 1) := by decide +kernel
theorem dX5_take_16 : decode cX5_take 16 = .ok (.invokevirtual 86, 3) := by decide +kernel
theorem dX5_take_19 : decode cX5_take 19 = .ok (.return_, 1) := by decide +kernel
theorem dX5_fail_0 : decode cX5_fail 0 = .ok (.aload_n 0, 1) := by decide +kernel
theorem dX5_fail_1 : decode cX5_fail 1 = .ok (.getfield 30, 3) := by decide +kernel
theorem dX5_fail_4 : decode cX5_fail 4 = .ok (.ifCond .ne 24, 3) := by decide +kernel
theorem dX5_fail_7 : decode cX5_fail 7 = .ok (.aload_n 0, 1) := by decide +kernel
theorem dX5_fail_8 : decode cX5_fail 8 = .ok (.iconst 1, 1) := by decide +kernel
theorem dX5_fail_9 : decode cX5_fail 9 = .ok (.putfield 30, 3) := by decide +kernel
theorem dX5_fail_12 : decode cX5_fail 12 = .ok (.aload_n 0, 1) := by decide +kernel
theorem dX5_fail_13 : decode cX5_fail 13 = .ok (.aload_n 0, 1) := by decide +kernel
theorem dX5_fail_14 : decode cX5_fail 14 = .ok (.getfield 12, 3) := by decide +kernel
theorem dX5_fail_17 : decode cX5_fail 17 = .ok (.getfield 293, 3) := by decide +kernel
theorem dX5_fail_20 : decode cX5_fail 20 = .ok (.aload_n 0, 1) := by decide +kernel
theorem dX5_fail_21 : decode cX5_fail 21 = .ok (.getfield 26, 3) := by decide +kernel
theorem dX5_fail_24 : decode cX5_fail 24 = .ok (.iaload, 1) := by decide +kernel
theorem dX5_fail_25 : decode cX5_fail 25 = .ok (.putfield 34, 3) := by decide +kernel
theorem dX5_fail_28 : decode cX5_fail 28 = .ok (.aload_n 0, 1) := by decide +kernel
theorem dX5_fail_29 : decode cX5_fail 29 = .ok (.aload_n 0, 1) := by decide +kernel
theorem dX5_fail_30 : decode cX5_fail 30 = .ok (.getfield 12, 3) := by decide +kernel
theorem dX5_fail_33 : decode cX5_fail 33 = .ok (.getfield 296, 3) := by decide +kernel
theorem dX5_fail_36 : decode cX5_fail 36 = .ok (.putfield 26, 3) := by decide +kernel
theorem dX5_fail_39 : decode cX5_fail 39 = .ok (.return_, 1) := by decide +kernel
theorem dX5_skip_0 : decode cX5_skip 0 = .ok (.aload_n 0, 1) := by decide +kernel
theorem dX5_skip_1 : decode cX5_skip 1 = .ok (.getfield 26, 3) := by decide +kernel
theorem dX5_skip_4 : decode cX5_skip 4 = .ok (.aload_n 0, 1) := by decide +kernel
theorem dX5_skip_5 : decode cX5_skip 5 = .ok (.getfield 12, 3) := by decide +kernel
theorem dX5_skip_8 : decode cX5_skip 8 = .ok (.getfield 296, 3) := by decide +kernel
theorem dX5_skip_11 : decode cX5_skip 11 = .ok (.if_icmp .ge 13, 3) := by decide +kernel
theorem dX5_skip_14 : decode cX5_skip 14 = .ok (.aload_n 0, 1) := by decide +kernel
theorem dX5_skip_15 : decode cX5_skip 15 = .ok (.dup, 1) := by decide +kernel
theorem dX5_skip_16 : decode cX5_skip 16 = .ok (.getfield 26, 3) := by decide +kernel
theorem dX5_skip_19 : decode cX5_skip 19 = .ok (.iconst 1, 1) := by decide +kernel
theorem dX5_skip_20 : decode cX5_skip 20 = .ok (.iadd, 1) := by decide +kernel
theorem dX5_skip_21 : decode cX5_skip 21 = .ok (.putfield 26, 3) := by decide +kernel
theorem dX5_skip_24 : decode cX5_skip 24 = .ok (.return_, 1) := by decide +kernel
theorem dX5_sign_0 : decode cX5_sign 0 = .ok (.aload_n 0, 1) := by decide +kernel
theorem dX5_sign_1 : decode cX5_sign 1 = .ok (.getfield 12, 3) := by decide +kernel
theorem dX5_sign_4 : decode cX5_sign 4 = .ok (.getfield 299, 3) := by decide +kernel
theorem dX5_sign_7 : decode cX5_sign 7 = .ok (.aload_n 0, 1) := by decide +kernel
theorem dX5_sign_8 : decode cX5_sign 8 = .ok (.getfield 26, 3) := by decide +kernel
theorem dX5_sign_11 : decode cX5_sign 11 = .ok (.aaload, 1) := by decide +kernel
theorem dX5_sign_12 : decode cX5_sign 12 = .ok (.areturn, 1) := by decide +kernel
theorem dX5_value_0 : decode cX5_value 0 = .ok (.aload_n 0, 1) := by decide +kernel
theorem dX5_value_1 : decode cX5_value 1 = .ok (.getfield 12, 3) := by decide +kernel
theorem dX5_value_4 : decode cX5_value 4 = .ok (.getfield 303, 3) := by decide +kernel
theorem dX5_value_7 : decode cX5_value 7 = .ok (.aload_n 0, 1) := by decide +kernel
theorem dX5_value_8 : decode cX5_value 8 = .ok (.getfield 26, 3) := by decide +kernel
theorem dX5_value_11 : decode cX5_value 11 = .ok (.laload, 1) := by decide +kernel
theorem dX5_value_12 : decode cX5_value 12 = .ok (.lreturn, 1) := by decide +kernel
theorem dX6_init_0 : decode cX6_init 0 = .ok (.aload_n 0, 1) := by decide +kernel
theorem dX6_init_1 : decode cX6_init 1 = .ok (.invokespecial 3, 3) := by decide +kernel
theorem dX6_init_4 : decode cX6_init 4 = .ok (.aload_n 0, 1) := by decide +kernel
theorem dX6_init_5 : decode cX6_init 5 = .ok (.bipush 8, 2) := by decide +kernel
theorem dX6_init_7 : decode cX6_init 7 = .ok (.anewarray 9, 3) := by decide +kernel
theorem dX6_init_10 : decode cX6_init 10 = .ok (.putfield 11, 3) := by decide +kernel
theorem dX6_init_13 : decode cX6_init 13 = .ok (.iconst 0, 1) := by decide +kernel
theorem dX6_init_14 : decode cX6_init 14 = .ok (.istore_n 1, 1) := by decide +kernel
theorem dX6_init_15 : decode cX6_init 15 = .ok (.iload_n 1, 1) := by decide +kernel
theorem dX6_init_16 : decode cX6_init 16 = .ok (.bipush 8, 2) := by decide +kernel
theorem dX6_init_18 : decode cX6_init 18 = .ok (.if_icmp .ge 22, 3) := by decide +kernel
theorem dX6_init_21 : decode cX6_init 21 = .ok (.aload_n 0, 1) := by decide +kernel
theorem dX6_init_22 : decode cX6_init 22 = .ok (.getfield 11, 3) := by decide +kernel
theorem dX6_init_25 : decode cX6_init 25 = .ok (.iload_n 1, 1) := by decide +kernel
theorem dX6_init_26 : decode cX6_init 26 = .ok (.new 9, 3) := by decide +kernel
theorem dX6_init_29 : decode cX6_init 29 = .ok (.dup, 1) := by decide +kernel
theorem dX6_init_30 : decode cX6_init 30 = .ok (.invokespecial 17, 3) := by decide +kernel
theorem dX6_init_33 : decode cX6_init 33 = .ok (.aastore, 1) := by decide +kernel
theorem dX6_init_34 : decode cX6_init 34 = .ok (.iinc 1 1, 3) := by decide +kernel
theorem dX6_init_37 : decode cX6_init 37 = .ok (.goto (-22), 3) := by decide +kernel
theorem dX6_init_40 : decode cX6_init 40 = .ok (.aload_n 0, 1) := by decide +kernel
theorem dX6_init_41 : decode cX6_init 41 = .ok (.bipush 6, 2) := by decide +kernel
theorem dX6_init_43 : decode cX6_init 43 = .ok (.anewarray 18, 3) := by decide +kernel
theorem dX6_init_46 : decode cX6_init 46 = .ok (.putfield 20, 3) := by decide +kernel
theorem dX6_init_49 : decode cX6_init 49 = .ok (.iconst 0, 1) := by decide +kernel
theorem dX6_init_50 : decode cX6_init 50 = .ok (.istore_n 1, 1) := by decide +kernel
theorem dX6_init_51 : decode cX6_init 51 = .ok (.iload_n 1, 1) := by decide +kernel
theorem dX6_init_52 : decode cX6_init 52 = .ok (.bipush 6, 2) := by decide +kernel
theorem dX6_init_54 : decode cX6_init 54 = .ok (.if_icmp .ge 22, 3) := by decide +kernel
theorem dX6_init_57 : decode cX6_init 57 = .ok (.aload_n 0, 1) := by decide +kernel
theorem dX6_init_58 : decode cX6_init 58 = .ok (.getfield 20, 3) := by decide +kernel
theorem dX6_init_61 : decode cX6_init 61 = .ok (.iload_n 1, 1) := by decide +kernel
theorem dX6_init_62 : decode cX6_init 62 = .ok (.new 18, 3) := by decide +kernel
theorem dX6_init_65 : decode cX6_init 65 = .ok (.dup, 1) := by decide +kernel
theorem dX6_init_66 : decode cX6_init 66 = .ok (.invokespecial 24, 3) := by decide +kernel
theorem dX6_init_69 : decode cX6_init 69 = .ok (.aastore, 1) := by decide +kernel
theorem dX6_init_70 : decode cX6_init 70 = .ok (.iinc 1 1, 3) := by decide +kernel
theorem dX6_init_73 : decode cX6_init 73 = .ok (.goto (-22), 3) := by decide +kernel
theorem dX6_init_76 : decode cX6_init 76 = .ok (.aload_n 0, 1) := by decide +kernel
theorem dX6_init_77 : decode cX6_init 77 = .ok (.bipush 20, 2) := by decide +kernel
theorem dX6_init_79 : decode cX6_init 79 = .ok (.anewarray 25, 3) := by decide +kernel
theorem dX6_init_82 : decode cX6_init 82 = .ok (.putfield 27, 3) := by decide +kernel
theorem dX6_init_85 : decode cX6_init 85 = .ok (.iconst 0, 1) := by decide +kernel
theorem dX6_init_86 : decode cX6_init 86 = .ok (.istore_n 1, 1) := by decide +kernel
theorem dX6_init_87 : decode cX6_init 87 = .ok (.iload_n 1, 1) := by decide +kernel
theorem dX6_init_88 : decode cX6_init 88 = .ok (.bipush 20, 2) := by decide +kernel
theorem dX6_init_90 : decode cX6_init 90 = .ok (.if_icmp .ge 22, 3) := by decide +kernel
theorem dX6_init_93 : decode cX6_init 93 = .ok (.aload_n 0, 1) := by decide +kernel
theorem dX6_init_94 : decode cX6_init 94 = .ok (.getfield 27, 3) := by decide +kernel
theorem dX6_init_97 : decode cX6_init 97 = .ok (.iload_n 1, 1) := by decide +kernel
theorem dX6_init_98 : decode cX6_init 98 = .ok (.new 25, 3) := by decide +kernel
theorem dX6_init_101 : decode cX6_init 101 = .ok (.dup, 1) := by decide +kernel
theorem dX6_init_102 : decode cX6_init 102 = .ok (.invokespecial 31, 3) := by decide +kernel
theorem dX6_init_105 : decode cX6_init 105 = .ok (.aastore, 1) := by decide +kernel
theorem dX6_init_106 : decode cX6_init 106 = .ok (.iinc 1 1, 3) := by decide +kernel
theorem dX6_init_109 : decode cX6_init 109 = .ok (.goto (-22), 3) := by decide +kernel
theorem dX6_init_112 : decode cX6_init 112 = .ok (.aload_n 0, 1) := by decide +kernel
theorem dX6_init_113 : decode cX6_init 113 = .ok (.iconst 0, 1) := by decide +kernel
theorem dX6_init_114 : decode cX6_init 114 = .ok (.putfield 32, 3) := by decide +kernel
theorem dX6_init_117 : decode cX6_init 117 = .ok (.aload_n 0, 1) := by decide +kernel
theorem dX6_init_118 : decode cX6_init 118 = .ok (.iconst 0, 1) := by decide +kernel
theorem dX6_init_119 : decode cX6_init 119 = .ok (.putfield 36, 3) := by decide +kernel
theorem dX6_init_122 : decode cX6_init 122 = .ok (.aload_n 0, 1) := by decide +kernel
theorem dX6_init_123 : decode cX6_init 123 = .ok (.iconst 0, 1) := by decide +kernel
theorem dX6_init_124 : decode cX6_init 124 = .ok (.putfield 39, 3) := by decide +kernel
theorem dX6_init_127 : decode cX6_init 127 = .ok (.aload_n 0, 1) := by decide +kernel
theorem dX6_init_128 : decode cX6_init 128 = .ok (.iconst 0, 1) := by decide +kernel
theorem dX6_init_129 : decode cX6_init 129 = .ok (.putfield 42, 3) := by decide +kernel
theorem dX6_init_132 : decode cX6_init 132 = .ok (.aload_n 0, 1) := by decide +kernel
theorem dX6_init_133 : decode cX6_init 133 = .ok (.iconst 0, 1) := by decide +kernel
theorem dX6_init_134 : decode cX6_init 134 = .ok (.putfield 45, 3) := by decide +kernel
theorem dX6_init_137 : decode cX6_init 137 = .ok (.aload_n 0, 1) := by decide +kernel
theorem dX6_init_138 : decode cX6_init 138 = .ok (.iconst 0, 1) := by decide +kernel
theorem dX6_init_139 : decode cX6_init 139 = .ok (.putfield 48, 3) := by decide +kernel
theorem dX6_init_142 : decode cX6_init 142 = .ok (.return_, 1) := by decide +kernel
theorem dX6_empty_0 : decode cX6_empty 0 = .ok (.aload_n 0, 1) := by decide +kernel
theorem dX6_empty_1 : decode cX6_empty 1 = .ok (.iconst 0, 1) := by decide +kernel
theorem dX6_empty_2 : decode cX6_empty 2 = .ok (.putfield 32, 3) := by decide +kernel
theorem dX6_empty_5 : decode cX6_empty 5 = .ok (.aload_n 0, 1) := by decide +kernel
theorem dX6_empty_6 : decode cX6_empty 6 = .ok (.iconst 0, 1) := by decide +kernel
theorem dX6_empty_7 : decode cX6_empty 7 = .ok (.putfield 36, 3) := by decide +kernel
theorem dX6_empty_10 : decode cX6_empty 10 = .ok (.aload_n 0, 1) := by decide +kernel
theorem dX6_empty_11 : decode cX6_empty 11 = .ok (.iconst 0, 1) := by decide +kernel
theorem dX6_empty_12 : decode cX6_empty 12 = .ok (.putfield 39, 3) := by decide +kernel
theorem dX6_empty_15 : decode cX6_empty 15 = .ok (.aload_n 0, 1) := by decide +kernel
theorem dX6_empty_16 : decode cX6_empty 16 = .ok (.iconst 0, 1) := by decide +kernel
theorem dX6_empty_17 : decode cX6_empty 17 = .ok (.putfield 48, 3) := by decide +kernel
theorem dX6_empty_20 : decode cX6_empty 20 = .ok (.return_, 1) := by decide +kernel
theorem dX6_become_0 : decode cX6_become 0 = .ok (.aload_n 0, 1) := by decide +kernel
theorem dX6_become_1 : decode cX6_become 1 = .ok (.aload_n 1, 1) := by decide +kernel
theorem dX6_become_2 : decode cX6_become 2 = .ok (.getfield 32, 3) := by decide +kernel
theorem dX6_become_5 : decode cX6_become 5 = .ok (.putfield 32, 3) := by decide +kernel
theorem dX6_become_8 : decode cX6_become 8 = .ok (.iconst 0, 1) := by decide +kernel
theorem dX6_become_9 : decode cX6_become 9 = .ok (.istore_n 2, 1) := by decide +kernel
theorem dX6_become_10 : decode cX6_become 10 = .ok (.iload_n 2, 1) := by decide +kernel
theorem dX6_become_11 : decode cX6_become 11 = .ok (.aload_n 0, 1) := by decide +kernel
theorem dX6_become_12 : decode cX6_become 12 = .ok (.getfield 32, 3) := by decide +kernel
theorem dX6_become_15 : decode cX6_become 15 = .ok (.if_icmp .ge 24, 3) := by decide +kernel
theorem dX6_become_18 : decode cX6_become 18 = .ok (.aload_n 0, 1) := by decide +kernel
theorem dX6_become_19 : decode cX6_become 19 = .ok (.getfield 11, 3) := by decide +kernel
theorem dX6_become_22 : decode cX6_become 22 = .ok (.iload_n 2, 1) := by decide +kernel
theorem dX6_become_23 : decode cX6_become 23 = .ok (.aaload, 1) := by decide +kernel
theorem dX6_become_24 : decode cX6_become 24 = .ok (.aload_n 1, 1) := by decide +kernel
theorem dX6_become_25 : decode cX6_become 25 = .ok (.getfield 11, 3) := by decide +kernel
theorem dX6_become_28 : decode cX6_become 28 = .ok (.iload_n 2, 1) := by decide +kernel
theorem dX6_become_29 : decode cX6_become 29 = .ok (.aaload, 1) := by decide +kernel
theorem dX6_become_30 : decode cX6_become 30 = .ok (.invokevirtual 51, 3) := by decide +kernel
theorem dX6_become_33 : decode cX6_become 33 = .ok (.iinc 2 1, 3) := by decide +kernel
theorem dX6_become_36 : decode cX6_become 36 = .ok (.goto (-26), 3) := by decide +kernel
theorem dX6_become_39 : decode cX6_become 39 = .ok (.aload_n 0, 1) := by decide +kernel
theorem dX6_become_40 : decode cX6_become 40 = .ok (.aload_n 1, 1) := by decide +kernel
theorem dX6_become_41 : decode cX6_become 41 = .ok (.getfield 36, 3) := by decide +kernel
theorem dX6_become_44 : decode cX6_become 44 = .ok (.putfield 36, 3) := by decide +kernel
theorem dX6_become_47 : decode cX6_become 47 = .ok (.iconst 0, 1) := by decide +kernel
theorem dX6_become_48 : decode cX6_become 48 = .ok (.istore_n 2, 1) := by decide +kernel
theorem dX6_become_49 : decode cX6_become 49 = .ok (.iload_n 2, 1) := by decide +kernel
theorem dX6_become_50 : decode cX6_become 50 = .ok (.aload_n 0, 1) := by decide +kernel
theorem dX6_become_51 : decode cX6_become 51 = .ok (.getfield 36, 3) := by decide +kernel
theorem dX6_become_54 : decode cX6_become 54 = .ok (.if_icmp .ge 24, 3) := by decide +kernel
theorem dX6_become_57 : decode cX6_become 57 = .ok (.aload_n 0, 1) := by decide +kernel
theorem dX6_become_58 : decode cX6_become 58 = .ok (.getfield 20, 3) := by decide +kernel
theorem dX6_become_61 : decode cX6_become 61 = .ok (.iload_n 2, 1) := by decide +kernel
theorem dX6_become_62 : decode cX6_become 62 = .ok (.aaload, 1) := by decide +kernel
theorem dX6_become_63 : decode cX6_become 63 = .ok (.aload_n 1, 1) := by decide +kernel
theorem dX6_become_64 : decode cX6_become 64 = .ok (.getfield 20, 3) := by decide +kernel
theorem dX6_become_67 : decode cX6_become 67 = .ok (.iload_n 2, 1) := by decide +kernel
theorem dX6_become_68 : decode cX6_become 68 = .ok (.aaload, 1) := by decide +kernel
theorem dX6_become_69 : decode cX6_become 69 = .ok (.invokevirtual 55, 3) := by decide +kernel
theorem dX6_become_72 : decode cX6_become 72 = .ok (.iinc 2 1, 3) := by decide +kernel
theorem dX6_become_75 : decode cX6_become 75 = .ok (.goto (-26), 3) := by decide +kernel
theorem dX6_become_78 : decode cX6_become 78 = .ok (.aload_n 0, 1) := by decide +kernel
theorem dX6_become_79 : decode cX6_become 79 = .ok (.aload_n 1, 1) := by decide +kernel
theorem dX6_become_80 : decode cX6_become 80 = .ok (.getfield 39, 3) := by decide +kernel
theorem dX6_become_83 : decode cX6_become 83 = .ok (.putfield 39, 3) := by decide +kernel
theorem dX6_become_86 : decode cX6_become 86 = .ok (.iconst 0, 1) := by decide +kernel
theorem dX6_become_87 : decode cX6_become 87 = .ok (.istore_n 2, 1) := by decide +kernel
theorem dX6_become_88 : decode cX6_become 88 = .ok (.iload_n 2, 1) := by decide +kernel
theorem dX6_become_89 : decode cX6_become 89 = .ok (.aload_n 0, 1) := by decide +kernel
theorem dX6_become_90 : decode cX6_become 90 = .ok (.getfield 39, 3) := by decide +kernel
theorem dX6_become_93 : decode cX6_become 93 = .ok (.if_icmp .ge 24, 3) := by decide +kernel
theorem dX6_become_96 : decode cX6_become 96 = .ok (.aload_n 0, 1) := by decide +kernel
theorem dX6_become_97 : decode cX6_become 97 = .ok (.getfield 27, 3) := by decide +kernel
theorem dX6_become_100 : decode cX6_become 100 = .ok (.iload_n 2, 1) := by decide +kernel
theorem dX6_become_101 : decode cX6_become 101 = .ok (.aaload, 1) := by decide +kernel
theorem dX6_become_102 : decode cX6_become 102 = .ok (.aload_n 1, 1) := by decide +kernel
theorem dX6_become_103 : decode cX6_become 103 = .ok (.getfield 27, 3) := by decide +kernel
theorem dX6_become_106 : decode cX6_become 106 = .ok (.iload_n 2, 1) := by decide +kernel
theorem dX6_become_107 : decode cX6_become 107 = .ok (.aaload, 1) := by decide +kernel
theorem dX6_become_108 : decode cX6_become 108 = .ok (.invokevirtual 58, 3) := by decide +kernel
theorem dX6_become_111 : decode cX6_become 111 = .ok (.iinc 2 1, 3) := by decide +kernel
theorem dX6_become_114 : decode cX6_become 114 = .ok (.goto (-26), 3) := by decide +kernel
theorem dX6_become_117 : decode cX6_become 117 = .ok (.aload_n 0, 1) := by decide +kernel
theorem dX6_become_118 : decode cX6_become 118 = .ok (.aload_n 1, 1) := by decide +kernel
theorem dX6_become_119 : decode cX6_become 119 = .ok (.getfield 42, 3) := by decide +kernel
theorem dX6_become_122 : decode cX6_become 122 = .ok (.putfield 42, 3) := by decide +kernel
theorem dX6_become_125 : decode cX6_become 125 = .ok (.aload_n 0, 1) := by decide +kernel
theorem dX6_become_126 : decode cX6_become 126 = .ok (.aload_n 1, 1) := by decide +kernel
theorem dX6_become_127 : decode cX6_become 127 = .ok (.getfield 45, 3) := by decide +kernel
theorem dX6_become_130 : decode cX6_become 130 = .ok (.putfield 45, 3) := by decide +kernel
theorem dX6_become_133 : decode cX6_become 133 = .ok (.aload_n 0, 1) := by decide +kernel
theorem dX6_become_134 : decode cX6_become 134 = .ok (.aload_n 1, 1) := by decide +kernel
theorem dX6_become_135 : decode cX6_become 135 = .ok (.getfield 48, 3) := by decide +kernel
theorem dX6_become_138 : decode cX6_become 138 = .ok (.putfield 48, 3) := by decide +kernel
theorem dX6_become_141 : decode cX6_become 141 = .ok (.return_, 1) := by decide +kernel
theorem dX6_addStretch_0 : decode cX6_addStretch 0 = .ok (.aload_n 0, 1) := by decide +kernel
theorem dX6_addStretch_1 : decode cX6_addStretch 1 = .ok (.getfield 32, 3) := by decide +kernel
theorem dX6_addStretch_4 : decode cX6_addStretch 4 = .ok (.bipush 8, 2) := by decide +kernel
theorem dX6_addStretch_6 : decode cX6_addStretch 6 = .ok (.if_icmp .ge 31, 3) := by decide +kernel
theorem dX6_addStretch_9 : decode cX6_addStretch 9 = .ok (.aload_n 0, 1) := by decide +kernel
theorem dX6_addStretch_10 : decode cX6_addStretch 10 = .ok (.getfield 11, 3) := by decide +kernel
theorem dX6_addStretch_13 : decode cX6_addStretch 13 = .ok (.aload_n 0, 1) := by decide +kernel
theorem dX6_addStretch_14 : decode cX6_addStretch 14 = .ok (.getfield 32, 3) := by decide +kernel
theorem dX6_addStretch_17 : decode cX6_addStretch 17 = .ok (.aaload, 1) := by decide +kernel
theorem dX6_addStretch_18 : decode cX6_addStretch 18 = .ok (.lload_n 1, 1) := by decide +kernel
theorem dX6_addStretch_19 : decode cX6_addStretch 19 = .ok (.iload_n 3, 1) := by decide +kernel
theorem dX6_addStretch_20 : decode cX6_addStretch 20 = .ok (.iload 4, 2) := by decide +kernel
theorem dX6_addStretch_22 : decode cX6_addStretch 22 = .ok (.iload 5, 2) := by decide +kernel
theorem dX6_addStretch_24 : decode cX6_addStretch 24 = .ok (.invokevirtual 61, 3) := by decide +kernel
theorem dX6_addStretch_27 : decode cX6_addStretch 27 = .ok (.aload_n 0, 1) := by decide +kernel
theorem dX6_addStretch_28 : decode cX6_addStretch 28 = .ok (.dup, 1) := by decide +kernel
theorem dX6_addStretch_29 : decode cX6_addStretch 29 = .ok (.getfield 32, 3) := by decide +kernel
theorem dX6_addStretch_32 : decode cX6_addStretch 32 = .ok (.iconst 1, 1) := by decide +kernel
theorem dX6_addStretch_33 : decode cX6_addStretch 33 = .ok (.iadd, 1) := by decide +kernel
theorem dX6_addStretch_34 : decode cX6_addStretch 34 = .ok (.putfield 32, 3) := by decide +kernel
theorem dX6_addStretch_37 : decode cX6_addStretch 37 = .ok (.return_, 1) := by decide +kernel
theorem dX6_addHorse_0 : decode cX6_addHorse 0 = .ok (.aload_n 0, 1) := by decide +kernel
theorem dX6_addHorse_1 : decode cX6_addHorse 1 = .ok (.getfield 36, 3) := by decide +kernel
theorem dX6_addHorse_4 : decode cX6_addHorse 4 = .ok (.bipush 6, 2) := by decide +kernel
theorem dX6_addHorse_6 : decode cX6_addHorse 6 = .ok (.if_icmp .ge 33, 3) := by decide +kernel
theorem dX6_addHorse_9 : decode cX6_addHorse 9 = .ok (.aload_n 0, 1) := by decide +kernel
theorem dX6_addHorse_10 : decode cX6_addHorse 10 = .ok (.getfield 20, 3) := by decide +kernel
theorem dX6_addHorse_13 : decode cX6_addHorse 13 = .ok (.aload_n 0, 1) := by decide +kernel
theorem dX6_addHorse_14 : decode cX6_addHorse 14 = .ok (.getfield 36, 3) := by decide +kernel
theorem dX6_addHorse_17 : decode cX6_addHorse 17 = .ok (.aaload, 1) := by decide +kernel
theorem dX6_addHorse_18 : decode cX6_addHorse 18 = .ok (.lload_n 1, 1) := by decide +kernel
theorem dX6_addHorse_19 : decode cX6_addHorse 19 = .ok (.iload_n 3, 1) := by decide +kernel
theorem dX6_addHorse_20 : decode cX6_addHorse 20 = .ok (.iload 4, 2) := by decide +kernel
theorem dX6_addHorse_22 : decode cX6_addHorse 22 = .ok (.iload 5, 2) := by decide +kernel
theorem dX6_addHorse_24 : decode cX6_addHorse 24 = .ok (.iload 6, 2) := by decide +kernel
theorem dX6_addHorse_26 : decode cX6_addHorse 26 = .ok (.invokevirtual 65, 3) := by decide +kernel
theorem dX6_addHorse_29 : decode cX6_addHorse 29 = .ok (.aload_n 0, 1) := by decide +kernel
theorem dX6_addHorse_30 : decode cX6_addHorse 30 = .ok (.dup, 1) := by decide +kernel
theorem dX6_addHorse_31 : decode cX6_addHorse 31 = .ok (.getfield 36, 3) := by decide +kernel
theorem dX6_addHorse_34 : decode cX6_addHorse 34 = .ok (.iconst 1, 1) := by decide +kernel
theorem dX6_addHorse_35 : decode cX6_addHorse 35 = .ok (.iadd, 1) := by decide +kernel
theorem dX6_addHorse_36 : decode cX6_addHorse 36 = .ok (.putfield 36, 3) := by decide +kernel
theorem dX6_addHorse_39 : decode cX6_addHorse 39 = .ok (.return_, 1) := by decide +kernel
theorem dX6_addLog_0 : decode cX6_addLog 0 = .ok (.aload_n 0, 1) := by decide +kernel
theorem dX6_addLog_1 : decode cX6_addLog 1 = .ok (.getfield 39, 3) := by decide +kernel
theorem dX6_addLog_4 : decode cX6_addLog 4 = .ok (.bipush 20, 2) := by decide +kernel
theorem dX6_addLog_6 : decode cX6_addLog 6 = .ok (.if_icmp .ge 27, 3) := by decide +kernel
theorem dX6_addLog_9 : decode cX6_addLog 9 = .ok (.aload_n 0, 1) := by decide +kernel
theorem dX6_addLog_10 : decode cX6_addLog 10 = .ok (.getfield 27, 3) := by decide +kernel
theorem dX6_addLog_13 : decode cX6_addLog 13 = .ok (.aload_n 0, 1) := by decide +kernel
theorem dX6_addLog_14 : decode cX6_addLog 14 = .ok (.getfield 39, 3) := by decide +kernel
theorem dX6_addLog_17 : decode cX6_addLog 17 = .ok (.aaload, 1) := by decide +kernel
theorem dX6_addLog_18 : decode cX6_addLog 18 = .ok (.lload_n 1, 1) := by decide +kernel
theorem dX6_addLog_19 : decode cX6_addLog 19 = .ok (.iload_n 3, 1) := by decide +kernel
theorem dX6_addLog_20 : decode cX6_addLog 20 = .ok (.invokevirtual 68, 3) := by decide +kernel
theorem dX6_addLog_23 : decode cX6_addLog 23 = .ok (.aload_n 0, 1) := by decide +kernel
theorem dX6_addLog_24 : decode cX6_addLog 24 = .ok (.dup, 1) := by decide +kernel
theorem dX6_addLog_25 : decode cX6_addLog 25 = .ok (.getfield 39, 3) := by decide +kernel
theorem dX6_addLog_28 : decode cX6_addLog 28 = .ok (.iconst 1, 1) := by decide +kernel
theorem dX6_addLog_29 : decode cX6_addLog 29 = .ok (.iadd, 1) := by decide +kernel
theorem dX6_addLog_30 : decode cX6_addLog 30 = .ok (.putfield 39, 3) := by decide +kernel
theorem dX6_addLog_33 : decode cX6_addLog 33 = .ok (.return_, 1) := by decide +kernel
theorem dX6_findStretch_0 : decode cX6_findStretch 0 = .ok (.iconst 0, 1) := by decide +kernel
theorem dX6_findStretch_1 : decode cX6_findStretch 1 = .ok (.istore_n 3, 1) := by decide +kernel
theorem dX6_findStretch_2 : decode cX6_findStretch 2 = .ok (.iload_n 3, 1) := by decide +kernel
theorem dX6_findStretch_3 : decode cX6_findStretch 3 = .ok (.aload_n 0, 1) := by decide +kernel
theorem dX6_findStretch_4 : decode cX6_findStretch 4 = .ok (.getfield 32, 3) := by decide +kernel
theorem dX6_findStretch_7 : decode cX6_findStretch 7 = .ok (.if_icmp .ge 25, 3) := by decide +kernel
theorem dX6_findStretch_10 : decode cX6_findStretch 10 = .ok (.aload_n 0, 1) := by decide +kernel
theorem dX6_findStretch_11 : decode cX6_findStretch 11 = .ok (.getfield 11, 3) := by decide +kernel
theorem dX6_findStretch_14 : decode cX6_findStretch 14 = .ok (.iload_n 3, 1) := by decide +kernel
theorem dX6_findStretch_15 : decode cX6_findStretch 15 = .ok (.aaload, 1) := by decide +kernel
theorem dX6_findStretch_16 : decode cX6_findStretch 16 = .ok (.getfield 71, 3) := by decide +kernel
theorem dX6_findStretch_19 : decode cX6_findStretch 19 = .ok (.lload_n 1, 1) := by decide +kernel
theorem dX6_findStretch_20 : decode cX6_findStretch 20 = .ok (.lcmp, 1) := by decide +kernel
theorem dX6_findStretch_21 : decode cX6_findStretch 21 = .ok (.ifCond .ne 5, 3) := by decide +kernel
theorem dX6_findStretch_24 : decode cX6_findStretch 24 = .ok (.iload_n 3, 1) := by decide +kernel
theorem dX6_findStretch_25 : decode cX6_findStretch 25 = .ok (.ireturn, 1) := by decide +kernel
theorem dX6_findStretch_26 : decode cX6_findStretch 26 = .ok (.iinc 3 1, 3) := by decide +kernel
theorem dX6_findStretch_29 : decode cX6_findStretch 29 = .ok (.goto (-27), 3) := by decide +kernel
theorem dX6_findStretch_32 : decode cX6_findStretch 32 = .ok (.iconst (-1), 1) := by decide +kernel
theorem dX6_findStretch_33 : decode cX6_findStretch 33 = .ok (.ireturn, 1) := by decide +kernel
theorem dX6_findHorse_0 : decode cX6_findHorse 0 = .ok (.iconst 0, 1) := by decide +kernel
theorem dX6_findHorse_1 : decode cX6_findHorse 1 = .ok (.istore_n 3, 1) := by decide +kernel
theorem dX6_findHorse_2 : decode cX6_findHorse 2 = .ok (.iload_n 3, 1) := by decide +kernel
theorem dX6_findHorse_3 : decode cX6_findHorse 3 = .ok (.aload_n 0, 1) := by decide +kernel
theorem dX6_findHorse_4 : decode cX6_findHorse 4 = .ok (.getfield 36, 3) := by decide +kernel
theorem dX6_findHorse_7 : decode cX6_findHorse 7 = .ok (.if_icmp .ge 25, 3) := by decide +kernel
theorem dX6_findHorse_10 : decode cX6_findHorse 10 = .ok (.aload_n 0, 1) := by decide +kernel
theorem dX6_findHorse_11 : decode cX6_findHorse 11 = .ok (.getfield 20, 3) := by decide +kernel
theorem dX6_findHorse_14 : decode cX6_findHorse 14 = .ok (.iload_n 3, 1) := by decide +kernel
theorem dX6_findHorse_15 : decode cX6_findHorse 15 = .ok (.aaload, 1) := by decide +kernel
theorem dX6_findHorse_16 : decode cX6_findHorse 16 = .ok (.getfield 75, 3) := by decide +kernel
theorem dX6_findHorse_19 : decode cX6_findHorse 19 = .ok (.lload_n 1, 1) := by decide +kernel
theorem dX6_findHorse_20 : decode cX6_findHorse 20 = .ok (.lcmp, 1) := by decide +kernel
theorem dX6_findHorse_21 : decode cX6_findHorse 21 = .ok (.ifCond .ne 5, 3) := by decide +kernel
theorem dX6_findHorse_24 : decode cX6_findHorse 24 = .ok (.iload_n 3, 1) := by decide +kernel
theorem dX6_findHorse_25 : decode cX6_findHorse 25 = .ok (.ireturn, 1) := by decide +kernel
theorem dX6_findHorse_26 : decode cX6_findHorse 26 = .ok (.iinc 3 1, 3) := by decide +kernel
theorem dX6_findHorse_29 : decode cX6_findHorse 29 = .ok (.goto (-27), 3) := by decide +kernel
theorem dX6_findHorse_32 : decode cX6_findHorse 32 = .ok (.iconst (-1), 1) := by decide +kernel
theorem dX6_findHorse_33 : decode cX6_findHorse 33 = .ok (.ireturn, 1) := by decide +kernel
theorem dX6_findLog_0 : decode cX6_findLog 0 = .ok (.iconst 0, 1) := by decide +kernel
theorem dX6_findLog_1 : decode cX6_findLog 1 = .ok (.istore_n 3, 1) := by decide +kernel
theorem dX6_findLog_2 : decode cX6_findLog 2 = .ok (.iload_n 3, 1) := by decide +kernel
theorem dX6_findLog_3 : decode cX6_findLog 3 = .ok (.aload_n 0, 1) := by decide +kernel
theorem dX6_findLog_4 : decode cX6_findLog 4 = .ok (.getfield 39, 3) := by decide +kernel
theorem dX6_findLog_7 : decode cX6_findLog 7 = .ok (.if_icmp .ge 25, 3) := by decide +kernel
theorem dX6_findLog_10 : decode cX6_findLog 10 = .ok (.aload_n 0, 1) := by decide +kernel
theorem dX6_findLog_11 : decode cX6_findLog 11 = .ok (.getfield 27, 3) := by decide +kernel
theorem dX6_findLog_14 : decode cX6_findLog 14 = .ok (.iload_n 3, 1) := by decide +kernel
theorem dX6_findLog_15 : decode cX6_findLog 15 = .ok (.aaload, 1) := by decide +kernel
theorem dX6_findLog_16 : decode cX6_findLog 16 = .ok (.getfield 76, 3) := by decide +kernel
theorem dX6_findLog_19 : decode cX6_findLog 19 = .ok (.lload_n 1, 1) := by decide +kernel
theorem dX6_findLog_20 : decode cX6_findLog 20 = .ok (.lcmp, 1) := by decide +kernel
theorem dX6_findLog_21 : decode cX6_findLog 21 = .ok (.ifCond .ne 5, 3) := by decide +kernel
theorem dX6_findLog_24 : decode cX6_findLog 24 = .ok (.iload_n 3, 1) := by decide +kernel
theorem dX6_findLog_25 : decode cX6_findLog 25 = .ok (.ireturn, 1) := by decide +kernel
theorem dX6_findLog_26 : decode cX6_findLog 26 = .ok (.iinc 3 1, 3) := by decide +kernel
theorem dX6_findLog_29 : decode cX6_findLog 29 = .ok (.goto (-27), 3) := by decide +kernel
theorem dX6_findLog_32 : decode cX6_findLog 32 = .ok (.iconst (-1), 1) := by decide +kernel
theorem dX6_findLog_33 : decode cX6_findLog 33 = .ok (.ireturn, 1) := by decide +kernel
theorem dX6_hasStretch_0 : decode cX6_hasStretch 0 = .ok (.iload_n 1, 1) := by decide +kernel
theorem dX6_hasStretch_1 : decode cX6_hasStretch 1 = .ok (.ifCond .lt 15, 3) := by decide +kernel
theorem dX6_hasStretch_4 : decode cX6_hasStretch 4 = .ok (.iload_n 1, 1) := by decide +kernel
theorem dX6_hasStretch_5 : decode cX6_hasStretch 5 = .ok (.aload_n 0, 1) := by decide +kernel
theorem dX6_hasStretch_6 : decode cX6_hasStretch 6 = .ok (.getfield 32, 3) := by decide +kernel
theorem dX6_hasStretch_9 : decode cX6_hasStretch 9 = .ok (.if_icmp .ge 7, 3) := by decide +kernel
theorem dX6_hasStretch_12 : decode cX6_hasStretch 12 = .ok (.iconst 1, 1) := by decide +kernel
theorem dX6_hasStretch_13 : decode cX6_hasStretch 13 = .ok (.goto 4, 3) := by decide +kernel
theorem dX6_hasStretch_16 : decode cX6_hasStretch 16 = .ok (.iconst 0, 1) := by decide +kernel
theorem dX6_hasStretch_17 : decode cX6_hasStretch 17 = .ok (.ireturn, 1) := by decide +kernel
theorem dX6_hasHorse_0 : decode cX6_hasHorse 0 = .ok (.iload_n 1, 1) := by decide +kernel
theorem dX6_hasHorse_1 : decode cX6_hasHorse 1 = .ok (.ifCond .lt 15, 3) := by decide +kernel
theorem dX6_hasHorse_4 : decode cX6_hasHorse 4 = .ok (.iload_n 1, 1) := by decide +kernel
theorem dX6_hasHorse_5 : decode cX6_hasHorse 5 = .ok (.aload_n 0, 1) := by decide +kernel
theorem dX6_hasHorse_6 : decode cX6_hasHorse 6 = .ok (.getfield 36, 3) := by decide +kernel
theorem dX6_hasHorse_9 : decode cX6_hasHorse 9 = .ok (.if_icmp .ge 7, 3) := by decide +kernel
theorem dX6_hasHorse_12 : decode cX6_hasHorse 12 = .ok (.iconst 1, 1) := by decide +kernel
theorem dX6_hasHorse_13 : decode cX6_hasHorse 13 = .ok (.goto 4, 3) := by decide +kernel
theorem dX6_hasHorse_16 : decode cX6_hasHorse 16 = .ok (.iconst 0, 1) := by decide +kernel
theorem dX6_hasHorse_17 : decode cX6_hasHorse 17 = .ok (.ireturn, 1) := by decide +kernel
theorem dX6_total_0 : decode cX6_total 0 = .ok (.iload_n 1, 1) := by decide +kernel
theorem dX6_total_1 : decode cX6_total 1 = .ok (.tableswitch 124 0 10 #[59, 64, 69, 74, 79, 84, 90, 96, 102, 108, 119], 59) := by decide +kernel
theorem dX6_total_60 : decode cX6_total 60 = .ok (.aload_n 0, 1) := by decide +kernel
theorem dX6_total_61 : decode cX6_total 61 = .ok (.getfield 42, 3) := by decide +kernel
theorem dX6_total_64 : decode cX6_total 64 = .ok (.ireturn, 1) := by decide +kernel
theorem dX6_total_65 : decode cX6_total 65 = .ok (.aload_n 0, 1) := by decide +kernel
theorem dX6_total_66 : decode cX6_total 66 = .ok (.getfield 45, 3) := by decide +kernel
theorem dX6_total_69 : decode cX6_total 69 = .ok (.ireturn, 1) := by decide +kernel
theorem dX6_total_70 : decode cX6_total 70 = .ok (.aload_n 0, 1) := by decide +kernel
theorem dX6_total_71 : decode cX6_total 71 = .ok (.getfield 32, 3) := by decide +kernel
theorem dX6_total_74 : decode cX6_total 74 = .ok (.ireturn, 1) := by decide +kernel
theorem dX6_total_75 : decode cX6_total 75 = .ok (.aload_n 0, 1) := by decide +kernel
theorem dX6_total_76 : decode cX6_total 76 = .ok (.getfield 36, 3) := by decide +kernel
theorem dX6_total_79 : decode cX6_total 79 = .ok (.ireturn, 1) := by decide +kernel
theorem dX6_total_80 : decode cX6_total 80 = .ok (.aload_n 0, 1) := by decide +kernel
theorem dX6_total_81 : decode cX6_total 81 = .ok (.getfield 39, 3) := by decide +kernel
theorem dX6_total_84 : decode cX6_total 84 = .ok (.ireturn, 1) := by decide +kernel
theorem dX6_total_85 : decode cX6_total 85 = .ok (.aload_n 0, 1) := by decide +kernel
theorem dX6_total_86 : decode cX6_total 86 = .ok (.iconst 0, 1) := by decide +kernel
theorem dX6_total_87 : decode cX6_total 87 = .ok (.invokevirtual 77, 3) := by decide +kernel
theorem dX6_total_90 : decode cX6_total 90 = .ok (.ireturn, 1) := by decide +kernel
theorem dX6_total_91 : decode cX6_total 91 = .ok (.aload_n 0, 1) := by decide +kernel
theorem dX6_total_92 : decode cX6_total 92 = .ok (.iconst 3, 1) := by decide +kernel
theorem dX6_total_93 : decode cX6_total 93 = .ok (.invokevirtual 77, 3) := by decide +kernel
theorem dX6_total_96 : decode cX6_total 96 = .ok (.ireturn, 1) := by decide +kernel
theorem dX6_total_97 : decode cX6_total 97 = .ok (.aload_n 0, 1) := by decide +kernel
theorem dX6_total_98 : decode cX6_total 98 = .ok (.iconst 3, 1) := by decide +kernel
theorem dX6_total_99 : decode cX6_total 99 = .ok (.invokevirtual 81, 3) := by decide +kernel
theorem dX6_total_102 : decode cX6_total 102 = .ok (.ireturn, 1) := by decide +kernel
theorem dX6_total_103 : decode cX6_total 103 = .ok (.aload_n 0, 1) := by decide +kernel
theorem dX6_total_104 : decode cX6_total 104 = .ok (.iconst 2, 1) := by decide +kernel
theorem dX6_total_105 : decode cX6_total 105 = .ok (.invokevirtual 81, 3) := by decide +kernel
theorem dX6_total_108 : decode cX6_total 108 = .ok (.ireturn, 1) := by decide +kernel
theorem dX6_total_109 : decode cX6_total 109 = .ok (.aload_n 0, 1) := by decide +kernel
theorem dX6_total_110 : decode cX6_total 110 = .ok (.getfield 36, 3) := by decide +kernel
theorem dX6_total_113 : decode cX6_total 113 = .ok (.aload_n 0, 1) := by decide +kernel
theorem dX6_total_114 : decode cX6_total 114 = .ok (.iconst (-1), 1) := by decide +kernel
theorem dX6_total_115 : decode cX6_total 115 = .ok (.invokevirtual 84, 3) := by decide +kernel
theorem dX6_total_118 : decode cX6_total 118 = .ok (.isub, 1) := by decide +kernel
theorem dX6_total_119 : decode cX6_total 119 = .ok (.ireturn, 1) := by decide +kernel
theorem dX6_total_120 : decode cX6_total 120 = .ok (.aload_n 0, 1) := by decide +kernel
theorem dX6_total_121 : decode cX6_total 121 = .ok (.invokevirtual 87, 3) := by decide +kernel
theorem dX6_total_124 : decode cX6_total 124 = .ok (.ireturn, 1) := by decide +kernel
theorem dX6_total_125 : decode cX6_total 125 = .ok (.aload_n 0, 1) := by decide +kernel
theorem dX6_total_126 : decode cX6_total 126 = .ok (.getfield 48, 3) := by decide +kernel
theorem dX6_total_129 : decode cX6_total 129 = .ok (.ireturn, 1) := by decide +kernel
theorem dX6_stretchFact_0 : decode cX6_stretchFact 0 = .ok (.aload_n 0, 1) := by decide +kernel
theorem dX6_stretchFact_1 : decode cX6_stretchFact 1 = .ok (.iload_n 1, 1) := by decide +kernel
theorem dX6_stretchFact_2 : decode cX6_stretchFact 2 = .ok (.invokevirtual 91, 3) := by decide +kernel
theorem dX6_stretchFact_5 : decode cX6_stretchFact 5 = .ok (.ifCond .ne 5, 3) := by decide +kernel
theorem dX6_stretchFact_8 : decode cX6_stretchFact 8 = .ok (.iconst 0, 1) := by decide +kernel
theorem dX6_stretchFact_9 : decode cX6_stretchFact 9 = .ok (.ireturn, 1) := by decide +kernel
theorem dX6_stretchFact_10 : decode cX6_stretchFact 10 = .ok (.aload_n 0, 1) := by decide +kernel
theorem dX6_stretchFact_11 : decode cX6_stretchFact 11 = .ok (.getfield 11, 3) := by decide +kernel
theorem dX6_stretchFact_14 : decode cX6_stretchFact 14 = .ok (.iload_n 1, 1) := by decide +kernel
theorem dX6_stretchFact_15 : decode cX6_stretchFact 15 = .ok (.aaload, 1) := by decide +kernel
theorem dX6_stretchFact_16 : decode cX6_stretchFact 16 = .ok (.astore_n 3, 1) := by decide +kernel
theorem dX6_stretchFact_17 : decode cX6_stretchFact 17 = .ok (.iload_n 2, 1) := by decide +kernel
theorem dX6_stretchFact_18 : decode cX6_stretchFact 18 = .ok (.tableswitch 51 0 3 #[30, 35, 40, 45], 30) := by decide +kernel
theorem dX6_stretchFact_48 : decode cX6_stretchFact 48 = .ok (.aload_n 3, 1) := by decide +kernel
theorem dX6_stretchFact_49 : decode cX6_stretchFact 49 = .ok (.getfield 95, 3) := by decide +kernel
theorem dX6_stretchFact_52 : decode cX6_stretchFact 52 = .ok (.ireturn, 1) := by decide +kernel
theorem dX6_stretchFact_53 : decode cX6_stretchFact 53 = .ok (.aload_n 3, 1) := by decide +kernel
theorem dX6_stretchFact_54 : decode cX6_stretchFact 54 = .ok (.getfield 98, 3) := by decide +kernel
theorem dX6_stretchFact_57 : decode cX6_stretchFact 57 = .ok (.ireturn, 1) := by decide +kernel
theorem dX6_stretchFact_58 : decode cX6_stretchFact 58 = .ok (.aload_n 3, 1) := by decide +kernel
theorem dX6_stretchFact_59 : decode cX6_stretchFact 59 = .ok (.getfield 101, 3) := by decide +kernel
theorem dX6_stretchFact_62 : decode cX6_stretchFact 62 = .ok (.ireturn, 1) := by decide +kernel
theorem dX6_stretchFact_63 : decode cX6_stretchFact 63 = .ok (.aload_n 0, 1) := by decide +kernel
theorem dX6_stretchFact_64 : decode cX6_stretchFact 64 = .ok (.iload_n 1, 1) := by decide +kernel
theorem dX6_stretchFact_65 : decode cX6_stretchFact 65 = .ok (.invokevirtual 84, 3) := by decide +kernel
theorem dX6_stretchFact_68 : decode cX6_stretchFact 68 = .ok (.ireturn, 1) := by decide +kernel
theorem dX6_stretchFact_69 : decode cX6_stretchFact 69 = .ok (.aload_n 0, 1) := by decide +kernel
theorem dX6_stretchFact_70 : decode cX6_stretchFact 70 = .ok (.iload_n 1, 1) := by decide +kernel
theorem dX6_stretchFact_71 : decode cX6_stretchFact 71 = .ok (.invokevirtual 104, 3) := by decide +kernel
theorem dX6_stretchFact_74 : decode cX6_stretchFact 74 = .ok (.ireturn, 1) := by decide +kernel
theorem dX6_horseFact_0 : decode cX6_horseFact 0 = .ok (.aload_n 0, 1) := by decide +kernel
theorem dX6_horseFact_1 : decode cX6_horseFact 1 = .ok (.iload_n 1, 1) := by decide +kernel
theorem dX6_horseFact_2 : decode cX6_horseFact 2 = .ok (.invokevirtual 107, 3) := by decide +kernel
theorem dX6_horseFact_5 : decode cX6_horseFact 5 = .ok (.ifCond .ne 5, 3) := by decide +kernel
theorem dX6_horseFact_8 : decode cX6_horseFact 8 = .ok (.iconst 0, 1) := by decide +kernel
theorem dX6_horseFact_9 : decode cX6_horseFact 9 = .ok (.ireturn, 1) := by decide +kernel
theorem dX6_horseFact_10 : decode cX6_horseFact 10 = .ok (.aload_n 0, 1) := by decide +kernel
theorem dX6_horseFact_11 : decode cX6_horseFact 11 = .ok (.getfield 20, 3) := by decide +kernel
theorem dX6_horseFact_14 : decode cX6_horseFact 14 = .ok (.iload_n 1, 1) := by decide +kernel
theorem dX6_horseFact_15 : decode cX6_horseFact 15 = .ok (.aaload, 1) := by decide +kernel
theorem dX6_horseFact_16 : decode cX6_horseFact 16 = .ok (.astore_n 3, 1) := by decide +kernel
theorem dX6_horseFact_17 : decode cX6_horseFact 17 = .ok (.iload_n 2, 1) := by decide +kernel
theorem dX6_horseFact_18 : decode cX6_horseFact 18 = .ok (.tableswitch 112 0 8 #[50, 55, 60, 65, 78, 83, 96, 101, 107], 50) := by decide +kernel
theorem dX6_horseFact_68 : decode cX6_horseFact 68 = .ok (.aload_n 3, 1) := by decide +kernel
theorem dX6_horseFact_69 : decode cX6_horseFact 69 = .ok (.getfield 110, 3) := by decide +kernel
theorem dX6_horseFact_72 : decode cX6_horseFact 72 = .ok (.ireturn, 1) := by decide +kernel
theorem dX6_horseFact_73 : decode cX6_horseFact 73 = .ok (.aload_n 3, 1) := by decide +kernel
theorem dX6_horseFact_74 : decode cX6_horseFact 74 = .ok (.getfield 113, 3) := by decide +kernel
theorem dX6_horseFact_77 : decode cX6_horseFact 77 = .ok (.ireturn, 1) := by decide +kernel
theorem dX6_horseFact_78 : decode cX6_horseFact 78 = .ok (.aload_n 3, 1) := by decide +kernel
theorem dX6_horseFact_79 : decode cX6_horseFact 79 = .ok (.getfield 116, 3) := by decide +kernel
theorem dX6_horseFact_82 : decode cX6_horseFact 82 = .ok (.ireturn, 1) := by decide +kernel
theorem dX6_horseFact_83 : decode cX6_horseFact 83 = .ok (.aload_n 3, 1) := by decide +kernel
theorem dX6_horseFact_84 : decode cX6_horseFact 84 = .ok (.getfield 119, 3) := by decide +kernel
theorem dX6_horseFact_87 : decode cX6_horseFact 87 = .ok (.ifCond .eq 7, 3) := by decide +kernel
theorem dX6_horseFact_90 : decode cX6_horseFact 90 = .ok (.iconst 1, 1) := by decide +kernel
theorem dX6_horseFact_91 : decode cX6_horseFact 91 = .ok (.goto 4, 3) := by decide +kernel
theorem dX6_horseFact_94 : decode cX6_horseFact 94 = .ok (.iconst 0, 1) := by decide +kernel
theorem dX6_horseFact_95 : decode cX6_horseFact 95 = .ok (.ireturn, 1) := by decide +kernel
theorem dX6_horseFact_96 : decode cX6_horseFact 96 = .ok (.aload_n 3, 1) := by decide +kernel
theorem dX6_horseFact_97 : decode cX6_horseFact 97 = .ok (.getfield 123, 3) := by decide +kernel
theorem dX6_horseFact_100 : decode cX6_horseFact 100 = .ok (.ireturn, 1) := by decide +kernel
theorem dX6_horseFact_101 : decode cX6_horseFact 101 = .ok (.aload_n 3, 1) := by decide +kernel
theorem dX6_horseFact_102 : decode cX6_horseFact 102 = .ok (.getfield 126, 3) := by decide +kernel
theorem dX6_horseFact_105 : decode cX6_horseFact 105 = .ok (.ifCond .eq 7, 3) := by decide +kernel
theorem dX6_horseFact_108 : decode cX6_horseFact 108 = .ok (.iconst 1, 1) := by decide +kernel
theorem dX6_horseFact_109 : decode cX6_horseFact 109 = .ok (.goto 4, 3) := by decide +kernel
theorem dX6_horseFact_112 : decode cX6_horseFact 112 = .ok (.iconst 0, 1) := by decide +kernel
theorem dX6_horseFact_113 : decode cX6_horseFact 113 = .ok (.ireturn, 1) := by decide +kernel
theorem dX6_horseFact_114 : decode cX6_horseFact 114 = .ok (.aload_n 3, 1) := by decide +kernel
theorem dX6_horseFact_115 : decode cX6_horseFact 115 = .ok (.getfield 129, 3) := by decide +kernel
theorem dX6_horseFact_118 : decode cX6_horseFact 118 = .ok (.ireturn, 1) := by decide +kernel
theorem dX6_horseFact_119 : decode cX6_horseFact 119 = .ok (.aload_n 0, 1) := by decide +kernel
theorem dX6_horseFact_120 : decode cX6_horseFact 120 = .ok (.iload_n 1, 1) := by decide +kernel
theorem dX6_horseFact_121 : decode cX6_horseFact 121 = .ok (.invokevirtual 132, 3) := by decide +kernel
theorem dX6_horseFact_124 : decode cX6_horseFact 124 = .ok (.ireturn, 1) := by decide +kernel
theorem dX6_horseFact_125 : decode cX6_horseFact 125 = .ok (.aload_n 3, 1) := by decide +kernel
theorem dX6_horseFact_126 : decode cX6_horseFact 126 = .ok (.getfield 135, 3) := by decide +kernel
theorem dX6_horseFact_129 : decode cX6_horseFact 129 = .ok (.ireturn, 1) := by decide +kernel
theorem dX6_horseFact_130 : decode cX6_horseFact 130 = .ok (.aload_n 3, 1) := by decide +kernel
theorem dX6_horseFact_131 : decode cX6_horseFact 131 = .ok (.getfield 138, 3) := by decide +kernel
theorem dX6_horseFact_134 : decode cX6_horseFact 134 = .ok (.ireturn, 1) := by decide +kernel
theorem dX6_logFact_0 : decode cX6_logFact 0 = .ok (.iload_n 1, 1) := by decide +kernel
theorem dX6_logFact_1 : decode cX6_logFact 1 = .ok (.ifCond .lt 11, 3) := by decide +kernel
theorem dX6_logFact_4 : decode cX6_logFact 4 = .ok (.iload_n 1, 1) := by decide +kernel
theorem dX6_logFact_5 : decode cX6_logFact 5 = .ok (.aload_n 0, 1) := by decide +kernel
theorem dX6_logFact_6 : decode cX6_logFact 6 = .ok (.getfield 39, 3) := by decide +kernel
theorem dX6_logFact_9 : decode cX6_logFact 9 = .ok (.if_icmp .lt 5, 3) := by decide +kernel
theorem dX6_logFact_12 : decode cX6_logFact 12 = .ok (.iconst 0, 1) := by decide +kernel
theorem dX6_logFact_13 : decode cX6_logFact 13 = .ok (.ireturn, 1) := by decide +kernel
theorem dX6_logFact_14 : decode cX6_logFact 14 = .ok (.aload_n 0, 1) := by decide +kernel
theorem dX6_logFact_15 : decode cX6_logFact 15 = .ok (.getfield 27, 3) := by decide +kernel
theorem dX6_logFact_18 : decode cX6_logFact 18 = .ok (.iload_n 1, 1) := by decide +kernel
theorem dX6_logFact_19 : decode cX6_logFact 19 = .ok (.aaload, 1) := by decide +kernel
theorem dX6_logFact_20 : decode cX6_logFact 20 = .ok (.astore_n 3, 1) := by decide +kernel
theorem dX6_logFact_21 : decode cX6_logFact 21 = .ok (.iload_n 2, 1) := by decide +kernel
theorem dX6_logFact_22 : decode cX6_logFact 22 = .ok (.tableswitch 41 0 2 #[26, 31, 36], 26) := by decide +kernel
theorem dX6_logFact_48 : decode cX6_logFact 48 = .ok (.aload_n 3, 1) := by decide +kernel
theorem dX6_logFact_49 : decode cX6_logFact 49 = .ok (.getfield 141, 3) := by decide +kernel
theorem dX6_logFact_52 : decode cX6_logFact 52 = .ok (.ireturn, 1) := by decide +kernel
theorem dX6_logFact_53 : decode cX6_logFact 53 = .ok (.aload_n 3, 1) := by decide +kernel
theorem dX6_logFact_54 : decode cX6_logFact 54 = .ok (.getfield 144, 3) := by decide +kernel
theorem dX6_logFact_57 : decode cX6_logFact 57 = .ok (.ireturn, 1) := by decide +kernel
theorem dX6_logFact_58 : decode cX6_logFact 58 = .ok (.aload_n 3, 1) := by decide +kernel
theorem dX6_logFact_59 : decode cX6_logFact 59 = .ok (.getfield 147, 3) := by decide +kernel
theorem dX6_logFact_62 : decode cX6_logFact 62 = .ok (.ireturn, 1) := by decide +kernel
theorem dX6_logFact_63 : decode cX6_logFact 63 = .ok (.aload_n 3, 1) := by decide +kernel
theorem dX6_logFact_64 : decode cX6_logFact 64 = .ok (.getfield 150, 3) := by decide +kernel
theorem dX6_logFact_67 : decode cX6_logFact 67 = .ok (.ireturn, 1) := by decide +kernel
theorem dX6_weightOf_0 : decode cX6_weightOf 0 = .ok (.iconst 0, 1) := by decide +kernel
theorem dX6_weightOf_1 : decode cX6_weightOf 1 = .ok (.istore_n 2, 1) := by decide +kernel
theorem dX6_weightOf_2 : decode cX6_weightOf 2 = .ok (.iconst 0, 1) := by decide +kernel
theorem dX6_weightOf_3 : decode cX6_weightOf 3 = .ok (.istore_n 3, 1) := by decide +kernel
theorem dX6_weightOf_4 : decode cX6_weightOf 4 = .ok (.iload_n 3, 1) := by decide +kernel
theorem dX6_weightOf_5 : decode cX6_weightOf 5 = .ok (.aload_n 0, 1) := by decide +kernel
theorem dX6_weightOf_6 : decode cX6_weightOf 6 = .ok (.getfield 39, 3) := by decide +kernel
theorem dX6_weightOf_9 : decode cX6_weightOf 9 = .ok (.if_icmp .ge 38, 3) := by decide +kernel
theorem dX6_weightOf_12 : decode cX6_weightOf 12 = .ok (.iload_n 2, 1) := by decide +kernel
theorem dX6_weightOf_13 : decode cX6_weightOf 13 = .ok (.aload_n 0, 1) := by decide +kernel
theorem dX6_weightOf_14 : decode cX6_weightOf 14 = .ok (.getfield 27, 3) := by decide +kernel
theorem dX6_weightOf_17 : decode cX6_weightOf 17 = .ok (.iload_n 3, 1) := by decide +kernel
theorem dX6_weightOf_18 : decode cX6_weightOf 18 = .ok (.aaload, 1) := by decide +kernel
theorem dX6_weightOf_19 : decode cX6_weightOf 19 = .ok (.getfield 144, 3) := by decide +kernel
theorem dX6_weightOf_22 : decode cX6_weightOf 22 = .ok (.iload_n 1, 1) := by decide +kernel
theorem dX6_weightOf_23 : decode cX6_weightOf 23 = .ok (.if_icmp .ne 15, 3) := by decide +kernel
theorem dX6_weightOf_26 : decode cX6_weightOf 26 = .ok (.aload_n 0, 1) := by decide +kernel
theorem dX6_weightOf_27 : decode cX6_weightOf 27 = .ok (.getfield 27, 3) := by decide +kernel
theorem dX6_weightOf_30 : decode cX6_weightOf 30 = .ok (.iload_n 3, 1) := by decide +kernel
theorem dX6_weightOf_31 : decode cX6_weightOf 31 = .ok (.aaload, 1) := by decide +kernel
theorem dX6_weightOf_32 : decode cX6_weightOf 32 = .ok (.getfield 141, 3) := by decide +kernel
theorem dX6_weightOf_35 : decode cX6_weightOf 35 = .ok (.goto 4, 3) := by decide +kernel
theorem dX6_weightOf_38 : decode cX6_weightOf 38 = .ok (.iconst 0, 1) := by decide +kernel
theorem dX6_weightOf_39 : decode cX6_weightOf 39 = .ok (.iadd, 1) := by decide +kernel
theorem dX6_weightOf_40 : decode cX6_weightOf 40 = .ok (.istore_n 2, 1) := by decide +kernel
theorem dX6_weightOf_41 : decode cX6_weightOf 41 = .ok (.iinc 3 1, 3) := by decide +kernel
theorem dX6_weightOf_44 : decode cX6_weightOf 44 = .ok (.goto (-40), 3) := by decide +kernel
theorem dX6_weightOf_47 : decode cX6_weightOf 47 = .ok (.iload_n 2, 1) := by decide +kernel
theorem dX6_weightOf_48 : decode cX6_weightOf 48 = .ok (.ireturn, 1) := by decide +kernel
theorem dX6_logsIn_0 : decode cX6_logsIn 0 = .ok (.iconst 0, 1) := by decide +kernel
theorem dX6_logsIn_1 : decode cX6_logsIn 1 = .ok (.istore_n 2, 1) := by decide +kernel
theorem dX6_logsIn_2 : decode cX6_logsIn 2 = .ok (.iconst 0, 1) := by decide +kernel
theorem dX6_logsIn_3 : decode cX6_logsIn 3 = .ok (.istore_n 3, 1) := by decide +kernel
theorem dX6_logsIn_4 : decode cX6_logsIn 4 = .ok (.iload_n 3, 1) := by decide +kernel
theorem dX6_logsIn_5 : decode cX6_logsIn 5 = .ok (.aload_n 0, 1) := by decide +kernel
theorem dX6_logsIn_6 : decode cX6_logsIn 6 = .ok (.getfield 39, 3) := by decide +kernel
theorem dX6_logsIn_9 : decode cX6_logsIn 9 = .ok (.if_icmp .ge 30, 3) := by decide +kernel
theorem dX6_logsIn_12 : decode cX6_logsIn 12 = .ok (.iload_n 2, 1) := by decide +kernel
theorem dX6_logsIn_13 : decode cX6_logsIn 13 = .ok (.aload_n 0, 1) := by decide +kernel
theorem dX6_logsIn_14 : decode cX6_logsIn 14 = .ok (.getfield 27, 3) := by decide +kernel
theorem dX6_logsIn_17 : decode cX6_logsIn 17 = .ok (.iload_n 3, 1) := by decide +kernel
theorem dX6_logsIn_18 : decode cX6_logsIn 18 = .ok (.aaload, 1) := by decide +kernel
theorem dX6_logsIn_19 : decode cX6_logsIn 19 = .ok (.getfield 144, 3) := by decide +kernel
theorem dX6_logsIn_22 : decode cX6_logsIn 22 = .ok (.iload_n 1, 1) := by decide +kernel
theorem dX6_logsIn_23 : decode cX6_logsIn 23 = .ok (.if_icmp .ne 7, 3) := by decide +kernel
theorem dX6_logsIn_26 : decode cX6_logsIn 26 = .ok (.iconst 1, 1) := by decide +kernel
theorem dX6_logsIn_27 : decode cX6_logsIn 27 = .ok (.goto 4, 3) := by decide +kernel
theorem dX6_logsIn_30 : decode cX6_logsIn 30 = .ok (.iconst 0, 1) := by decide +kernel
theorem dX6_logsIn_31 : decode cX6_logsIn 31 = .ok (.iadd, 1) := by decide +kernel
theorem dX6_logsIn_32 : decode cX6_logsIn 32 = .ok (.istore_n 2, 1) := by decide +kernel
theorem dX6_logsIn_33 : decode cX6_logsIn 33 = .ok (.iinc 3 1, 3) := by decide +kernel
theorem dX6_logsIn_36 : decode cX6_logsIn 36 = .ok (.goto (-32), 3) := by decide +kernel
theorem dX6_logsIn_39 : decode cX6_logsIn 39 = .ok (.iload_n 2, 1) := by decide +kernel
theorem dX6_logsIn_40 : decode cX6_logsIn 40 = .ok (.ireturn, 1) := by decide +kernel
theorem dX6_isAtRaft_0 : decode cX6_isAtRaft 0 = .ok (.iload_n 1, 1) := by decide +kernel
theorem dX6_isAtRaft_1 : decode cX6_isAtRaft 1 = .ok (.ifCond .lt 28, 3) := by decide +kernel
theorem dX6_isAtRaft_4 : decode cX6_isAtRaft 4 = .ok (.iload_n 1, 1) := by decide +kernel
theorem dX6_isAtRaft_5 : decode cX6_isAtRaft 5 = .ok (.aload_n 0, 1) := by decide +kernel
theorem dX6_isAtRaft_6 : decode cX6_isAtRaft 6 = .ok (.getfield 39, 3) := by decide +kernel
theorem dX6_isAtRaft_9 : decode cX6_isAtRaft 9 = .ok (.if_icmp .ge 20, 3) := by decide +kernel
theorem dX6_isAtRaft_12 : decode cX6_isAtRaft 12 = .ok (.aload_n 0, 1) := by decide +kernel
theorem dX6_isAtRaft_13 : decode cX6_isAtRaft 13 = .ok (.getfield 27, 3) := by decide +kernel
theorem dX6_isAtRaft_16 : decode cX6_isAtRaft 16 = .ok (.iload_n 1, 1) := by decide +kernel
theorem dX6_isAtRaft_17 : decode cX6_isAtRaft 17 = .ok (.aaload, 1) := by decide +kernel
theorem dX6_isAtRaft_18 : decode cX6_isAtRaft 18 = .ok (.getfield 144, 3) := by decide +kernel
theorem dX6_isAtRaft_21 : decode cX6_isAtRaft 21 = .ok (.iconst 3, 1) := by decide +kernel
theorem dX6_isAtRaft_22 : decode cX6_isAtRaft 22 = .ok (.if_icmp .ne 7, 3) := by decide +kernel
theorem dX6_isAtRaft_25 : decode cX6_isAtRaft 25 = .ok (.iconst 1, 1) := by decide +kernel
theorem dX6_isAtRaft_26 : decode cX6_isAtRaft 26 = .ok (.goto 4, 3) := by decide +kernel
theorem dX6_isAtRaft_29 : decode cX6_isAtRaft 29 = .ok (.iconst 0, 1) := by decide +kernel
theorem dX6_isAtRaft_30 : decode cX6_isAtRaft 30 = .ok (.ireturn, 1) := by decide +kernel
theorem dX6_horsesOn_0 : decode cX6_horsesOn 0 = .ok (.iconst 0, 1) := by decide +kernel
theorem dX6_horsesOn_1 : decode cX6_horsesOn 1 = .ok (.istore_n 2, 1) := by decide +kernel
theorem dX6_horsesOn_2 : decode cX6_horsesOn 2 = .ok (.iconst 0, 1) := by decide +kernel
theorem dX6_horsesOn_3 : decode cX6_horsesOn 3 = .ok (.istore_n 3, 1) := by decide +kernel
theorem dX6_horsesOn_4 : decode cX6_horsesOn 4 = .ok (.iload_n 3, 1) := by decide +kernel
theorem dX6_horsesOn_5 : decode cX6_horsesOn 5 = .ok (.aload_n 0, 1) := by decide +kernel
theorem dX6_horsesOn_6 : decode cX6_horsesOn 6 = .ok (.getfield 36, 3) := by decide +kernel
theorem dX6_horsesOn_9 : decode cX6_horsesOn 9 = .ok (.if_icmp .ge 30, 3) := by decide +kernel
theorem dX6_horsesOn_12 : decode cX6_horsesOn 12 = .ok (.iload_n 2, 1) := by decide +kernel
theorem dX6_horsesOn_13 : decode cX6_horsesOn 13 = .ok (.aload_n 0, 1) := by decide +kernel
theorem dX6_horsesOn_14 : decode cX6_horsesOn 14 = .ok (.getfield 20, 3) := by decide +kernel
theorem dX6_horsesOn_17 : decode cX6_horsesOn 17 = .ok (.iload_n 3, 1) := by decide +kernel
theorem dX6_horsesOn_18 : decode cX6_horsesOn 18 = .ok (.aaload, 1) := by decide +kernel
theorem dX6_horsesOn_19 : decode cX6_horsesOn 19 = .ok (.getfield 123, 3) := by decide +kernel
theorem dX6_horsesOn_22 : decode cX6_horsesOn 22 = .ok (.iload_n 1, 1) := by decide +kernel
theorem dX6_horsesOn_23 : decode cX6_horsesOn 23 = .ok (.if_icmp .ne 7, 3) := by decide +kernel
theorem dX6_horsesOn_26 : decode cX6_horsesOn 26 = .ok (.iconst 1, 1) := by decide +kernel
theorem dX6_horsesOn_27 : decode cX6_horsesOn 27 = .ok (.goto 4, 3) := by decide +kernel
theorem dX6_horsesOn_30 : decode cX6_horsesOn 30 = .ok (.iconst 0, 1) := by decide +kernel
theorem dX6_horsesOn_31 : decode cX6_horsesOn 31 = .ok (.iadd, 1) := by decide +kernel
theorem dX6_horsesOn_32 : decode cX6_horsesOn 32 = .ok (.istore_n 2, 1) := by decide +kernel
theorem dX6_horsesOn_33 : decode cX6_horsesOn 33 = .ok (.iinc 3 1, 3) := by decide +kernel
theorem dX6_horsesOn_36 : decode cX6_horsesOn 36 = .ok (.goto (-32), 3) := by decide +kernel
theorem dX6_horsesOn_39 : decode cX6_horsesOn 39 = .ok (.iload_n 2, 1) := by decide +kernel
theorem dX6_horsesOn_40 : decode cX6_horsesOn 40 = .ok (.ireturn, 1) := by decide +kernel
theorem dX6_allLinks_0 : decode cX6_allLinks 0 = .ok (.iconst 0, 1) := by decide +kernel
theorem dX6_allLinks_1 : decode cX6_allLinks 1 = .ok (.istore_n 1, 1) := by decide +kernel
theorem dX6_allLinks_2 : decode cX6_allLinks 2 = .ok (.iconst 0, 1) := by decide +kernel
theorem dX6_allLinks_3 : decode cX6_allLinks 3 = .ok (.istore_n 2, 1) := by decide +kernel
theorem dX6_allLinks_4 : decode cX6_allLinks 4 = .ok (.iload_n 2, 1) := by decide +kernel
theorem dX6_allLinks_5 : decode cX6_allLinks 5 = .ok (.aload_n 0, 1) := by decide +kernel
theorem dX6_allLinks_6 : decode cX6_allLinks 6 = .ok (.getfield 36, 3) := by decide +kernel
theorem dX6_allLinks_9 : decode cX6_allLinks 9 = .ok (.if_icmp .ge 21, 3) := by decide +kernel
theorem dX6_allLinks_12 : decode cX6_allLinks 12 = .ok (.iload_n 1, 1) := by decide +kernel
theorem dX6_allLinks_13 : decode cX6_allLinks 13 = .ok (.aload_n 0, 1) := by decide +kernel
theorem dX6_allLinks_14 : decode cX6_allLinks 14 = .ok (.getfield 20, 3) := by decide +kernel
theorem dX6_allLinks_17 : decode cX6_allLinks 17 = .ok (.iload_n 2, 1) := by decide +kernel
theorem dX6_allLinks_18 : decode cX6_allLinks 18 = .ok (.aaload, 1) := by decide +kernel
theorem dX6_allLinks_19 : decode cX6_allLinks 19 = .ok (.getfield 113, 3) := by decide +kernel
theorem dX6_allLinks_22 : decode cX6_allLinks 22 = .ok (.iadd, 1) := by decide +kernel
theorem dX6_allLinks_23 : decode cX6_allLinks 23 = .ok (.istore_n 1, 1) := by decide +kernel
theorem dX6_allLinks_24 : decode cX6_allLinks 24 = .ok (.iinc 2 1, 3) := by decide +kernel
theorem dX6_allLinks_27 : decode cX6_allLinks 27 = .ok (.goto (-23), 3) := by decide +kernel
theorem dX6_allLinks_30 : decode cX6_allLinks 30 = .ok (.iload_n 1, 1) := by decide +kernel
theorem dX6_allLinks_31 : decode cX6_allLinks 31 = .ok (.ireturn, 1) := by decide +kernel
theorem dX6_tiredOf_0 : decode cX6_tiredOf 0 = .ok (.aload_n 0, 1) := by decide +kernel
theorem dX6_tiredOf_1 : decode cX6_tiredOf 1 = .ok (.iload_n 1, 1) := by decide +kernel
theorem dX6_tiredOf_2 : decode cX6_tiredOf 2 = .ok (.invokevirtual 107, 3) := by decide +kernel
theorem dX6_tiredOf_5 : decode cX6_tiredOf 5 = .ok (.ifCond .eq 15, 3) := by decide +kernel
theorem dX6_tiredOf_8 : decode cX6_tiredOf 8 = .ok (.aload_n 0, 1) := by decide +kernel
theorem dX6_tiredOf_9 : decode cX6_tiredOf 9 = .ok (.getfield 20, 3) := by decide +kernel
theorem dX6_tiredOf_12 : decode cX6_tiredOf 12 = .ok (.iload_n 1, 1) := by decide +kernel
theorem dX6_tiredOf_13 : decode cX6_tiredOf 13 = .ok (.aaload, 1) := by decide +kernel
theorem dX6_tiredOf_14 : decode cX6_tiredOf 14 = .ok (.getfield 135, 3) := by decide +kernel
theorem dX6_tiredOf_17 : decode cX6_tiredOf 17 = .ok (.goto 4, 3) := by decide +kernel
theorem dX6_tiredOf_20 : decode cX6_tiredOf 20 = .ok (.iconst 0, 1) := by decide +kernel
theorem dX6_tiredOf_21 : decode cX6_tiredOf 21 = .ok (.ireturn, 1) := by decide +kernel
theorem dX6_linksOf_0 : decode cX6_linksOf 0 = .ok (.aload_n 0, 1) := by decide +kernel
theorem dX6_linksOf_1 : decode cX6_linksOf 1 = .ok (.iload_n 1, 1) := by decide +kernel
theorem dX6_linksOf_2 : decode cX6_linksOf 2 = .ok (.invokevirtual 107, 3) := by decide +kernel
theorem dX6_linksOf_5 : decode cX6_linksOf 5 = .ok (.ifCond .eq 15, 3) := by decide +kernel
theorem dX6_linksOf_8 : decode cX6_linksOf 8 = .ok (.aload_n 0, 1) := by decide +kernel
theorem dX6_linksOf_9 : decode cX6_linksOf 9 = .ok (.getfield 20, 3) := by decide +kernel
theorem dX6_linksOf_12 : decode cX6_linksOf 12 = .ok (.iload_n 1, 1) := by decide +kernel
theorem dX6_linksOf_13 : decode cX6_linksOf 13 = .ok (.aaload, 1) := by decide +kernel
theorem dX6_linksOf_14 : decode cX6_linksOf 14 = .ok (.getfield 113, 3) := by decide +kernel
theorem dX6_linksOf_17 : decode cX6_linksOf 17 = .ok (.goto 4, 3) := by decide +kernel
theorem dX6_linksOf_20 : decode cX6_linksOf 20 = .ok (.iconst 0, 1) := by decide +kernel
theorem dX6_linksOf_21 : decode cX6_linksOf 21 = .ok (.ireturn, 1) := by decide +kernel
theorem dX6_loadOf_0 : decode cX6_loadOf 0 = .ok (.iconst 0, 1) := by decide +kernel
theorem dX6_loadOf_1 : decode cX6_loadOf 1 = .ok (.istore_n 2, 1) := by decide +kernel
theorem dX6_loadOf_2 : decode cX6_loadOf 2 = .ok (.iconst 0, 1) := by decide +kernel
theorem dX6_loadOf_3 : decode cX6_loadOf 3 = .ok (.istore_n 3, 1) := by decide +kernel
theorem dX6_loadOf_4 : decode cX6_loadOf 4 = .ok (.iload_n 3, 1) := by decide +kernel
theorem dX6_loadOf_5 : decode cX6_loadOf 5 = .ok (.aload_n 0, 1) := by decide +kernel
theorem dX6_loadOf_6 : decode cX6_loadOf 6 = .ok (.getfield 39, 3) := by decide +kernel
theorem dX6_loadOf_9 : decode cX6_loadOf 9 = .ok (.if_icmp .ge 47, 3) := by decide +kernel
theorem dX6_loadOf_12 : decode cX6_loadOf 12 = .ok (.aload_n 0, 1) := by decide +kernel
theorem dX6_loadOf_13 : decode cX6_loadOf 13 = .ok (.getfield 27, 3) := by decide +kernel
theorem dX6_loadOf_16 : decode cX6_loadOf 16 = .ok (.iload_n 3, 1) := by decide +kernel
theorem dX6_loadOf_17 : decode cX6_loadOf 17 = .ok (.aaload, 1) := by decide +kernel
theorem dX6_loadOf_18 : decode cX6_loadOf 18 = .ok (.astore 4, 2) := by decide +kernel
theorem dX6_loadOf_20 : decode cX6_loadOf 20 = .ok (.iload_n 2, 1) := by decide +kernel
theorem dX6_loadOf_21 : decode cX6_loadOf 21 = .ok (.aload 4, 2) := by decide +kernel
theorem dX6_loadOf_23 : decode cX6_loadOf 23 = .ok (.getfield 144, 3) := by decide +kernel
theorem dX6_loadOf_26 : decode cX6_loadOf 26 = .ok (.iconst 1, 1) := by decide +kernel
theorem dX6_loadOf_27 : decode cX6_loadOf 27 = .ok (.if_icmp .ne 20, 3) := by decide +kernel
theorem dX6_loadOf_30 : decode cX6_loadOf 30 = .ok (.aload 4, 2) := by decide +kernel
theorem dX6_loadOf_32 : decode cX6_loadOf 32 = .ok (.getfield 147, 3) := by decide +kernel
theorem dX6_loadOf_35 : decode cX6_loadOf 35 = .ok (.iload_n 1, 1) := by decide +kernel
theorem dX6_loadOf_36 : decode cX6_loadOf 36 = .ok (.if_icmp .ne 11, 3) := by decide +kernel
theorem dX6_loadOf_39 : decode cX6_loadOf 39 = .ok (.aload 4, 2) := by decide +kernel
theorem dX6_loadOf_41 : decode cX6_loadOf 41 = .ok (.getfield 141, 3) := by decide +kernel
theorem dX6_loadOf_44 : decode cX6_loadOf 44 = .ok (.goto 4, 3) := by decide +kernel
theorem dX6_loadOf_47 : decode cX6_loadOf 47 = .ok (.iconst 0, 1) := by decide +kernel
theorem dX6_loadOf_48 : decode cX6_loadOf 48 = .ok (.iadd, 1) := by decide +kernel
theorem dX6_loadOf_49 : decode cX6_loadOf 49 = .ok (.istore_n 2, 1) := by decide +kernel
theorem dX6_loadOf_50 : decode cX6_loadOf 50 = .ok (.iinc 3 1, 3) := by decide +kernel
theorem dX6_loadOf_53 : decode cX6_loadOf 53 = .ok (.goto (-49), 3) := by decide +kernel
theorem dX6_loadOf_56 : decode cX6_loadOf 56 = .ok (.iload_n 2, 1) := by decide +kernel
theorem dX6_loadOf_57 : decode cX6_loadOf 57 = .ok (.ireturn, 1) := by decide +kernel
theorem dX6_frostOf_0 : decode cX6_frostOf 0 = .ok (.aload_n 0, 1) := by decide +kernel
theorem dX6_frostOf_1 : decode cX6_frostOf 1 = .ok (.iload_n 1, 1) := by decide +kernel
theorem dX6_frostOf_2 : decode cX6_frostOf 2 = .ok (.invokevirtual 91, 3) := by decide +kernel
theorem dX6_frostOf_5 : decode cX6_frostOf 5 = .ok (.ifCond .eq 15, 3) := by decide +kernel
theorem dX6_frostOf_8 : decode cX6_frostOf 8 = .ok (.aload_n 0, 1) := by decide +kernel
theorem dX6_frostOf_9 : decode cX6_frostOf 9 = .ok (.getfield 11, 3) := by decide +kernel
theorem dX6_frostOf_12 : decode cX6_frostOf 12 = .ok (.iload_n 1, 1) := by decide +kernel
theorem dX6_frostOf_13 : decode cX6_frostOf 13 = .ok (.aaload, 1) := by decide +kernel
theorem dX6_frostOf_14 : decode cX6_frostOf 14 = .ok (.getfield 101, 3) := by decide +kernel
theorem dX6_frostOf_17 : decode cX6_frostOf 17 = .ok (.goto 4, 3) := by decide +kernel
theorem dX6_frostOf_20 : decode cX6_frostOf 20 = .ok (.iconst 0, 1) := by decide +kernel
theorem dX6_frostOf_21 : decode cX6_frostOf 21 = .ok (.ireturn, 1) := by decide +kernel
theorem dX6_fallenOn_0 : decode cX6_fallenOn 0 = .ok (.iconst 0, 1) := by decide +kernel
theorem dX6_fallenOn_1 : decode cX6_fallenOn 1 = .ok (.istore_n 2, 1) := by decide +kernel
theorem dX6_fallenOn_2 : decode cX6_fallenOn 2 = .ok (.iconst 0, 1) := by decide +kernel
theorem dX6_fallenOn_3 : decode cX6_fallenOn 3 = .ok (.istore_n 3, 1) := by decide +kernel
theorem dX6_fallenOn_4 : decode cX6_fallenOn 4 = .ok (.iload_n 3, 1) := by decide +kernel
theorem dX6_fallenOn_5 : decode cX6_fallenOn 5 = .ok (.aload_n 0, 1) := by decide +kernel
theorem dX6_fallenOn_6 : decode cX6_fallenOn 6 = .ok (.getfield 39, 3) := by decide +kernel
theorem dX6_fallenOn_9 : decode cX6_fallenOn 9 = .ok (.if_icmp .ge 43, 3) := by decide +kernel
theorem dX6_fallenOn_12 : decode cX6_fallenOn 12 = .ok (.aload_n 0, 1) := by decide +kernel
theorem dX6_fallenOn_13 : decode cX6_fallenOn 13 = .ok (.getfield 27, 3) := by decide +kernel
theorem dX6_fallenOn_16 : decode cX6_fallenOn 16 = .ok (.iload_n 3, 1) := by decide +kernel
theorem dX6_fallenOn_17 : decode cX6_fallenOn 17 = .ok (.aaload, 1) := by decide +kernel
theorem dX6_fallenOn_18 : decode cX6_fallenOn 18 = .ok (.astore 4, 2) := by decide +kernel
theorem dX6_fallenOn_20 : decode cX6_fallenOn 20 = .ok (.iload_n 2, 1) := by decide +kernel
theorem dX6_fallenOn_21 : decode cX6_fallenOn 21 = .ok (.aload 4, 2) := by decide +kernel
theorem dX6_fallenOn_23 : decode cX6_fallenOn 23 = .ok (.getfield 144, 3) := by decide +kernel
theorem dX6_fallenOn_26 : decode cX6_fallenOn 26 = .ok (.iconst 2, 1) := by decide +kernel
theorem dX6_fallenOn_27 : decode cX6_fallenOn 27 = .ok (.if_icmp .ne 16, 3) := by decide +kernel
theorem dX6_fallenOn_30 : decode cX6_fallenOn 30 = .ok (.aload 4, 2) := by decide +kernel
theorem dX6_fallenOn_32 : decode cX6_fallenOn 32 = .ok (.getfield 147, 3) := by decide +kernel
theorem dX6_fallenOn_35 : decode cX6_fallenOn 35 = .ok (.iload_n 1, 1) := by decide +kernel
theorem dX6_fallenOn_36 : decode cX6_fallenOn 36 = .ok (.if_icmp .ne 7, 3) := by decide +kernel
theorem dX6_fallenOn_39 : decode cX6_fallenOn 39 = .ok (.iconst 1, 1) := by decide +kernel
theorem dX6_fallenOn_40 : decode cX6_fallenOn 40 = .ok (.goto 4, 3) := by decide +kernel
theorem dX6_fallenOn_43 : decode cX6_fallenOn 43 = .ok (.iconst 0, 1) := by decide +kernel
theorem dX6_fallenOn_44 : decode cX6_fallenOn 44 = .ok (.iadd, 1) := by decide +kernel
theorem dX6_fallenOn_45 : decode cX6_fallenOn 45 = .ok (.istore_n 2, 1) := by decide +kernel
theorem dX6_fallenOn_46 : decode cX6_fallenOn 46 = .ok (.iinc 3 1, 3) := by decide +kernel
theorem dX6_fallenOn_49 : decode cX6_fallenOn 49 = .ok (.goto (-45), 3) := by decide +kernel
theorem dX6_fallenOn_52 : decode cX6_fallenOn 52 = .ok (.iload_n 2, 1) := by decide +kernel
theorem dX6_fallenOn_53 : decode cX6_fallenOn 53 = .ok (.ireturn, 1) := by decide +kernel
theorem dX6_need_0 : decode cX6_need 0 = .ok (.aload_n 0, 1) := by decide +kernel
theorem dX6_need_1 : decode cX6_need 1 = .ok (.iload_n 2, 1) := by decide +kernel
theorem dX6_need_2 : decode cX6_need 2 = .ok (.invokevirtual 91, 3) := by decide +kernel
theorem dX6_need_5 : decode cX6_need 5 = .ok (.ifCond .ne 5, 3) := by decide +kernel
theorem dX6_need_8 : decode cX6_need 8 = .ok (.iconst 0, 1) := by decide +kernel
theorem dX6_need_9 : decode cX6_need 9 = .ok (.ireturn, 1) := by decide +kernel
theorem dX6_need_10 : decode cX6_need 10 = .ok (.iconst 0, 1) := by decide +kernel
theorem dX6_need_11 : decode cX6_need 11 = .ok (.aload_n 0, 1) := by decide +kernel
theorem dX6_need_12 : decode cX6_need 12 = .ok (.iload_n 1, 1) := by decide +kernel
theorem dX6_need_13 : decode cX6_need 13 = .ok (.invokevirtual 132, 3) := by decide +kernel
theorem dX6_need_16 : decode cX6_need 16 = .ok (.bipush 10, 2) := by decide +kernel
theorem dX6_need_18 : decode cX6_need 18 = .ok (.aload_n 0, 1) := by decide +kernel
theorem dX6_need_19 : decode cX6_need 19 = .ok (.getfield 11, 3) := by decide +kernel
theorem dX6_need_22 : decode cX6_need 22 = .ok (.iload_n 2, 1) := by decide +kernel
theorem dX6_need_23 : decode cX6_need 23 = .ok (.aaload, 1) := by decide +kernel
theorem dX6_need_24 : decode cX6_need 24 = .ok (.getfield 98, 3) := by decide +kernel
theorem dX6_need_27 : decode cX6_need 27 = .ok (.iadd, 1) := by decide +kernel
theorem dX6_need_28 : decode cX6_need 28 = .ok (.imul, 1) := by decide +kernel
theorem dX6_need_29 : decode cX6_need 29 = .ok (.bipush 10, 2) := by decide +kernel
theorem dX6_need_31 : decode cX6_need 31 = .ok (.idiv, 1) := by decide +kernel
theorem dX6_need_32 : decode cX6_need 32 = .ok (.aload_n 0, 1) := by decide +kernel
theorem dX6_need_33 : decode cX6_need 33 = .ok (.getfield 11, 3) := by decide +kernel
theorem dX6_need_36 : decode cX6_need 36 = .ok (.iload_n 2, 1) := by decide +kernel
theorem dX6_need_37 : decode cX6_need 37 = .ok (.aaload, 1) := by decide +kernel
theorem dX6_need_38 : decode cX6_need 38 = .ok (.getfield 101, 3) := by decide +kernel
theorem dX6_need_41 : decode cX6_need 41 = .ok (.isub, 1) := by decide +kernel
theorem dX6_need_42 : decode cX6_need 42 = .ok (.invokestatic 153, 3) := by decide +kernel
theorem dX6_need_45 : decode cX6_need 45 = .ok (.ireturn, 1) := by decide +kernel
theorem dX6_addLinks_0 : decode cX6_addLinks 0 = .ok (.aload_n 0, 1) := by decide +kernel
theorem dX6_addLinks_1 : decode cX6_addLinks 1 = .ok (.iload_n 1, 1) := by decide +kernel
theorem dX6_addLinks_2 : decode cX6_addLinks 2 = .ok (.invokevirtual 107, 3) := by decide +kernel
theorem dX6_addLinks_5 : decode cX6_addLinks 5 = .ok (.ifCond .ne 5, 3) := by decide +kernel
theorem dX6_addLinks_8 : decode cX6_addLinks 8 = .ok (.iconst 0, 1) := by decide +kernel
theorem dX6_addLinks_9 : decode cX6_addLinks 9 = .ok (.ireturn, 1) := by decide +kernel
theorem dX6_addLinks_10 : decode cX6_addLinks 10 = .ok (.aload_n 0, 1) := by decide +kernel
theorem dX6_addLinks_11 : decode cX6_addLinks 11 = .ok (.getfield 20, 3) := by decide +kernel
theorem dX6_addLinks_14 : decode cX6_addLinks 14 = .ok (.iload_n 1, 1) := by decide +kernel
theorem dX6_addLinks_15 : decode cX6_addLinks 15 = .ok (.aaload, 1) := by decide +kernel
theorem dX6_addLinks_16 : decode cX6_addLinks 16 = .ok (.bipush 9, 2) := by decide +kernel
theorem dX6_addLinks_18 : decode cX6_addLinks 18 = .ok (.aload_n 0, 1) := by decide +kernel
theorem dX6_addLinks_19 : decode cX6_addLinks 19 = .ok (.getfield 20, 3) := by decide +kernel
theorem dX6_addLinks_22 : decode cX6_addLinks 22 = .ok (.iload_n 1, 1) := by decide +kernel
theorem dX6_addLinks_23 : decode cX6_addLinks 23 = .ok (.aaload, 1) := by decide +kernel
theorem dX6_addLinks_24 : decode cX6_addLinks 24 = .ok (.getfield 113, 3) := by decide +kernel
theorem dX6_addLinks_27 : decode cX6_addLinks 27 = .ok (.iload_n 2, 1) := by decide +kernel
theorem dX6_addLinks_28 : decode cX6_addLinks 28 = .ok (.iadd, 1) := by decide +kernel
theorem dX6_addLinks_29 : decode cX6_addLinks 29 = .ok (.invokestatic 159, 3) := by decide +kernel
theorem dX6_addLinks_32 : decode cX6_addLinks 32 = .ok (.putfield 113, 3) := by decide +kernel
theorem dX6_addLinks_35 : decode cX6_addLinks 35 = .ok (.aload_n 0, 1) := by decide +kernel
theorem dX6_addLinks_36 : decode cX6_addLinks 36 = .ok (.getfield 20, 3) := by decide +kernel
theorem dX6_addLinks_39 : decode cX6_addLinks 39 = .ok (.iload_n 1, 1) := by decide +kernel
theorem dX6_addLinks_40 : decode cX6_addLinks 40 = .ok (.aaload, 1) := by decide +kernel
theorem dX6_addLinks_41 : decode cX6_addLinks 41 = .ok (.getfield 113, 3) := by decide +kernel
theorem dX6_addLinks_44 : decode cX6_addLinks 44 = .ok (.ireturn, 1) := by decide +kernel
theorem dX6_strengthen_0 : decode cX6_strengthen 0 = .ok (.aload_n 0, 1) := by decide +kernel
theorem dX6_strengthen_1 : decode cX6_strengthen 1 = .ok (.iload_n 1, 1) := by decide +kernel
theorem dX6_strengthen_2 : decode cX6_strengthen 2 = .ok (.invokevirtual 107, 3) := by decide +kernel
theorem dX6_strengthen_5 : decode cX6_strengthen 5 = .ok (.ifCond .eq 19, 3) := by decide +kernel
theorem dX6_strengthen_8 : decode cX6_strengthen 8 = .ok (.aload_n 0, 1) := by decide +kernel
theorem dX6_strengthen_9 : decode cX6_strengthen 9 = .ok (.getfield 20, 3) := by decide +kernel
theorem dX6_strengthen_12 : decode cX6_strengthen 12 = .ok (.iload_n 1, 1) := by decide +kernel
theorem dX6_strengthen_13 : decode cX6_strengthen 13 = .ok (.aaload, 1) := by decide +kernel
theorem dX6_strengthen_14 : decode cX6_strengthen 14 = .ok (.dup, 1) := by decide +kernel
theorem dX6_strengthen_15 : decode cX6_strengthen 15 = .ok (.getfield 116, 3) := by decide +kernel
theorem dX6_strengthen_18 : decode cX6_strengthen 18 = .ok (.bipush 10, 2) := by decide +kernel
theorem dX6_strengthen_20 : decode cX6_strengthen 20 = .ok (.iadd, 1) := by decide +kernel
theorem dX6_strengthen_21 : decode cX6_strengthen 21 = .ok (.putfield 116, 3) := by decide +kernel
theorem dX6_strengthen_24 : decode cX6_strengthen 24 = .ok (.return_, 1) := by decide +kernel
theorem dX6_bringBack_0 : decode cX6_bringBack 0 = .ok (.iconst 0, 1) := by decide +kernel
theorem dX6_bringBack_1 : decode cX6_bringBack 1 = .ok (.istore_n 2, 1) := by decide +kernel
theorem dX6_bringBack_2 : decode cX6_bringBack 2 = .ok (.iconst 0, 1) := by decide +kernel
theorem dX6_bringBack_3 : decode cX6_bringBack 3 = .ok (.istore_n 3, 1) := by decide +kernel
theorem dX6_bringBack_4 : decode cX6_bringBack 4 = .ok (.iload_n 3, 1) := by decide +kernel
theorem dX6_bringBack_5 : decode cX6_bringBack 5 = .ok (.aload_n 0, 1) := by decide +kernel
theorem dX6_bringBack_6 : decode cX6_bringBack 6 = .ok (.getfield 39, 3) := by decide +kernel
theorem dX6_bringBack_9 : decode cX6_bringBack 9 = .ok (.if_icmp .ge 45, 3) := by decide +kernel
theorem dX6_bringBack_12 : decode cX6_bringBack 12 = .ok (.aload_n 0, 1) := by decide +kernel
theorem dX6_bringBack_13 : decode cX6_bringBack 13 = .ok (.getfield 27, 3) := by decide +kernel
theorem dX6_bringBack_16 : decode cX6_bringBack 16 = .ok (.iload_n 3, 1) := by decide +kernel
theorem dX6_bringBack_17 : decode cX6_bringBack 17 = .ok (.aaload, 1) := by decide +kernel
theorem dX6_bringBack_18 : decode cX6_bringBack 18 = .ok (.astore 4, 2) := by decide +kernel
theorem dX6_bringBack_20 : decode cX6_bringBack 20 = .ok (.aload 4, 2) := by decide +kernel
theorem dX6_bringBack_22 : decode cX6_bringBack 22 = .ok (.getfield 144, 3) := by decide +kernel
theorem dX6_bringBack_25 : decode cX6_bringBack 25 = .ok (.iconst 2, 1) := by decide +kernel
theorem dX6_bringBack_26 : decode cX6_bringBack 26 = .ok (.if_icmp .ne 22, 3) := by decide +kernel
theorem dX6_bringBack_29 : decode cX6_bringBack 29 = .ok (.aload 4, 2) := by decide +kernel
theorem dX6_bringBack_31 : decode cX6_bringBack 31 = .ok (.getfield 147, 3) := by decide +kernel
theorem dX6_bringBack_34 : decode cX6_bringBack 34 = .ok (.iload_n 1, 1) := by decide +kernel
theorem dX6_bringBack_35 : decode cX6_bringBack 35 = .ok (.if_icmp .ne 13, 3) := by decide +kernel
theorem dX6_bringBack_38 : decode cX6_bringBack 38 = .ok (.aload 4, 2) := by decide +kernel
theorem dX6_bringBack_40 : decode cX6_bringBack 40 = .ok (.iconst 0, 1) := by decide +kernel
theorem dX6_bringBack_41 : decode cX6_bringBack 41 = .ok (.iconst (-1), 1) := by decide +kernel
theorem dX6_bringBack_42 : decode cX6_bringBack 42 = .ok (.invokevirtual 162, 3) := by decide +kernel
theorem dX6_bringBack_45 : decode cX6_bringBack 45 = .ok (.iinc 2 1, 3) := by decide +kernel
theorem dX6_bringBack_48 : decode cX6_bringBack 48 = .ok (.iinc 3 1, 3) := by decide +kernel
theorem dX6_bringBack_51 : decode cX6_bringBack 51 = .ok (.goto (-47), 3) := by decide +kernel
theorem dX6_bringBack_54 : decode cX6_bringBack 54 = .ok (.iload_n 2, 1) := by decide +kernel
theorem dX6_bringBack_55 : decode cX6_bringBack 55 = .ok (.ireturn, 1) := by decide +kernel
theorem dX6_goBy_0 : decode cX6_goBy 0 = .ok (.iconst 0, 1) := by decide +kernel
theorem dX6_goBy_1 : decode cX6_goBy 1 = .ok (.istore_n 3, 1) := by decide +kernel
theorem dX6_goBy_2 : decode cX6_goBy 2 = .ok (.iload_n 3, 1) := by decide +kernel
theorem dX6_goBy_3 : decode cX6_goBy 3 = .ok (.iload_n 1, 1) := by decide +kernel
theorem dX6_goBy_4 : decode cX6_goBy 4 = .ok (.if_icmp .ge 84, 3) := by decide +kernel
theorem dX6_goBy_7 : decode cX6_goBy 7 = .ok (.iconst 0, 1) := by decide +kernel
theorem dX6_goBy_8 : decode cX6_goBy 8 = .ok (.istore 4, 2) := by decide +kernel
theorem dX6_goBy_10 : decode cX6_goBy 10 = .ok (.iload 4, 2) := by decide +kernel
theorem dX6_goBy_12 : decode cX6_goBy 12 = .ok (.aload_n 0, 1) := by decide +kernel
theorem dX6_goBy_13 : decode cX6_goBy 13 = .ok (.getfield 36, 3) := by decide +kernel
theorem dX6_goBy_16 : decode cX6_goBy 16 = .ok (.if_icmp .ge 27, 3) := by decide +kernel
theorem dX6_goBy_19 : decode cX6_goBy 19 = .ok (.aload_n 0, 1) := by decide +kernel
theorem dX6_goBy_20 : decode cX6_goBy 20 = .ok (.getfield 20, 3) := by decide +kernel
theorem dX6_goBy_23 : decode cX6_goBy 23 = .ok (.iload 4, 2) := by decide +kernel
theorem dX6_goBy_25 : decode cX6_goBy 25 = .ok (.aaload, 1) := by decide +kernel
theorem dX6_goBy_26 : decode cX6_goBy 26 = .ok (.iconst 0, 1) := by decide +kernel
theorem dX6_goBy_27 : decode cX6_goBy 27 = .ok (.putfield 166, 3) := by decide +kernel
theorem dX6_goBy_30 : decode cX6_goBy 30 = .ok (.aload_n 0, 1) := by decide +kernel
theorem dX6_goBy_31 : decode cX6_goBy 31 = .ok (.iload 4, 2) := by decide +kernel
theorem dX6_goBy_33 : decode cX6_goBy 33 = .ok (.aload_n 2, 1) := by decide +kernel
theorem dX6_goBy_34 : decode cX6_goBy 34 = .ok (.invokevirtual 169, 3) := by decide +kernel
theorem dX6_goBy_37 : decode cX6_goBy 37 = .ok (.iinc 4 1, 3) := by decide +kernel
theorem dX6_goBy_40 : decode cX6_goBy 40 = .ok (.goto (-30), 3) := by decide +kernel
theorem dX6_goBy_43 : decode cX6_goBy 43 = .ok (.iconst 0, 1) := by decide +kernel
theorem dX6_goBy_44 : decode cX6_goBy 44 = .ok (.istore 4, 2) := by decide +kernel
theorem dX6_goBy_46 : decode cX6_goBy 46 = .ok (.iload 4, 2) := by decide +kernel
theorem dX6_goBy_48 : decode cX6_goBy 48 = .ok (.aload_n 0, 1) := by decide +kernel
theorem dX6_goBy_49 : decode cX6_goBy 49 = .ok (.getfield 36, 3) := by decide +kernel
theorem dX6_goBy_52 : decode cX6_goBy 52 = .ok (.if_icmp .ge 16, 3) := by decide +kernel
theorem dX6_goBy_55 : decode cX6_goBy 55 = .ok (.aload_n 0, 1) := by decide +kernel
theorem dX6_goBy_56 : decode cX6_goBy 56 = .ok (.iload 4, 2) := by decide +kernel
theorem dX6_goBy_58 : decode cX6_goBy 58 = .ok (.aload_n 2, 1) := by decide +kernel
theorem dX6_goBy_59 : decode cX6_goBy 59 = .ok (.invokevirtual 173, 3) := by decide +kernel
theorem dX6_goBy_62 : decode cX6_goBy 62 = .ok (.iinc 4 1, 3) := by decide +kernel
theorem dX6_goBy_65 : decode cX6_goBy 65 = .ok (.goto (-19), 3) := by decide +kernel
theorem dX6_goBy_68 : decode cX6_goBy 68 = .ok (.aload_n 0, 1) := by decide +kernel
theorem dX6_goBy_69 : decode cX6_goBy 69 = .ok (.invokevirtual 176, 3) := by decide +kernel
theorem dX6_goBy_72 : decode cX6_goBy 72 = .ok (.aload_n 0, 1) := by decide +kernel
theorem dX6_goBy_73 : decode cX6_goBy 73 = .ok (.dup, 1) := by decide +kernel
theorem dX6_goBy_74 : decode cX6_goBy 74 = .ok (.getfield 42, 3) := by decide +kernel
theorem dX6_goBy_77 : decode cX6_goBy 77 = .ok (.iconst 1, 1) := by decide +kernel
theorem dX6_goBy_78 : decode cX6_goBy 78 = .ok (.iadd, 1) := by decide +kernel
theorem dX6_goBy_79 : decode cX6_goBy 79 = .ok (.putfield 42, 3) := by decide +kernel
theorem dX6_goBy_82 : decode cX6_goBy 82 = .ok (.iinc 3 1, 3) := by decide +kernel
theorem dX6_goBy_85 : decode cX6_goBy 85 = .ok (.goto (-83), 3) := by decide +kernel
theorem dX6_goBy_88 : decode cX6_goBy 88 = .ok (.return_, 1) := by decide +kernel
theorem dX6_sendOut_0 : decode cX6_sendOut 0 = .ok (.aload_n 0, 1) := by decide +kernel
theorem dX6_sendOut_1 : decode cX6_sendOut 1 = .ok (.getfield 20, 3) := by decide +kernel
theorem dX6_sendOut_4 : decode cX6_sendOut 4 = .ok (.iload_n 1, 1) := by decide +kernel
theorem dX6_sendOut_5 : decode cX6_sendOut 5 = .ok (.aaload, 1) := by decide +kernel
theorem dX6_sendOut_6 : decode cX6_sendOut 6 = .ok (.astore_n 3, 1) := by decide +kernel
theorem dX6_sendOut_7 : decode cX6_sendOut 7 = .ok (.aload_n 3, 1) := by decide +kernel
theorem dX6_sendOut_8 : decode cX6_sendOut 8 = .ok (.getfield 123, 3) := by decide +kernel
theorem dX6_sendOut_11 : decode cX6_sendOut 11 = .ok (.iconst (-1), 1) := by decide +kernel
theorem dX6_sendOut_12 : decode cX6_sendOut 12 = .ok (.if_icmp .ne 17, 3) := by decide +kernel
theorem dX6_sendOut_15 : decode cX6_sendOut 15 = .ok (.aload_n 3, 1) := by decide +kernel
theorem dX6_sendOut_16 : decode cX6_sendOut 16 = .ok (.getfield 113, 3) := by decide +kernel
theorem dX6_sendOut_19 : decode cX6_sendOut 19 = .ok (.ifCond .le 10, 3) := by decide +kernel
theorem dX6_sendOut_22 : decode cX6_sendOut 22 = .ok (.aload_n 0, 1) := by decide +kernel
theorem dX6_sendOut_23 : decode cX6_sendOut 23 = .ok (.getfield 32, 3) := by decide +kernel
theorem dX6_sendOut_26 : decode cX6_sendOut 26 = .ok (.ifCond .ne 4, 3) := by decide +kernel
theorem dX6_sendOut_29 : decode cX6_sendOut 29 = .ok (.return_, 1) := by decide +kernel
theorem dX6_sendOut_30 : decode cX6_sendOut 30 = .ok (.aload_n 0, 1) := by decide +kernel
theorem dX6_sendOut_31 : decode cX6_sendOut 31 = .ok (.iload_n 1, 1) := by decide +kernel
theorem dX6_sendOut_32 : decode cX6_sendOut 32 = .ok (.aload_n 2, 1) := by decide +kernel
theorem dX6_sendOut_33 : decode cX6_sendOut 33 = .ok (.iload_n 1, 1) := by decide +kernel
theorem dX6_sendOut_34 : decode cX6_sendOut 34 = .ok (.aload_n 0, 1) := by decide +kernel
theorem dX6_sendOut_35 : decode cX6_sendOut 35 = .ok (.invokevirtual 179, 3) := by decide +kernel
theorem dX6_sendOut_38 : decode cX6_sendOut 38 = .ok (.invokevirtual 185, 3) := by decide +kernel
theorem dX6_sendOut_41 : decode cX6_sendOut 41 = .ok (.ifCond .eq 15, 3) := by decide +kernel
theorem dX6_sendOut_44 : decode cX6_sendOut 44 = .ok (.aload_n 3, 1) := by decide +kernel
theorem dX6_sendOut_45 : decode cX6_sendOut 45 = .ok (.iconst 0, 1) := by decide +kernel
theorem dX6_sendOut_46 : decode cX6_sendOut 46 = .ok (.iconst 1, 1) := by decide +kernel
theorem dX6_sendOut_47 : decode cX6_sendOut 47 = .ok (.iconst 0, 1) := by decide +kernel
theorem dX6_sendOut_48 : decode cX6_sendOut 48 = .ok (.invokevirtual 189, 3) := by decide +kernel
theorem dX6_sendOut_51 : decode cX6_sendOut 51 = .ok (.aload_n 3, 1) := by decide +kernel
theorem dX6_sendOut_52 : decode cX6_sendOut 52 = .ok (.iconst 1, 1) := by decide +kernel
theorem dX6_sendOut_53 : decode cX6_sendOut 53 = .ok (.putfield 166, 3) := by decide +kernel
theorem dX6_sendOut_56 : decode cX6_sendOut 56 = .ok (.return_, 1) := by decide +kernel
theorem dX6_putOnSledge_0 : decode cX6_putOnSledge 0 = .ok (.iconst 0, 1) := by decide +kernel
theorem dX6_putOnSledge_1 : decode cX6_putOnSledge 1 = .ok (.istore_n 3, 1) := by decide +kernel
theorem dX6_putOnSledge_2 : decode cX6_putOnSledge 2 = .ok (.iconst 0, 1) := by decide +kernel
theorem dX6_putOnSledge_3 : decode cX6_putOnSledge 3 = .ok (.istore 4, 2) := by decide +kernel
theorem dX6_putOnSledge_5 : decode cX6_putOnSledge 5 = .ok (.iconst 0, 1) := by decide +kernel
theorem dX6_putOnSledge_6 : decode cX6_putOnSledge 6 = .ok (.istore 5, 2) := by decide +kernel
theorem dX6_putOnSledge_8 : decode cX6_putOnSledge 8 = .ok (.iload 5, 2) := by decide +kernel
theorem dX6_putOnSledge_10 : decode cX6_putOnSledge 10 = .ok (.aload_n 0, 1) := by decide +kernel
theorem dX6_putOnSledge_11 : decode cX6_putOnSledge 11 = .ok (.getfield 39, 3) := by decide +kernel
theorem dX6_putOnSledge_14 : decode cX6_putOnSledge 14 = .ok (.if_icmp .ge 72, 3) := by decide +kernel
theorem dX6_putOnSledge_17 : decode cX6_putOnSledge 17 = .ok (.iload 4, 2) := by decide +kernel
theorem dX6_putOnSledge_19 : decode cX6_putOnSledge 19 = .ok (.iconst 5, 1) := by decide +kernel
theorem dX6_putOnSledge_20 : decode cX6_putOnSledge 20 = .ok (.if_icmp .ge 66, 3) := by decide +kernel
theorem dX6_putOnSledge_23 : decode cX6_putOnSledge 23 = .ok (.aload_n 0, 1) := by decide +kernel
theorem dX6_putOnSledge_24 : decode cX6_putOnSledge 24 = .ok (.getfield 27, 3) := by decide +kernel
theorem dX6_putOnSledge_27 : decode cX6_putOnSledge 27 = .ok (.iload 5, 2) := by decide +kernel
theorem dX6_putOnSledge_29 : decode cX6_putOnSledge 29 = .ok (.aaload, 1) := by decide +kernel
theorem dX6_putOnSledge_30 : decode cX6_putOnSledge 30 = .ok (.getfield 144, 3) := by decide +kernel
theorem dX6_putOnSledge_33 : decode cX6_putOnSledge 33 = .ok (.ifCond .ne 47, 3) := by decide +kernel
theorem dX6_putOnSledge_36 : decode cX6_putOnSledge 36 = .ok (.iload_n 3, 1) := by decide +kernel
theorem dX6_putOnSledge_37 : decode cX6_putOnSledge 37 = .ok (.aload_n 0, 1) := by decide +kernel
theorem dX6_putOnSledge_38 : decode cX6_putOnSledge 38 = .ok (.getfield 27, 3) := by decide +kernel
theorem dX6_putOnSledge_41 : decode cX6_putOnSledge 41 = .ok (.iload 5, 2) := by decide +kernel
theorem dX6_putOnSledge_43 : decode cX6_putOnSledge 43 = .ok (.aaload, 1) := by decide +kernel
theorem dX6_putOnSledge_44 : decode cX6_putOnSledge 44 = .ok (.getfield 141, 3) := by decide +kernel
theorem dX6_putOnSledge_47 : decode cX6_putOnSledge 47 = .ok (.iadd, 1) := by decide +kernel
theorem dX6_putOnSledge_48 : decode cX6_putOnSledge 48 = .ok (.iload_n 2, 1) := by decide +kernel
theorem dX6_putOnSledge_49 : decode cX6_putOnSledge 49 = .ok (.if_icmp .gt 31, 3) := by decide +kernel
theorem dX6_putOnSledge_52 : decode cX6_putOnSledge 52 = .ok (.aload_n 0, 1) := by decide +kernel
theorem dX6_putOnSledge_53 : decode cX6_putOnSledge 53 = .ok (.getfield 27, 3) := by decide +kernel
theorem dX6_putOnSledge_56 : decode cX6_putOnSledge 56 = .ok (.iload 5, 2) := by decide +kernel
theorem dX6_putOnSledge_58 : decode cX6_putOnSledge 58 = .ok (.aaload, 1) := by decide +kernel
theorem dX6_putOnSledge_59 : decode cX6_putOnSledge 59 = .ok (.iconst 1, 1) := by decide +kernel
theorem dX6_putOnSledge_60 : decode cX6_putOnSledge 60 = .ok (.iload_n 1, 1) := by decide +kernel
theorem dX6_putOnSledge_61 : decode cX6_putOnSledge 61 = .ok (.invokevirtual 162, 3) := by decide +kernel
theorem dX6_putOnSledge_64 : decode cX6_putOnSledge 64 = .ok (.iload_n 3, 1) := by decide +kernel
theorem dX6_putOnSledge_65 : decode cX6_putOnSledge 65 = .ok (.aload_n 0, 1) := by decide +kernel
theorem dX6_putOnSledge_66 : decode cX6_putOnSledge 66 = .ok (.getfield 27, 3) := by decide +kernel
theorem dX6_putOnSledge_69 : decode cX6_putOnSledge 69 = .ok (.iload 5, 2) := by decide +kernel
theorem dX6_putOnSledge_71 : decode cX6_putOnSledge 71 = .ok (.aaload, 1) := by decide +kernel
theorem dX6_putOnSledge_72 : decode cX6_putOnSledge 72 = .ok (.getfield 141, 3) := by decide +kernel
theorem dX6_putOnSledge_75 : decode cX6_putOnSledge 75 = .ok (.iadd, 1) := by decide +kernel
theorem dX6_putOnSledge_76 : decode cX6_putOnSledge 76 = .ok (.istore_n 3, 1) := by decide +kernel
theorem dX6_putOnSledge_77 : decode cX6_putOnSledge 77 = .ok (.iinc 4 1, 3) := by decide +kernel
theorem dX6_putOnSledge_80 : decode cX6_putOnSledge 80 = .ok (.iinc 5 1, 3) := by decide +kernel
theorem dX6_putOnSledge_83 : decode cX6_putOnSledge 83 = .ok (.goto (-75), 3) := by decide +kernel
theorem dX6_putOnSledge_86 : decode cX6_putOnSledge 86 = .ok (.iload 4, 2) := by decide +kernel
theorem dX6_putOnSledge_88 : decode cX6_putOnSledge 88 = .ok (.ifCond .le 7, 3) := by decide +kernel
theorem dX6_putOnSledge_91 : decode cX6_putOnSledge 91 = .ok (.iconst 1, 1) := by decide +kernel
theorem dX6_putOnSledge_92 : decode cX6_putOnSledge 92 = .ok (.goto 4, 3) := by decide +kernel
theorem dX6_putOnSledge_95 : decode cX6_putOnSledge 95 = .ok (.iconst 0, 1) := by decide +kernel
theorem dX6_putOnSledge_96 : decode cX6_putOnSledge 96 = .ok (.ireturn, 1) := by decide +kernel
theorem dX6_move_0 : decode cX6_move 0 = .ok (.aload_n 0, 1) := by decide +kernel
theorem dX6_move_1 : decode cX6_move 1 = .ok (.getfield 20, 3) := by decide +kernel
theorem dX6_move_4 : decode cX6_move 4 = .ok (.iload_n 1, 1) := by decide +kernel
theorem dX6_move_5 : decode cX6_move 5 = .ok (.aaload, 1) := by decide +kernel
theorem dX6_move_6 : decode cX6_move 6 = .ok (.astore_n 3, 1) := by decide +kernel
theorem dX6_move_7 : decode cX6_move 7 = .ok (.aload_n 3, 1) := by decide +kernel
theorem dX6_move_8 : decode cX6_move 8 = .ok (.getfield 166, 3) := by decide +kernel
theorem dX6_move_11 : decode cX6_move 11 = .ok (.ifCond .ne 14, 3) := by decide +kernel
theorem dX6_move_14 : decode cX6_move 14 = .ok (.aload_n 0, 1) := by decide +kernel
theorem dX6_move_15 : decode cX6_move 15 = .ok (.aload_n 3, 1) := by decide +kernel
theorem dX6_move_16 : decode cX6_move 16 = .ok (.getfield 123, 3) := by decide +kernel
theorem dX6_move_19 : decode cX6_move 19 = .ok (.invokevirtual 91, 3) := by decide +kernel
theorem dX6_move_22 : decode cX6_move 22 = .ok (.ifCond .ne 4, 3) := by decide +kernel
theorem dX6_move_25 : decode cX6_move 25 = .ok (.return_, 1) := by decide +kernel
theorem dX6_move_26 : decode cX6_move 26 = .ok (.aload_n 3, 1) := by decide +kernel
theorem dX6_move_27 : decode cX6_move 27 = .ok (.getfield 126, 3) := by decide +kernel
theorem dX6_move_30 : decode cX6_move 30 = .ok (.ifCond .eq 15, 3) := by decide +kernel
theorem dX6_move_33 : decode cX6_move 33 = .ok (.aload_n 0, 1) := by decide +kernel
theorem dX6_move_34 : decode cX6_move 34 = .ok (.iload_n 1, 1) := by decide +kernel
theorem dX6_move_35 : decode cX6_move 35 = .ok (.aload_n 3, 1) := by decide +kernel
theorem dX6_move_36 : decode cX6_move 36 = .ok (.getfield 123, 3) := by decide +kernel
theorem dX6_move_39 : decode cX6_move 39 = .ok (.invokevirtual 193, 3) := by decide +kernel
theorem dX6_move_42 : decode cX6_move 42 = .ok (.goto 4, 3) := by decide +kernel
theorem dX6_move_45 : decode cX6_move 45 = .ok (.iconst 0, 1) := by decide +kernel
theorem dX6_move_46 : decode cX6_move 46 = .ok (.istore 4, 2) := by decide +kernel
theorem dX6_move_48 : decode cX6_move 48 = .ok (.aload_n 2, 1) := by decide +kernel
theorem dX6_move_49 : decode cX6_move 49 = .ok (.iload_n 1, 1) := by decide +kernel
theorem dX6_move_50 : decode cX6_move 50 = .ok (.aload_n 3, 1) := by decide +kernel
theorem dX6_move_51 : decode cX6_move 51 = .ok (.getfield 123, 3) := by decide +kernel
theorem dX6_move_54 : decode cX6_move 54 = .ok (.aload_n 0, 1) := by decide +kernel
theorem dX6_move_55 : decode cX6_move 55 = .ok (.invokevirtual 196, 3) := by decide +kernel
theorem dX6_move_58 : decode cX6_move 58 = .ok (.ifCond .eq 12, 3) := by decide +kernel
theorem dX6_move_61 : decode cX6_move 61 = .ok (.aload_n 3, 1) := by decide +kernel
theorem dX6_move_62 : decode cX6_move 62 = .ok (.bipush (-2), 2) := by decide +kernel
theorem dX6_move_64 : decode cX6_move 64 = .ok (.invokevirtual 200, 3) := by decide +kernel
theorem dX6_move_67 : decode cX6_move 67 = .ok (.goto 50, 3) := by decide +kernel
theorem dX6_move_70 : decode cX6_move 70 = .ok (.iload 4, 2) := by decide +kernel
theorem dX6_move_72 : decode cX6_move 72 = .ok (.aload_n 3, 1) := by decide +kernel
theorem dX6_move_73 : decode cX6_move 73 = .ok (.getfield 116, 3) := by decide +kernel
theorem dX6_move_76 : decode cX6_move 76 = .ok (.if_icmp .le 11, 3) := by decide +kernel
theorem dX6_move_79 : decode cX6_move 79 = .ok (.aload_n 0, 1) := by decide +kernel
theorem dX6_move_80 : decode cX6_move 80 = .ok (.iload_n 1, 1) := by decide +kernel
theorem dX6_move_81 : decode cX6_move 81 = .ok (.invokevirtual 204, 3) := by decide +kernel
theorem dX6_move_84 : decode cX6_move 84 = .ok (.goto 33, 3) := by decide +kernel
theorem dX6_move_87 : decode cX6_move 87 = .ok (.iload 4, 2) := by decide +kernel
theorem dX6_move_89 : decode cX6_move 89 = .ok (.aload_n 3, 1) := by decide +kernel
theorem dX6_move_90 : decode cX6_move 90 = .ok (.getfield 110, 3) := by decide +kernel
theorem dX6_move_93 : decode cX6_move 93 = .ok (.aload_n 3, 1) := by decide +kernel
theorem dX6_move_94 : decode cX6_move 94 = .ok (.getfield 135, 3) := by decide +kernel
theorem dX6_move_97 : decode cX6_move 97 = .ok (.isub, 1) := by decide +kernel
theorem dX6_move_98 : decode cX6_move 98 = .ok (.if_icmp .le 12, 3) := by decide +kernel
theorem dX6_move_101 : decode cX6_move 101 = .ok (.aload_n 3, 1) := by decide +kernel
theorem dX6_move_102 : decode cX6_move 102 = .ok (.bipush (-4), 2) := by decide +kernel
theorem dX6_move_104 : decode cX6_move 104 = .ok (.invokevirtual 200, 3) := by decide +kernel
theorem dX6_move_107 : decode cX6_move 107 = .ok (.goto 10, 3) := by decide +kernel
theorem dX6_move_110 : decode cX6_move 110 = .ok (.aload_n 0, 1) := by decide +kernel
theorem dX6_move_111 : decode cX6_move 111 = .ok (.iload_n 1, 1) := by decide +kernel
theorem dX6_move_112 : decode cX6_move 112 = .ok (.iload 4, 2) := by decide +kernel
theorem dX6_move_114 : decode cX6_move 114 = .ok (.invokevirtual 207, 3) := by decide +kernel
theorem dX6_move_117 : decode cX6_move 117 = .ok (.return_, 1) := by decide +kernel
theorem dX6_breakChain_0 : decode cX6_breakChain 0 = .ok (.aload_n 0, 1) := by decide +kernel
theorem dX6_breakChain_1 : decode cX6_breakChain 1 = .ok (.getfield 20, 3) := by decide +kernel
theorem dX6_breakChain_4 : decode cX6_breakChain 4 = .ok (.iload_n 1, 1) := by decide +kernel
theorem dX6_breakChain_5 : decode cX6_breakChain 5 = .ok (.aaload, 1) := by decide +kernel
theorem dX6_breakChain_6 : decode cX6_breakChain 6 = .ok (.astore_n 2, 1) := by decide +kernel
theorem dX6_breakChain_7 : decode cX6_breakChain 7 = .ok (.aload_n 2, 1) := by decide +kernel
theorem dX6_breakChain_8 : decode cX6_breakChain 8 = .ok (.dup, 1) := by decide +kernel
theorem dX6_breakChain_9 : decode cX6_breakChain 9 = .ok (.getfield 113, 3) := by decide +kernel
theorem dX6_breakChain_12 : decode cX6_breakChain 12 = .ok (.iconst 1, 1) := by decide +kernel
theorem dX6_breakChain_13 : decode cX6_breakChain 13 = .ok (.isub, 1) := by decide +kernel
theorem dX6_breakChain_14 : decode cX6_breakChain 14 = .ok (.putfield 113, 3) := by decide +kernel
theorem dX6_breakChain_17 : decode cX6_breakChain 17 = .ok (.aload_n 0, 1) := by decide +kernel
theorem dX6_breakChain_18 : decode cX6_breakChain 18 = .ok (.dup, 1) := by decide +kernel
theorem dX6_breakChain_19 : decode cX6_breakChain 19 = .ok (.getfield 48, 3) := by decide +kernel
theorem dX6_breakChain_22 : decode cX6_breakChain 22 = .ok (.iconst 1, 1) := by decide +kernel
theorem dX6_breakChain_23 : decode cX6_breakChain 23 = .ok (.iadd, 1) := by decide +kernel
theorem dX6_breakChain_24 : decode cX6_breakChain 24 = .ok (.putfield 48, 3) := by decide +kernel
theorem dX6_breakChain_27 : decode cX6_breakChain 27 = .ok (.iconst 0, 1) := by decide +kernel
theorem dX6_breakChain_28 : decode cX6_breakChain 28 = .ok (.istore_n 3, 1) := by decide +kernel
theorem dX6_breakChain_29 : decode cX6_breakChain 29 = .ok (.iload_n 3, 1) := by decide +kernel
theorem dX6_breakChain_30 : decode cX6_breakChain 30 = .ok (.aload_n 0, 1) := by decide +kernel
theorem dX6_breakChain_31 : decode cX6_breakChain 31 = .ok (.getfield 39, 3) := by decide +kernel
theorem dX6_breakChain_34 : decode cX6_breakChain 34 = .ok (.if_icmp .ge 45, 3) := by decide +kernel
theorem dX6_breakChain_37 : decode cX6_breakChain 37 = .ok (.aload_n 0, 1) := by decide +kernel
theorem dX6_breakChain_38 : decode cX6_breakChain 38 = .ok (.getfield 27, 3) := by decide +kernel
theorem dX6_breakChain_41 : decode cX6_breakChain 41 = .ok (.iload_n 3, 1) := by decide +kernel
theorem dX6_breakChain_42 : decode cX6_breakChain 42 = .ok (.aaload, 1) := by decide +kernel
theorem dX6_breakChain_43 : decode cX6_breakChain 43 = .ok (.astore 4, 2) := by decide +kernel
theorem dX6_breakChain_45 : decode cX6_breakChain 45 = .ok (.aload 4, 2) := by decide +kernel
theorem dX6_breakChain_47 : decode cX6_breakChain 47 = .ok (.getfield 144, 3) := by decide +kernel
theorem dX6_breakChain_50 : decode cX6_breakChain 50 = .ok (.iconst 1, 1) := by decide +kernel
theorem dX6_breakChain_51 : decode cX6_breakChain 51 = .ok (.if_icmp .ne 22, 3) := by decide +kernel
theorem dX6_breakChain_54 : decode cX6_breakChain 54 = .ok (.aload 4, 2) := by decide +kernel
theorem dX6_breakChain_56 : decode cX6_breakChain 56 = .ok (.getfield 147, 3) := by decide +kernel
theorem dX6_breakChain_59 : decode cX6_breakChain 59 = .ok (.iload_n 1, 1) := by decide +kernel
theorem dX6_breakChain_60 : decode cX6_breakChain 60 = .ok (.if_icmp .ne 13, 3) := by decide +kernel
theorem dX6_breakChain_63 : decode cX6_breakChain 63 = .ok (.aload 4, 2) := by decide +kernel
theorem dX6_breakChain_65 : decode cX6_breakChain 65 = .ok (.iconst 2, 1) := by decide +kernel
theorem dX6_breakChain_66 : decode cX6_breakChain 66 = .ok (.aload_n 2, 1) := by decide +kernel
theorem dX6_breakChain_67 : decode cX6_breakChain 67 = .ok (.getfield 123, 3) := by decide +kernel
theorem dX6_breakChain_70 : decode cX6_breakChain 70 = .ok (.invokevirtual 162, 3) := by decide +kernel
theorem dX6_breakChain_73 : decode cX6_breakChain 73 = .ok (.iinc 3 1, 3) := by decide +kernel
theorem dX6_breakChain_76 : decode cX6_breakChain 76 = .ok (.goto (-47), 3) := by decide +kernel
theorem dX6_breakChain_79 : decode cX6_breakChain 79 = .ok (.aload_n 2, 1) := by decide +kernel
theorem dX6_breakChain_80 : decode cX6_breakChain 80 = .ok (.aload_n 2, 1) := by decide +kernel
theorem dX6_breakChain_81 : decode cX6_breakChain 81 = .ok (.getfield 123, 3) := by decide +kernel
theorem dX6_breakChain_84 : decode cX6_breakChain 84 = .ok (.iconst 0, 1) := by decide +kernel
theorem dX6_breakChain_85 : decode cX6_breakChain 85 = .ok (.aload_n 0, 1) := by decide +kernel
theorem dX6_breakChain_86 : decode cX6_breakChain 86 = .ok (.getfield 11, 3) := by decide +kernel
theorem dX6_breakChain_89 : decode cX6_breakChain 89 = .ok (.aload_n 2, 1) := by decide +kernel
theorem dX6_breakChain_90 : decode cX6_breakChain 90 = .ok (.getfield 123, 3) := by decide +kernel
theorem dX6_breakChain_93 : decode cX6_breakChain 93 = .ok (.aaload, 1) := by decide +kernel
theorem dX6_breakChain_94 : decode cX6_breakChain 94 = .ok (.getfield 95, 3) := by decide +kernel
theorem dX6_breakChain_97 : decode cX6_breakChain 97 = .ok (.iconst 1, 1) := by decide +kernel
theorem dX6_breakChain_98 : decode cX6_breakChain 98 = .ok (.isub, 1) := by decide +kernel
theorem dX6_breakChain_99 : decode cX6_breakChain 99 = .ok (.aload_n 2, 1) := by decide +kernel
theorem dX6_breakChain_100 : decode cX6_breakChain 100 = .ok (.getfield 129, 3) := by decide +kernel
theorem dX6_breakChain_103 : decode cX6_breakChain 103 = .ok (.isub, 1) := by decide +kernel
theorem dX6_breakChain_104 : decode cX6_breakChain 104 = .ok (.invokevirtual 189, 3) := by decide +kernel
theorem dX6_breakChain_107 : decode cX6_breakChain 107 = .ok (.return_, 1) := by decide +kernel
theorem dX6_goOn_0 : decode cX6_goOn 0 = .ok (.aload_n 0, 1) := by decide +kernel
theorem dX6_goOn_1 : decode cX6_goOn 1 = .ok (.getfield 20, 3) := by decide +kernel
theorem dX6_goOn_4 : decode cX6_goOn 4 = .ok (.iload_n 1, 1) := by decide +kernel
theorem dX6_goOn_5 : decode cX6_goOn 5 = .ok (.aaload, 1) := by decide +kernel
theorem dX6_goOn_6 : decode cX6_goOn 6 = .ok (.astore_n 3, 1) := by decide +kernel
theorem dX6_goOn_7 : decode cX6_goOn 7 = .ok (.aload_n 0, 1) := by decide +kernel
theorem dX6_goOn_8 : decode cX6_goOn 8 = .ok (.getfield 11, 3) := by decide +kernel
theorem dX6_goOn_11 : decode cX6_goOn 11 = .ok (.aload_n 3, 1) := by decide +kernel
theorem dX6_goOn_12 : decode cX6_goOn 12 = .ok (.getfield 123, 3) := by decide +kernel
theorem dX6_goOn_15 : decode cX6_goOn 15 = .ok (.aaload, 1) := by decide +kernel
theorem dX6_goOn_16 : decode cX6_goOn 16 = .ok (.astore 4, 2) := by decide +kernel
theorem dX6_goOn_18 : decode cX6_goOn 18 = .ok (.aload_n 3, 1) := by decide +kernel
theorem dX6_goOn_19 : decode cX6_goOn 19 = .ok (.getfield 126, 3) := by decide +kernel
theorem dX6_goOn_22 : decode cX6_goOn 22 = .ok (.ifCond .eq 24, 3) := by decide +kernel
theorem dX6_goOn_25 : decode cX6_goOn 25 = .ok (.aload 4, 2) := by decide +kernel
theorem dX6_goOn_27 : decode cX6_goOn 27 = .ok (.getfield 98, 3) := by decide +kernel
theorem dX6_goOn_30 : decode cX6_goOn 30 = .ok (.ifCond .ge 16, 3) := by decide +kernel
theorem dX6_goOn_33 : decode cX6_goOn 33 = .ok (.aload 4, 2) := by decide +kernel
theorem dX6_goOn_35 : decode cX6_goOn 35 = .ok (.getfield 101, 3) := by decide +kernel
theorem dX6_goOn_38 : decode cX6_goOn 38 = .ok (.iconst 5, 1) := by decide +kernel
theorem dX6_goOn_39 : decode cX6_goOn 39 = .ok (.if_icmp .le 7, 3) := by decide +kernel
theorem dX6_goOn_42 : decode cX6_goOn 42 = .ok (.iconst 1, 1) := by decide +kernel
theorem dX6_goOn_43 : decode cX6_goOn 43 = .ok (.goto 4, 3) := by decide +kernel
theorem dX6_goOn_46 : decode cX6_goOn 46 = .ok (.iconst 0, 1) := by decide +kernel
theorem dX6_goOn_47 : decode cX6_goOn 47 = .ok (.istore 5, 2) := by decide +kernel
theorem dX6_goOn_49 : decode cX6_goOn 49 = .ok (.aload_n 3, 1) := by decide +kernel
theorem dX6_goOn_50 : decode cX6_goOn 50 = .ok (.dup, 1) := by decide +kernel
theorem dX6_goOn_51 : decode cX6_goOn 51 = .ok (.getfield 129, 3) := by decide +kernel
theorem dX6_goOn_54 : decode cX6_goOn 54 = .ok (.iload 5, 2) := by decide +kernel
theorem dX6_goOn_56 : decode cX6_goOn 56 = .ok (.ifCond .eq 7, 3) := by decide +kernel
theorem dX6_goOn_59 : decode cX6_goOn 59 = .ok (.iconst 2, 1) := by decide +kernel
theorem dX6_goOn_60 : decode cX6_goOn 60 = .ok (.goto 4, 3) := by decide +kernel
theorem dX6_goOn_63 : decode cX6_goOn 63 = .ok (.iconst 1, 1) := by decide +kernel
theorem dX6_goOn_64 : decode cX6_goOn 64 = .ok (.iadd, 1) := by decide +kernel
theorem dX6_goOn_65 : decode cX6_goOn 65 = .ok (.putfield 129, 3) := by decide +kernel
theorem dX6_goOn_68 : decode cX6_goOn 68 = .ok (.aload_n 3, 1) := by decide +kernel
theorem dX6_goOn_69 : decode cX6_goOn 69 = .ok (.aload_n 3, 1) := by decide +kernel
theorem dX6_goOn_70 : decode cX6_goOn 70 = .ok (.getfield 126, 3) := by decide +kernel
theorem dX6_goOn_73 : decode cX6_goOn 73 = .ok (.ifCond .eq 10, 3) := by decide +kernel
theorem dX6_goOn_76 : decode cX6_goOn 76 = .ok (.iload_n 2, 1) := by decide +kernel
theorem dX6_goOn_77 : decode cX6_goOn 77 = .ok (.bipush 8, 2) := by decide +kernel
theorem dX6_goOn_79 : decode cX6_goOn 79 = .ok (.idiv, 1) := by decide +kernel
theorem dX6_goOn_80 : decode cX6_goOn 80 = .ok (.goto 4, 3) := by decide +kernel
theorem dX6_goOn_83 : decode cX6_goOn 83 = .ok (.iconst (-1), 1) := by decide +kernel
theorem dX6_goOn_84 : decode cX6_goOn 84 = .ok (.invokevirtual 200, 3) := by decide +kernel
theorem dX6_goOn_87 : decode cX6_goOn 87 = .ok (.aload_n 3, 1) := by decide +kernel
theorem dX6_goOn_88 : decode cX6_goOn 88 = .ok (.getfield 129, 3) := by decide +kernel
theorem dX6_goOn_91 : decode cX6_goOn 91 = .ok (.aload 4, 2) := by decide +kernel
theorem dX6_goOn_93 : decode cX6_goOn 93 = .ok (.getfield 95, 3) := by decide +kernel
theorem dX6_goOn_96 : decode cX6_goOn 96 = .ok (.if_icmp .lt 13, 3) := by decide +kernel
theorem dX6_goOn_99 : decode cX6_goOn 99 = .ok (.aload_n 0, 1) := by decide +kernel
theorem dX6_goOn_100 : decode cX6_goOn 100 = .ok (.iload_n 1, 1) := by decide +kernel
theorem dX6_goOn_101 : decode cX6_goOn 101 = .ok (.aload 4, 2) := by decide +kernel
theorem dX6_goOn_103 : decode cX6_goOn 103 = .ok (.getfield 95, 3) := by decide +kernel
theorem dX6_goOn_106 : decode cX6_goOn 106 = .ok (.invokevirtual 210, 3) := by decide +kernel
theorem dX6_goOn_109 : decode cX6_goOn 109 = .ok (.return_, 1) := by decide +kernel
theorem dX6_leave_0 : decode cX6_leave 0 = .ok (.aload_n 0, 1) := by decide +kernel
theorem dX6_leave_1 : decode cX6_leave 1 = .ok (.getfield 20, 3) := by decide +kernel
theorem dX6_leave_4 : decode cX6_leave 4 = .ok (.iload_n 1, 1) := by decide +kernel
theorem dX6_leave_5 : decode cX6_leave 5 = .ok (.aaload, 1) := by decide +kernel
theorem dX6_leave_6 : decode cX6_leave 6 = .ok (.astore_n 3, 1) := by decide +kernel
theorem dX6_leave_7 : decode cX6_leave 7 = .ok (.aload_n 3, 1) := by decide +kernel
theorem dX6_leave_8 : decode cX6_leave 8 = .ok (.getfield 123, 3) := by decide +kernel
theorem dX6_leave_11 : decode cX6_leave 11 = .ok (.aload_n 3, 1) := by decide +kernel
theorem dX6_leave_12 : decode cX6_leave 12 = .ok (.getfield 126, 3) := by decide +kernel
theorem dX6_leave_15 : decode cX6_leave 15 = .ok (.ifCond .eq 7, 3) := by decide +kernel
theorem dX6_leave_18 : decode cX6_leave 18 = .ok (.iconst 1, 1) := by decide +kernel
theorem dX6_leave_19 : decode cX6_leave 19 = .ok (.goto 4, 3) := by decide +kernel
theorem dX6_leave_22 : decode cX6_leave 22 = .ok (.iconst (-1), 1) := by decide +kernel
theorem dX6_leave_23 : decode cX6_leave 23 = .ok (.iadd, 1) := by decide +kernel
theorem dX6_leave_24 : decode cX6_leave 24 = .ok (.istore 4, 2) := by decide +kernel
theorem dX6_leave_26 : decode cX6_leave 26 = .ok (.iload 4, 2) := by decide +kernel
theorem dX6_leave_28 : decode cX6_leave 28 = .ok (.aload_n 0, 1) := by decide +kernel
theorem dX6_leave_29 : decode cX6_leave 29 = .ok (.getfield 32, 3) := by decide +kernel
theorem dX6_leave_32 : decode cX6_leave 32 = .ok (.if_icmp .lt 21, 3) := by decide +kernel
theorem dX6_leave_35 : decode cX6_leave 35 = .ok (.aload_n 0, 1) := by decide +kernel
theorem dX6_leave_36 : decode cX6_leave 36 = .ok (.iload_n 1, 1) := by decide +kernel
theorem dX6_leave_37 : decode cX6_leave 37 = .ok (.invokevirtual 213, 3) := by decide +kernel
theorem dX6_leave_40 : decode cX6_leave 40 = .ok (.aload_n 3, 1) := by decide +kernel
theorem dX6_leave_41 : decode cX6_leave 41 = .ok (.aload_n 3, 1) := by decide +kernel
theorem dX6_leave_42 : decode cX6_leave 42 = .ok (.getfield 123, 3) := by decide +kernel
theorem dX6_leave_45 : decode cX6_leave 45 = .ok (.iconst 0, 1) := by decide +kernel
theorem dX6_leave_46 : decode cX6_leave 46 = .ok (.iconst 0, 1) := by decide +kernel
theorem dX6_leave_47 : decode cX6_leave 47 = .ok (.invokevirtual 189, 3) := by decide +kernel
theorem dX6_leave_50 : decode cX6_leave 50 = .ok (.goto 56, 3) := by decide +kernel
theorem dX6_leave_53 : decode cX6_leave 53 = .ok (.iload 4, 2) := by decide +kernel
theorem dX6_leave_55 : decode cX6_leave 55 = .ok (.ifCond .ge 13, 3) := by decide +kernel
theorem dX6_leave_58 : decode cX6_leave 58 = .ok (.aload_n 3, 1) := by decide +kernel
theorem dX6_leave_59 : decode cX6_leave 59 = .ok (.iconst (-1), 1) := by decide +kernel
theorem dX6_leave_60 : decode cX6_leave 60 = .ok (.iconst 0, 1) := by decide +kernel
theorem dX6_leave_61 : decode cX6_leave 61 = .ok (.iconst 0, 1) := by decide +kernel
theorem dX6_leave_62 : decode cX6_leave 62 = .ok (.invokevirtual 189, 3) := by decide +kernel
theorem dX6_leave_65 : decode cX6_leave 65 = .ok (.goto 41, 3) := by decide +kernel
theorem dX6_leave_68 : decode cX6_leave 68 = .ok (.aload_n 0, 1) := by decide +kernel
theorem dX6_leave_69 : decode cX6_leave 69 = .ok (.aload_n 3, 1) := by decide +kernel
theorem dX6_leave_70 : decode cX6_leave 70 = .ok (.iload 4, 2) := by decide +kernel
theorem dX6_leave_72 : decode cX6_leave 72 = .ok (.invokevirtual 216, 3) := by decide +kernel
theorem dX6_leave_75 : decode cX6_leave 75 = .ok (.ifCond .eq 24, 3) := by decide +kernel
theorem dX6_leave_78 : decode cX6_leave 78 = .ok (.aload_n 0, 1) := by decide +kernel
theorem dX6_leave_79 : decode cX6_leave 79 = .ok (.aload_n 3, 1) := by decide +kernel
theorem dX6_leave_80 : decode cX6_leave 80 = .ok (.iload 4, 2) := by decide +kernel
theorem dX6_leave_82 : decode cX6_leave 82 = .ok (.invokevirtual 220, 3) := by decide +kernel
theorem dX6_leave_85 : decode cX6_leave 85 = .ok (.aload_n 3, 1) := by decide +kernel
theorem dX6_leave_86 : decode cX6_leave 86 = .ok (.iload 4, 2) := by decide +kernel
theorem dX6_leave_88 : decode cX6_leave 88 = .ok (.aload_n 3, 1) := by decide +kernel
theorem dX6_leave_89 : decode cX6_leave 89 = .ok (.getfield 126, 3) := by decide +kernel
theorem dX6_leave_92 : decode cX6_leave 92 = .ok (.iconst 0, 1) := by decide +kernel
theorem dX6_leave_93 : decode cX6_leave 93 = .ok (.invokevirtual 189, 3) := by decide +kernel
theorem dX6_leave_96 : decode cX6_leave 96 = .ok (.goto 10, 3) := by decide +kernel
theorem dX6_leave_99 : decode cX6_leave 99 = .ok (.aload_n 3, 1) := by decide +kernel
theorem dX6_leave_100 : decode cX6_leave 100 = .ok (.iload_n 2, 1) := by decide +kernel
theorem dX6_leave_101 : decode cX6_leave 101 = .ok (.iconst 1, 1) := by decide +kernel
theorem dX6_leave_102 : decode cX6_leave 102 = .ok (.isub, 1) := by decide +kernel
theorem dX6_leave_103 : decode cX6_leave 103 = .ok (.putfield 129, 3) := by decide +kernel
theorem dX6_leave_106 : decode cX6_leave 106 = .ok (.return_, 1) := by decide +kernel
theorem dX6_unload_0 : decode cX6_unload 0 = .ok (.iconst 0, 1) := by decide +kernel
theorem dX6_unload_1 : decode cX6_unload 1 = .ok (.istore_n 2, 1) := by decide +kernel
theorem dX6_unload_2 : decode cX6_unload 2 = .ok (.iload_n 2, 1) := by decide +kernel
theorem dX6_unload_3 : decode cX6_unload 3 = .ok (.aload_n 0, 1) := by decide +kernel
theorem dX6_unload_4 : decode cX6_unload 4 = .ok (.getfield 39, 3) := by decide +kernel
theorem dX6_unload_7 : decode cX6_unload 7 = .ok (.if_icmp .ge 64, 3) := by decide +kernel
theorem dX6_unload_10 : decode cX6_unload 10 = .ok (.aload_n 0, 1) := by decide +kernel
theorem dX6_unload_11 : decode cX6_unload 11 = .ok (.getfield 27, 3) := by decide +kernel
theorem dX6_unload_14 : decode cX6_unload 14 = .ok (.iload_n 2, 1) := by decide +kernel
theorem dX6_unload_15 : decode cX6_unload 15 = .ok (.aaload, 1) := by decide +kernel
theorem dX6_unload_16 : decode cX6_unload 16 = .ok (.astore_n 3, 1) := by decide +kernel
theorem dX6_unload_17 : decode cX6_unload 17 = .ok (.aload_n 3, 1) := by decide +kernel
theorem dX6_unload_18 : decode cX6_unload 18 = .ok (.getfield 144, 3) := by decide +kernel
theorem dX6_unload_21 : decode cX6_unload 21 = .ok (.iconst 1, 1) := by decide +kernel
theorem dX6_unload_22 : decode cX6_unload 22 = .ok (.if_icmp .ne 43, 3) := by decide +kernel
theorem dX6_unload_25 : decode cX6_unload 25 = .ok (.aload_n 3, 1) := by decide +kernel
theorem dX6_unload_26 : decode cX6_unload 26 = .ok (.getfield 147, 3) := by decide +kernel
theorem dX6_unload_29 : decode cX6_unload 29 = .ok (.iload_n 1, 1) := by decide +kernel
theorem dX6_unload_30 : decode cX6_unload 30 = .ok (.if_icmp .ne 35, 3) := by decide +kernel
theorem dX6_unload_33 : decode cX6_unload 33 = .ok (.aload_n 3, 1) := by decide +kernel
theorem dX6_unload_34 : decode cX6_unload 34 = .ok (.iconst 3, 1) := by decide +kernel
theorem dX6_unload_35 : decode cX6_unload 35 = .ok (.iconst (-1), 1) := by decide +kernel
theorem dX6_unload_36 : decode cX6_unload 36 = .ok (.invokevirtual 162, 3) := by decide +kernel
theorem dX6_unload_39 : decode cX6_unload 39 = .ok (.aload_n 3, 1) := by decide +kernel
theorem dX6_unload_40 : decode cX6_unload 40 = .ok (.aload_n 0, 1) := by decide +kernel
theorem dX6_unload_41 : decode cX6_unload 41 = .ok (.getfield 42, 3) := by decide +kernel
theorem dX6_unload_44 : decode cX6_unload 44 = .ok (.putfield 150, 3) := by decide +kernel
theorem dX6_unload_47 : decode cX6_unload 47 = .ok (.aload_n 0, 1) := by decide +kernel
theorem dX6_unload_48 : decode cX6_unload 48 = .ok (.getfield 20, 3) := by decide +kernel
theorem dX6_unload_51 : decode cX6_unload 51 = .ok (.iload_n 1, 1) := by decide +kernel
theorem dX6_unload_52 : decode cX6_unload 52 = .ok (.aaload, 1) := by decide +kernel
theorem dX6_unload_53 : decode cX6_unload 53 = .ok (.dup, 1) := by decide +kernel
theorem dX6_unload_54 : decode cX6_unload 54 = .ok (.getfield 138, 3) := by decide +kernel
theorem dX6_unload_57 : decode cX6_unload 57 = .ok (.aload_n 3, 1) := by decide +kernel
theorem dX6_unload_58 : decode cX6_unload 58 = .ok (.getfield 141, 3) := by decide +kernel
theorem dX6_unload_61 : decode cX6_unload 61 = .ok (.iadd, 1) := by decide +kernel
theorem dX6_unload_62 : decode cX6_unload 62 = .ok (.putfield 138, 3) := by decide +kernel
theorem dX6_unload_65 : decode cX6_unload 65 = .ok (.iinc 2 1, 3) := by decide +kernel
theorem dX6_unload_68 : decode cX6_unload 68 = .ok (.goto (-66), 3) := by decide +kernel
theorem dX6_unload_71 : decode cX6_unload 71 = .ok (.return_, 1) := by decide +kernel
theorem dX6_canGo_0 : decode cX6_canGo 0 = .ok (.iconst 0, 1) := by decide +kernel
theorem dX6_canGo_1 : decode cX6_canGo 1 = .ok (.istore_n 3, 1) := by decide +kernel
theorem dX6_canGo_2 : decode cX6_canGo 2 = .ok (.iload_n 3, 1) := by decide +kernel
theorem dX6_canGo_3 : decode cX6_canGo 3 = .ok (.aload_n 0, 1) := by decide +kernel
theorem dX6_canGo_4 : decode cX6_canGo 4 = .ok (.getfield 36, 3) := by decide +kernel
theorem dX6_canGo_7 : decode cX6_canGo 7 = .ok (.if_icmp .ge 55, 3) := by decide +kernel
theorem dX6_canGo_10 : decode cX6_canGo 10 = .ok (.aload_n 0, 1) := by decide +kernel
theorem dX6_canGo_11 : decode cX6_canGo 11 = .ok (.getfield 20, 3) := by decide +kernel
theorem dX6_canGo_14 : decode cX6_canGo 14 = .ok (.iload_n 3, 1) := by decide +kernel
theorem dX6_canGo_15 : decode cX6_canGo 15 = .ok (.aaload, 1) := by decide +kernel
theorem dX6_canGo_16 : decode cX6_canGo 16 = .ok (.astore 4, 2) := by decide +kernel
theorem dX6_canGo_18 : decode cX6_canGo 18 = .ok (.aload 4, 2) := by decide +kernel
theorem dX6_canGo_20 : decode cX6_canGo 20 = .ok (.getfield 123, 3) := by decide +kernel
theorem dX6_canGo_23 : decode cX6_canGo 23 = .ok (.iload_n 2, 1) := by decide +kernel
theorem dX6_canGo_24 : decode cX6_canGo 24 = .ok (.if_icmp .ne 32, 3) := by decide +kernel
theorem dX6_canGo_27 : decode cX6_canGo 27 = .ok (.aload 4, 2) := by decide +kernel
theorem dX6_canGo_29 : decode cX6_canGo 29 = .ok (.getfield 126, 3) := by decide +kernel
theorem dX6_canGo_32 : decode cX6_canGo 32 = .ok (.aload_n 1, 1) := by decide +kernel
theorem dX6_canGo_33 : decode cX6_canGo 33 = .ok (.getfield 126, 3) := by decide +kernel
theorem dX6_canGo_36 : decode cX6_canGo 36 = .ok (.if_icmp .eq 20, 3) := by decide +kernel
theorem dX6_canGo_39 : decode cX6_canGo 39 = .ok (.aload_n 1, 1) := by decide +kernel
theorem dX6_canGo_40 : decode cX6_canGo 40 = .ok (.getfield 119, 3) := by decide +kernel
theorem dX6_canGo_43 : decode cX6_canGo 43 = .ok (.ifCond .eq 11, 3) := by decide +kernel
theorem dX6_canGo_46 : decode cX6_canGo 46 = .ok (.aload 4, 2) := by decide +kernel
theorem dX6_canGo_48 : decode cX6_canGo 48 = .ok (.getfield 119, 3) := by decide +kernel
theorem dX6_canGo_51 : decode cX6_canGo 51 = .ok (.ifCond .eq 5, 3) := by decide +kernel
theorem dX6_canGo_54 : decode cX6_canGo 54 = .ok (.iconst 0, 1) := by decide +kernel
theorem dX6_canGo_55 : decode cX6_canGo 55 = .ok (.ireturn, 1) := by decide +kernel
theorem dX6_canGo_56 : decode cX6_canGo 56 = .ok (.iinc 3 1, 3) := by decide +kernel
theorem dX6_canGo_59 : decode cX6_canGo 59 = .ok (.goto (-57), 3) := by decide +kernel
theorem dX6_canGo_62 : decode cX6_canGo 62 = .ok (.iconst 1, 1) := by decide +kernel
theorem dX6_canGo_63 : decode cX6_canGo 63 = .ok (.ireturn, 1) := by decide +kernel
theorem dX6_stopOthers_0 : decode cX6_stopOthers 0 = .ok (.iconst 0, 1) := by decide +kernel
