theorem dX6_stopOthers_1 : decode cX6_stopOthers 1 = .ok (.istore_n 3, 1) := by decide +kernel
theorem dX6_stopOthers_2 : decode cX6_stopOthers 2 = .ok (.iload_n 3, 1) := by decide +kernel
theorem dX6_stopOthers_3 : decode cX6_stopOthers 3 = .ok (.aload_n 0, 1) := by decide +kernel
theorem dX6_stopOthers_4 : decode cX6_stopOthers 4 = .ok (.getfield 36, 3) := by decide +kernel
theorem dX6_stopOthers_7 : decode cX6_stopOthers 7 = .ok (.if_icmp .ge 48, 3) := by decide +kernel
theorem dX6_stopOthers_10 : decode cX6_stopOthers 10 = .ok (.aload_n 0, 1) := by decide +kernel
theorem dX6_stopOthers_11 : decode cX6_stopOthers 11 = .ok (.getfield 20, 3) := by decide +kernel
theorem dX6_stopOthers_14 : decode cX6_stopOthers 14 = .ok (.iload_n 3, 1) := by decide +kernel
theorem dX6_stopOthers_15 : decode cX6_stopOthers 15 = .ok (.aaload, 1) := by decide +kernel
theorem dX6_stopOthers_16 : decode cX6_stopOthers 16 = .ok (.getfield 123, 3) := by decide +kernel
theorem dX6_stopOthers_19 : decode cX6_stopOthers 19 = .ok (.iload_n 2, 1) := by decide +kernel
theorem dX6_stopOthers_20 : decode cX6_stopOthers 20 = .ok (.if_icmp .ne 29, 3) := by decide +kernel
theorem dX6_stopOthers_23 : decode cX6_stopOthers 23 = .ok (.aload_n 0, 1) := by decide +kernel
theorem dX6_stopOthers_24 : decode cX6_stopOthers 24 = .ok (.getfield 20, 3) := by decide +kernel
theorem dX6_stopOthers_27 : decode cX6_stopOthers 27 = .ok (.iload_n 3, 1) := by decide +kernel
theorem dX6_stopOthers_28 : decode cX6_stopOthers 28 = .ok (.aaload, 1) := by decide +kernel
theorem dX6_stopOthers_29 : decode cX6_stopOthers 29 = .ok (.getfield 126, 3) := by decide +kernel
theorem dX6_stopOthers_32 : decode cX6_stopOthers 32 = .ok (.aload_n 1, 1) := by decide +kernel
theorem dX6_stopOthers_33 : decode cX6_stopOthers 33 = .ok (.getfield 126, 3) := by decide +kernel
theorem dX6_stopOthers_36 : decode cX6_stopOthers 36 = .ok (.if_icmp .eq 13, 3) := by decide +kernel
theorem dX6_stopOthers_39 : decode cX6_stopOthers 39 = .ok (.aload_n 0, 1) := by decide +kernel
theorem dX6_stopOthers_40 : decode cX6_stopOthers 40 = .ok (.getfield 20, 3) := by decide +kernel
theorem dX6_stopOthers_43 : decode cX6_stopOthers 43 = .ok (.iload_n 3, 1) := by decide +kernel
theorem dX6_stopOthers_44 : decode cX6_stopOthers 44 = .ok (.aaload, 1) := by decide +kernel
theorem dX6_stopOthers_45 : decode cX6_stopOthers 45 = .ok (.iconst 1, 1) := by decide +kernel
theorem dX6_stopOthers_46 : decode cX6_stopOthers 46 = .ok (.putfield 166, 3) := by decide +kernel
theorem dX6_stopOthers_49 : decode cX6_stopOthers 49 = .ok (.iinc 3 1, 3) := by decide +kernel
theorem dX6_stopOthers_52 : decode cX6_stopOthers 52 = .ok (.goto (-50), 3) := by decide +kernel
theorem dX6_stopOthers_55 : decode cX6_stopOthers 55 = .ok (.return_, 1) := by decide +kernel
theorem dX6_freeze_0 : decode cX6_freeze 0 = .ok (.aload_n 0, 1) := by decide +kernel
theorem dX6_freeze_1 : decode cX6_freeze 1 = .ok (.getfield 42, 3) := by decide +kernel
theorem dX6_freeze_4 : decode cX6_freeze 4 = .ok (.bipush 6, 2) := by decide +kernel
theorem dX6_freeze_6 : decode cX6_freeze 6 = .ok (.irem, 1) := by decide +kernel
theorem dX6_freeze_7 : decode cX6_freeze 7 = .ok (.ifCond .eq 4, 3) := by decide +kernel
theorem dX6_freeze_10 : decode cX6_freeze 10 = .ok (.return_, 1) := by decide +kernel
theorem dX6_freeze_11 : decode cX6_freeze 11 = .ok (.iconst 0, 1) := by decide +kernel
theorem dX6_freeze_12 : decode cX6_freeze 12 = .ok (.istore_n 1, 1) := by decide +kernel
theorem dX6_freeze_13 : decode cX6_freeze 13 = .ok (.iload_n 1, 1) := by decide +kernel
theorem dX6_freeze_14 : decode cX6_freeze 14 = .ok (.aload_n 0, 1) := by decide +kernel
theorem dX6_freeze_15 : decode cX6_freeze 15 = .ok (.getfield 32, 3) := by decide +kernel
theorem dX6_freeze_18 : decode cX6_freeze 18 = .ok (.if_icmp .ge 41, 3) := by decide +kernel
theorem dX6_freeze_21 : decode cX6_freeze 21 = .ok (.aload_n 0, 1) := by decide +kernel
theorem dX6_freeze_22 : decode cX6_freeze 22 = .ok (.getfield 11, 3) := by decide +kernel
theorem dX6_freeze_25 : decode cX6_freeze 25 = .ok (.iload_n 1, 1) := by decide +kernel
theorem dX6_freeze_26 : decode cX6_freeze 26 = .ok (.aaload, 1) := by decide +kernel
theorem dX6_freeze_27 : decode cX6_freeze 27 = .ok (.iconst 0, 1) := by decide +kernel
theorem dX6_freeze_28 : decode cX6_freeze 28 = .ok (.bipush 9, 2) := by decide +kernel
theorem dX6_freeze_30 : decode cX6_freeze 30 = .ok (.aload_n 0, 1) := by decide +kernel
theorem dX6_freeze_31 : decode cX6_freeze 31 = .ok (.getfield 11, 3) := by decide +kernel
theorem dX6_freeze_34 : decode cX6_freeze 34 = .ok (.iload_n 1, 1) := by decide +kernel
theorem dX6_freeze_35 : decode cX6_freeze 35 = .ok (.aaload, 1) := by decide +kernel
theorem dX6_freeze_36 : decode cX6_freeze 36 = .ok (.getfield 101, 3) := by decide +kernel
theorem dX6_freeze_39 : decode cX6_freeze 39 = .ok (.aload_n 0, 1) := by decide +kernel
theorem dX6_freeze_40 : decode cX6_freeze 40 = .ok (.getfield 45, 3) := by decide +kernel
theorem dX6_freeze_43 : decode cX6_freeze 43 = .ok (.iadd, 1) := by decide +kernel
theorem dX6_freeze_44 : decode cX6_freeze 44 = .ok (.invokestatic 159, 3) := by decide +kernel
theorem dX6_freeze_47 : decode cX6_freeze 47 = .ok (.invokestatic 153, 3) := by decide +kernel
theorem dX6_freeze_50 : decode cX6_freeze 50 = .ok (.putfield 101, 3) := by decide +kernel
theorem dX6_freeze_53 : decode cX6_freeze 53 = .ok (.iinc 1 1, 3) := by decide +kernel
theorem dX6_freeze_56 : decode cX6_freeze 56 = .ok (.goto (-43), 3) := by decide +kernel
theorem dX6_freeze_59 : decode cX6_freeze 59 = .ok (.return_, 1) := by decide +kernel
theorem dX8_init_0 : decode cX8_init 0 = .ok (.aload_n 0, 1) := by decide +kernel
theorem dX8_init_1 : decode cX8_init 1 = .ok (.invokespecial 1, 3) := by decide +kernel
theorem dX8_init_4 : decode cX8_init 4 = .ok (.return_, 1) := by decide +kernel
theorem dX8_tell_0 : decode cX8_tell 0 = .ok (.aload_n 0, 1) := by decide +kernel
theorem dX8_tell_1 : decode cX8_tell 1 = .ok (.lload_n 1, 1) := by decide +kernel
theorem dX8_tell_2 : decode cX8_tell 2 = .ok (.putfield 7, 3) := by decide +kernel
theorem dX8_tell_5 : decode cX8_tell 5 = .ok (.aload_n 0, 1) := by decide +kernel
theorem dX8_tell_6 : decode cX8_tell 6 = .ok (.iload_n 3, 1) := by decide +kernel
theorem dX8_tell_7 : decode cX8_tell 7 = .ok (.putfield 13, 3) := by decide +kernel
theorem dX8_tell_10 : decode cX8_tell 10 = .ok (.aload_n 0, 1) := by decide +kernel
theorem dX8_tell_11 : decode cX8_tell 11 = .ok (.iload 4, 2) := by decide +kernel
theorem dX8_tell_13 : decode cX8_tell 13 = .ok (.putfield 17, 3) := by decide +kernel
theorem dX8_tell_16 : decode cX8_tell 16 = .ok (.aload_n 0, 1) := by decide +kernel
theorem dX8_tell_17 : decode cX8_tell 17 = .ok (.iload 5, 2) := by decide +kernel
theorem dX8_tell_19 : decode cX8_tell 19 = .ok (.putfield 20, 3) := by decide +kernel
theorem dX8_tell_22 : decode cX8_tell 22 = .ok (.return_, 1) := by decide +kernel
theorem dX8_become_0 : decode cX8_become 0 = .ok (.aload_n 0, 1) := by decide +kernel
theorem dX8_become_1 : decode cX8_become 1 = .ok (.aload_n 1, 1) := by decide +kernel
theorem dX8_become_2 : decode cX8_become 2 = .ok (.getfield 7, 3) := by decide +kernel
theorem dX8_become_5 : decode cX8_become 5 = .ok (.aload_n 1, 1) := by decide +kernel
theorem dX8_become_6 : decode cX8_become 6 = .ok (.getfield 13, 3) := by decide +kernel
theorem dX8_become_9 : decode cX8_become 9 = .ok (.aload_n 1, 1) := by decide +kernel
theorem dX8_become_10 : decode cX8_become 10 = .ok (.getfield 17, 3) := by decide +kernel
theorem dX8_become_13 : decode cX8_become 13 = .ok (.aload_n 1, 1) := by decide +kernel
theorem dX8_become_14 : decode cX8_become 14 = .ok (.getfield 20, 3) := by decide +kernel
theorem dX8_become_17 : decode cX8_become 17 = .ok (.invokevirtual 23, 3) := by decide +kernel
theorem dX8_become_20 : decode cX8_become 20 = .ok (.return_, 1) := by decide +kernel
theorem dX9_init_0 : decode cX9_init 0 = .ok (.aload_n 0, 1) := by decide +kernel
theorem dX9_init_1 : decode cX9_init 1 = .ok (.invokespecial 3, 3) := by decide +kernel
theorem dX9_init_4 : decode cX9_init 4 = .ok (.aload_n 0, 1) := by decide +kernel
theorem dX9_init_5 : decode cX9_init 5 = .ok (.sipush 401, 3) := by decide +kernel
theorem dX9_init_8 : decode cX9_init 8 = .ok (.anewarray 9, 3) := by decide +kernel
theorem dX9_init_11 : decode cX9_init 11 = .ok (.putfield 11, 3) := by decide +kernel
theorem dX9_init_14 : decode cX9_init 14 = .ok (.iconst 0, 1) := by decide +kernel
theorem dX9_init_15 : decode cX9_init 15 = .ok (.istore_n 1, 1) := by decide +kernel
theorem dX9_init_16 : decode cX9_init 16 = .ok (.iload_n 1, 1) := by decide +kernel
theorem dX9_init_17 : decode cX9_init 17 = .ok (.aload_n 0, 1) := by decide +kernel
theorem dX9_init_18 : decode cX9_init 18 = .ok (.getfield 11, 3) := by decide +kernel
theorem dX9_init_21 : decode cX9_init 21 = .ok (.arraylength, 1) := by decide +kernel
theorem dX9_init_22 : decode cX9_init 22 = .ok (.if_icmp .ge 18, 3) := by decide +kernel
theorem dX9_init_25 : decode cX9_init 25 = .ok (.aload_n 0, 1) := by decide +kernel
theorem dX9_init_26 : decode cX9_init 26 = .ok (.getfield 11, 3) := by decide +kernel
theorem dX9_init_29 : decode cX9_init 29 = .ok (.iload_n 1, 1) := by decide +kernel
theorem dX9_init_30 : decode cX9_init 30 = .ok (.getstatic 17, 3) := by decide +kernel
theorem dX9_init_33 : decode cX9_init 33 = .ok (.aastore, 1) := by decide +kernel
theorem dX9_init_34 : decode cX9_init 34 = .ok (.iinc 1 1, 3) := by decide +kernel
theorem dX9_init_37 : decode cX9_init 37 = .ok (.goto (-21), 3) := by decide +kernel
theorem dX9_init_40 : decode cX9_init 40 = .ok (.aload_n 0, 1) := by decide +kernel
theorem dX9_init_41 : decode cX9_init 41 = .ok (.sipush 401, 3) := by decide +kernel
theorem dX9_init_44 : decode cX9_init 44 = .ok (.newarray .int, 2) := by decide +kernel
theorem dX9_init_46 : decode cX9_init 46 = .ok (.putfield 21, 3) := by decide +kernel
theorem dX9_init_49 : decode cX9_init 49 = .ok (.aload_n 0, 1) := by decide +kernel
theorem dX9_init_50 : decode cX9_init 50 = .ok (.sipush 401, 3) := by decide +kernel
theorem dX9_init_53 : decode cX9_init 53 = .ok (.newarray .long, 2) := by decide +kernel
theorem dX9_init_55 : decode cX9_init 55 = .ok (.putfield 25, 3) := by decide +kernel
theorem dX9_init_58 : decode cX9_init 58 = .ok (.aload_n 0, 1) := by decide +kernel
theorem dX9_init_59 : decode cX9_init 59 = .ok (.iconst 0, 1) := by decide +kernel
theorem dX9_init_60 : decode cX9_init 60 = .ok (.putfield 29, 3) := by decide +kernel
theorem dX9_init_63 : decode cX9_init 63 = .ok (.aload_n 0, 1) := by decide +kernel
theorem dX9_init_64 : decode cX9_init 64 = .ok (.iconst 0, 1) := by decide +kernel
theorem dX9_init_65 : decode cX9_init 65 = .ok (.newarray .byte, 2) := by decide +kernel
theorem dX9_init_67 : decode cX9_init 67 = .ok (.putfield 33, 3) := by decide +kernel
theorem dX9_init_70 : decode cX9_init 70 = .ok (.aload_n 0, 1) := by decide +kernel
theorem dX9_init_71 : decode cX9_init 71 = .ok (.iconst 0, 1) := by decide +kernel
theorem dX9_init_72 : decode cX9_init 72 = .ok (.putfield 37, 3) := by decide +kernel
theorem dX9_init_75 : decode cX9_init 75 = .ok (.return_, 1) := by decide +kernel
theorem dX9_scan_0 : decode cX9_scan 0 = .ok (.aload_n 0, 1) := by decide +kernel
theorem dX9_scan_1 : decode cX9_scan 1 = .ok (.aload_n 1, 1) := by decide +kernel
theorem dX9_scan_2 : decode cX9_scan 2 = .ok (.putfield 33, 3) := by decide +kernel
theorem dX9_scan_5 : decode cX9_scan 5 = .ok (.aload_n 0, 1) := by decide +kernel
theorem dX9_scan_6 : decode cX9_scan 6 = .ok (.iconst 0, 1) := by decide +kernel
theorem dX9_scan_7 : decode cX9_scan 7 = .ok (.iload_n 2, 1) := by decide +kernel
theorem dX9_scan_8 : decode cX9_scan 8 = .ok (.aload_n 1, 1) := by decide +kernel
theorem dX9_scan_9 : decode cX9_scan 9 = .ok (.arraylength, 1) := by decide +kernel
theorem dX9_scan_10 : decode cX9_scan 10 = .ok (.invokestatic 40, 3) := by decide +kernel
theorem dX9_scan_13 : decode cX9_scan 13 = .ok (.invokestatic 46, 3) := by decide +kernel
theorem dX9_scan_16 : decode cX9_scan 16 = .ok (.putfield 37, 3) := by decide +kernel
theorem dX9_scan_19 : decode cX9_scan 19 = .ok (.iconst 0, 1) := by decide +kernel
theorem dX9_scan_20 : decode cX9_scan 20 = .ok (.istore_n 3, 1) := by decide +kernel
theorem dX9_scan_21 : decode cX9_scan 21 = .ok (.aload_n 0, 1) := by decide +kernel
theorem dX9_scan_22 : decode cX9_scan 22 = .ok (.iconst 0, 1) := by decide +kernel
theorem dX9_scan_23 : decode cX9_scan 23 = .ok (.putfield 29, 3) := by decide +kernel
theorem dX9_scan_26 : decode cX9_scan 26 = .ok (.aload_n 0, 1) := by decide +kernel
theorem dX9_scan_27 : decode cX9_scan 27 = .ok (.getfield 29, 3) := by decide +kernel
theorem dX9_scan_30 : decode cX9_scan 30 = .ok (.sipush 400, 3) := by decide +kernel
theorem dX9_scan_33 : decode cX9_scan 33 = .ok (.if_icmp .ge 53, 3) := by decide +kernel
theorem dX9_scan_36 : decode cX9_scan 36 = .ok (.aload_n 0, 1) := by decide +kernel
theorem dX9_scan_37 : decode cX9_scan 37 = .ok (.iload_n 3, 1) := by decide +kernel
theorem dX9_scan_38 : decode cX9_scan 38 = .ok (.invokevirtual 49, 3) := by decide +kernel
theorem dX9_scan_41 : decode cX9_scan 41 = .ok (.istore_n 3, 1) := by decide +kernel
theorem dX9_scan_42 : decode cX9_scan 42 = .ok (.iload_n 3, 1) := by decide +kernel
theorem dX9_scan_43 : decode cX9_scan 43 = .ok (.aload_n 0, 1) := by decide +kernel
theorem dX9_scan_44 : decode cX9_scan 44 = .ok (.getfield 37, 3) := by decide +kernel
theorem dX9_scan_47 : decode cX9_scan 47 = .ok (.if_icmp .ge 11, 3) := by decide +kernel
theorem dX9_scan_50 : decode cX9_scan 50 = .ok (.aload_n 0, 1) := by decide +kernel
theorem dX9_scan_51 : decode cX9_scan 51 = .ok (.iload_n 3, 1) := by decide +kernel
theorem dX9_scan_52 : decode cX9_scan 52 = .ok (.invokevirtual 53, 3) := by decide +kernel
theorem dX9_scan_55 : decode cX9_scan 55 = .ok (.goto 4, 3) := by decide +kernel
theorem dX9_scan_58 : decode cX9_scan 58 = .ok (.iload_n 3, 1) := by decide +kernel
theorem dX9_scan_59 : decode cX9_scan 59 = .ok (.istore 4, 2) := by decide +kernel
theorem dX9_scan_61 : decode cX9_scan 61 = .ok (.iload 4, 2) := by decide +kernel
theorem dX9_scan_63 : decode cX9_scan 63 = .ok (.iload_n 3, 1) := by decide +kernel
theorem dX9_scan_64 : decode cX9_scan 64 = .ok (.if_icmp .gt 6, 3) := by decide +kernel
theorem dX9_scan_67 : decode cX9_scan 67 = .ok (.goto 19, 3) := by decide +kernel
theorem dX9_scan_70 : decode cX9_scan 70 = .ok (.iload 4, 2) := by decide +kernel
theorem dX9_scan_72 : decode cX9_scan 72 = .ok (.istore_n 3, 1) := by decide +kernel
theorem dX9_scan_73 : decode cX9_scan 73 = .ok (.aload_n 0, 1) := by decide +kernel
theorem dX9_scan_74 : decode cX9_scan 74 = .ok (.dup, 1) := by decide +kernel
theorem dX9_scan_75 : decode cX9_scan 75 = .ok (.getfield 29, 3) := by decide +kernel
theorem dX9_scan_78 : decode cX9_scan 78 = .ok (.iconst 1, 1) := by decide +kernel
theorem dX9_scan_79 : decode cX9_scan 79 = .ok (.iadd, 1) := by decide +kernel
theorem dX9_scan_80 : decode cX9_scan 80 = .ok (.putfield 29, 3) := by decide +kernel
theorem dX9_scan_83 : decode cX9_scan 83 = .ok (.goto (-57), 3) := by decide +kernel
theorem dX9_scan_86 : decode cX9_scan 86 = .ok (.aload_n 0, 1) := by decide +kernel
theorem dX9_scan_87 : decode cX9_scan 87 = .ok (.iload_n 3, 1) := by decide +kernel
theorem dX9_scan_88 : decode cX9_scan 88 = .ok (.invokevirtual 49, 3) := by decide +kernel
theorem dX9_scan_91 : decode cX9_scan 91 = .ok (.istore_n 3, 1) := by decide +kernel
theorem dX9_scan_92 : decode cX9_scan 92 = .ok (.aload_n 0, 1) := by decide +kernel
theorem dX9_scan_93 : decode cX9_scan 93 = .ok (.getfield 11, 3) := by decide +kernel
theorem dX9_scan_96 : decode cX9_scan 96 = .ok (.aload_n 0, 1) := by decide +kernel
theorem dX9_scan_97 : decode cX9_scan 97 = .ok (.getfield 29, 3) := by decide +kernel
theorem dX9_scan_100 : decode cX9_scan 100 = .ok (.iload_n 3, 1) := by decide +kernel
theorem dX9_scan_101 : decode cX9_scan 101 = .ok (.aload_n 0, 1) := by decide +kernel
theorem dX9_scan_102 : decode cX9_scan 102 = .ok (.getfield 37, 3) := by decide +kernel
theorem dX9_scan_105 : decode cX9_scan 105 = .ok (.if_icmp .ge 9, 3) := by decide +kernel
theorem dX9_scan_108 : decode cX9_scan 108 = .ok (.getstatic 56, 3) := by decide +kernel
theorem dX9_scan_111 : decode cX9_scan 111 = .ok (.goto 6, 3) := by decide +kernel
theorem dX9_scan_114 : decode cX9_scan 114 = .ok (.getstatic 17, 3) := by decide +kernel
theorem dX9_scan_117 : decode cX9_scan 117 = .ok (.aastore, 1) := by decide +kernel
theorem dX9_scan_118 : decode cX9_scan 118 = .ok (.aload_n 0, 1) := by decide +kernel
theorem dX9_scan_119 : decode cX9_scan 119 = .ok (.getfield 21, 3) := by decide +kernel
theorem dX9_scan_122 : decode cX9_scan 122 = .ok (.aload_n 0, 1) := by decide +kernel
theorem dX9_scan_123 : decode cX9_scan 123 = .ok (.getfield 29, 3) := by decide +kernel
theorem dX9_scan_126 : decode cX9_scan 126 = .ok (.iload_n 3, 1) := by decide +kernel
theorem dX9_scan_127 : decode cX9_scan 127 = .ok (.iastore, 1) := by decide +kernel
theorem dX9_scan_128 : decode cX9_scan 128 = .ok (.return_, 1) := by decide +kernel
theorem dX9_behindBlanks_0 : decode cX9_behindBlanks 0 = .ok (.iload_n 1, 1) := by decide +kernel
theorem dX9_behindBlanks_1 : decode cX9_behindBlanks 1 = .ok (.istore_n 2, 1) := by decide +kernel
theorem dX9_behindBlanks_2 : decode cX9_behindBlanks 2 = .ok (.iload_n 2, 1) := by decide +kernel
theorem dX9_behindBlanks_3 : decode cX9_behindBlanks 3 = .ok (.aload_n 0, 1) := by decide +kernel
theorem dX9_behindBlanks_4 : decode cX9_behindBlanks 4 = .ok (.getfield 37, 3) := by decide +kernel
theorem dX9_behindBlanks_7 : decode cX9_behindBlanks 7 = .ok (.if_icmp .ge 31, 3) := by decide +kernel
theorem dX9_behindBlanks_10 : decode cX9_behindBlanks 10 = .ok (.aload_n 0, 1) := by decide +kernel
theorem dX9_behindBlanks_11 : decode cX9_behindBlanks 11 = .ok (.getfield 33, 3) := by decide +kernel
theorem dX9_behindBlanks_14 : decode cX9_behindBlanks 14 = .ok (.iload_n 2, 1) := by decide +kernel
theorem dX9_behindBlanks_15 : decode cX9_behindBlanks 15 = .ok (.baload, 1) := by decide +kernel
theorem dX9_behindBlanks_16 : decode cX9_behindBlanks 16 = .ok (.bipush 32, 2) := by decide +kernel
theorem dX9_behindBlanks_18 : decode cX9_behindBlanks 18 = .ok (.if_icmp .eq 14, 3) := by decide +kernel
theorem dX9_behindBlanks_21 : decode cX9_behindBlanks 21 = .ok (.aload_n 0, 1) := by decide +kernel
theorem dX9_behindBlanks_22 : decode cX9_behindBlanks 22 = .ok (.getfield 33, 3) := by decide +kernel
theorem dX9_behindBlanks_25 : decode cX9_behindBlanks 25 = .ok (.iload_n 2, 1) := by decide +kernel
theorem dX9_behindBlanks_26 : decode cX9_behindBlanks 26 = .ok (.baload, 1) := by decide +kernel
theorem dX9_behindBlanks_27 : decode cX9_behindBlanks 27 = .ok (.bipush 10, 2) := by decide +kernel
theorem dX9_behindBlanks_29 : decode cX9_behindBlanks 29 = .ok (.if_icmp .ne 9, 3) := by decide +kernel
theorem dX9_behindBlanks_32 : decode cX9_behindBlanks 32 = .ok (.iinc 2 1, 3) := by decide +kernel
theorem dX9_behindBlanks_35 : decode cX9_behindBlanks 35 = .ok (.goto (-33), 3) := by decide +kernel
theorem dX9_behindBlanks_38 : decode cX9_behindBlanks 38 = .ok (.iload_n 2, 1) := by decide +kernel
theorem dX9_behindBlanks_39 : decode cX9_behindBlanks 39 = .ok (.ireturn, 1) := by decide +kernel
theorem dX9_scanToken_0 : decode cX9_scanToken 0 = .ok (.aload_n 0, 1) := by decide +kernel
theorem dX9_scanToken_1 : decode cX9_scanToken 1 = .ok (.getfield 21, 3) := by decide +kernel
theorem dX9_scanToken_4 : decode cX9_scanToken 4 = .ok (.aload_n 0, 1) := by decide +kernel
theorem dX9_scanToken_5 : decode cX9_scanToken 5 = .ok (.getfield 29, 3) := by decide +kernel
theorem dX9_scanToken_8 : decode cX9_scanToken 8 = .ok (.iload_n 1, 1) := by decide +kernel
theorem dX9_scanToken_9 : decode cX9_scanToken 9 = .ok (.iastore, 1) := by decide +kernel
theorem dX9_scanToken_10 : decode cX9_scanToken 10 = .ok (.aload_n 0, 1) := by decide +kernel
theorem dX9_scanToken_11 : decode cX9_scanToken 11 = .ok (.getfield 33, 3) := by decide +kernel
theorem dX9_scanToken_14 : decode cX9_scanToken 14 = .ok (.iload_n 1, 1) := by decide +kernel
theorem dX9_scanToken_15 : decode cX9_scanToken 15 = .ok (.baload, 1) := by decide +kernel
theorem dX9_scanToken_16 : decode cX9_scanToken 16 = .ok (.istore_n 2, 1) := by decide +kernel
theorem dX9_scanToken_17 : decode cX9_scanToken 17 = .ok (.iload_n 2, 1) := by decide +kernel
theorem dX9_scanToken_18 : decode cX9_scanToken 18 = .ok (.invokestatic 59, 3) := by decide +kernel
theorem dX9_scanToken_21 : decode cX9_scanToken 21 = .ok (.ifCond .eq 9, 3) := by decide +kernel
theorem dX9_scanToken_24 : decode cX9_scanToken 24 = .ok (.aload_n 0, 1) := by decide +kernel
theorem dX9_scanToken_25 : decode cX9_scanToken 25 = .ok (.iload_n 1, 1) := by decide +kernel
theorem dX9_scanToken_26 : decode cX9_scanToken 26 = .ok (.invokevirtual 63, 3) := by decide +kernel
theorem dX9_scanToken_29 : decode cX9_scanToken 29 = .ok (.ireturn, 1) := by decide +kernel
theorem dX9_scanToken_30 : decode cX9_scanToken 30 = .ok (.iload_n 2, 1) := by decide +kernel
theorem dX9_scanToken_31 : decode cX9_scanToken 31 = .ok (.invokestatic 66, 3) := by decide +kernel
theorem dX9_scanToken_34 : decode cX9_scanToken 34 = .ok (.ifCond .eq 11, 3) := by decide +kernel
theorem dX9_scanToken_37 : decode cX9_scanToken 37 = .ok (.aload_n 0, 1) := by decide +kernel
theorem dX9_scanToken_38 : decode cX9_scanToken 38 = .ok (.iload_n 1, 1) := by decide +kernel
theorem dX9_scanToken_39 : decode cX9_scanToken 39 = .ok (.invokevirtual 69, 3) := by decide +kernel
theorem dX9_scanToken_42 : decode cX9_scanToken 42 = .ok (.goto 8, 3) := by decide +kernel
theorem dX9_scanToken_45 : decode cX9_scanToken 45 = .ok (.aload_n 0, 1) := by decide +kernel
theorem dX9_scanToken_46 : decode cX9_scanToken 46 = .ok (.iload_n 1, 1) := by decide +kernel
theorem dX9_scanToken_47 : decode cX9_scanToken 47 = .ok (.invokevirtual 72, 3) := by decide +kernel
theorem dX9_scanToken_50 : decode cX9_scanToken 50 = .ok (.ireturn, 1) := by decide +kernel
theorem dX9_scanWord_0 : decode cX9_scanWord 0 = .ok (.lconst 0, 1) := by decide +kernel
theorem dX9_scanWord_1 : decode cX9_scanWord 1 = .ok (.lstore_n 2, 1) := by decide +kernel
theorem dX9_scanWord_2 : decode cX9_scanWord 2 = .ok (.iload_n 1, 1) := by decide +kernel
theorem dX9_scanWord_3 : decode cX9_scanWord 3 = .ok (.istore 4, 2) := by decide +kernel
theorem dX9_scanWord_5 : decode cX9_scanWord 5 = .ok (.iload 4, 2) := by decide +kernel
theorem dX9_scanWord_7 : decode cX9_scanWord 7 = .ok (.aload_n 0, 1) := by decide +kernel
theorem dX9_scanWord_8 : decode cX9_scanWord 8 = .ok (.getfield 37, 3) := by decide +kernel
theorem dX9_scanWord_11 : decode cX9_scanWord 11 = .ok (.if_icmp .ge 84, 3) := by decide +kernel
theorem dX9_scanWord_14 : decode cX9_scanWord 14 = .ok (.aload_n 0, 1) := by decide +kernel
theorem dX9_scanWord_15 : decode cX9_scanWord 15 = .ok (.getfield 33, 3) := by decide +kernel
theorem dX9_scanWord_18 : decode cX9_scanWord 18 = .ok (.iload 4, 2) := by decide +kernel
theorem dX9_scanWord_20 : decode cX9_scanWord 20 = .ok (.baload, 1) := by decide +kernel
theorem dX9_scanWord_21 : decode cX9_scanWord 21 = .ok (.invokestatic 59, 3) := by decide +kernel
theorem dX9_scanWord_24 : decode cX9_scanWord 24 = .ok (.ifCond .ne 16, 3) := by decide +kernel
theorem dX9_scanWord_27 : decode cX9_scanWord 27 = .ok (.aload_n 0, 1) := by decide +kernel
theorem dX9_scanWord_28 : decode cX9_scanWord 28 = .ok (.getfield 33, 3) := by decide +kernel
theorem dX9_scanWord_31 : decode cX9_scanWord 31 = .ok (.iload 4, 2) := by decide +kernel
theorem dX9_scanWord_33 : decode cX9_scanWord 33 = .ok (.baload, 1) := by decide +kernel
theorem dX9_scanWord_34 : decode cX9_scanWord 34 = .ok (.invokestatic 66, 3) := by decide +kernel
theorem dX9_scanWord_37 : decode cX9_scanWord 37 = .ok (.ifCond .eq 58, 3) := by decide +kernel
theorem dX9_scanWord_40 : decode cX9_scanWord 40 = .ok (.lload_n 2, 1) := by decide +kernel
theorem dX9_scanWord_41 : decode cX9_scanWord 41 = .ok (.ldc2_w 75, 3) := by decide +kernel
theorem dX9_scanWord_44 : decode cX9_scanWord 44 = .ok (.lmul, 1) := by decide +kernel
theorem dX9_scanWord_45 : decode cX9_scanWord 45 = .ok (.aload_n 0, 1) := by decide +kernel
theorem dX9_scanWord_46 : decode cX9_scanWord 46 = .ok (.getfield 33, 3) := by decide +kernel
theorem dX9_scanWord_49 : decode cX9_scanWord 49 = .ok (.iload 4, 2) := by decide +kernel
theorem dX9_scanWord_51 : decode cX9_scanWord 51 = .ok (.baload, 1) := by decide +kernel
theorem dX9_scanWord_52 : decode cX9_scanWord 52 = .ok (.invokestatic 59, 3) := by decide +kernel
theorem dX9_scanWord_55 : decode cX9_scanWord 55 = .ok (.ifCond .eq 18, 3) := by decide +kernel
theorem dX9_scanWord_58 : decode cX9_scanWord 58 = .ok (.aload_n 0, 1) := by decide +kernel
theorem dX9_scanWord_59 : decode cX9_scanWord 59 = .ok (.getfield 33, 3) := by decide +kernel
theorem dX9_scanWord_62 : decode cX9_scanWord 62 = .ok (.iload 4, 2) := by decide +kernel
theorem dX9_scanWord_64 : decode cX9_scanWord 64 = .ok (.baload, 1) := by decide +kernel
theorem dX9_scanWord_65 : decode cX9_scanWord 65 = .ok (.bipush 97, 2) := by decide +kernel
theorem dX9_scanWord_67 : decode cX9_scanWord 67 = .ok (.isub, 1) := by decide +kernel
theorem dX9_scanWord_68 : decode cX9_scanWord 68 = .ok (.iconst 1, 1) := by decide +kernel
theorem dX9_scanWord_69 : decode cX9_scanWord 69 = .ok (.iadd, 1) := by decide +kernel
theorem dX9_scanWord_70 : decode cX9_scanWord 70 = .ok (.goto 16, 3) := by decide +kernel
theorem dX9_scanWord_73 : decode cX9_scanWord 73 = .ok (.aload_n 0, 1) := by decide +kernel
theorem dX9_scanWord_74 : decode cX9_scanWord 74 = .ok (.getfield 33, 3) := by decide +kernel
theorem dX9_scanWord_77 : decode cX9_scanWord 77 = .ok (.iload 4, 2) := by decide +kernel
theorem dX9_scanWord_79 : decode cX9_scanWord 79 = .ok (.baload, 1) := by decide +kernel
theorem dX9_scanWord_80 : decode cX9_scanWord 80 = .ok (.bipush 48, 2) := by decide +kernel
theorem dX9_scanWord_82 : decode cX9_scanWord 82 = .ok (.isub, 1) := by decide +kernel
theorem dX9_scanWord_83 : decode cX9_scanWord 83 = .ok (.bipush 27, 2) := by decide +kernel
theorem dX9_scanWord_85 : decode cX9_scanWord 85 = .ok (.iadd, 1) := by decide +kernel
theorem dX9_scanWord_86 : decode cX9_scanWord 86 = .ok (.i2l, 1) := by decide +kernel
theorem dX9_scanWord_87 : decode cX9_scanWord 87 = .ok (.ladd, 1) := by decide +kernel
theorem dX9_scanWord_88 : decode cX9_scanWord 88 = .ok (.lstore_n 2, 1) := by decide +kernel
theorem dX9_scanWord_89 : decode cX9_scanWord 89 = .ok (.iinc 4 1, 3) := by decide +kernel
theorem dX9_scanWord_92 : decode cX9_scanWord 92 = .ok (.goto (-87), 3) := by decide +kernel
theorem dX9_scanWord_95 : decode cX9_scanWord 95 = .ok (.iload 4, 2) := by decide +kernel
theorem dX9_scanWord_97 : decode cX9_scanWord 97 = .ok (.iload_n 1, 1) := by decide +kernel
theorem dX9_scanWord_98 : decode cX9_scanWord 98 = .ok (.isub, 1) := by decide +kernel
theorem dX9_scanWord_99 : decode cX9_scanWord 99 = .ok (.bipush 10, 2) := by decide +kernel
theorem dX9_scanWord_101 : decode cX9_scanWord 101 = .ok (.if_icmp .le 5, 3) := by decide +kernel
theorem dX9_scanWord_104 : decode cX9_scanWord 104 = .ok (.iload_n 1, 1) := by decide +kernel
theorem dX9_scanWord_105 : decode cX9_scanWord 105 = .ok (.ireturn, 1) := by decide +kernel
theorem dX9_scanWord_106 : decode cX9_scanWord 106 = .ok (.aload_n 0, 1) := by decide +kernel
theorem dX9_scanWord_107 : decode cX9_scanWord 107 = .ok (.getfield 11, 3) := by decide +kernel
theorem dX9_scanWord_110 : decode cX9_scanWord 110 = .ok (.aload_n 0, 1) := by decide +kernel
theorem dX9_scanWord_111 : decode cX9_scanWord 111 = .ok (.getfield 29, 3) := by decide +kernel
theorem dX9_scanWord_114 : decode cX9_scanWord 114 = .ok (.aload_n 0, 1) := by decide +kernel
theorem dX9_scanWord_115 : decode cX9_scanWord 115 = .ok (.iload_n 1, 1) := by decide +kernel
theorem dX9_scanWord_116 : decode cX9_scanWord 116 = .ok (.iload 4, 2) := by decide +kernel
theorem dX9_scanWord_118 : decode cX9_scanWord 118 = .ok (.invokevirtual 77, 3) := by decide +kernel
theorem dX9_scanWord_121 : decode cX9_scanWord 121 = .ok (.aastore, 1) := by decide +kernel
theorem dX9_scanWord_122 : decode cX9_scanWord 122 = .ok (.aload_n 0, 1) := by decide +kernel
theorem dX9_scanWord_123 : decode cX9_scanWord 123 = .ok (.getfield 25, 3) := by decide +kernel
theorem dX9_scanWord_126 : decode cX9_scanWord 126 = .ok (.aload_n 0, 1) := by decide +kernel
theorem dX9_scanWord_127 : decode cX9_scanWord 127 = .ok (.getfield 29, 3) := by decide +kernel
theorem dX9_scanWord_130 : decode cX9_scanWord 130 = .ok (.lload_n 2, 1) := by decide +kernel
theorem dX9_scanWord_131 : decode cX9_scanWord 131 = .ok (.lastore, 1) := by decide +kernel
theorem dX9_scanWord_132 : decode cX9_scanWord 132 = .ok (.iload 4, 2) := by decide +kernel
theorem dX9_scanWord_134 : decode cX9_scanWord 134 = .ok (.ireturn, 1) := by decide +kernel
theorem dX9_keywordOrName_0 : decode cX9_keywordOrName 0 = .ok (.iconst 0, 1) := by decide +kernel
theorem dX9_keywordOrName_1 : decode cX9_keywordOrName 1 = .ok (.istore_n 3, 1) := by decide +kernel
theorem dX9_keywordOrName_2 : decode cX9_keywordOrName 2 = .ok (.iload_n 3, 1) := by decide +kernel
theorem dX9_keywordOrName_3 : decode cX9_keywordOrName 3 = .ok (.getstatic 81, 3) := by decide +kernel
theorem dX9_keywordOrName_6 : decode cX9_keywordOrName 6 = .ok (.arraylength, 1) := by decide +kernel
theorem dX9_keywordOrName_7 : decode cX9_keywordOrName 7 = .ok (.if_icmp .ge 32, 3) := by decide +kernel
theorem dX9_keywordOrName_10 : decode cX9_keywordOrName 10 = .ok (.aload_n 0, 1) := by decide +kernel
theorem dX9_keywordOrName_11 : decode cX9_keywordOrName 11 = .ok (.getstatic 81, 3) := by decide +kernel
theorem dX9_keywordOrName_14 : decode cX9_keywordOrName 14 = .ok (.iload_n 3, 1) := by decide +kernel
theorem dX9_keywordOrName_15 : decode cX9_keywordOrName 15 = .ok (.aaload, 1) := by decide +kernel
theorem dX9_keywordOrName_16 : decode cX9_keywordOrName 16 = .ok (.getfield 84, 3) := by decide +kernel
theorem dX9_keywordOrName_19 : decode cX9_keywordOrName 19 = .ok (.iload_n 1, 1) := by decide +kernel
theorem dX9_keywordOrName_20 : decode cX9_keywordOrName 20 = .ok (.iload_n 2, 1) := by decide +kernel
theorem dX9_keywordOrName_21 : decode cX9_keywordOrName 21 = .ok (.invokevirtual 88, 3) := by decide +kernel
theorem dX9_keywordOrName_24 : decode cX9_keywordOrName 24 = .ok (.ifCond .eq 9, 3) := by decide +kernel
theorem dX9_keywordOrName_27 : decode cX9_keywordOrName 27 = .ok (.getstatic 81, 3) := by decide +kernel
theorem dX9_keywordOrName_30 : decode cX9_keywordOrName 30 = .ok (.iload_n 3, 1) := by decide +kernel
theorem dX9_keywordOrName_31 : decode cX9_keywordOrName 31 = .ok (.aaload, 1) := by decide +kernel
theorem dX9_keywordOrName_32 : decode cX9_keywordOrName 32 = .ok (.areturn, 1) := by decide +kernel
theorem dX9_keywordOrName_33 : decode cX9_keywordOrName 33 = .ok (.iinc 3 1, 3) := by decide +kernel
theorem dX9_keywordOrName_36 : decode cX9_keywordOrName 36 = .ok (.goto (-34), 3) := by decide +kernel
theorem dX9_keywordOrName_39 : decode cX9_keywordOrName 39 = .ok (.getstatic 92, 3) := by decide +kernel
theorem dX9_keywordOrName_42 : decode cX9_keywordOrName 42 = .ok (.areturn, 1) := by decide +kernel
theorem dX9_isText_0 : decode cX9_isText 0 = .ok (.aload_n 1, 1) := by decide +kernel
theorem dX9_isText_1 : decode cX9_isText 1 = .ok (.invokevirtual 95, 3) := by decide +kernel
theorem dX9_isText_4 : decode cX9_isText 4 = .ok (.iload_n 3, 1) := by decide +kernel
theorem dX9_isText_5 : decode cX9_isText 5 = .ok (.iload_n 2, 1) := by decide +kernel
theorem dX9_isText_6 : decode cX9_isText 6 = .ok (.isub, 1) := by decide +kernel
theorem dX9_isText_7 : decode cX9_isText 7 = .ok (.if_icmp .eq 5, 3) := by decide +kernel
theorem dX9_isText_10 : decode cX9_isText 10 = .ok (.iconst 0, 1) := by decide +kernel
theorem dX9_isText_11 : decode cX9_isText 11 = .ok (.ireturn, 1) := by decide +kernel
theorem dX9_isText_12 : decode cX9_isText 12 = .ok (.iconst 0, 1) := by decide +kernel
theorem dX9_isText_13 : decode cX9_isText 13 = .ok (.istore 4, 2) := by decide +kernel
theorem dX9_isText_15 : decode cX9_isText 15 = .ok (.iload 4, 2) := by decide +kernel
theorem dX9_isText_17 : decode cX9_isText 17 = .ok (.aload_n 1, 1) := by decide +kernel
theorem dX9_isText_18 : decode cX9_isText 18 = .ok (.invokevirtual 95, 3) := by decide +kernel
theorem dX9_isText_21 : decode cX9_isText 21 = .ok (.if_icmp .ge 29, 3) := by decide +kernel
theorem dX9_isText_24 : decode cX9_isText 24 = .ok (.aload_n 1, 1) := by decide +kernel
theorem dX9_isText_25 : decode cX9_isText 25 = .ok (.iload 4, 2) := by decide +kernel
theorem dX9_isText_27 : decode cX9_isText 27 = .ok (.invokevirtual 100, 3) := by decide +kernel
theorem dX9_isText_30 : decode cX9_isText 30 = .ok (.aload_n 0, 1) := by decide +kernel
theorem dX9_isText_31 : decode cX9_isText 31 = .ok (.getfield 33, 3) := by decide +kernel
theorem dX9_isText_34 : decode cX9_isText 34 = .ok (.iload_n 2, 1) := by decide +kernel
theorem dX9_isText_35 : decode cX9_isText 35 = .ok (.iload 4, 2) := by decide +kernel
theorem dX9_isText_37 : decode cX9_isText 37 = .ok (.iadd, 1) := by decide +kernel
theorem dX9_isText_38 : decode cX9_isText 38 = .ok (.baload, 1) := by decide +kernel
theorem dX9_isText_39 : decode cX9_isText 39 = .ok (.if_icmp .eq 5, 3) := by decide +kernel
theorem dX9_isText_42 : decode cX9_isText 42 = .ok (.iconst 0, 1) := by decide +kernel
theorem dX9_isText_43 : decode cX9_isText 43 = .ok (.ireturn, 1) := by decide +kernel
theorem dX9_isText_44 : decode cX9_isText 44 = .ok (.iinc 4 1, 3) := by decide +kernel
theorem dX9_isText_47 : decode cX9_isText 47 = .ok (.goto (-32), 3) := by decide +kernel
theorem dX9_isText_50 : decode cX9_isText 50 = .ok (.iconst 1, 1) := by decide +kernel
theorem dX9_isText_51 : decode cX9_isText 51 = .ok (.ireturn, 1) := by decide +kernel
theorem dX9_scanNumber_0 : decode cX9_scanNumber 0 = .ok (.lconst 0, 1) := by decide +kernel
theorem dX9_scanNumber_1 : decode cX9_scanNumber 1 = .ok (.lstore_n 2, 1) := by decide +kernel
theorem dX9_scanNumber_2 : decode cX9_scanNumber 2 = .ok (.iload_n 1, 1) := by decide +kernel
theorem dX9_scanNumber_3 : decode cX9_scanNumber 3 = .ok (.istore 4, 2) := by decide +kernel
theorem dX9_scanNumber_5 : decode cX9_scanNumber 5 = .ok (.iload 4, 2) := by decide +kernel
theorem dX9_scanNumber_7 : decode cX9_scanNumber 7 = .ok (.aload_n 0, 1) := by decide +kernel
theorem dX9_scanNumber_8 : decode cX9_scanNumber 8 = .ok (.getfield 37, 3) := by decide +kernel
theorem dX9_scanNumber_11 : decode cX9_scanNumber 11 = .ok (.if_icmp .ge 41, 3) := by decide +kernel
theorem dX9_scanNumber_14 : decode cX9_scanNumber 14 = .ok (.aload_n 0, 1) := by decide +kernel
theorem dX9_scanNumber_15 : decode cX9_scanNumber 15 = .ok (.getfield 33, 3) := by decide +kernel
theorem dX9_scanNumber_18 : decode cX9_scanNumber 18 = .ok (.iload 4, 2) := by decide +kernel
theorem dX9_scanNumber_20 : decode cX9_scanNumber 20 = .ok (.baload, 1) := by decide +kernel
theorem dX9_scanNumber_21 : decode cX9_scanNumber 21 = .ok (.invokestatic 66, 3) := by decide +kernel
theorem dX9_scanNumber_24 : decode cX9_scanNumber 24 = .ok (.ifCond .eq 28, 3) := by decide +kernel
theorem dX9_scanNumber_27 : decode cX9_scanNumber 27 = .ok (.lload_n 2, 1) := by decide +kernel
theorem dX9_scanNumber_28 : decode cX9_scanNumber 28 = .ok (.ldc2_w 104, 3) := by decide +kernel
theorem dX9_scanNumber_31 : decode cX9_scanNumber 31 = .ok (.lmul, 1) := by decide +kernel
theorem dX9_scanNumber_32 : decode cX9_scanNumber 32 = .ok (.aload_n 0, 1) := by decide +kernel
theorem dX9_scanNumber_33 : decode cX9_scanNumber 33 = .ok (.getfield 33, 3) := by decide +kernel
theorem dX9_scanNumber_36 : decode cX9_scanNumber 36 = .ok (.iload 4, 2) := by decide +kernel
theorem dX9_scanNumber_38 : decode cX9_scanNumber 38 = .ok (.baload, 1) := by decide +kernel
theorem dX9_scanNumber_39 : decode cX9_scanNumber 39 = .ok (.i2l, 1) := by decide +kernel
theorem dX9_scanNumber_40 : decode cX9_scanNumber 40 = .ok (.ladd, 1) := by decide +kernel
theorem dX9_scanNumber_41 : decode cX9_scanNumber 41 = .ok (.ldc2_w 106, 3) := by decide +kernel
theorem dX9_scanNumber_44 : decode cX9_scanNumber 44 = .ok (.lsub, 1) := by decide +kernel
theorem dX9_scanNumber_45 : decode cX9_scanNumber 45 = .ok (.lstore_n 2, 1) := by decide +kernel
theorem dX9_scanNumber_46 : decode cX9_scanNumber 46 = .ok (.iinc 4 1, 3) := by decide +kernel
theorem dX9_scanNumber_49 : decode cX9_scanNumber 49 = .ok (.goto (-44), 3) := by decide +kernel
theorem dX9_scanNumber_52 : decode cX9_scanNumber 52 = .ok (.iload 4, 2) := by decide +kernel
theorem dX9_scanNumber_54 : decode cX9_scanNumber 54 = .ok (.iload_n 1, 1) := by decide +kernel
theorem dX9_scanNumber_55 : decode cX9_scanNumber 55 = .ok (.isub, 1) := by decide +kernel
theorem dX9_scanNumber_56 : decode cX9_scanNumber 56 = .ok (.bipush 6, 2) := by decide +kernel
theorem dX9_scanNumber_58 : decode cX9_scanNumber 58 = .ok (.if_icmp .le 5, 3) := by decide +kernel
theorem dX9_scanNumber_61 : decode cX9_scanNumber 61 = .ok (.iload_n 1, 1) := by decide +kernel
theorem dX9_scanNumber_62 : decode cX9_scanNumber 62 = .ok (.ireturn, 1) := by decide +kernel
theorem dX9_scanNumber_63 : decode cX9_scanNumber 63 = .ok (.aload_n 0, 1) := by decide +kernel
theorem dX9_scanNumber_64 : decode cX9_scanNumber 64 = .ok (.getfield 11, 3) := by decide +kernel
theorem dX9_scanNumber_67 : decode cX9_scanNumber 67 = .ok (.aload_n 0, 1) := by decide +kernel
theorem dX9_scanNumber_68 : decode cX9_scanNumber 68 = .ok (.getfield 29, 3) := by decide +kernel
theorem dX9_scanNumber_71 : decode cX9_scanNumber 71 = .ok (.getstatic 108, 3) := by decide +kernel
theorem dX9_scanNumber_74 : decode cX9_scanNumber 74 = .ok (.aastore, 1) := by decide +kernel
theorem dX9_scanNumber_75 : decode cX9_scanNumber 75 = .ok (.aload_n 0, 1) := by decide +kernel
theorem dX9_scanNumber_76 : decode cX9_scanNumber 76 = .ok (.getfield 25, 3) := by decide +kernel
theorem dX9_scanNumber_79 : decode cX9_scanNumber 79 = .ok (.aload_n 0, 1) := by decide +kernel
theorem dX9_scanNumber_80 : decode cX9_scanNumber 80 = .ok (.getfield 29, 3) := by decide +kernel
theorem dX9_scanNumber_83 : decode cX9_scanNumber 83 = .ok (.lload_n 2, 1) := by decide +kernel
theorem dX9_scanNumber_84 : decode cX9_scanNumber 84 = .ok (.lastore, 1) := by decide +kernel
theorem dX9_scanNumber_85 : decode cX9_scanNumber 85 = .ok (.iload 4, 2) := by decide +kernel
theorem dX9_scanNumber_87 : decode cX9_scanNumber 87 = .ok (.ireturn, 1) := by decide +kernel
theorem dX9_scanSymbol_0 : decode cX9_scanSymbol 0 = .ok (.iconst 2, 1) := by decide +kernel
theorem dX9_scanSymbol_1 : decode cX9_scanSymbol 1 = .ok (.aload_n 0, 1) := by decide +kernel
theorem dX9_scanSymbol_2 : decode cX9_scanSymbol 2 = .ok (.getfield 37, 3) := by decide +kernel
theorem dX9_scanSymbol_5 : decode cX9_scanSymbol 5 = .ok (.iload_n 1, 1) := by decide +kernel
theorem dX9_scanSymbol_6 : decode cX9_scanSymbol 6 = .ok (.isub, 1) := by decide +kernel
theorem dX9_scanSymbol_7 : decode cX9_scanSymbol 7 = .ok (.invokestatic 40, 3) := by decide +kernel
theorem dX9_scanSymbol_10 : decode cX9_scanSymbol 10 = .ok (.istore_n 2, 1) := by decide +kernel
theorem dX9_scanSymbol_11 : decode cX9_scanSymbol 11 = .ok (.iload_n 2, 1) := by decide +kernel
theorem dX9_scanSymbol_12 : decode cX9_scanSymbol 12 = .ok (.iconst 1, 1) := by decide +kernel
theorem dX9_scanSymbol_13 : decode cX9_scanSymbol 13 = .ok (.if_icmp .lt 39, 3) := by decide +kernel
theorem dX9_scanSymbol_16 : decode cX9_scanSymbol 16 = .ok (.aload_n 0, 1) := by decide +kernel
theorem dX9_scanSymbol_17 : decode cX9_scanSymbol 17 = .ok (.iload_n 1, 1) := by decide +kernel
theorem dX9_scanSymbol_18 : decode cX9_scanSymbol 18 = .ok (.iload_n 1, 1) := by decide +kernel
theorem dX9_scanSymbol_19 : decode cX9_scanSymbol 19 = .ok (.iload_n 2, 1) := by decide +kernel
theorem dX9_scanSymbol_20 : decode cX9_scanSymbol 20 = .ok (.iadd, 1) := by decide +kernel
theorem dX9_scanSymbol_21 : decode cX9_scanSymbol 21 = .ok (.invokevirtual 77, 3) := by decide +kernel
theorem dX9_scanSymbol_24 : decode cX9_scanSymbol 24 = .ok (.astore_n 3, 1) := by decide +kernel
theorem dX9_scanSymbol_25 : decode cX9_scanSymbol 25 = .ok (.aload_n 3, 1) := by decide +kernel
theorem dX9_scanSymbol_26 : decode cX9_scanSymbol 26 = .ok (.getstatic 92, 3) := by decide +kernel
theorem dX9_scanSymbol_29 : decode cX9_scanSymbol 29 = .ok (.if_acmp .eq 17, 3) := by decide +kernel
theorem dX9_scanSymbol_32 : decode cX9_scanSymbol 32 = .ok (.aload_n 0, 1) := by decide +kernel
theorem dX9_scanSymbol_33 : decode cX9_scanSymbol 33 = .ok (.getfield 11, 3) := by decide +kernel
theorem dX9_scanSymbol_36 : decode cX9_scanSymbol 36 = .ok (.aload_n 0, 1) := by decide +kernel
theorem dX9_scanSymbol_37 : decode cX9_scanSymbol 37 = .ok (.getfield 29, 3) := by decide +kernel
theorem dX9_scanSymbol_40 : decode cX9_scanSymbol 40 = .ok (.aload_n 3, 1) := by decide +kernel
theorem dX9_scanSymbol_41 : decode cX9_scanSymbol 41 = .ok (.aastore, 1) := by decide +kernel
theorem dX9_scanSymbol_42 : decode cX9_scanSymbol 42 = .ok (.iload_n 1, 1) := by decide +kernel
theorem dX9_scanSymbol_43 : decode cX9_scanSymbol 43 = .ok (.iload_n 2, 1) := by decide +kernel
theorem dX9_scanSymbol_44 : decode cX9_scanSymbol 44 = .ok (.iadd, 1) := by decide +kernel
theorem dX9_scanSymbol_45 : decode cX9_scanSymbol 45 = .ok (.ireturn, 1) := by decide +kernel
theorem dX9_scanSymbol_46 : decode cX9_scanSymbol 46 = .ok (.iinc 2 (-1), 3) := by decide +kernel
theorem dX9_scanSymbol_49 : decode cX9_scanSymbol 49 = .ok (.goto (-38), 3) := by decide +kernel
theorem dX9_scanSymbol_52 : decode cX9_scanSymbol 52 = .ok (.iload_n 1, 1) := by decide +kernel
theorem dX9_scanSymbol_53 : decode cX9_scanSymbol 53 = .ok (.ireturn, 1) := by decide +kernel
theorem dX9_isLetter_0 : decode cX9_isLetter 0 = .ok (.iload_n 0, 1) := by decide +kernel
theorem dX9_isLetter_1 : decode cX9_isLetter 1 = .ok (.bipush 97, 2) := by decide +kernel
theorem dX9_isLetter_3 : decode cX9_isLetter 3 = .ok (.if_icmp .lt 13, 3) := by decide +kernel
theorem dX9_isLetter_6 : decode cX9_isLetter 6 = .ok (.iload_n 0, 1) := by decide +kernel
theorem dX9_isLetter_7 : decode cX9_isLetter 7 = .ok (.bipush 122, 2) := by decide +kernel
theorem dX9_isLetter_9 : decode cX9_isLetter 9 = .ok (.if_icmp .gt 7, 3) := by decide +kernel
theorem dX9_isLetter_12 : decode cX9_isLetter 12 = .ok (.iconst 1, 1) := by decide +kernel
theorem dX9_isLetter_13 : decode cX9_isLetter 13 = .ok (.goto 4, 3) := by decide +kernel
theorem dX9_isLetter_16 : decode cX9_isLetter 16 = .ok (.iconst 0, 1) := by decide +kernel
theorem dX9_isLetter_17 : decode cX9_isLetter 17 = .ok (.ireturn, 1) := by decide +kernel
theorem dX9_isDigit_0 : decode cX9_isDigit 0 = .ok (.iload_n 0, 1) := by decide +kernel
theorem dX9_isDigit_1 : decode cX9_isDigit 1 = .ok (.bipush 48, 2) := by decide +kernel
theorem dX9_isDigit_3 : decode cX9_isDigit 3 = .ok (.if_icmp .lt 13, 3) := by decide +kernel
theorem dX9_isDigit_6 : decode cX9_isDigit 6 = .ok (.iload_n 0, 1) := by decide +kernel
theorem dX9_isDigit_7 : decode cX9_isDigit 7 = .ok (.bipush 57, 2) := by decide +kernel
theorem dX9_isDigit_9 : decode cX9_isDigit 9 = .ok (.if_icmp .gt 7, 3) := by decide +kernel
theorem dX9_isDigit_12 : decode cX9_isDigit 12 = .ok (.iconst 1, 1) := by decide +kernel
theorem dX9_isDigit_13 : decode cX9_isDigit 13 = .ok (.goto 4, 3) := by decide +kernel
theorem dX9_isDigit_16 : decode cX9_isDigit 16 = .ok (.iconst 0, 1) := by decide +kernel
theorem dX9_isDigit_17 : decode cX9_isDigit 17 = .ok (.ireturn, 1) := by decide +kernel
theorem dX10_init_0 : decode cX10_init 0 = .ok (.aload_n 0, 1) := by decide +kernel
theorem dX10_init_1 : decode cX10_init 1 = .ok (.invokespecial 1, 3) := by decide +kernel
theorem dX10_init_4 : decode cX10_init 4 = .ok (.aload_n 0, 1) := by decide +kernel
theorem dX10_init_5 : decode cX10_init 5 = .ok (.sipush 2000, 3) := by decide +kernel
theorem dX10_init_8 : decode cX10_init 8 = .ok (.newarray .byte, 2) := by decide +kernel
theorem dX10_init_10 : decode cX10_init 10 = .ok (.putfield 9, 3) := by decide +kernel
theorem dX10_init_13 : decode cX10_init 13 = .ok (.aload_n 0, 1) := by decide +kernel
theorem dX10_init_14 : decode cX10_init 14 = .ok (.iconst 0, 1) := by decide +kernel
theorem dX10_init_15 : decode cX10_init 15 = .ok (.putfield 13, 3) := by decide +kernel
theorem dX10_init_18 : decode cX10_init 18 = .ok (.aload_n 0, 1) := by decide +kernel
theorem dX10_init_19 : decode cX10_init 19 = .ok (.iconst (-1), 1) := by decide +kernel
theorem dX10_init_20 : decode cX10_init 20 = .ok (.putfield 17, 3) := by decide +kernel
theorem dX10_init_23 : decode cX10_init 23 = .ok (.aload_n 0, 1) := by decide +kernel
theorem dX10_init_24 : decode cX10_init 24 = .ok (.new 20, 3) := by decide +kernel
theorem dX10_init_27 : decode cX10_init 27 = .ok (.dup, 1) := by decide +kernel
theorem dX10_init_28 : decode cX10_init 28 = .ok (.invokespecial 22, 3) := by decide +kernel
theorem dX10_init_31 : decode cX10_init 31 = .ok (.putfield 23, 3) := by decide +kernel
theorem dX10_init_34 : decode cX10_init 34 = .ok (.aload_n 0, 1) := by decide +kernel
theorem dX10_init_35 : decode cX10_init 35 = .ok (.new 27, 3) := by decide +kernel
theorem dX10_init_38 : decode cX10_init 38 = .ok (.dup, 1) := by decide +kernel
theorem dX10_init_39 : decode cX10_init 39 = .ok (.invokespecial 29, 3) := by decide +kernel
theorem dX10_init_42 : decode cX10_init 42 = .ok (.putfield 30, 3) := by decide +kernel
theorem dX10_init_45 : decode cX10_init 45 = .ok (.aload_n 0, 1) := by decide +kernel
theorem dX10_init_46 : decode cX10_init 46 = .ok (.new 20, 3) := by decide +kernel
theorem dX10_init_49 : decode cX10_init 49 = .ok (.dup, 1) := by decide +kernel
theorem dX10_init_50 : decode cX10_init 50 = .ok (.invokespecial 22, 3) := by decide +kernel
theorem dX10_init_53 : decode cX10_init 53 = .ok (.putfield 34, 3) := by decide +kernel
theorem dX10_init_56 : decode cX10_init 56 = .ok (.aload_n 0, 1) := by decide +kernel
theorem dX10_init_57 : decode cX10_init 57 = .ok (.new 27, 3) := by decide +kernel
theorem dX10_init_60 : decode cX10_init 60 = .ok (.dup, 1) := by decide +kernel
theorem dX10_init_61 : decode cX10_init 61 = .ok (.invokespecial 29, 3) := by decide +kernel
theorem dX10_init_64 : decode cX10_init 64 = .ok (.putfield 37, 3) := by decide +kernel
theorem dX10_init_67 : decode cX10_init 67 = .ok (.aload_n 0, 1) := by decide +kernel
theorem dX10_init_68 : decode cX10_init 68 = .ok (.new 40, 3) := by decide +kernel
theorem dX10_init_71 : decode cX10_init 71 = .ok (.dup, 1) := by decide +kernel
theorem dX10_init_72 : decode cX10_init 72 = .ok (.aload_n 0, 1) := by decide +kernel
theorem dX10_init_73 : decode cX10_init 73 = .ok (.getfield 34, 3) := by decide +kernel
theorem dX10_init_76 : decode cX10_init 76 = .ok (.aload_n 0, 1) := by decide +kernel
theorem dX10_init_77 : decode cX10_init 77 = .ok (.getfield 37, 3) := by decide +kernel
theorem dX10_init_80 : decode cX10_init 80 = .ok (.invokespecial 42, 3) := by decide +kernel
theorem dX10_init_83 : decode cX10_init 83 = .ok (.putfield 45, 3) := by decide +kernel
theorem dX10_init_86 : decode cX10_init 86 = .ok (.return_, 1) := by decide +kernel
theorem dX10_feed_0 : decode cX10_feed 0 = .ok (.aload_n 0, 1) := by decide +kernel
theorem dX10_feed_1 : decode cX10_feed 1 = .ok (.getfield 13, 3) := by decide +kernel
theorem dX10_feed_4 : decode cX10_feed 4 = .ok (.sipush 1980, 3) := by decide +kernel
theorem dX10_feed_7 : decode cX10_feed 7 = .ok (.if_icmp .le 13, 3) := by decide +kernel
theorem dX10_feed_10 : decode cX10_feed 10 = .ok (.new 49, 3) := by decide +kernel
theorem dX10_feed_13 : decode cX10_feed 13 = .ok (.dup, 1) := by decide +kernel
theorem dX10_feed_14 : decode cX10_feed 14 = .ok (.ldc 51, 2) := by decide +kernel
theorem dX10_feed_16 : decode cX10_feed 16 = .ok (.invokespecial 53, 3) := by decide +kernel
theorem dX10_feed_19 : decode cX10_feed 19 = .ok (.athrow, 1) := by decide +kernel
theorem dX10_feed_20 : decode cX10_feed 20 = .ok (.aload_n 0, 1) := by decide +kernel
theorem dX10_feed_21 : decode cX10_feed 21 = .ok (.iload_n 1, 1) := by decide +kernel
theorem dX10_feed_22 : decode cX10_feed 22 = .ok (.invokevirtual 56, 3) := by decide +kernel
theorem dX10_feed_25 : decode cX10_feed 25 = .ok (.aload_n 0, 1) := by decide +kernel
theorem dX10_feed_26 : decode cX10_feed 26 = .ok (.iload_n 2, 1) := by decide +kernel
theorem dX10_feed_27 : decode cX10_feed 27 = .ok (.invokevirtual 56, 3) := by decide +kernel
theorem dX10_feed_30 : decode cX10_feed 30 = .ok (.aload_n 0, 1) := by decide +kernel
theorem dX10_feed_31 : decode cX10_feed 31 = .ok (.iload_n 3, 1) := by decide +kernel
theorem dX10_feed_32 : decode cX10_feed 32 = .ok (.invokevirtual 56, 3) := by decide +kernel
theorem dX10_feed_35 : decode cX10_feed 35 = .ok (.aload_n 0, 1) := by decide +kernel
theorem dX10_feed_36 : decode cX10_feed 36 = .ok (.iload 4, 2) := by decide +kernel
theorem dX10_feed_38 : decode cX10_feed 38 = .ok (.invokevirtual 56, 3) := by decide +kernel
theorem dX10_feed_41 : decode cX10_feed 41 = .ok (.aload_n 0, 1) := by decide +kernel
theorem dX10_feed_42 : decode cX10_feed 42 = .ok (.iload 5, 2) := by decide +kernel
theorem dX10_feed_44 : decode cX10_feed 44 = .ok (.invokevirtual 56, 3) := by decide +kernel
theorem dX10_feed_47 : decode cX10_feed 47 = .ok (.aload_n 0, 1) := by decide +kernel
theorem dX10_feed_48 : decode cX10_feed 48 = .ok (.getfield 13, 3) := by decide +kernel
theorem dX10_feed_51 : decode cX10_feed 51 = .ok (.ireturn, 1) := by decide +kernel
theorem dX10_append_0 : decode cX10_append 0 = .ok (.bipush 24, 2) := by decide +kernel
theorem dX10_append_2 : decode cX10_append 2 = .ok (.istore_n 2, 1) := by decide +kernel
theorem dX10_append_3 : decode cX10_append 3 = .ok (.iload_n 2, 1) := by decide +kernel
theorem dX10_append_4 : decode cX10_append 4 = .ok (.ifCond .lt 51, 3) := by decide +kernel
theorem dX10_append_7 : decode cX10_append 7 = .ok (.aload_n 0, 1) := by decide +kernel
theorem dX10_append_8 : decode cX10_append 8 = .ok (.getfield 13, 3) := by decide +kernel
theorem dX10_append_11 : decode cX10_append 11 = .ok (.ifCond .lt 38, 3) := by decide +kernel
theorem dX10_append_14 : decode cX10_append 14 = .ok (.aload_n 0, 1) := by decide +kernel
theorem dX10_append_15 : decode cX10_append 15 = .ok (.getfield 13, 3) := by decide +kernel
theorem dX10_append_18 : decode cX10_append 18 = .ok (.aload_n 0, 1) := by decide +kernel
theorem dX10_append_19 : decode cX10_append 19 = .ok (.getfield 9, 3) := by decide +kernel
theorem dX10_append_22 : decode cX10_append 22 = .ok (.arraylength, 1) := by decide +kernel
theorem dX10_append_23 : decode cX10_append 23 = .ok (.if_icmp .ge 26, 3) := by decide +kernel
theorem dX10_append_26 : decode cX10_append 26 = .ok (.aload_n 0, 1) := by decide +kernel
theorem dX10_append_27 : decode cX10_append 27 = .ok (.getfield 9, 3) := by decide +kernel
theorem dX10_append_30 : decode cX10_append 30 = .ok (.aload_n 0, 1) := by decide +kernel
theorem dX10_append_31 : decode cX10_append 31 = .ok (.getfield 13, 3) := by decide +kernel
theorem dX10_append_34 : decode cX10_append 34 = .ok (.iload_n 1, 1) := by decide +kernel
theorem dX10_append_35 : decode cX10_append 35 = .ok (.iload_n 2, 1) := by decide +kernel
theorem dX10_append_36 : decode cX10_append 36 = .ok (.ishr, 1) := by decide +kernel
theorem dX10_append_37 : decode cX10_append 37 = .ok (.i2b, 1) := by decide +kernel
theorem dX10_append_38 : decode cX10_append 38 = .ok (.bastore, 1) := by decide +kernel
theorem dX10_append_39 : decode cX10_append 39 = .ok (.aload_n 0, 1) := by decide +kernel
theorem dX10_append_40 : decode cX10_append 40 = .ok (.dup, 1) := by decide +kernel
theorem dX10_append_41 : decode cX10_append 41 = .ok (.getfield 13, 3) := by decide +kernel
theorem dX10_append_44 : decode cX10_append 44 = .ok (.iconst 1, 1) := by decide +kernel
theorem dX10_append_45 : decode cX10_append 45 = .ok (.iadd, 1) := by decide +kernel
theorem dX10_append_46 : decode cX10_append 46 = .ok (.putfield 13, 3) := by decide +kernel
theorem dX10_append_49 : decode cX10_append 49 = .ok (.iinc 2 (-8), 3) := by decide +kernel
theorem dX10_append_52 : decode cX10_append 52 = .ok (.goto (-49), 3) := by decide +kernel
theorem dX10_append_55 : decode cX10_append 55 = .ok (.return_, 1) := by decide +kernel
theorem dX10_trim_0 : decode cX10_trim 0 = .ok (.iload_n 1, 1) := by decide +kernel
theorem dX10_trim_1 : decode cX10_trim 1 = .ok (.iconst 0, 1) := by decide +kernel
theorem dX10_trim_2 : decode cX10_trim 2 = .ok (.aload_n 0, 1) := by decide +kernel
theorem dX10_trim_3 : decode cX10_trim 3 = .ok (.getfield 13, 3) := by decide +kernel
theorem dX10_trim_6 : decode cX10_trim 6 = .ok (.invokestatic 60, 3) := by decide +kernel
theorem dX10_trim_9 : decode cX10_trim 9 = .ok (.aload_n 0, 1) := by decide +kernel
theorem dX10_trim_10 : decode cX10_trim 10 = .ok (.iload_n 1, 1) := by decide +kernel
theorem dX10_trim_11 : decode cX10_trim 11 = .ok (.putfield 13, 3) := by decide +kernel
theorem dX10_trim_14 : decode cX10_trim 14 = .ok (.iload_n 1, 1) := by decide +kernel
theorem dX10_trim_15 : decode cX10_trim 15 = .ok (.ireturn, 1) := by decide +kernel
theorem dX10_teach_0 : decode cX10_teach 0 = .ok (.aload_n 0, 1) := by decide +kernel
theorem dX10_teach_1 : decode cX10_teach 1 = .ok (.getfield 45, 3) := by decide +kernel
theorem dX10_teach_4 : decode cX10_teach 4 = .ok (.aload_n 0, 1) := by decide +kernel
theorem dX10_teach_5 : decode cX10_teach 5 = .ok (.getfield 9, 3) := by decide +kernel
theorem dX10_teach_8 : decode cX10_teach 8 = .ok (.aload_n 0, 1) := by decide +kernel
theorem dX10_teach_9 : decode cX10_teach 9 = .ok (.getfield 13, 3) := by decide +kernel
theorem dX10_teach_12 : decode cX10_teach 12 = .ok (.aload_n 0, 1) := by decide +kernel
theorem dX10_teach_13 : decode cX10_teach 13 = .ok (.getfield 34, 3) := by decide +kernel
theorem dX10_teach_16 : decode cX10_teach 16 = .ok (.aload_n 0, 1) := by decide +kernel
theorem dX10_teach_17 : decode cX10_teach 17 = .ok (.getfield 37, 3) := by decide +kernel
theorem dX10_teach_20 : decode cX10_teach 20 = .ok (.invokevirtual 64, 3) := by decide +kernel
theorem dX10_teach_23 : decode cX10_teach 23 = .ok (.istore_n 1, 1) := by decide +kernel
theorem dX10_teach_24 : decode cX10_teach 24 = .ok (.aload_n 0, 1) := by decide +kernel
theorem dX10_teach_25 : decode cX10_teach 25 = .ok (.iconst 0, 1) := by decide +kernel
theorem dX10_teach_26 : decode cX10_teach 26 = .ok (.putfield 13, 3) := by decide +kernel
theorem dX10_teach_29 : decode cX10_teach 29 = .ok (.aload_n 0, 1) := by decide +kernel
theorem dX10_teach_30 : decode cX10_teach 30 = .ok (.aload_n 0, 1) := by decide +kernel
theorem dX10_teach_31 : decode cX10_teach 31 = .ok (.getfield 45, 3) := by decide +kernel
theorem dX10_teach_34 : decode cX10_teach 34 = .ok (.invokevirtual 68, 3) := by decide +kernel
theorem dX10_teach_37 : decode cX10_teach 37 = .ok (.putfield 17, 3) := by decide +kernel
theorem dX10_teach_40 : decode cX10_teach 40 = .ok (.iload_n 1, 1) := by decide +kernel
theorem dX10_teach_41 : decode cX10_teach 41 = .ok (.ifCond .ne 7, 3) := by decide +kernel
theorem dX10_teach_44 : decode cX10_teach 44 = .ok (.aload_n 0, 1) := by decide +kernel
theorem dX10_teach_45 : decode cX10_teach 45 = .ok (.invokevirtual 72, 3) := by decide +kernel
theorem dX10_teach_48 : decode cX10_teach 48 = .ok (.iload_n 1, 1) := by decide +kernel
theorem dX10_teach_49 : decode cX10_teach 49 = .ok (.ireturn, 1) := by decide +kernel
theorem dX10_adoptSpare_0 : decode cX10_adoptSpare 0 = .ok (.aload_n 0, 1) := by decide +kernel
theorem dX10_adoptSpare_1 : decode cX10_adoptSpare 1 = .ok (.getfield 34, 3) := by decide +kernel
theorem dX10_adoptSpare_4 : decode cX10_adoptSpare 4 = .ok (.aload_n 0, 1) := by decide +kernel
theorem dX10_adoptSpare_5 : decode cX10_adoptSpare 5 = .ok (.getfield 23, 3) := by decide +kernel
theorem dX10_adoptSpare_8 : decode cX10_adoptSpare 8 = .ok (.getfield 75, 3) := by decide +kernel
theorem dX10_adoptSpare_11 : decode cX10_adoptSpare 11 = .ok (.putfield 75, 3) := by decide +kernel
theorem dX10_adoptSpare_14 : decode cX10_adoptSpare 14 = .ok (.aload_n 0, 1) := by decide +kernel
theorem dX10_adoptSpare_15 : decode cX10_adoptSpare 15 = .ok (.getfield 34, 3) := by decide +kernel
theorem dX10_adoptSpare_18 : decode cX10_adoptSpare 18 = .ok (.aload_n 0, 1) := by decide +kernel
theorem dX10_adoptSpare_19 : decode cX10_adoptSpare 19 = .ok (.getfield 23, 3) := by decide +kernel
theorem dX10_adoptSpare_22 : decode cX10_adoptSpare 22 = .ok (.getfield 78, 3) := by decide +kernel
theorem dX10_adoptSpare_25 : decode cX10_adoptSpare 25 = .ok (.putfield 78, 3) := by decide +kernel
theorem dX10_adoptSpare_28 : decode cX10_adoptSpare 28 = .ok (.aload_n 0, 1) := by decide +kernel
theorem dX10_adoptSpare_29 : decode cX10_adoptSpare 29 = .ok (.getfield 23, 3) := by decide +kernel
theorem dX10_adoptSpare_32 : decode cX10_adoptSpare 32 = .ok (.astore_n 1, 1) := by decide +kernel
theorem dX10_adoptSpare_33 : decode cX10_adoptSpare 33 = .ok (.aload_n 0, 1) := by decide +kernel
theorem dX10_adoptSpare_34 : decode cX10_adoptSpare 34 = .ok (.aload_n 0, 1) := by decide +kernel
theorem dX10_adoptSpare_35 : decode cX10_adoptSpare 35 = .ok (.getfield 34, 3) := by decide +kernel
theorem dX10_adoptSpare_38 : decode cX10_adoptSpare 38 = .ok (.putfield 23, 3) := by decide +kernel
theorem dX10_adoptSpare_41 : decode cX10_adoptSpare 41 = .ok (.aload_n 0, 1) := by decide +kernel
theorem dX10_adoptSpare_42 : decode cX10_adoptSpare 42 = .ok (.aload_n 1, 1) := by decide +kernel
theorem dX10_adoptSpare_43 : decode cX10_adoptSpare 43 = .ok (.putfield 34, 3) := by decide +kernel
theorem dX10_adoptSpare_46 : decode cX10_adoptSpare 46 = .ok (.aload_n 0, 1) := by decide +kernel
theorem dX10_adoptSpare_47 : decode cX10_adoptSpare 47 = .ok (.getfield 30, 3) := by decide +kernel
theorem dX10_adoptSpare_50 : decode cX10_adoptSpare 50 = .ok (.astore_n 2, 1) := by decide +kernel
theorem dX10_adoptSpare_51 : decode cX10_adoptSpare 51 = .ok (.aload_n 0, 1) := by decide +kernel
theorem dX10_adoptSpare_52 : decode cX10_adoptSpare 52 = .ok (.aload_n 0, 1) := by decide +kernel
theorem dX10_adoptSpare_53 : decode cX10_adoptSpare 53 = .ok (.getfield 37, 3) := by decide +kernel
theorem dX10_adoptSpare_56 : decode cX10_adoptSpare 56 = .ok (.putfield 30, 3) := by decide +kernel
theorem dX10_adoptSpare_59 : decode cX10_adoptSpare 59 = .ok (.aload_n 0, 1) := by decide +kernel
theorem dX10_adoptSpare_60 : decode cX10_adoptSpare 60 = .ok (.aload_n 2, 1) := by decide +kernel
theorem dX10_adoptSpare_61 : decode cX10_adoptSpare 61 = .ok (.putfield 37, 3) := by decide +kernel
theorem dX10_adoptSpare_64 : decode cX10_adoptSpare 64 = .ok (.return_, 1) := by decide +kernel
theorem dX10_count_0 : decode cX10_count 0 = .ok (.iload_n 1, 1) := by decide +kernel
theorem dX10_count_1 : decode cX10_count 1 = .ok (.bipush 13, 2) := by decide +kernel
theorem dX10_count_3 : decode cX10_count 3 = .ok (.invokestatic 81, 3) := by decide +kernel
theorem dX10_count_6 : decode cX10_count 6 = .ok (.iload_n 1, 1) := by decide +kernel
theorem dX10_count_7 : decode cX10_count 7 = .ok (.bipush 12, 2) := by decide +kernel
theorem dX10_count_9 : decode cX10_count 9 = .ok (.if_icmp .ne 10, 3) := by decide +kernel
theorem dX10_count_12 : decode cX10_count 12 = .ok (.aload_n 0, 1) := by decide +kernel
theorem dX10_count_13 : decode cX10_count 13 = .ok (.getfield 13, 3) := by decide +kernel
theorem dX10_count_16 : decode cX10_count 16 = .ok (.goto 11, 3) := by decide +kernel
theorem dX10_count_19 : decode cX10_count 19 = .ok (.aload_n 0, 1) := by decide +kernel
theorem dX10_count_20 : decode cX10_count 20 = .ok (.getfield 23, 3) := by decide +kernel
theorem dX10_count_23 : decode cX10_count 23 = .ok (.iload_n 1, 1) := by decide +kernel
theorem dX10_count_24 : decode cX10_count 24 = .ok (.invokevirtual 85, 3) := by decide +kernel
theorem dX10_count_27 : decode cX10_count 27 = .ok (.ireturn, 1) := by decide +kernel
theorem dX10_stretch_0 : decode cX10_stretch 0 = .ok (.iload_n 1, 1) := by decide +kernel
theorem dX10_stretch_1 : decode cX10_stretch 1 = .ok (.aload_n 0, 1) := by decide +kernel
theorem dX10_stretch_2 : decode cX10_stretch 2 = .ok (.getfield 23, 3) := by decide +kernel
theorem dX10_stretch_5 : decode cX10_stretch 5 = .ok (.getfield 89, 3) := by decide +kernel
theorem dX10_stretch_8 : decode cX10_stretch 8 = .ok (.invokestatic 81, 3) := by decide +kernel
theorem dX10_stretch_11 : decode cX10_stretch 11 = .ok (.iload_n 2, 1) := by decide +kernel
theorem dX10_stretch_12 : decode cX10_stretch 12 = .ok (.iconst 5, 1) := by decide +kernel
theorem dX10_stretch_13 : decode cX10_stretch 13 = .ok (.invokestatic 81, 3) := by decide +kernel
theorem dX10_stretch_16 : decode cX10_stretch 16 = .ok (.aload_n 0, 1) := by decide +kernel
theorem dX10_stretch_17 : decode cX10_stretch 17 = .ok (.getfield 23, 3) := by decide +kernel
theorem dX10_stretch_20 : decode cX10_stretch 20 = .ok (.iload_n 1, 1) := by decide +kernel
theorem dX10_stretch_21 : decode cX10_stretch 21 = .ok (.iload_n 2, 1) := by decide +kernel
theorem dX10_stretch_22 : decode cX10_stretch 22 = .ok (.invokevirtual 92, 3) := by decide +kernel
theorem dX10_stretch_25 : decode cX10_stretch 25 = .ok (.ireturn, 1) := by decide +kernel
theorem dX10_horse_0 : decode cX10_horse 0 = .ok (.iload_n 1, 1) := by decide +kernel
theorem dX10_horse_1 : decode cX10_horse 1 = .ok (.aload_n 0, 1) := by decide +kernel
theorem dX10_horse_2 : decode cX10_horse 2 = .ok (.getfield 23, 3) := by decide +kernel
theorem dX10_horse_5 : decode cX10_horse 5 = .ok (.getfield 96, 3) := by decide +kernel
theorem dX10_horse_8 : decode cX10_horse 8 = .ok (.invokestatic 81, 3) := by decide +kernel
theorem dX10_horse_11 : decode cX10_horse 11 = .ok (.iload_n 2, 1) := by decide +kernel
theorem dX10_horse_12 : decode cX10_horse 12 = .ok (.bipush 10, 2) := by decide +kernel
theorem dX10_horse_14 : decode cX10_horse 14 = .ok (.invokestatic 81, 3) := by decide +kernel
theorem dX10_horse_17 : decode cX10_horse 17 = .ok (.aload_n 0, 1) := by decide +kernel
theorem dX10_horse_18 : decode cX10_horse 18 = .ok (.getfield 23, 3) := by decide +kernel
theorem dX10_horse_21 : decode cX10_horse 21 = .ok (.iload_n 1, 1) := by decide +kernel
theorem dX10_horse_22 : decode cX10_horse 22 = .ok (.iload_n 2, 1) := by decide +kernel
theorem dX10_horse_23 : decode cX10_horse 23 = .ok (.invokevirtual 99, 3) := by decide +kernel
theorem dX10_horse_26 : decode cX10_horse 26 = .ok (.ireturn, 1) := by decide +kernel
theorem dX10_log_0 : decode cX10_log 0 = .ok (.iload_n 1, 1) := by decide +kernel
theorem dX10_log_1 : decode cX10_log 1 = .ok (.aload_n 0, 1) := by decide +kernel
theorem dX10_log_2 : decode cX10_log 2 = .ok (.getfield 23, 3) := by decide +kernel
theorem dX10_log_5 : decode cX10_log 5 = .ok (.getfield 102, 3) := by decide +kernel
theorem dX10_log_8 : decode cX10_log 8 = .ok (.invokestatic 81, 3) := by decide +kernel
theorem dX10_log_11 : decode cX10_log 11 = .ok (.iload_n 2, 1) := by decide +kernel
theorem dX10_log_12 : decode cX10_log 12 = .ok (.iconst 4, 1) := by decide +kernel
theorem dX10_log_13 : decode cX10_log 13 = .ok (.invokestatic 81, 3) := by decide +kernel
theorem dX10_log_16 : decode cX10_log 16 = .ok (.aload_n 0, 1) := by decide +kernel
theorem dX10_log_17 : decode cX10_log 17 = .ok (.getfield 23, 3) := by decide +kernel
theorem dX10_log_20 : decode cX10_log 20 = .ok (.iload_n 1, 1) := by decide +kernel
theorem dX10_log_21 : decode cX10_log 21 = .ok (.iload_n 2, 1) := by decide +kernel
theorem dX10_log_22 : decode cX10_log 22 = .ok (.invokevirtual 105, 3) := by decide +kernel
theorem dX10_log_25 : decode cX10_log 25 = .ok (.ireturn, 1) := by decide +kernel
theorem dX10_needs_0 : decode cX10_needs 0 = .ok (.iload_n 1, 1) := by decide +kernel
theorem dX10_needs_1 : decode cX10_needs 1 = .ok (.aload_n 0, 1) := by decide +kernel
theorem dX10_needs_2 : decode cX10_needs 2 = .ok (.getfield 23, 3) := by decide +kernel
theorem dX10_needs_5 : decode cX10_needs 5 = .ok (.getfield 96, 3) := by decide +kernel
theorem dX10_needs_8 : decode cX10_needs 8 = .ok (.invokestatic 81, 3) := by decide +kernel
theorem dX10_needs_11 : decode cX10_needs 11 = .ok (.iload_n 2, 1) := by decide +kernel
theorem dX10_needs_12 : decode cX10_needs 12 = .ok (.aload_n 0, 1) := by decide +kernel
theorem dX10_needs_13 : decode cX10_needs 13 = .ok (.getfield 23, 3) := by decide +kernel
theorem dX10_needs_16 : decode cX10_needs 16 = .ok (.getfield 89, 3) := by decide +kernel
theorem dX10_needs_19 : decode cX10_needs 19 = .ok (.invokestatic 81, 3) := by decide +kernel
theorem dX10_needs_22 : decode cX10_needs 22 = .ok (.aload_n 0, 1) := by decide +kernel
theorem dX10_needs_23 : decode cX10_needs 23 = .ok (.getfield 23, 3) := by decide +kernel
theorem dX10_needs_26 : decode cX10_needs 26 = .ok (.iload_n 1, 1) := by decide +kernel
theorem dX10_needs_27 : decode cX10_needs 27 = .ok (.iload_n 2, 1) := by decide +kernel
theorem dX10_needs_28 : decode cX10_needs 28 = .ok (.invokevirtual 108, 3) := by decide +kernel
theorem dX10_needs_31 : decode cX10_needs 31 = .ok (.ireturn, 1) := by decide +kernel
theorem dX10_setWeather_0 : decode cX10_setWeather 0 = .ok (.iload_n 1, 1) := by decide +kernel
theorem dX10_setWeather_1 : decode cX10_setWeather 1 = .ok (.bipush (-3), 2) := by decide +kernel
theorem dX10_setWeather_3 : decode cX10_setWeather 3 = .ok (.iconst 3, 1) := by decide +kernel
theorem dX10_setWeather_4 : decode cX10_setWeather 4 = .ok (.invokestatic 60, 3) := by decide +kernel
theorem dX10_setWeather_7 : decode cX10_setWeather 7 = .ok (.aload_n 0, 1) := by decide +kernel
theorem dX10_setWeather_8 : decode cX10_setWeather 8 = .ok (.getfield 23, 3) := by decide +kernel
theorem dX10_setWeather_11 : decode cX10_setWeather 11 = .ok (.getfield 78, 3) := by decide +kernel
theorem dX10_setWeather_14 : decode cX10_setWeather 14 = .ok (.istore_n 2, 1) := by decide +kernel
theorem dX10_setWeather_15 : decode cX10_setWeather 15 = .ok (.aload_n 0, 1) := by decide +kernel
theorem dX10_setWeather_16 : decode cX10_setWeather 16 = .ok (.getfield 23, 3) := by decide +kernel
theorem dX10_setWeather_19 : decode cX10_setWeather 19 = .ok (.iload_n 1, 1) := by decide +kernel
theorem dX10_setWeather_20 : decode cX10_setWeather 20 = .ok (.putfield 78, 3) := by decide +kernel
theorem dX10_setWeather_23 : decode cX10_setWeather 23 = .ok (.iload_n 2, 1) := by decide +kernel
theorem dX10_setWeather_24 : decode cX10_setWeather 24 = .ok (.ireturn, 1) := by decide +kernel
theorem dX10_forge_0 : decode cX10_forge 0 = .ok (.iload_n 1, 1) := by decide +kernel
theorem dX10_forge_1 : decode cX10_forge 1 = .ok (.aload_n 0, 1) := by decide +kernel
theorem dX10_forge_2 : decode cX10_forge 2 = .ok (.getfield 23, 3) := by decide +kernel
theorem dX10_forge_5 : decode cX10_forge 5 = .ok (.getfield 96, 3) := by decide +kernel
theorem dX10_forge_8 : decode cX10_forge 8 = .ok (.invokestatic 81, 3) := by decide +kernel
theorem dX10_forge_11 : decode cX10_forge 11 = .ok (.iload_n 2, 1) := by decide +kernel
theorem dX10_forge_12 : decode cX10_forge 12 = .ok (.iconst 1, 1) := by decide +kernel
theorem dX10_forge_13 : decode cX10_forge 13 = .ok (.bipush 9, 2) := by decide +kernel
theorem dX10_forge_15 : decode cX10_forge 15 = .ok (.invokestatic 60, 3) := by decide +kernel
theorem dX10_forge_18 : decode cX10_forge 18 = .ok (.aload_n 0, 1) := by decide +kernel
theorem dX10_forge_19 : decode cX10_forge 19 = .ok (.getfield 23, 3) := by decide +kernel
theorem dX10_forge_22 : decode cX10_forge 22 = .ok (.iload_n 1, 1) := by decide +kernel
theorem dX10_forge_23 : decode cX10_forge 23 = .ok (.iload_n 2, 1) := by decide +kernel
theorem dX10_forge_24 : decode cX10_forge 24 = .ok (.invokevirtual 111, 3) := by decide +kernel
theorem dX10_forge_27 : decode cX10_forge 27 = .ok (.ireturn, 1) := by decide +kernel
theorem dX10_clear_0 : decode cX10_clear 0 = .ok (.iload_n 1, 1) := by decide +kernel
theorem dX10_clear_1 : decode cX10_clear 1 = .ok (.aload_n 0, 1) := by decide +kernel
theorem dX10_clear_2 : decode cX10_clear 2 = .ok (.getfield 23, 3) := by decide +kernel
theorem dX10_clear_5 : decode cX10_clear 5 = .ok (.getfield 89, 3) := by decide +kernel
theorem dX10_clear_8 : decode cX10_clear 8 = .ok (.invokestatic 81, 3) := by decide +kernel
theorem dX10_clear_11 : decode cX10_clear 11 = .ok (.aload_n 0, 1) := by decide +kernel
theorem dX10_clear_12 : decode cX10_clear 12 = .ok (.getfield 23, 3) := by decide +kernel
theorem dX10_clear_15 : decode cX10_clear 15 = .ok (.iload_n 1, 1) := by decide +kernel
theorem dX10_clear_16 : decode cX10_clear 16 = .ok (.invokevirtual 114, 3) := by decide +kernel
theorem dX10_clear_19 : decode cX10_clear 19 = .ok (.ireturn, 1) := by decide +kernel
theorem dX10_pass_0 : decode cX10_pass 0 = .ok (.iload_n 1, 1) := by decide +kernel
theorem dX10_pass_1 : decode cX10_pass 1 = .ok (.iconst 1, 1) := by decide +kernel
theorem dX10_pass_2 : decode cX10_pass 2 = .ok (.bipush 120, 2) := by decide +kernel
theorem dX10_pass_4 : decode cX10_pass 4 = .ok (.invokestatic 60, 3) := by decide +kernel
theorem dX10_pass_7 : decode cX10_pass 7 = .ok (.aload_n 0, 1) := by decide +kernel
theorem dX10_pass_8 : decode cX10_pass 8 = .ok (.getfield 23, 3) := by decide +kernel
theorem dX10_pass_11 : decode cX10_pass 11 = .ok (.iconst 3, 1) := by decide +kernel
theorem dX10_pass_12 : decode cX10_pass 12 = .ok (.invokevirtual 119, 3) := by decide +kernel
theorem dX10_pass_15 : decode cX10_pass 15 = .ok (.istore_n 2, 1) := by decide +kernel
theorem dX10_pass_16 : decode cX10_pass 16 = .ok (.aload_n 0, 1) := by decide +kernel
theorem dX10_pass_17 : decode cX10_pass 17 = .ok (.getfield 23, 3) := by decide +kernel
theorem dX10_pass_20 : decode cX10_pass 20 = .ok (.iload_n 1, 1) := by decide +kernel
theorem dX10_pass_21 : decode cX10_pass 21 = .ok (.aload_n 0, 1) := by decide +kernel
theorem dX10_pass_22 : decode cX10_pass 22 = .ok (.getfield 30, 3) := by decide +kernel
theorem dX10_pass_25 : decode cX10_pass 25 = .ok (.invokevirtual 122, 3) := by decide +kernel
theorem dX10_pass_28 : decode cX10_pass 28 = .ok (.aload_n 0, 1) := by decide +kernel
theorem dX10_pass_29 : decode cX10_pass 29 = .ok (.getfield 23, 3) := by decide +kernel
theorem dX10_pass_32 : decode cX10_pass 32 = .ok (.iconst 3, 1) := by decide +kernel
theorem dX10_pass_33 : decode cX10_pass 33 = .ok (.invokevirtual 119, 3) := by decide +kernel
theorem dX10_pass_36 : decode cX10_pass 36 = .ok (.iload_n 2, 1) := by decide +kernel
theorem dX10_pass_37 : decode cX10_pass 37 = .ok (.isub, 1) := by decide +kernel
theorem dX10_pass_38 : decode cX10_pass 38 = .ok (.ireturn, 1) := by decide +kernel
theorem dX10_arrives_0 : decode cX10_arrives 0 = .ok (.iload_n 1, 1) := by decide +kernel
theorem dX10_arrives_1 : decode cX10_arrives 1 = .ok (.aload_n 0, 1) := by decide +kernel
theorem dX10_arrives_2 : decode cX10_arrives 2 = .ok (.getfield 23, 3) := by decide +kernel
theorem dX10_arrives_5 : decode cX10_arrives 5 = .ok (.getfield 102, 3) := by decide +kernel
theorem dX10_arrives_8 : decode cX10_arrives 8 = .ok (.invokestatic 81, 3) := by decide +kernel
theorem dX10_arrives_11 : decode cX10_arrives 11 = .ok (.aload_n 0, 1) := by decide +kernel
theorem dX10_arrives_12 : decode cX10_arrives 12 = .ok (.getfield 34, 3) := by decide +kernel
theorem dX10_arrives_15 : decode cX10_arrives 15 = .ok (.aload_n 0, 1) := by decide +kernel
theorem dX10_arrives_16 : decode cX10_arrives 16 = .ok (.getfield 23, 3) := by decide +kernel
theorem dX10_arrives_19 : decode cX10_arrives 19 = .ok (.invokevirtual 126, 3) := by decide +kernel
theorem dX10_arrives_22 : decode cX10_arrives 22 = .ok (.iconst 0, 1) := by decide +kernel
theorem dX10_arrives_23 : decode cX10_arrives 23 = .ok (.istore_n 2, 1) := by decide +kernel
theorem dX10_arrives_24 : decode cX10_arrives 24 = .ok (.iload_n 2, 1) := by decide +kernel
theorem dX10_arrives_25 : decode cX10_arrives 25 = .ok (.sipush 200, 3) := by decide +kernel
theorem dX10_arrives_28 : decode cX10_arrives 28 = .ok (.if_icmp .gt 34, 3) := by decide +kernel
theorem dX10_arrives_31 : decode cX10_arrives 31 = .ok (.aload_n 0, 1) := by decide +kernel
theorem dX10_arrives_32 : decode cX10_arrives 32 = .ok (.getfield 34, 3) := by decide +kernel
theorem dX10_arrives_35 : decode cX10_arrives 35 = .ok (.iload_n 1, 1) := by decide +kernel
theorem dX10_arrives_36 : decode cX10_arrives 36 = .ok (.invokevirtual 130, 3) := by decide +kernel
theorem dX10_arrives_39 : decode cX10_arrives 39 = .ok (.ifCond .eq 5, 3) := by decide +kernel
theorem dX10_arrives_42 : decode cX10_arrives 42 = .ok (.iload_n 2, 1) := by decide +kernel
theorem dX10_arrives_43 : decode cX10_arrives 43 = .ok (.ireturn, 1) := by decide +kernel
theorem dX10_arrives_44 : decode cX10_arrives 44 = .ok (.aload_n 0, 1) := by decide +kernel
theorem dX10_arrives_45 : decode cX10_arrives 45 = .ok (.getfield 34, 3) := by decide +kernel
theorem dX10_arrives_48 : decode cX10_arrives 48 = .ok (.iconst 1, 1) := by decide +kernel
theorem dX10_arrives_49 : decode cX10_arrives 49 = .ok (.aload_n 0, 1) := by decide +kernel
theorem dX10_arrives_50 : decode cX10_arrives 50 = .ok (.getfield 30, 3) := by decide +kernel
theorem dX10_arrives_53 : decode cX10_arrives 53 = .ok (.invokevirtual 122, 3) := by decide +kernel
theorem dX10_arrives_56 : decode cX10_arrives 56 = .ok (.iinc 2 1, 3) := by decide +kernel
theorem dX10_arrives_59 : decode cX10_arrives 59 = .ok (.goto (-35), 3) := by decide +kernel
theorem dX10_arrives_62 : decode cX10_arrives 62 = .ok (.iconst (-1), 1) := by decide +kernel
theorem dX10_arrives_63 : decode cX10_arrives 63 = .ok (.ireturn, 1) := by decide +kernel
theorem dX10_breaks_0 : decode cX10_breaks 0 = .ok (.iload_n 1, 1) := by decide +kernel
theorem dX10_breaks_1 : decode cX10_breaks 1 = .ok (.aload_n 0, 1) := by decide +kernel
theorem dX10_breaks_2 : decode cX10_breaks 2 = .ok (.getfield 23, 3) := by decide +kernel
theorem dX10_breaks_5 : decode cX10_breaks 5 = .ok (.getfield 96, 3) := by decide +kernel
theorem dX10_breaks_8 : decode cX10_breaks 8 = .ok (.invokestatic 81, 3) := by decide +kernel
theorem dX10_breaks_11 : decode cX10_breaks 11 = .ok (.aload_n 0, 1) := by decide +kernel
theorem dX10_breaks_12 : decode cX10_breaks 12 = .ok (.getfield 23, 3) := by decide +kernel
theorem dX10_breaks_15 : decode cX10_breaks 15 = .ok (.iload_n 1, 1) := by decide +kernel
theorem dX10_breaks_16 : decode cX10_breaks 16 = .ok (.invokevirtual 134, 3) := by decide +kernel
theorem dX10_breaks_19 : decode cX10_breaks 19 = .ok (.istore_n 2, 1) := by decide +kernel
theorem dX10_breaks_20 : decode cX10_breaks 20 = .ok (.aload_n 0, 1) := by decide +kernel
theorem dX10_breaks_21 : decode cX10_breaks 21 = .ok (.getfield 34, 3) := by decide +kernel
theorem dX10_breaks_24 : decode cX10_breaks 24 = .ok (.aload_n 0, 1) := by decide +kernel
theorem dX10_breaks_25 : decode cX10_breaks 25 = .ok (.getfield 23, 3) := by decide +kernel
theorem dX10_breaks_28 : decode cX10_breaks 28 = .ok (.invokevirtual 126, 3) := by decide +kernel
theorem dX10_breaks_31 : decode cX10_breaks 31 = .ok (.iconst 1, 1) := by decide +kernel
theorem dX10_breaks_32 : decode cX10_breaks 32 = .ok (.istore_n 3, 1) := by decide +kernel
theorem dX10_breaks_33 : decode cX10_breaks 33 = .ok (.iload_n 3, 1) := by decide +kernel
theorem dX10_breaks_34 : decode cX10_breaks 34 = .ok (.sipush 200, 3) := by decide +kernel
theorem dX10_breaks_37 : decode cX10_breaks 37 = .ok (.if_icmp .gt 35, 3) := by decide +kernel
theorem dX10_breaks_40 : decode cX10_breaks 40 = .ok (.aload_n 0, 1) := by decide +kernel
theorem dX10_breaks_41 : decode cX10_breaks 41 = .ok (.getfield 34, 3) := by decide +kernel
theorem dX10_breaks_44 : decode cX10_breaks 44 = .ok (.iconst 1, 1) := by decide +kernel
theorem dX10_breaks_45 : decode cX10_breaks 45 = .ok (.aload_n 0, 1) := by decide +kernel
theorem dX10_breaks_46 : decode cX10_breaks 46 = .ok (.getfield 30, 3) := by decide +kernel
theorem dX10_breaks_49 : decode cX10_breaks 49 = .ok (.invokevirtual 122, 3) := by decide +kernel
theorem dX10_breaks_52 : decode cX10_breaks 52 = .ok (.aload_n 0, 1) := by decide +kernel
theorem dX10_breaks_53 : decode cX10_breaks 53 = .ok (.getfield 34, 3) := by decide +kernel
theorem dX10_breaks_56 : decode cX10_breaks 56 = .ok (.iload_n 1, 1) := by decide +kernel
theorem dX10_breaks_57 : decode cX10_breaks 57 = .ok (.invokevirtual 134, 3) := by decide +kernel
theorem dX10_breaks_60 : decode cX10_breaks 60 = .ok (.iload_n 2, 1) := by decide +kernel
theorem dX10_breaks_61 : decode cX10_breaks 61 = .ok (.if_icmp .ge 5, 3) := by decide +kernel
theorem dX10_breaks_64 : decode cX10_breaks 64 = .ok (.iload_n 3, 1) := by decide +kernel
theorem dX10_breaks_65 : decode cX10_breaks 65 = .ok (.ireturn, 1) := by decide +kernel
theorem dX10_breaks_66 : decode cX10_breaks 66 = .ok (.iinc 3 1, 3) := by decide +kernel
theorem dX10_breaks_69 : decode cX10_breaks 69 = .ok (.goto (-36), 3) := by decide +kernel
theorem dX10_breaks_72 : decode cX10_breaks 72 = .ok (.iconst (-1), 1) := by decide +kernel
theorem dX10_breaks_73 : decode cX10_breaks 73 = .ok (.ireturn, 1) := by decide +kernel
theorem dX10_foresee_0 : decode cX10_foresee 0 = .ok (.iload_n 1, 1) := by decide +kernel
theorem dX10_foresee_1 : decode cX10_foresee 1 = .ok (.iconst 1, 1) := by decide +kernel
theorem dX10_foresee_2 : decode cX10_foresee 2 = .ok (.bipush 120, 2) := by decide +kernel
theorem dX10_foresee_4 : decode cX10_foresee 4 = .ok (.invokestatic 60, 3) := by decide +kernel
theorem dX10_foresee_7 : decode cX10_foresee 7 = .ok (.iload_n 2, 1) := by decide +kernel
theorem dX10_foresee_8 : decode cX10_foresee 8 = .ok (.iconst 4, 1) := by decide +kernel
theorem dX10_foresee_9 : decode cX10_foresee 9 = .ok (.invokestatic 81, 3) := by decide +kernel
theorem dX10_foresee_12 : decode cX10_foresee 12 = .ok (.aload_n 0, 1) := by decide +kernel
theorem dX10_foresee_13 : decode cX10_foresee 13 = .ok (.getfield 34, 3) := by decide +kernel
theorem dX10_foresee_16 : decode cX10_foresee 16 = .ok (.aload_n 0, 1) := by decide +kernel
theorem dX10_foresee_17 : decode cX10_foresee 17 = .ok (.getfield 23, 3) := by decide +kernel
theorem dX10_foresee_20 : decode cX10_foresee 20 = .ok (.invokevirtual 126, 3) := by decide +kernel
theorem dX10_foresee_23 : decode cX10_foresee 23 = .ok (.aload_n 0, 1) := by decide +kernel
theorem dX10_foresee_24 : decode cX10_foresee 24 = .ok (.getfield 34, 3) := by decide +kernel
theorem dX10_foresee_27 : decode cX10_foresee 27 = .ok (.iload_n 1, 1) := by decide +kernel
theorem dX10_foresee_28 : decode cX10_foresee 28 = .ok (.aload_n 0, 1) := by decide +kernel
theorem dX10_foresee_29 : decode cX10_foresee 29 = .ok (.getfield 30, 3) := by decide +kernel
theorem dX10_foresee_32 : decode cX10_foresee 32 = .ok (.invokevirtual 122, 3) := by decide +kernel
theorem dX10_foresee_35 : decode cX10_foresee 35 = .ok (.iload_n 2, 1) := by decide +kernel
theorem dX10_foresee_36 : decode cX10_foresee 36 = .ok (.tableswitch 71 0 2 #[28, 46, 55], 28) := by decide +kernel
theorem dX10_foresee_64 : decode cX10_foresee 64 = .ok (.aload_n 0, 1) := by decide +kernel
theorem dX10_foresee_65 : decode cX10_foresee 65 = .ok (.getfield 34, 3) := by decide +kernel
theorem dX10_foresee_68 : decode cX10_foresee 68 = .ok (.iconst 3, 1) := by decide +kernel
theorem dX10_foresee_69 : decode cX10_foresee 69 = .ok (.invokevirtual 119, 3) := by decide +kernel
theorem dX10_foresee_72 : decode cX10_foresee 72 = .ok (.aload_n 0, 1) := by decide +kernel
theorem dX10_foresee_73 : decode cX10_foresee 73 = .ok (.getfield 23, 3) := by decide +kernel
theorem dX10_foresee_76 : decode cX10_foresee 76 = .ok (.iconst 3, 1) := by decide +kernel
theorem dX10_foresee_77 : decode cX10_foresee 77 = .ok (.invokevirtual 119, 3) := by decide +kernel
theorem dX10_foresee_80 : decode cX10_foresee 80 = .ok (.isub, 1) := by decide +kernel
theorem dX10_foresee_81 : decode cX10_foresee 81 = .ok (.ireturn, 1) := by decide +kernel
theorem dX10_foresee_82 : decode cX10_foresee 82 = .ok (.aload_n 0, 1) := by decide +kernel
theorem dX10_foresee_83 : decode cX10_foresee 83 = .ok (.getfield 34, 3) := by decide +kernel
theorem dX10_foresee_86 : decode cX10_foresee 86 = .ok (.iconst 2, 1) := by decide +kernel
theorem dX10_foresee_87 : decode cX10_foresee 87 = .ok (.invokevirtual 137, 3) := by decide +kernel
theorem dX10_foresee_90 : decode cX10_foresee 90 = .ok (.ireturn, 1) := by decide +kernel
theorem dX10_foresee_91 : decode cX10_foresee 91 = .ok (.aload_n 0, 1) := by decide +kernel
theorem dX10_foresee_92 : decode cX10_foresee 92 = .ok (.getfield 34, 3) := by decide +kernel
theorem dX10_foresee_95 : decode cX10_foresee 95 = .ok (.getfield 140, 3) := by decide +kernel
theorem dX10_foresee_98 : decode cX10_foresee 98 = .ok (.aload_n 0, 1) := by decide +kernel
theorem dX10_foresee_99 : decode cX10_foresee 99 = .ok (.getfield 23, 3) := by decide +kernel
theorem dX10_foresee_102 : decode cX10_foresee 102 = .ok (.getfield 140, 3) := by decide +kernel
theorem dX10_foresee_105 : decode cX10_foresee 105 = .ok (.isub, 1) := by decide +kernel
theorem dX10_foresee_106 : decode cX10_foresee 106 = .ok (.ireturn, 1) := by decide +kernel
theorem dX10_foresee_107 : decode cX10_foresee 107 = .ok (.aload_n 0, 1) := by decide +kernel
theorem dX10_foresee_108 : decode cX10_foresee 108 = .ok (.getfield 34, 3) := by decide +kernel
theorem dX10_foresee_111 : decode cX10_foresee 111 = .ok (.iconst 0, 1) := by decide +kernel
theorem dX10_foresee_112 : decode cX10_foresee 112 = .ok (.invokevirtual 119, 3) := by decide +kernel
theorem dX10_foresee_115 : decode cX10_foresee 115 = .ok (.ireturn, 1) := by decide +kernel
theorem dX10_advise_0 : decode cX10_advise 0 = .ok (.iload_n 1, 1) := by decide +kernel
theorem dX10_advise_1 : decode cX10_advise 1 = .ok (.iconst 1, 1) := by decide +kernel
theorem dX10_advise_2 : decode cX10_advise 2 = .ok (.bipush 80, 2) := by decide +kernel
theorem dX10_advise_4 : decode cX10_advise 4 = .ok (.invokestatic 60, 3) := by decide +kernel
theorem dX10_advise_7 : decode cX10_advise 7 = .ok (.bipush (-3), 2) := by decide +kernel
theorem dX10_advise_9 : decode cX10_advise 9 = .ok (.istore_n 2, 1) := by decide +kernel
theorem dX10_advise_10 : decode cX10_advise 10 = .ok (.iconst (-1), 1) := by decide +kernel
theorem dX10_advise_11 : decode cX10_advise 11 = .ok (.istore_n 3, 1) := by decide +kernel
theorem dX10_advise_12 : decode cX10_advise 12 = .ok (.bipush (-3), 2) := by decide +kernel
theorem dX10_advise_14 : decode cX10_advise 14 = .ok (.istore 4, 2) := by decide +kernel
theorem dX10_advise_16 : decode cX10_advise 16 = .ok (.iload 4, 2) := by decide +kernel
theorem dX10_advise_18 : decode cX10_advise 18 = .ok (.iconst 3, 1) := by decide +kernel
theorem dX10_advise_19 : decode cX10_advise 19 = .ok (.if_icmp .gt 63, 3) := by decide +kernel
theorem dX10_advise_22 : decode cX10_advise 22 = .ok (.aload_n 0, 1) := by decide +kernel
theorem dX10_advise_23 : decode cX10_advise 23 = .ok (.getfield 34, 3) := by decide +kernel
theorem dX10_advise_26 : decode cX10_advise 26 = .ok (.aload_n 0, 1) := by decide +kernel
theorem dX10_advise_27 : decode cX10_advise 27 = .ok (.getfield 23, 3) := by decide +kernel
theorem dX10_advise_30 : decode cX10_advise 30 = .ok (.invokevirtual 126, 3) := by decide +kernel
theorem dX10_advise_33 : decode cX10_advise 33 = .ok (.aload_n 0, 1) := by decide +kernel
theorem dX10_advise_34 : decode cX10_advise 34 = .ok (.getfield 34, 3) := by decide +kernel
theorem dX10_advise_37 : decode cX10_advise 37 = .ok (.iload 4, 2) := by decide +kernel
theorem dX10_advise_39 : decode cX10_advise 39 = .ok (.putfield 78, 3) := by decide +kernel
theorem dX10_advise_42 : decode cX10_advise 42 = .ok (.aload_n 0, 1) := by decide +kernel
theorem dX10_advise_43 : decode cX10_advise 43 = .ok (.getfield 34, 3) := by decide +kernel
theorem dX10_advise_46 : decode cX10_advise 46 = .ok (.iload_n 1, 1) := by decide +kernel
theorem dX10_advise_47 : decode cX10_advise 47 = .ok (.aload_n 0, 1) := by decide +kernel
theorem dX10_advise_48 : decode cX10_advise 48 = .ok (.getfield 30, 3) := by decide +kernel
theorem dX10_advise_51 : decode cX10_advise 51 = .ok (.invokevirtual 122, 3) := by decide +kernel
theorem dX10_advise_54 : decode cX10_advise 54 = .ok (.aload_n 0, 1) := by decide +kernel
theorem dX10_advise_55 : decode cX10_advise 55 = .ok (.getfield 34, 3) := by decide +kernel
theorem dX10_advise_58 : decode cX10_advise 58 = .ok (.iconst 3, 1) := by decide +kernel
theorem dX10_advise_59 : decode cX10_advise 59 = .ok (.invokevirtual 119, 3) := by decide +kernel
theorem dX10_advise_62 : decode cX10_advise 62 = .ok (.istore 5, 2) := by decide +kernel
theorem dX10_advise_64 : decode cX10_advise 64 = .ok (.iload 5, 2) := by decide +kernel
theorem dX10_advise_66 : decode cX10_advise 66 = .ok (.iload_n 3, 1) := by decide +kernel
theorem dX10_advise_67 : decode cX10_advise 67 = .ok (.if_icmp .le 9, 3) := by decide +kernel
theorem dX10_advise_70 : decode cX10_advise 70 = .ok (.iload 5, 2) := by decide +kernel
theorem dX10_advise_72 : decode cX10_advise 72 = .ok (.istore_n 3, 1) := by decide +kernel
theorem dX10_advise_73 : decode cX10_advise 73 = .ok (.iload 4, 2) := by decide +kernel
theorem dX10_advise_75 : decode cX10_advise 75 = .ok (.istore_n 2, 1) := by decide +kernel
theorem dX10_advise_76 : decode cX10_advise 76 = .ok (.iinc 4 1, 3) := by decide +kernel
theorem dX10_advise_79 : decode cX10_advise 79 = .ok (.goto (-63), 3) := by decide +kernel
theorem dX10_advise_82 : decode cX10_advise 82 = .ok (.iload_n 2, 1) := by decide +kernel
theorem dX10_advise_83 : decode cX10_advise 83 = .ok (.ireturn, 1) := by decide +kernel
theorem dX10_choose_0 : decode cX10_choose 0 = .ok (.iload_n 1, 1) := by decide +kernel
theorem dX10_choose_1 : decode cX10_choose 1 = .ok (.iconst 1, 1) := by decide +kernel
theorem dX10_choose_2 : decode cX10_choose 2 = .ok (.bipush 80, 2) := by decide +kernel
theorem dX10_choose_4 : decode cX10_choose 4 = .ok (.invokestatic 60, 3) := by decide +kernel
theorem dX10_choose_7 : decode cX10_choose 7 = .ok (.aload_n 0, 1) := by decide +kernel
theorem dX10_choose_8 : decode cX10_choose 8 = .ok (.getfield 34, 3) := by decide +kernel
theorem dX10_choose_11 : decode cX10_choose 11 = .ok (.aload_n 0, 1) := by decide +kernel
theorem dX10_choose_12 : decode cX10_choose 12 = .ok (.getfield 23, 3) := by decide +kernel
theorem dX10_choose_15 : decode cX10_choose 15 = .ok (.invokevirtual 126, 3) := by decide +kernel
theorem dX10_choose_18 : decode cX10_choose 18 = .ok (.aload_n 0, 1) := by decide +kernel
theorem dX10_choose_19 : decode cX10_choose 19 = .ok (.getfield 34, 3) := by decide +kernel
theorem dX10_choose_22 : decode cX10_choose 22 = .ok (.iload_n 1, 1) := by decide +kernel
theorem dX10_choose_23 : decode cX10_choose 23 = .ok (.aload_n 0, 1) := by decide +kernel
theorem dX10_choose_24 : decode cX10_choose 24 = .ok (.getfield 30, 3) := by decide +kernel
theorem dX10_choose_27 : decode cX10_choose 27 = .ok (.invokevirtual 122, 3) := by decide +kernel
theorem dX10_choose_30 : decode cX10_choose 30 = .ok (.aload_n 0, 1) := by decide +kernel
theorem dX10_choose_31 : decode cX10_choose 31 = .ok (.getfield 34, 3) := by decide +kernel
theorem dX10_choose_34 : decode cX10_choose 34 = .ok (.iconst 3, 1) := by decide +kernel
theorem dX10_choose_35 : decode cX10_choose 35 = .ok (.invokevirtual 119, 3) := by decide +kernel
theorem dX10_choose_38 : decode cX10_choose 38 = .ok (.istore_n 2, 1) := by decide +kernel
theorem dX10_choose_39 : decode cX10_choose 39 = .ok (.iconst (-1), 1) := by decide +kernel
theorem dX10_choose_40 : decode cX10_choose 40 = .ok (.istore_n 3, 1) := by decide +kernel
theorem dX10_choose_41 : decode cX10_choose 41 = .ok (.iconst 0, 1) := by decide +kernel
theorem dX10_choose_42 : decode cX10_choose 42 = .ok (.istore 4, 2) := by decide +kernel
theorem dX10_choose_44 : decode cX10_choose 44 = .ok (.iload 4, 2) := by decide +kernel
theorem dX10_choose_46 : decode cX10_choose 46 = .ok (.aload_n 0, 1) := by decide +kernel
theorem dX10_choose_47 : decode cX10_choose 47 = .ok (.getfield 23, 3) := by decide +kernel
theorem dX10_choose_50 : decode cX10_choose 50 = .ok (.getfield 96, 3) := by decide +kernel
theorem dX10_choose_53 : decode cX10_choose 53 = .ok (.if_icmp .ge 63, 3) := by decide +kernel
theorem dX10_choose_56 : decode cX10_choose 56 = .ok (.aload_n 0, 1) := by decide +kernel
theorem dX10_choose_57 : decode cX10_choose 57 = .ok (.getfield 34, 3) := by decide +kernel
theorem dX10_choose_60 : decode cX10_choose 60 = .ok (.aload_n 0, 1) := by decide +kernel
theorem dX10_choose_61 : decode cX10_choose 61 = .ok (.getfield 23, 3) := by decide +kernel
theorem dX10_choose_64 : decode cX10_choose 64 = .ok (.invokevirtual 126, 3) := by decide +kernel
theorem dX10_choose_67 : decode cX10_choose 67 = .ok (.aload_n 0, 1) := by decide +kernel
theorem dX10_choose_68 : decode cX10_choose 68 = .ok (.getfield 34, 3) := by decide +kernel
theorem dX10_choose_71 : decode cX10_choose 71 = .ok (.iload 4, 2) := by decide +kernel
theorem dX10_choose_73 : decode cX10_choose 73 = .ok (.invokevirtual 143, 3) := by decide +kernel
theorem dX10_choose_76 : decode cX10_choose 76 = .ok (.aload_n 0, 1) := by decide +kernel
theorem dX10_choose_77 : decode cX10_choose 77 = .ok (.getfield 34, 3) := by decide +kernel
theorem dX10_choose_80 : decode cX10_choose 80 = .ok (.iload_n 1, 1) := by decide +kernel
theorem dX10_choose_81 : decode cX10_choose 81 = .ok (.aload_n 0, 1) := by decide +kernel
theorem dX10_choose_82 : decode cX10_choose 82 = .ok (.getfield 30, 3) := by decide +kernel
theorem dX10_choose_85 : decode cX10_choose 85 = .ok (.invokevirtual 122, 3) := by decide +kernel
theorem dX10_choose_88 : decode cX10_choose 88 = .ok (.aload_n 0, 1) := by decide +kernel
theorem dX10_choose_89 : decode cX10_choose 89 = .ok (.getfield 34, 3) := by decide +kernel
theorem dX10_choose_92 : decode cX10_choose 92 = .ok (.iconst 3, 1) := by decide +kernel
theorem dX10_choose_93 : decode cX10_choose 93 = .ok (.invokevirtual 119, 3) := by decide +kernel
theorem dX10_choose_96 : decode cX10_choose 96 = .ok (.istore 5, 2) := by decide +kernel
theorem dX10_choose_98 : decode cX10_choose 98 = .ok (.iload 5, 2) := by decide +kernel
theorem dX10_choose_100 : decode cX10_choose 100 = .ok (.iload_n 2, 1) := by decide +kernel
theorem dX10_choose_101 : decode cX10_choose 101 = .ok (.if_icmp .le 9, 3) := by decide +kernel
theorem dX10_choose_104 : decode cX10_choose 104 = .ok (.iload 5, 2) := by decide +kernel
theorem dX10_choose_106 : decode cX10_choose 106 = .ok (.istore_n 2, 1) := by decide +kernel
theorem dX10_choose_107 : decode cX10_choose 107 = .ok (.iload 4, 2) := by decide +kernel
theorem dX10_choose_109 : decode cX10_choose 109 = .ok (.istore_n 3, 1) := by decide +kernel
theorem dX10_choose_110 : decode cX10_choose 110 = .ok (.iinc 4 1, 3) := by decide +kernel
theorem dX10_choose_113 : decode cX10_choose 113 = .ok (.goto (-69), 3) := by decide +kernel
theorem dX10_choose_116 : decode cX10_choose 116 = .ok (.iload_n 3, 1) := by decide +kernel
theorem dX10_choose_117 : decode cX10_choose 117 = .ok (.ireturn, 1) := by decide +kernel
theorem dX10_mean_0 : decode cX10_mean 0 = .ok (.aload_n 0, 1) := by decide +kernel
theorem dX10_mean_1 : decode cX10_mean 1 = .ok (.getfield 23, 3) := by decide +kernel
theorem dX10_mean_4 : decode cX10_mean 4 = .ok (.iconst 3, 1) := by decide +kernel
theorem dX10_mean_5 : decode cX10_mean 5 = .ok (.invokevirtual 137, 3) := by decide +kernel
theorem dX10_mean_8 : decode cX10_mean 8 = .ok (.istore_n 1, 1) := by decide +kernel
theorem dX10_mean_9 : decode cX10_mean 9 = .ok (.iload_n 1, 1) := by decide +kernel
theorem dX10_mean_10 : decode cX10_mean 10 = .ok (.ifCond .le 18, 3) := by decide +kernel
theorem dX10_mean_13 : decode cX10_mean 13 = .ok (.aload_n 0, 1) := by decide +kernel
theorem dX10_mean_14 : decode cX10_mean 14 = .ok (.getfield 23, 3) := by decide +kernel
theorem dX10_mean_17 : decode cX10_mean 17 = .ok (.iconst 3, 1) := by decide +kernel
theorem dX10_mean_18 : decode cX10_mean 18 = .ok (.invokevirtual 119, 3) := by decide +kernel
theorem dX10_mean_21 : decode cX10_mean 21 = .ok (.i2d, 1) := by decide +kernel
theorem dX10_mean_22 : decode cX10_mean 22 = .ok (.iload_n 1, 1) := by decide +kernel
theorem dX10_mean_23 : decode cX10_mean 23 = .ok (.i2d, 1) := by decide +kernel
theorem dX10_mean_24 : decode cX10_mean 24 = .ok (.ddiv, 1) := by decide +kernel
theorem dX10_mean_25 : decode cX10_mean 25 = .ok (.goto 4, 3) := by decide +kernel
theorem dX10_mean_28 : decode cX10_mean 28 = .ok (.dconst 0, 1) := by decide +kernel
theorem dX10_mean_29 : decode cX10_mean 29 = .ok (.dreturn, 1) := by decide +kernel
theorem dX10_digest_0 : decode cX10_digest 0 = .ok (.ldc2_w 146, 3) := by decide +kernel
theorem dX10_digest_3 : decode cX10_digest 3 = .ok (.lstore_n 1, 1) := by decide +kernel
theorem dX10_digest_4 : decode cX10_digest 4 = .ok (.iconst 0, 1) := by decide +kernel
theorem dX10_digest_5 : decode cX10_digest 5 = .ok (.istore_n 3, 1) := by decide +kernel
theorem dX10_digest_6 : decode cX10_digest 6 = .ok (.iload_n 3, 1) := by decide +kernel
theorem dX10_digest_7 : decode cX10_digest 7 = .ok (.bipush 13, 2) := by decide +kernel
theorem dX10_digest_9 : decode cX10_digest 9 = .ok (.if_icmp .ge 22, 3) := by decide +kernel
theorem dX10_digest_12 : decode cX10_digest 12 = .ok (.lload_n 1, 1) := by decide +kernel
theorem dX10_digest_13 : decode cX10_digest 13 = .ok (.ldc2_w 148, 3) := by decide +kernel
theorem dX10_digest_16 : decode cX10_digest 16 = .ok (.lmul, 1) := by decide +kernel
theorem dX10_digest_17 : decode cX10_digest 17 = .ok (.aload_n 0, 1) := by decide +kernel
theorem dX10_digest_18 : decode cX10_digest 18 = .ok (.iload_n 3, 1) := by decide +kernel
theorem dX10_digest_19 : decode cX10_digest 19 = .ok (.invokevirtual 150, 3) := by decide +kernel
theorem dX10_digest_22 : decode cX10_digest 22 = .ok (.i2l, 1) := by decide +kernel
theorem dX10_digest_23 : decode cX10_digest 23 = .ok (.ladd, 1) := by decide +kernel
theorem dX10_digest_24 : decode cX10_digest 24 = .ok (.lstore_n 1, 1) := by decide +kernel
theorem dX10_digest_25 : decode cX10_digest 25 = .ok (.iinc 3 1, 3) := by decide +kernel
theorem dX10_digest_28 : decode cX10_digest 28 = .ok (.goto (-22), 3) := by decide +kernel
theorem dX10_digest_31 : decode cX10_digest 31 = .ok (.iconst 0, 1) := by decide +kernel
theorem dX10_digest_32 : decode cX10_digest 32 = .ok (.istore_n 3, 1) := by decide +kernel
theorem dX10_digest_33 : decode cX10_digest 33 = .ok (.iload_n 3, 1) := by decide +kernel
theorem dX10_digest_34 : decode cX10_digest 34 = .ok (.aload_n 0, 1) := by decide +kernel
theorem dX10_digest_35 : decode cX10_digest 35 = .ok (.getfield 23, 3) := by decide +kernel
theorem dX10_digest_38 : decode cX10_digest 38 = .ok (.getfield 89, 3) := by decide +kernel
theorem dX10_digest_41 : decode cX10_digest 41 = .ok (.if_icmp .ge 42, 3) := by decide +kernel
theorem dX10_digest_44 : decode cX10_digest 44 = .ok (.iconst 0, 1) := by decide +kernel
theorem dX10_digest_45 : decode cX10_digest 45 = .ok (.istore 4, 2) := by decide +kernel
theorem dX10_digest_47 : decode cX10_digest 47 = .ok (.iload 4, 2) := by decide +kernel
theorem dX10_digest_49 : decode cX10_digest 49 = .ok (.iconst 5, 1) := by decide +kernel
theorem dX10_digest_50 : decode cX10_digest 50 = .ok (.if_icmp .ge 27, 3) := by decide +kernel
theorem dX10_digest_53 : decode cX10_digest 53 = .ok (.lload_n 1, 1) := by decide +kernel
theorem dX10_digest_54 : decode cX10_digest 54 = .ok (.ldc2_w 148, 3) := by decide +kernel
theorem dX10_digest_57 : decode cX10_digest 57 = .ok (.lmul, 1) := by decide +kernel
theorem dX10_digest_58 : decode cX10_digest 58 = .ok (.aload_n 0, 1) := by decide +kernel
theorem dX10_digest_59 : decode cX10_digest 59 = .ok (.getfield 23, 3) := by decide +kernel
theorem dX10_digest_62 : decode cX10_digest 62 = .ok (.iload_n 3, 1) := by decide +kernel
theorem dX10_digest_63 : decode cX10_digest 63 = .ok (.iload 4, 2) := by decide +kernel
theorem dX10_digest_65 : decode cX10_digest 65 = .ok (.invokevirtual 92, 3) := by decide +kernel
theorem dX10_digest_68 : decode cX10_digest 68 = .ok (.i2l, 1) := by decide +kernel
theorem dX10_digest_69 : decode cX10_digest 69 = .ok (.ladd, 1) := by decide +kernel
theorem dX10_digest_70 : decode cX10_digest 70 = .ok (.lstore_n 1, 1) := by decide +kernel
theorem dX10_digest_71 : decode cX10_digest 71 = .ok (.iinc 4 1, 3) := by decide +kernel
theorem dX10_digest_74 : decode cX10_digest 74 = .ok (.goto (-27), 3) := by decide +kernel
theorem dX10_digest_77 : decode cX10_digest 77 = .ok (.iinc 3 1, 3) := by decide +kernel
theorem dX10_digest_80 : decode cX10_digest 80 = .ok (.goto (-47), 3) := by decide +kernel
theorem dX10_digest_83 : decode cX10_digest 83 = .ok (.iconst 0, 1) := by decide +kernel
theorem dX10_digest_84 : decode cX10_digest 84 = .ok (.istore_n 3, 1) := by decide +kernel
theorem dX10_digest_85 : decode cX10_digest 85 = .ok (.iload_n 3, 1) := by decide +kernel
theorem dX10_digest_86 : decode cX10_digest 86 = .ok (.aload_n 0, 1) := by decide +kernel
theorem dX10_digest_87 : decode cX10_digest 87 = .ok (.getfield 23, 3) := by decide +kernel
theorem dX10_digest_90 : decode cX10_digest 90 = .ok (.getfield 96, 3) := by decide +kernel
theorem dX10_digest_93 : decode cX10_digest 93 = .ok (.if_icmp .ge 43, 3) := by decide +kernel
theorem dX10_digest_96 : decode cX10_digest 96 = .ok (.iconst 0, 1) := by decide +kernel
theorem dX10_digest_97 : decode cX10_digest 97 = .ok (.istore 4, 2) := by decide +kernel
theorem dX10_digest_99 : decode cX10_digest 99 = .ok (.iload 4, 2) := by decide +kernel
theorem dX10_digest_101 : decode cX10_digest 101 = .ok (.bipush 10, 2) := by decide +kernel
theorem dX10_digest_103 : decode cX10_digest 103 = .ok (.if_icmp .ge 27, 3) := by decide +kernel
theorem dX10_digest_106 : decode cX10_digest 106 = .ok (.lload_n 1, 1) := by decide +kernel
theorem dX10_digest_107 : decode cX10_digest 107 = .ok (.ldc2_w 148, 3) := by decide +kernel
theorem dX10_digest_110 : decode cX10_digest 110 = .ok (.lmul, 1) := by decide +kernel
theorem dX10_digest_111 : decode cX10_digest 111 = .ok (.aload_n 0, 1) := by decide +kernel
theorem dX10_digest_112 : decode cX10_digest 112 = .ok (.getfield 23, 3) := by decide +kernel
theorem dX10_digest_115 : decode cX10_digest 115 = .ok (.iload_n 3, 1) := by decide +kernel
theorem dX10_digest_116 : decode cX10_digest 116 = .ok (.iload 4, 2) := by decide +kernel
theorem dX10_digest_118 : decode cX10_digest 118 = .ok (.invokevirtual 99, 3) := by decide +kernel
theorem dX10_digest_121 : decode cX10_digest 121 = .ok (.i2l, 1) := by decide +kernel
theorem dX10_digest_122 : decode cX10_digest 122 = .ok (.ladd, 1) := by decide +kernel
theorem dX10_digest_123 : decode cX10_digest 123 = .ok (.lstore_n 1, 1) := by decide +kernel
theorem dX10_digest_124 : decode cX10_digest 124 = .ok (.iinc 4 1, 3) := by decide +kernel
theorem dX10_digest_127 : decode cX10_digest 127 = .ok (.goto (-28), 3) := by decide +kernel
theorem dX10_digest_130 : decode cX10_digest 130 = .ok (.iinc 3 1, 3) := by decide +kernel
theorem dX10_digest_133 : decode cX10_digest 133 = .ok (.goto (-48), 3) := by decide +kernel
theorem dX10_digest_136 : decode cX10_digest 136 = .ok (.iconst 0, 1) := by decide +kernel
theorem dX10_digest_137 : decode cX10_digest 137 = .ok (.istore_n 3, 1) := by decide +kernel
theorem dX10_digest_138 : decode cX10_digest 138 = .ok (.iload_n 3, 1) := by decide +kernel
theorem dX10_digest_139 : decode cX10_digest 139 = .ok (.aload_n 0, 1) := by decide +kernel
theorem dX10_digest_140 : decode cX10_digest 140 = .ok (.getfield 23, 3) := by decide +kernel
theorem dX10_digest_143 : decode cX10_digest 143 = .ok (.getfield 102, 3) := by decide +kernel
theorem dX10_digest_146 : decode cX10_digest 146 = .ok (.if_icmp .ge 42, 3) := by decide +kernel
theorem dX10_digest_149 : decode cX10_digest 149 = .ok (.iconst 0, 1) := by decide +kernel
theorem dX10_digest_150 : decode cX10_digest 150 = .ok (.istore 4, 2) := by decide +kernel
theorem dX10_digest_152 : decode cX10_digest 152 = .ok (.iload 4, 2) := by decide +kernel
theorem dX10_digest_154 : decode cX10_digest 154 = .ok (.iconst 4, 1) := by decide +kernel
theorem dX10_digest_155 : decode cX10_digest 155 = .ok (.if_icmp .ge 27, 3) := by decide +kernel
theorem dX10_digest_158 : decode cX10_digest 158 = .ok (.lload_n 1, 1) := by decide +kernel
theorem dX10_digest_159 : decode cX10_digest 159 = .ok (.ldc2_w 148, 3) := by decide +kernel
theorem dX10_digest_162 : decode cX10_digest 162 = .ok (.lmul, 1) := by decide +kernel
theorem dX10_digest_163 : decode cX10_digest 163 = .ok (.aload_n 0, 1) := by decide +kernel
theorem dX10_digest_164 : decode cX10_digest 164 = .ok (.getfield 23, 3) := by decide +kernel
theorem dX10_digest_167 : decode cX10_digest 167 = .ok (.iload_n 3, 1) := by decide +kernel
theorem dX10_digest_168 : decode cX10_digest 168 = .ok (.iload 4, 2) := by decide +kernel
theorem dX10_digest_170 : decode cX10_digest 170 = .ok (.invokevirtual 105, 3) := by decide +kernel
theorem dX10_digest_173 : decode cX10_digest 173 = .ok (.i2l, 1) := by decide +kernel
theorem dX10_digest_174 : decode cX10_digest 174 = .ok (.ladd, 1) := by decide +kernel
theorem dX10_digest_175 : decode cX10_digest 175 = .ok (.lstore_n 1, 1) := by decide +kernel
theorem dX10_digest_176 : decode cX10_digest 176 = .ok (.iinc 4 1, 3) := by decide +kernel
theorem dX10_digest_179 : decode cX10_digest 179 = .ok (.goto (-27), 3) := by decide +kernel
theorem dX10_digest_182 : decode cX10_digest 182 = .ok (.iinc 3 1, 3) := by decide +kernel
theorem dX10_digest_185 : decode cX10_digest 185 = .ok (.goto (-47), 3) := by decide +kernel
theorem dX10_digest_188 : decode cX10_digest 188 = .ok (.lload_n 1, 1) := by decide +kernel
theorem dX10_digest_189 : decode cX10_digest 189 = .ok (.lreturn, 1) := by decide +kernel
theorem dX10_checkIndex_0 : decode cX10_checkIndex 0 = .ok (.iload_n 0, 1) := by decide +kernel
theorem dX10_checkIndex_1 : decode cX10_checkIndex 1 = .ok (.ifCond .lt 8, 3) := by decide +kernel
theorem dX10_checkIndex_4 : decode cX10_checkIndex 4 = .ok (.iload_n 0, 1) := by decide +kernel
theorem dX10_checkIndex_5 : decode cX10_checkIndex 5 = .ok (.iload_n 1, 1) := by decide +kernel
theorem dX10_checkIndex_6 : decode cX10_checkIndex 6 = .ok (.if_icmp .lt 13, 3) := by decide +kernel
theorem dX10_checkIndex_9 : decode cX10_checkIndex 9 = .ok (.new 153, 3) := by decide +kernel
theorem dX10_checkIndex_12 : decode cX10_checkIndex 12 = .ok (.dup, 1) := by decide +kernel
theorem dX10_checkIndex_13 : decode cX10_checkIndex 13 = .ok (.ldc 155, 2) := by decide +kernel
theorem dX10_checkIndex_15 : decode cX10_checkIndex 15 = .ok (.invokespecial 157, 3) := by decide +kernel
theorem dX10_checkIndex_18 : decode cX10_checkIndex 18 = .ok (.athrow, 1) := by decide +kernel
theorem dX10_checkIndex_19 : decode cX10_checkIndex 19 = .ok (.return_, 1) := by decide +kernel
theorem dX10_checkRange_0 : decode cX10_checkRange 0 = .ok (.iload_n 0, 1) := by decide +kernel
theorem dX10_checkRange_1 : decode cX10_checkRange 1 = .ok (.iload_n 1, 1) := by decide +kernel
theorem dX10_checkRange_2 : decode cX10_checkRange 2 = .ok (.if_icmp .lt 8, 3) := by decide +kernel
theorem dX10_checkRange_5 : decode cX10_checkRange 5 = .ok (.iload_n 0, 1) := by decide +kernel
theorem dX10_checkRange_6 : decode cX10_checkRange 6 = .ok (.iload_n 2, 1) := by decide +kernel
theorem dX10_checkRange_7 : decode cX10_checkRange 7 = .ok (.if_icmp .le 13, 3) := by decide +kernel
theorem dX10_checkRange_10 : decode cX10_checkRange 10 = .ok (.new 158, 3) := by decide +kernel
theorem dX10_checkRange_13 : decode cX10_checkRange 13 = .ok (.dup, 1) := by decide +kernel
theorem dX10_checkRange_14 : decode cX10_checkRange 14 = .ok (.ldc 160, 2) := by decide +kernel
theorem dX10_checkRange_16 : decode cX10_checkRange 16 = .ok (.invokespecial 162, 3) := by decide +kernel
theorem dX10_checkRange_19 : decode cX10_checkRange 19 = .ok (.athrow, 1) := by decide +kernel
theorem dX10_checkRange_20 : decode cX10_checkRange 20 = .ok (.return_, 1) := by decide +kernel
theorem dX11_init_0 : decode cX11_init 0 = .ok (.aload_n 0, 1) := by decide +kernel
theorem dX11_init_1 : decode cX11_init 1 = .ok (.invokespecial 1, 3) := by decide +kernel
theorem dX11_init_4 : decode cX11_init 4 = .ok (.aload_n 0, 1) := by decide +kernel
theorem dX11_init_5 : decode cX11_init 5 = .ok (.iconst 0, 1) := by decide +kernel
theorem dX11_init_6 : decode cX11_init 6 = .ok (.anewarray 7, 3) := by decide +kernel
theorem dX11_init_9 : decode cX11_init 9 = .ok (.putfield 9, 3) := by decide +kernel
theorem dX11_init_12 : decode cX11_init 12 = .ok (.aload_n 0, 1) := by decide +kernel
theorem dX11_init_13 : decode cX11_init 13 = .ok (.iconst 0, 1) := by decide +kernel
theorem dX11_init_14 : decode cX11_init 14 = .ok (.anewarray 7, 3) := by decide +kernel
theorem dX11_init_17 : decode cX11_init 17 = .ok (.putfield 15, 3) := by decide +kernel
theorem dX11_init_20 : decode cX11_init 20 = .ok (.aload_n 0, 1) := by decide +kernel
theorem dX11_init_21 : decode cX11_init 21 = .ok (.iconst 0, 1) := by decide +kernel
theorem dX11_init_22 : decode cX11_init 22 = .ok (.anewarray 7, 3) := by decide +kernel
theorem dX11_init_25 : decode cX11_init 25 = .ok (.putfield 18, 3) := by decide +kernel
theorem dX11_init_28 : decode cX11_init 28 = .ok (.aload_n 0, 1) := by decide +kernel
theorem dX11_init_29 : decode cX11_init 29 = .ok (.iconst 0, 1) := by decide +kernel
theorem dX11_init_30 : decode cX11_init 30 = .ok (.anewarray 7, 3) := by decide +kernel
theorem dX11_init_33 : decode cX11_init 33 = .ok (.putfield 21, 3) := by decide +kernel
theorem dX11_init_36 : decode cX11_init 36 = .ok (.aload_n 0, 1) := by decide +kernel
theorem dX11_init_37 : decode cX11_init 37 = .ok (.iconst 0, 1) := by decide +kernel
theorem dX11_init_38 : decode cX11_init 38 = .ok (.anewarray 7, 3) := by decide +kernel
theorem dX11_init_41 : decode cX11_init 41 = .ok (.putfield 24, 3) := by decide +kernel
theorem dX11_init_44 : decode cX11_init 44 = .ok (.return_, 1) := by decide +kernel
theorem dX11_weigh_0 : decode cX11_weigh 0 = .ok (.iconst 0, 1) := by decide +kernel
theorem dX11_weigh_1 : decode cX11_weigh 1 = .ok (.istore_n 3, 1) := by decide +kernel
theorem dX11_weigh_2 : decode cX11_weigh 2 = .ok (.aload_n 0, 1) := by decide +kernel
theorem dX11_weigh_3 : decode cX11_weigh 3 = .ok (.getfield 18, 3) := by decide +kernel
theorem dX11_weigh_6 : decode cX11_weigh 6 = .ok (.astore 4, 2) := by decide +kernel
theorem dX11_weigh_8 : decode cX11_weigh 8 = .ok (.aload 4, 2) := by decide +kernel
theorem dX11_weigh_10 : decode cX11_weigh 10 = .ok (.arraylength, 1) := by decide +kernel
theorem dX11_weigh_11 : decode cX11_weigh 11 = .ok (.istore 5, 2) := by decide +kernel
theorem dX11_weigh_13 : decode cX11_weigh 13 = .ok (.iconst 0, 1) := by decide +kernel
theorem dX11_weigh_14 : decode cX11_weigh 14 = .ok (.istore 6, 2) := by decide +kernel
theorem dX11_weigh_16 : decode cX11_weigh 16 = .ok (.iload 6, 2) := by decide +kernel
theorem dX11_weigh_18 : decode cX11_weigh 18 = .ok (.iload 5, 2) := by decide +kernel
theorem dX11_weigh_20 : decode cX11_weigh 20 = .ok (.if_icmp .ge 47, 3) := by decide +kernel
theorem dX11_weigh_23 : decode cX11_weigh 23 = .ok (.aload 4, 2) := by decide +kernel
theorem dX11_weigh_25 : decode cX11_weigh 25 = .ok (.iload 6, 2) := by decide +kernel
theorem dX11_weigh_27 : decode cX11_weigh 27 = .ok (.aaload, 1) := by decide +kernel
theorem dX11_weigh_28 : decode cX11_weigh 28 = .ok (.astore 7, 2) := by decide +kernel
theorem dX11_weigh_30 : decode cX11_weigh 30 = .ok (.iload_n 3, 1) := by decide +kernel
theorem dX11_weigh_31 : decode cX11_weigh 31 = .ok (.aload 7, 2) := by decide +kernel
theorem dX11_weigh_33 : decode cX11_weigh 33 = .ok (.iconst 1, 1) := by decide +kernel
theorem dX11_weigh_34 : decode cX11_weigh 34 = .ok (.iaload, 1) := by decide +kernel
theorem dX11_weigh_35 : decode cX11_weigh 35 = .ok (.iload_n 1, 1) := by decide +kernel
theorem dX11_weigh_36 : decode cX11_weigh 36 = .ok (.if_icmp .ne 22, 3) := by decide +kernel
theorem dX11_weigh_39 : decode cX11_weigh 39 = .ok (.iload_n 2, 1) := by decide +kernel
theorem dX11_weigh_40 : decode cX11_weigh 40 = .ok (.ifCond .lt 11, 3) := by decide +kernel
theorem dX11_weigh_43 : decode cX11_weigh 43 = .ok (.aload 7, 2) := by decide +kernel
theorem dX11_weigh_45 : decode cX11_weigh 45 = .ok (.iconst 2, 1) := by decide +kernel
theorem dX11_weigh_46 : decode cX11_weigh 46 = .ok (.iaload, 1) := by decide +kernel
theorem dX11_weigh_47 : decode cX11_weigh 47 = .ok (.iload_n 2, 1) := by decide +kernel
theorem dX11_weigh_48 : decode cX11_weigh 48 = .ok (.if_icmp .ne 10, 3) := by decide +kernel
theorem dX11_weigh_51 : decode cX11_weigh 51 = .ok (.aload 7, 2) := by decide +kernel
theorem dX11_weigh_53 : decode cX11_weigh 53 = .ok (.iconst 0, 1) := by decide +kernel
theorem dX11_weigh_54 : decode cX11_weigh 54 = .ok (.iaload, 1) := by decide +kernel
theorem dX11_weigh_55 : decode cX11_weigh 55 = .ok (.goto 4, 3) := by decide +kernel
theorem dX11_weigh_58 : decode cX11_weigh 58 = .ok (.iconst 0, 1) := by decide +kernel
theorem dX11_weigh_59 : decode cX11_weigh 59 = .ok (.iadd, 1) := by decide +kernel
theorem dX11_weigh_60 : decode cX11_weigh 60 = .ok (.istore_n 3, 1) := by decide +kernel
theorem dX11_weigh_61 : decode cX11_weigh 61 = .ok (.iinc 6 1, 3) := by decide +kernel
theorem dX11_weigh_64 : decode cX11_weigh 64 = .ok (.goto (-48), 3) := by decide +kernel
theorem dX11_weigh_67 : decode cX11_weigh 67 = .ok (.iload_n 3, 1) := by decide +kernel
theorem dX11_weigh_68 : decode cX11_weigh 68 = .ok (.ireturn, 1) := by decide +kernel
theorem dX11_number_0 : decode cX11_number 0 = .ok (.iconst 0, 1) := by decide +kernel
theorem dX11_number_1 : decode cX11_number 1 = .ok (.istore_n 3, 1) := by decide +kernel
theorem dX11_number_2 : decode cX11_number 2 = .ok (.aload_n 0, 1) := by decide +kernel
theorem dX11_number_3 : decode cX11_number 3 = .ok (.getfield 18, 3) := by decide +kernel
theorem dX11_number_6 : decode cX11_number 6 = .ok (.astore 4, 2) := by decide +kernel
theorem dX11_number_8 : decode cX11_number 8 = .ok (.aload 4, 2) := by decide +kernel
theorem dX11_number_10 : decode cX11_number 10 = .ok (.arraylength, 1) := by decide +kernel
theorem dX11_number_11 : decode cX11_number 11 = .ok (.istore 5, 2) := by decide +kernel
theorem dX11_number_13 : decode cX11_number 13 = .ok (.iconst 0, 1) := by decide +kernel
theorem dX11_number_14 : decode cX11_number 14 = .ok (.istore 6, 2) := by decide +kernel
theorem dX11_number_16 : decode cX11_number 16 = .ok (.iload 6, 2) := by decide +kernel
theorem dX11_number_18 : decode cX11_number 18 = .ok (.iload 5, 2) := by decide +kernel
theorem dX11_number_20 : decode cX11_number 20 = .ok (.if_icmp .ge 44, 3) := by decide +kernel
theorem dX11_number_23 : decode cX11_number 23 = .ok (.aload 4, 2) := by decide +kernel
theorem dX11_number_25 : decode cX11_number 25 = .ok (.iload 6, 2) := by decide +kernel
theorem dX11_number_27 : decode cX11_number 27 = .ok (.aaload, 1) := by decide +kernel
theorem dX11_number_28 : decode cX11_number 28 = .ok (.astore 7, 2) := by decide +kernel
theorem dX11_number_30 : decode cX11_number 30 = .ok (.iload_n 3, 1) := by decide +kernel
theorem dX11_number_31 : decode cX11_number 31 = .ok (.aload 7, 2) := by decide +kernel
theorem dX11_number_33 : decode cX11_number 33 = .ok (.iconst 1, 1) := by decide +kernel
theorem dX11_number_34 : decode cX11_number 34 = .ok (.iaload, 1) := by decide +kernel
theorem dX11_number_35 : decode cX11_number 35 = .ok (.iload_n 1, 1) := by decide +kernel
theorem dX11_number_36 : decode cX11_number 36 = .ok (.if_icmp .ne 19, 3) := by decide +kernel
theorem dX11_number_39 : decode cX11_number 39 = .ok (.iload_n 2, 1) := by decide +kernel
theorem dX11_number_40 : decode cX11_number 40 = .ok (.ifCond .lt 11, 3) := by decide +kernel
theorem dX11_number_43 : decode cX11_number 43 = .ok (.aload 7, 2) := by decide +kernel
theorem dX11_number_45 : decode cX11_number 45 = .ok (.iconst 2, 1) := by decide +kernel
theorem dX11_number_46 : decode cX11_number 46 = .ok (.iaload, 1) := by decide +kernel
theorem dX11_number_47 : decode cX11_number 47 = .ok (.iload_n 2, 1) := by decide +kernel
theorem dX11_number_48 : decode cX11_number 48 = .ok (.if_icmp .ne 7, 3) := by decide +kernel
theorem dX11_number_51 : decode cX11_number 51 = .ok (.iconst 1, 1) := by decide +kernel
theorem dX11_number_52 : decode cX11_number 52 = .ok (.goto 4, 3) := by decide +kernel
theorem dX11_number_55 : decode cX11_number 55 = .ok (.iconst 0, 1) := by decide +kernel
theorem dX11_number_56 : decode cX11_number 56 = .ok (.iadd, 1) := by decide +kernel
theorem dX11_number_57 : decode cX11_number 57 = .ok (.istore_n 3, 1) := by decide +kernel
theorem dX11_number_58 : decode cX11_number 58 = .ok (.iinc 6 1, 3) := by decide +kernel
theorem dX11_number_61 : decode cX11_number 61 = .ok (.goto (-45), 3) := by decide +kernel
theorem dX11_number_64 : decode cX11_number 64 = .ok (.iload_n 3, 1) := by decide +kernel
theorem dX11_number_65 : decode cX11_number 65 = .ok (.ireturn, 1) := by decide +kernel
theorem dX11_load_0 : decode cX11_load 0 = .ok (.aload_n 0, 1) := by decide +kernel
theorem dX11_load_1 : decode cX11_load 1 = .ok (.iconst 1, 1) := by decide +kernel
theorem dX11_load_2 : decode cX11_load 2 = .ok (.iload_n 1, 1) := by decide +kernel
theorem dX11_load_3 : decode cX11_load 3 = .ok (.invokevirtual 27, 3) := by decide +kernel
theorem dX11_load_6 : decode cX11_load 6 = .ok (.ireturn, 1) := by decide +kernel
theorem dX11_needs_0 : decode cX11_needs 0 = .ok (.aload_n 0, 1) := by decide +kernel
theorem dX11_needs_1 : decode cX11_needs 1 = .ok (.iload_n 1, 1) := by decide +kernel
theorem dX11_needs_2 : decode cX11_needs 2 = .ok (.invokevirtual 31, 3) := by decide +kernel
theorem dX11_needs_5 : decode cX11_needs 5 = .ok (.bipush 10, 2) := by decide +kernel
theorem dX11_needs_7 : decode cX11_needs 7 = .ok (.aload_n 0, 1) := by decide +kernel
theorem dX11_needs_8 : decode cX11_needs 8 = .ok (.getfield 9, 3) := by decide +kernel
theorem dX11_needs_11 : decode cX11_needs 11 = .ok (.iload_n 2, 1) := by decide +kernel
theorem dX11_needs_12 : decode cX11_needs 12 = .ok (.aaload, 1) := by decide +kernel
theorem dX11_needs_13 : decode cX11_needs 13 = .ok (.iconst 1, 1) := by decide +kernel
theorem dX11_needs_14 : decode cX11_needs 14 = .ok (.iaload, 1) := by decide +kernel
theorem dX11_needs_15 : decode cX11_needs 15 = .ok (.iadd, 1) := by decide +kernel
theorem dX11_needs_16 : decode cX11_needs 16 = .ok (.imul, 1) := by decide +kernel
theorem dX11_needs_17 : decode cX11_needs 17 = .ok (.bipush 10, 2) := by decide +kernel
theorem dX11_needs_19 : decode cX11_needs 19 = .ok (.idiv, 1) := by decide +kernel
theorem dX11_needs_20 : decode cX11_needs 20 = .ok (.aload_n 0, 1) := by decide +kernel
theorem dX11_needs_21 : decode cX11_needs 21 = .ok (.getfield 9, 3) := by decide +kernel
theorem dX11_needs_24 : decode cX11_needs 24 = .ok (.iload_n 2, 1) := by decide +kernel
theorem dX11_needs_25 : decode cX11_needs 25 = .ok (.aaload, 1) := by decide +kernel
theorem dX11_needs_26 : decode cX11_needs 26 = .ok (.iconst 2, 1) := by decide +kernel
theorem dX11_needs_27 : decode cX11_needs 27 = .ok (.iaload, 1) := by decide +kernel
theorem dX11_needs_28 : decode cX11_needs 28 = .ok (.isub, 1) := by decide +kernel
theorem dX11_needs_29 : decode cX11_needs 29 = .ok (.istore_n 3, 1) := by decide +kernel
theorem dX11_needs_30 : decode cX11_needs 30 = .ok (.iload_n 3, 1) := by decide +kernel
theorem dX11_needs_31 : decode cX11_needs 31 = .ok (.ifCond .ge 7, 3) := by decide +kernel
theorem dX11_needs_34 : decode cX11_needs 34 = .ok (.iconst 0, 1) := by decide +kernel
theorem dX11_needs_35 : decode cX11_needs 35 = .ok (.goto 4, 3) := by decide +kernel
theorem dX11_needs_38 : decode cX11_needs 38 = .ok (.iload_n 3, 1) := by decide +kernel
theorem dX11_needs_39 : decode cX11_needs 39 = .ok (.ireturn, 1) := by decide +kernel
theorem dX11_sum_0 : decode cX11_sum 0 = .ok (.aload_n 1, 1) := by decide +kernel
theorem dX11_sum_1 : decode cX11_sum 1 = .ok (.iconst 2, 1) := by decide +kernel
theorem dX11_sum_2 : decode cX11_sum 2 = .ok (.iaload, 1) := by decide +kernel
theorem dX11_sum_3 : decode cX11_sum 3 = .ok (.istore_n 2, 1) := by decide +kernel
theorem dX11_sum_4 : decode cX11_sum 4 = .ok (.aload_n 1, 1) := by decide +kernel
theorem dX11_sum_5 : decode cX11_sum 5 = .ok (.iconst 3, 1) := by decide +kernel
theorem dX11_sum_6 : decode cX11_sum 6 = .ok (.iaload, 1) := by decide +kernel
theorem dX11_sum_7 : decode cX11_sum 7 = .ok (.aload_n 0, 1) := by decide +kernel
theorem dX11_sum_8 : decode cX11_sum 8 = .ok (.getfield 15, 3) := by decide +kernel
theorem dX11_sum_11 : decode cX11_sum 11 = .ok (.arraylength, 1) := by decide +kernel
theorem dX11_sum_12 : decode cX11_sum 12 = .ok (.irem, 1) := by decide +kernel
theorem dX11_sum_13 : decode cX11_sum 13 = .ok (.istore_n 3, 1) := by decide +kernel
theorem dX11_sum_14 : decode cX11_sum 14 = .ok (.aload_n 1, 1) := by decide +kernel
theorem dX11_sum_15 : decode cX11_sum 15 = .ok (.iconst 3, 1) := by decide +kernel
theorem dX11_sum_16 : decode cX11_sum 16 = .ok (.iaload, 1) := by decide +kernel
theorem dX11_sum_17 : decode cX11_sum 17 = .ok (.aload_n 0, 1) := by decide +kernel
theorem dX11_sum_18 : decode cX11_sum 18 = .ok (.getfield 9, 3) := by decide +kernel
theorem dX11_sum_21 : decode cX11_sum 21 = .ok (.arraylength, 1) := by decide +kernel
theorem dX11_sum_22 : decode cX11_sum 22 = .ok (.irem, 1) := by decide +kernel
theorem dX11_sum_23 : decode cX11_sum 23 = .ok (.istore 4, 2) := by decide +kernel
theorem dX11_sum_25 : decode cX11_sum 25 = .ok (.aload_n 1, 1) := by decide +kernel
theorem dX11_sum_26 : decode cX11_sum 26 = .ok (.iconst 1, 1) := by decide +kernel
theorem dX11_sum_27 : decode cX11_sum 27 = .ok (.iaload, 1) := by decide +kernel
theorem dX11_sum_28 : decode cX11_sum 28 = .ok (.tableswitch 104 0 4 #[36, 38, 51, 63, 87], 36) := by decide +kernel
theorem dX11_sum_64 : decode cX11_sum 64 = .ok (.iload_n 2, 1) := by decide +kernel
theorem dX11_sum_65 : decode cX11_sum 65 = .ok (.ireturn, 1) := by decide +kernel
theorem dX11_sum_66 : decode cX11_sum 66 = .ok (.aload_n 0, 1) := by decide +kernel
theorem dX11_sum_67 : decode cX11_sum 67 = .ok (.iconst 0, 1) := by decide +kernel
theorem dX11_sum_68 : decode cX11_sum 68 = .ok (.iconst (-1), 1) := by decide +kernel
theorem dX11_sum_69 : decode cX11_sum 69 = .ok (.invokevirtual 27, 3) := by decide +kernel
theorem dX11_sum_72 : decode cX11_sum 72 = .ok (.iconst 2, 1) := by decide +kernel
theorem dX11_sum_73 : decode cX11_sum 73 = .ok (.idiv, 1) := by decide +kernel
theorem dX11_sum_74 : decode cX11_sum 74 = .ok (.iload_n 2, 1) := by decide +kernel
theorem dX11_sum_75 : decode cX11_sum 75 = .ok (.invokestatic 35, 3) := by decide +kernel
theorem dX11_sum_78 : decode cX11_sum 78 = .ok (.ireturn, 1) := by decide +kernel
theorem dX11_sum_79 : decode cX11_sum 79 = .ok (.iload_n 2, 1) := by decide +kernel
theorem dX11_sum_80 : decode cX11_sum 80 = .ok (.aload_n 0, 1) := by decide +kernel
theorem dX11_sum_81 : decode cX11_sum 81 = .ok (.getfield 15, 3) := by decide +kernel
theorem dX11_sum_84 : decode cX11_sum 84 = .ok (.iload_n 3, 1) := by decide +kernel
theorem dX11_sum_85 : decode cX11_sum 85 = .ok (.aaload, 1) := by decide +kernel
theorem dX11_sum_86 : decode cX11_sum 86 = .ok (.bipush 7, 2) := by decide +kernel
theorem dX11_sum_88 : decode cX11_sum 88 = .ok (.iaload, 1) := by decide +kernel
theorem dX11_sum_89 : decode cX11_sum 89 = .ok (.isub, 1) := by decide +kernel
theorem dX11_sum_90 : decode cX11_sum 90 = .ok (.ireturn, 1) := by decide +kernel
theorem dX11_sum_91 : decode cX11_sum 91 = .ok (.aload_n 0, 1) := by decide +kernel
theorem dX11_sum_92 : decode cX11_sum 92 = .ok (.getfield 15, 3) := by decide +kernel
theorem dX11_sum_95 : decode cX11_sum 95 = .ok (.iload_n 3, 1) := by decide +kernel
theorem dX11_sum_96 : decode cX11_sum 96 = .ok (.aaload, 1) := by decide +kernel
theorem dX11_sum_97 : decode cX11_sum 97 = .ok (.iconst 1, 1) := by decide +kernel
theorem dX11_sum_98 : decode cX11_sum 98 = .ok (.iaload, 1) := by decide +kernel
theorem dX11_sum_99 : decode cX11_sum 99 = .ok (.iload_n 2, 1) := by decide +kernel
theorem dX11_sum_100 : decode cX11_sum 100 = .ok (.imul, 1) := by decide +kernel
theorem dX11_sum_101 : decode cX11_sum 101 = .ok (.bipush 9, 2) := by decide +kernel
theorem dX11_sum_103 : decode cX11_sum 103 = .ok (.idiv, 1) := by decide +kernel
theorem dX11_sum_104 : decode cX11_sum 104 = .ok (.aload_n 0, 1) := by decide +kernel
theorem dX11_sum_105 : decode cX11_sum 105 = .ok (.getfield 9, 3) := by decide +kernel
theorem dX11_sum_108 : decode cX11_sum 108 = .ok (.iload 4, 2) := by decide +kernel
theorem dX11_sum_110 : decode cX11_sum 110 = .ok (.aaload, 1) := by decide +kernel
theorem dX11_sum_111 : decode cX11_sum 111 = .ok (.iconst 2, 1) := by decide +kernel
theorem dX11_sum_112 : decode cX11_sum 112 = .ok (.iaload, 1) := by decide +kernel
theorem dX11_sum_113 : decode cX11_sum 113 = .ok (.iadd, 1) := by decide +kernel
theorem dX11_sum_114 : decode cX11_sum 114 = .ok (.ireturn, 1) := by decide +kernel
theorem dX11_sum_115 : decode cX11_sum 115 = .ok (.iload_n 2, 1) := by decide +kernel
theorem dX11_sum_116 : decode cX11_sum 116 = .ok (.aload_n 0, 1) := by decide +kernel
theorem dX11_sum_117 : decode cX11_sum 117 = .ok (.getfield 40, 3) := by decide +kernel
theorem dX11_sum_120 : decode cX11_sum 120 = .ok (.iconst 5, 1) := by decide +kernel
theorem dX11_sum_121 : decode cX11_sum 121 = .ok (.imul, 1) := by decide +kernel
theorem dX11_sum_122 : decode cX11_sum 122 = .ok (.iadd, 1) := by decide +kernel
theorem dX11_sum_123 : decode cX11_sum 123 = .ok (.aload_n 0, 1) := by decide +kernel
theorem dX11_sum_124 : decode cX11_sum 124 = .ok (.getfield 44, 3) := by decide +kernel
theorem dX11_sum_127 : decode cX11_sum 127 = .ok (.bipush 10, 2) := by decide +kernel
theorem dX11_sum_129 : decode cX11_sum 129 = .ok (.idiv, 1) := by decide +kernel
theorem dX11_sum_130 : decode cX11_sum 130 = .ok (.isub, 1) := by decide +kernel
theorem dX11_sum_131 : decode cX11_sum 131 = .ok (.ireturn, 1) := by decide +kernel
theorem dX11_sum_132 : decode cX11_sum 132 = .ok (.aload_n 0, 1) := by decide +kernel
theorem dX11_sum_133 : decode cX11_sum 133 = .ok (.iconst 3, 1) := by decide +kernel
theorem dX11_sum_134 : decode cX11_sum 134 = .ok (.iconst (-1), 1) := by decide +kernel
theorem dX11_sum_135 : decode cX11_sum 135 = .ok (.invokevirtual 27, 3) := by decide +kernel
theorem dX11_sum_138 : decode cX11_sum 138 = .ok (.iload_n 2, 1) := by decide +kernel
theorem dX11_sum_139 : decode cX11_sum 139 = .ok (.invokestatic 47, 3) := by decide +kernel
theorem dX11_sum_142 : decode cX11_sum 142 = .ok (.aload_n 0, 1) := by decide +kernel
theorem dX11_sum_143 : decode cX11_sum 143 = .ok (.iload_n 3, 1) := by decide +kernel
theorem dX11_sum_144 : decode cX11_sum 144 = .ok (.invokevirtual 31, 3) := by decide +kernel
theorem dX11_sum_147 : decode cX11_sum 147 = .ok (.isub, 1) := by decide +kernel
theorem dX11_sum_148 : decode cX11_sum 148 = .ok (.ireturn, 1) := by decide +kernel
theorem dX11_holds_0 : decode cX11_holds 0 = .ok (.iload_n 3, 1) := by decide +kernel
theorem dX11_holds_1 : decode cX11_holds 1 = .ok (.aload_n 0, 1) := by decide +kernel
theorem dX11_holds_2 : decode cX11_holds 2 = .ok (.getfield 15, 3) := by decide +kernel
theorem dX11_holds_5 : decode cX11_holds 5 = .ok (.arraylength, 1) := by decide +kernel
theorem dX11_holds_6 : decode cX11_holds 6 = .ok (.irem, 1) := by decide +kernel
theorem dX11_holds_7 : decode cX11_holds 7 = .ok (.istore 4, 2) := by decide +kernel
theorem dX11_holds_9 : decode cX11_holds 9 = .ok (.iload_n 2, 1) := by decide +kernel
theorem dX11_holds_10 : decode cX11_holds 10 = .ok (.aload_n 0, 1) := by decide +kernel
theorem dX11_holds_11 : decode cX11_holds 11 = .ok (.getfield 15, 3) := by decide +kernel
theorem dX11_holds_14 : decode cX11_holds 14 = .ok (.arraylength, 1) := by decide +kernel
theorem dX11_holds_15 : decode cX11_holds 15 = .ok (.irem, 1) := by decide +kernel
theorem dX11_holds_16 : decode cX11_holds 16 = .ok (.istore 5, 2) := by decide +kernel
theorem dX11_holds_18 : decode cX11_holds 18 = .ok (.iload_n 3, 1) := by decide +kernel
theorem dX11_holds_19 : decode cX11_holds 19 = .ok (.aload_n 0, 1) := by decide +kernel
theorem dX11_holds_20 : decode cX11_holds 20 = .ok (.getfield 9, 3) := by decide +kernel
theorem dX11_holds_23 : decode cX11_holds 23 = .ok (.arraylength, 1) := by decide +kernel
theorem dX11_holds_24 : decode cX11_holds 24 = .ok (.irem, 1) := by decide +kernel
theorem dX11_holds_25 : decode cX11_holds 25 = .ok (.istore 6, 2) := by decide +kernel
theorem dX11_holds_27 : decode cX11_holds 27 = .ok (.iload_n 1, 1) := by decide +kernel
theorem dX11_holds_28 : decode cX11_holds 28 = .ok (.tableswitch 183 0 5 #[40, 54, 77, 105, 135, 151], 40) := by decide +kernel
theorem dX11_holds_68 : decode cX11_holds 68 = .ok (.aload_n 0, 1) := by decide +kernel
theorem dX11_holds_69 : decode cX11_holds 69 = .ok (.getfield 44, 3) := by decide +kernel
theorem dX11_holds_72 : decode cX11_holds 72 = .ok (.iload_n 2, 1) := by decide +kernel
theorem dX11_holds_73 : decode cX11_holds 73 = .ok (.if_icmp .le 7, 3) := by decide +kernel
theorem dX11_holds_76 : decode cX11_holds 76 = .ok (.iconst 1, 1) := by decide +kernel
theorem dX11_holds_77 : decode cX11_holds 77 = .ok (.goto 4, 3) := by decide +kernel
theorem dX11_holds_80 : decode cX11_holds 80 = .ok (.iconst 0, 1) := by decide +kernel
theorem dX11_holds_81 : decode cX11_holds 81 = .ok (.ireturn, 1) := by decide +kernel
theorem dX11_holds_82 : decode cX11_holds 82 = .ok (.aload_n 0, 1) := by decide +kernel
theorem dX11_holds_83 : decode cX11_holds 83 = .ok (.getfield 15, 3) := by decide +kernel
theorem dX11_holds_86 : decode cX11_holds 86 = .ok (.iload 4, 2) := by decide +kernel
theorem dX11_holds_88 : decode cX11_holds 88 = .ok (.aaload, 1) := by decide +kernel
theorem dX11_holds_89 : decode cX11_holds 89 = .ok (.bipush 7, 2) := by decide +kernel
theorem dX11_holds_91 : decode cX11_holds 91 = .ok (.iaload, 1) := by decide +kernel
theorem dX11_holds_92 : decode cX11_holds 92 = .ok (.iload_n 2, 1) := by decide +kernel
theorem dX11_holds_93 : decode cX11_holds 93 = .ok (.bipush 20, 2) := by decide +kernel
theorem dX11_holds_95 : decode cX11_holds 95 = .ok (.irem, 1) := by decide +kernel
theorem dX11_holds_96 : decode cX11_holds 96 = .ok (.if_icmp .lt 7, 3) := by decide +kernel
theorem dX11_holds_99 : decode cX11_holds 99 = .ok (.iconst 1, 1) := by decide +kernel
theorem dX11_holds_100 : decode cX11_holds 100 = .ok (.goto 4, 3) := by decide +kernel
theorem dX11_holds_103 : decode cX11_holds 103 = .ok (.iconst 0, 1) := by decide +kernel
theorem dX11_holds_104 : decode cX11_holds 104 = .ok (.ireturn, 1) := by decide +kernel
theorem dX11_holds_105 : decode cX11_holds 105 = .ok (.aload_n 0, 1) := by decide +kernel
theorem dX11_holds_106 : decode cX11_holds 106 = .ok (.iconst 0, 1) := by decide +kernel
theorem dX11_holds_107 : decode cX11_holds 107 = .ok (.iconst (-1), 1) := by decide +kernel
theorem dX11_holds_108 : decode cX11_holds 108 = .ok (.invokevirtual 27, 3) := by decide +kernel
theorem dX11_holds_111 : decode cX11_holds 111 = .ok (.iload_n 2, 1) := by decide +kernel
theorem dX11_holds_112 : decode cX11_holds 112 = .ok (.iconst 3, 1) := by decide +kernel
theorem dX11_holds_113 : decode cX11_holds 113 = .ok (.imul, 1) := by decide +kernel
theorem dX11_holds_114 : decode cX11_holds 114 = .ok (.if_icmp .ge 17, 3) := by decide +kernel
theorem dX11_holds_117 : decode cX11_holds 117 = .ok (.aload_n 0, 1) := by decide +kernel
theorem dX11_holds_118 : decode cX11_holds 118 = .ok (.iconst 3, 1) := by decide +kernel
theorem dX11_holds_119 : decode cX11_holds 119 = .ok (.iconst (-1), 1) := by decide +kernel
theorem dX11_holds_120 : decode cX11_holds 120 = .ok (.invokevirtual 27, 3) := by decide +kernel
theorem dX11_holds_123 : decode cX11_holds 123 = .ok (.iload_n 2, 1) := by decide +kernel
theorem dX11_holds_124 : decode cX11_holds 124 = .ok (.if_icmp .gt 7, 3) := by decide +kernel
theorem dX11_holds_127 : decode cX11_holds 127 = .ok (.iconst 1, 1) := by decide +kernel
theorem dX11_holds_128 : decode cX11_holds 128 = .ok (.goto 4, 3) := by decide +kernel
theorem dX11_holds_131 : decode cX11_holds 131 = .ok (.iconst 0, 1) := by decide +kernel
theorem dX11_holds_132 : decode cX11_holds 132 = .ok (.ireturn, 1) := by decide +kernel
theorem dX11_holds_133 : decode cX11_holds 133 = .ok (.aload_n 0, 1) := by decide +kernel
theorem dX11_holds_134 : decode cX11_holds 134 = .ok (.iconst 2, 1) := by decide +kernel
theorem dX11_holds_135 : decode cX11_holds 135 = .ok (.iload 6, 2) := by decide +kernel
theorem dX11_holds_137 : decode cX11_holds 137 = .ok (.invokevirtual 50, 3) := by decide +kernel
theorem dX11_holds_140 : decode cX11_holds 140 = .ok (.ifCond .gt 17, 3) := by decide +kernel
theorem dX11_holds_143 : decode cX11_holds 143 = .ok (.aload_n 0, 1) := by decide +kernel
theorem dX11_holds_144 : decode cX11_holds 144 = .ok (.getfield 9, 3) := by decide +kernel
theorem dX11_holds_147 : decode cX11_holds 147 = .ok (.iload 6, 2) := by decide +kernel
theorem dX11_holds_149 : decode cX11_holds 149 = .ok (.aaload, 1) := by decide +kernel
theorem dX11_holds_150 : decode cX11_holds 150 = .ok (.iconst 2, 1) := by decide +kernel
theorem dX11_holds_151 : decode cX11_holds 151 = .ok (.iaload, 1) := by decide +kernel
theorem dX11_holds_152 : decode cX11_holds 152 = .ok (.iconst 2, 1) := by decide +kernel
theorem dX11_holds_153 : decode cX11_holds 153 = .ok (.irem, 1) := by decide +kernel
theorem dX11_holds_154 : decode cX11_holds 154 = .ok (.ifCond .ne 7, 3) := by decide +kernel
theorem dX11_holds_157 : decode cX11_holds 157 = .ok (.iconst 1, 1) := by decide +kernel
theorem dX11_holds_158 : decode cX11_holds 158 = .ok (.goto 4, 3) := by decide +kernel
theorem dX11_holds_161 : decode cX11_holds 161 = .ok (.iconst 0, 1) := by decide +kernel
theorem dX11_holds_162 : decode cX11_holds 162 = .ok (.ireturn, 1) := by decide +kernel
theorem dX11_holds_163 : decode cX11_holds 163 = .ok (.aload_n 0, 1) := by decide +kernel
theorem dX11_holds_164 : decode cX11_holds 164 = .ok (.iload 4, 2) := by decide +kernel
theorem dX11_holds_166 : decode cX11_holds 166 = .ok (.invokevirtual 31, 3) := by decide +kernel
theorem dX11_holds_169 : decode cX11_holds 169 = .ok (.iload_n 2, 1) := by decide +kernel
theorem dX11_holds_170 : decode cX11_holds 170 = .ok (.if_icmp .le 7, 3) := by decide +kernel
theorem dX11_holds_173 : decode cX11_holds 173 = .ok (.iconst 1, 1) := by decide +kernel
theorem dX11_holds_174 : decode cX11_holds 174 = .ok (.goto 4, 3) := by decide +kernel
theorem dX11_holds_177 : decode cX11_holds 177 = .ok (.iconst 0, 1) := by decide +kernel
theorem dX11_holds_178 : decode cX11_holds 178 = .ok (.ireturn, 1) := by decide +kernel
theorem dX11_holds_179 : decode cX11_holds 179 = .ok (.aload_n 0, 1) := by decide +kernel
theorem dX11_holds_180 : decode cX11_holds 180 = .ok (.getfield 15, 3) := by decide +kernel
theorem dX11_holds_183 : decode cX11_holds 183 = .ok (.iload 4, 2) := by decide +kernel
theorem dX11_holds_185 : decode cX11_holds 185 = .ok (.aaload, 1) := by decide +kernel
theorem dX11_holds_186 : decode cX11_holds 186 = .ok (.iconst 1, 1) := by decide +kernel
theorem dX11_holds_187 : decode cX11_holds 187 = .ok (.iaload, 1) := by decide +kernel
theorem dX11_holds_188 : decode cX11_holds 188 = .ok (.iload_n 2, 1) := by decide +kernel
theorem dX11_holds_189 : decode cX11_holds 189 = .ok (.bipush 9, 2) := by decide +kernel
theorem dX11_holds_191 : decode cX11_holds 191 = .ok (.irem, 1) := by decide +kernel
theorem dX11_holds_192 : decode cX11_holds 192 = .ok (.if_icmp .lt 17, 3) := by decide +kernel
theorem dX11_holds_195 : decode cX11_holds 195 = .ok (.aload_n 0, 1) := by decide +kernel
theorem dX11_holds_196 : decode cX11_holds 196 = .ok (.getfield 40, 3) := by decide +kernel
theorem dX11_holds_199 : decode cX11_holds 199 = .ok (.iload_n 2, 1) := by decide +kernel
theorem dX11_holds_200 : decode cX11_holds 200 = .ok (.iconst 3, 1) := by decide +kernel
theorem dX11_holds_201 : decode cX11_holds 201 = .ok (.irem, 1) := by decide +kernel
theorem dX11_holds_202 : decode cX11_holds 202 = .ok (.if_icmp .gt 7, 3) := by decide +kernel
theorem dX11_holds_205 : decode cX11_holds 205 = .ok (.iconst 1, 1) := by decide +kernel
theorem dX11_holds_206 : decode cX11_holds 206 = .ok (.goto 4, 3) := by decide +kernel
theorem dX11_holds_209 : decode cX11_holds 209 = .ok (.iconst 0, 1) := by decide +kernel
theorem dX11_holds_210 : decode cX11_holds 210 = .ok (.ireturn, 1) := by decide +kernel
theorem dX11_holds_211 : decode cX11_holds 211 = .ok (.aload_n 0, 1) := by decide +kernel
theorem dX11_holds_212 : decode cX11_holds 212 = .ok (.getfield 15, 3) := by decide +kernel
theorem dX11_holds_215 : decode cX11_holds 215 = .ok (.iload 4, 2) := by decide +kernel
theorem dX11_holds_217 : decode cX11_holds 217 = .ok (.aaload, 1) := by decide +kernel
theorem dX11_holds_218 : decode cX11_holds 218 = .ok (.bipush 7, 2) := by decide +kernel
theorem dX11_holds_220 : decode cX11_holds 220 = .ok (.iaload, 1) := by decide +kernel
theorem dX11_holds_221 : decode cX11_holds 221 = .ok (.aload_n 0, 1) := by decide +kernel
theorem dX11_holds_222 : decode cX11_holds 222 = .ok (.iload 5, 2) := by decide +kernel
theorem dX11_holds_224 : decode cX11_holds 224 = .ok (.invokevirtual 31, 3) := by decide +kernel
theorem dX11_holds_227 : decode cX11_holds 227 = .ok (.invokestatic 47, 3) := by decide +kernel
theorem dX11_holds_230 : decode cX11_holds 230 = .ok (.iconst 1, 1) := by decide +kernel
theorem dX11_holds_231 : decode cX11_holds 231 = .ok (.isub, 1) := by decide +kernel
theorem dX11_holds_232 : decode cX11_holds 232 = .ok (.iload_n 2, 1) := by decide +kernel
theorem dX11_holds_233 : decode cX11_holds 233 = .ok (.if_icmp .le 7, 3) := by decide +kernel
theorem dX11_holds_236 : decode cX11_holds 236 = .ok (.iconst 1, 1) := by decide +kernel
theorem dX11_holds_237 : decode cX11_holds 237 = .ok (.goto 4, 3) := by decide +kernel
theorem dX11_holds_240 : decode cX11_holds 240 = .ok (.iconst 0, 1) := by decide +kernel
theorem dX11_holds_241 : decode cX11_holds 241 = .ok (.ireturn, 1) := by decide +kernel
theorem dX11_haul_0 : decode cX11_haul 0 = .ok (.aload_n 0, 1) := by decide +kernel
theorem dX11_haul_1 : decode cX11_haul 1 = .ok (.getfield 21, 3) := by decide +kernel
theorem dX11_haul_4 : decode cX11_haul 4 = .ok (.astore_n 2, 1) := by decide +kernel
theorem dX11_haul_5 : decode cX11_haul 5 = .ok (.aload_n 2, 1) := by decide +kernel
theorem dX11_haul_6 : decode cX11_haul 6 = .ok (.arraylength, 1) := by decide +kernel
theorem dX11_haul_7 : decode cX11_haul 7 = .ok (.istore_n 3, 1) := by decide +kernel
theorem dX11_haul_8 : decode cX11_haul 8 = .ok (.iconst 0, 1) := by decide +kernel
theorem dX11_haul_9 : decode cX11_haul 9 = .ok (.istore 4, 2) := by decide +kernel
theorem dX11_haul_11 : decode cX11_haul 11 = .ok (.iload 4, 2) := by decide +kernel
theorem dX11_haul_13 : decode cX11_haul 13 = .ok (.iload_n 3, 1) := by decide +kernel
theorem dX11_haul_14 : decode cX11_haul 14 = .ok (.if_icmp .ge 186, 3) := by decide +kernel
theorem dX11_haul_17 : decode cX11_haul 17 = .ok (.aload_n 2, 1) := by decide +kernel
theorem dX11_haul_18 : decode cX11_haul 18 = .ok (.iload 4, 2) := by decide +kernel
theorem dX11_haul_20 : decode cX11_haul 20 = .ok (.aaload, 1) := by decide +kernel
theorem dX11_haul_21 : decode cX11_haul 21 = .ok (.astore 5, 2) := by decide +kernel
theorem dX11_haul_23 : decode cX11_haul 23 = .ok (.aload 5, 2) := by decide +kernel
theorem dX11_haul_25 : decode cX11_haul 25 = .ok (.iconst 0, 1) := by decide +kernel
theorem dX11_haul_26 : decode cX11_haul 26 = .ok (.iaload, 1) := by decide +kernel
theorem dX11_haul_27 : decode cX11_haul 27 = .ok (.iload_n 1, 1) := by decide +kernel
theorem dX11_haul_28 : decode cX11_haul 28 = .ok (.if_icmp .ne 166, 3) := by decide +kernel
theorem dX11_haul_31 : decode cX11_haul 31 = .ok (.aload 5, 2) := by decide +kernel
theorem dX11_haul_33 : decode cX11_haul 33 = .ok (.iconst 4, 1) := by decide +kernel
theorem dX11_haul_34 : decode cX11_haul 34 = .ok (.iaload, 1) := by decide +kernel
theorem dX11_haul_35 : decode cX11_haul 35 = .ok (.ifCond .lt 26, 3) := by decide +kernel
theorem dX11_haul_38 : decode cX11_haul 38 = .ok (.aload_n 0, 1) := by decide +kernel
theorem dX11_haul_39 : decode cX11_haul 39 = .ok (.aload 5, 2) := by decide +kernel
theorem dX11_haul_41 : decode cX11_haul 41 = .ok (.iconst 4, 1) := by decide +kernel
theorem dX11_haul_42 : decode cX11_haul 42 = .ok (.iaload, 1) := by decide +kernel
theorem dX11_haul_43 : decode cX11_haul 43 = .ok (.aload 5, 2) := by decide +kernel
theorem dX11_haul_45 : decode cX11_haul 45 = .ok (.iconst 5, 1) := by decide +kernel
theorem dX11_haul_46 : decode cX11_haul 46 = .ok (.iaload, 1) := by decide +kernel
theorem dX11_haul_47 : decode cX11_haul 47 = .ok (.aload 5, 2) := by decide +kernel
theorem dX11_haul_49 : decode cX11_haul 49 = .ok (.bipush 6, 2) := by decide +kernel
theorem dX11_haul_51 : decode cX11_haul 51 = .ok (.iaload, 1) := by decide +kernel
theorem dX11_haul_52 : decode cX11_haul 52 = .ok (.invokevirtual 53, 3) := by decide +kernel
theorem dX11_haul_55 : decode cX11_haul 55 = .ok (.ifCond .ne 6, 3) := by decide +kernel
theorem dX11_haul_58 : decode cX11_haul 58 = .ok (.goto 136, 3) := by decide +kernel
theorem dX11_haul_61 : decode cX11_haul 61 = .ok (.aload_n 0, 1) := by decide +kernel
theorem dX11_haul_62 : decode cX11_haul 62 = .ok (.aload 5, 2) := by decide +kernel
theorem dX11_haul_64 : decode cX11_haul 64 = .ok (.invokevirtual 57, 3) := by decide +kernel
theorem dX11_haul_67 : decode cX11_haul 67 = .ok (.istore 6, 2) := by decide +kernel
theorem dX11_haul_69 : decode cX11_haul 69 = .ok (.iconst 0, 1) := by decide +kernel
theorem dX11_haul_70 : decode cX11_haul 70 = .ok (.istore 7, 2) := by decide +kernel
theorem dX11_haul_72 : decode cX11_haul 72 = .ok (.aload_n 0, 1) := by decide +kernel
theorem dX11_haul_73 : decode cX11_haul 73 = .ok (.getfield 18, 3) := by decide +kernel
theorem dX11_haul_76 : decode cX11_haul 76 = .ok (.astore 8, 2) := by decide +kernel
theorem dX11_haul_78 : decode cX11_haul 78 = .ok (.aload 8, 2) := by decide +kernel
theorem dX11_haul_80 : decode cX11_haul 80 = .ok (.arraylength, 1) := by decide +kernel
theorem dX11_haul_81 : decode cX11_haul 81 = .ok (.istore 9, 2) := by decide +kernel
theorem dX11_haul_83 : decode cX11_haul 83 = .ok (.iconst 0, 1) := by decide +kernel
theorem dX11_haul_84 : decode cX11_haul 84 = .ok (.istore 10, 2) := by decide +kernel
theorem dX11_haul_86 : decode cX11_haul 86 = .ok (.iload 10, 2) := by decide +kernel
theorem dX11_haul_88 : decode cX11_haul 88 = .ok (.iload 9, 2) := by decide +kernel
theorem dX11_haul_90 : decode cX11_haul 90 = .ok (.if_icmp .ge 60, 3) := by decide +kernel
theorem dX11_haul_93 : decode cX11_haul 93 = .ok (.aload 8, 2) := by decide +kernel
theorem dX11_haul_95 : decode cX11_haul 95 = .ok (.iload 10, 2) := by decide +kernel
theorem dX11_haul_97 : decode cX11_haul 97 = .ok (.aaload, 1) := by decide +kernel
theorem dX11_haul_98 : decode cX11_haul 98 = .ok (.astore 11, 2) := by decide +kernel
theorem dX11_haul_100 : decode cX11_haul 100 = .ok (.aload 11, 2) := by decide +kernel
theorem dX11_haul_102 : decode cX11_haul 102 = .ok (.iconst 1, 1) := by decide +kernel
theorem dX11_haul_103 : decode cX11_haul 103 = .ok (.iaload, 1) := by decide +kernel
theorem dX11_haul_104 : decode cX11_haul 104 = .ok (.ifCond .ne 40, 3) := by decide +kernel
theorem dX11_haul_107 : decode cX11_haul 107 = .ok (.iload 7, 2) := by decide +kernel
theorem dX11_haul_109 : decode cX11_haul 109 = .ok (.iconst 5, 1) := by decide +kernel
theorem dX11_haul_110 : decode cX11_haul 110 = .ok (.if_icmp .eq 34, 3) := by decide +kernel
theorem dX11_haul_113 : decode cX11_haul 113 = .ok (.aload_n 0, 1) := by decide +kernel
theorem dX11_haul_114 : decode cX11_haul 114 = .ok (.iload_n 1, 1) := by decide +kernel
theorem dX11_haul_115 : decode cX11_haul 115 = .ok (.invokevirtual 31, 3) := by decide +kernel
theorem dX11_haul_118 : decode cX11_haul 118 = .ok (.aload 11, 2) := by decide +kernel
theorem dX11_haul_120 : decode cX11_haul 120 = .ok (.iconst 0, 1) := by decide +kernel
theorem dX11_haul_121 : decode cX11_haul 121 = .ok (.iaload, 1) := by decide +kernel
theorem dX11_haul_122 : decode cX11_haul 122 = .ok (.iadd, 1) := by decide +kernel
theorem dX11_haul_123 : decode cX11_haul 123 = .ok (.iload 6, 2) := by decide +kernel
theorem dX11_haul_125 : decode cX11_haul 125 = .ok (.if_icmp .le 6, 3) := by decide +kernel
theorem dX11_haul_128 : decode cX11_haul 128 = .ok (.goto 16, 3) := by decide +kernel
theorem dX11_haul_131 : decode cX11_haul 131 = .ok (.aload 11, 2) := by decide +kernel
theorem dX11_haul_133 : decode cX11_haul 133 = .ok (.iconst 1, 1) := by decide +kernel
theorem dX11_haul_134 : decode cX11_haul 134 = .ok (.iconst 1, 1) := by decide +kernel
theorem dX11_haul_135 : decode cX11_haul 135 = .ok (.iastore, 1) := by decide +kernel
theorem dX11_haul_136 : decode cX11_haul 136 = .ok (.aload 11, 2) := by decide +kernel
theorem dX11_haul_138 : decode cX11_haul 138 = .ok (.iconst 2, 1) := by decide +kernel
theorem dX11_haul_139 : decode cX11_haul 139 = .ok (.iload_n 1, 1) := by decide +kernel
theorem dX11_haul_140 : decode cX11_haul 140 = .ok (.iastore, 1) := by decide +kernel
theorem dX11_haul_141 : decode cX11_haul 141 = .ok (.iinc 7 1, 3) := by decide +kernel
theorem dX11_haul_144 : decode cX11_haul 144 = .ok (.iinc 10 1, 3) := by decide +kernel
theorem dX11_haul_147 : decode cX11_haul 147 = .ok (.goto (-61), 3) := by decide +kernel
theorem dX11_haul_150 : decode cX11_haul 150 = .ok (.iload 7, 2) := by decide +kernel
theorem dX11_haul_152 : decode cX11_haul 152 = .ok (.ifCond .le 41, 3) := by decide +kernel
theorem dX11_haul_155 : decode cX11_haul 155 = .ok (.aload_n 0, 1) := by decide +kernel
theorem dX11_haul_156 : decode cX11_haul 156 = .ok (.getfield 15, 3) := by decide +kernel
theorem dX11_haul_159 : decode cX11_haul 159 = .ok (.iload_n 1, 1) := by decide +kernel
theorem dX11_haul_160 : decode cX11_haul 160 = .ok (.aaload, 1) := by decide +kernel
theorem dX11_haul_161 : decode cX11_haul 161 = .ok (.iconst 4, 1) := by decide +kernel
theorem dX11_haul_162 : decode cX11_haul 162 = .ok (.iconst 0, 1) := by decide +kernel
theorem dX11_haul_163 : decode cX11_haul 163 = .ok (.iastore, 1) := by decide +kernel
theorem dX11_haul_164 : decode cX11_haul 164 = .ok (.aload_n 0, 1) := by decide +kernel
theorem dX11_haul_165 : decode cX11_haul 165 = .ok (.getfield 15, 3) := by decide +kernel
theorem dX11_haul_168 : decode cX11_haul 168 = .ok (.iload_n 1, 1) := by decide +kernel
theorem dX11_haul_169 : decode cX11_haul 169 = .ok (.aaload, 1) := by decide +kernel
theorem dX11_haul_170 : decode cX11_haul 170 = .ok (.iconst 5, 1) := by decide +kernel
theorem dX11_haul_171 : decode cX11_haul 171 = .ok (.iconst 1, 1) := by decide +kernel
theorem dX11_haul_172 : decode cX11_haul 172 = .ok (.iastore, 1) := by decide +kernel
theorem dX11_haul_173 : decode cX11_haul 173 = .ok (.aload_n 0, 1) := by decide +kernel
theorem dX11_haul_174 : decode cX11_haul 174 = .ok (.getfield 15, 3) := by decide +kernel
theorem dX11_haul_177 : decode cX11_haul 177 = .ok (.iload_n 1, 1) := by decide +kernel
theorem dX11_haul_178 : decode cX11_haul 178 = .ok (.aaload, 1) := by decide +kernel
theorem dX11_haul_179 : decode cX11_haul 179 = .ok (.bipush 6, 2) := by decide +kernel
theorem dX11_haul_181 : decode cX11_haul 181 = .ok (.iconst 0, 1) := by decide +kernel
theorem dX11_haul_182 : decode cX11_haul 182 = .ok (.iastore, 1) := by decide +kernel
theorem dX11_haul_183 : decode cX11_haul 183 = .ok (.aload_n 0, 1) := by decide +kernel
theorem dX11_haul_184 : decode cX11_haul 184 = .ok (.getfield 15, 3) := by decide +kernel
theorem dX11_haul_187 : decode cX11_haul 187 = .ok (.iload_n 1, 1) := by decide +kernel
theorem dX11_haul_188 : decode cX11_haul 188 = .ok (.aaload, 1) := by decide +kernel
theorem dX11_haul_189 : decode cX11_haul 189 = .ok (.bipush 9, 2) := by decide +kernel
theorem dX11_haul_191 : decode cX11_haul 191 = .ok (.iconst 1, 1) := by decide +kernel
theorem dX11_haul_192 : decode cX11_haul 192 = .ok (.iastore, 1) := by decide +kernel
theorem dX11_haul_193 : decode cX11_haul 193 = .ok (.return_, 1) := by decide +kernel
theorem dX11_haul_194 : decode cX11_haul 194 = .ok (.iinc 4 1, 3) := by decide +kernel
theorem dX11_haul_197 : decode cX11_haul 197 = .ok (.goto (-186), 3) := by decide +kernel
theorem dX11_haul_200 : decode cX11_haul 200 = .ok (.return_, 1) := by decide +kernel
theorem dX11_tire_0 : decode cX11_tire 0 = .ok (.aload_n 0, 1) := by decide +kernel
theorem dX11_tire_1 : decode cX11_tire 1 = .ok (.getfield 15, 3) := by decide +kernel
theorem dX11_tire_4 : decode cX11_tire 4 = .ok (.iload_n 1, 1) := by decide +kernel
theorem dX11_tire_5 : decode cX11_tire 5 = .ok (.aaload, 1) := by decide +kernel
theorem dX11_tire_6 : decode cX11_tire 6 = .ok (.bipush 7, 2) := by decide +kernel
theorem dX11_tire_8 : decode cX11_tire 8 = .ok (.iaload, 1) := by decide +kernel
theorem dX11_tire_9 : decode cX11_tire 9 = .ok (.iload_n 2, 1) := by decide +kernel
theorem dX11_tire_10 : decode cX11_tire 10 = .ok (.iadd, 1) := by decide +kernel
theorem dX11_tire_11 : decode cX11_tire 11 = .ok (.istore_n 3, 1) := by decide +kernel
theorem dX11_tire_12 : decode cX11_tire 12 = .ok (.aload_n 0, 1) := by decide +kernel
theorem dX11_tire_13 : decode cX11_tire 13 = .ok (.getfield 15, 3) := by decide +kernel
theorem dX11_tire_16 : decode cX11_tire 16 = .ok (.iload_n 1, 1) := by decide +kernel
theorem dX11_tire_17 : decode cX11_tire 17 = .ok (.aaload, 1) := by decide +kernel
theorem dX11_tire_18 : decode cX11_tire 18 = .ok (.bipush 7, 2) := by decide +kernel
theorem dX11_tire_20 : decode cX11_tire 20 = .ok (.iload_n 3, 1) := by decide +kernel
theorem dX11_tire_21 : decode cX11_tire 21 = .ok (.ifCond .ge 7, 3) := by decide +kernel
theorem dX11_tire_24 : decode cX11_tire 24 = .ok (.iconst 0, 1) := by decide +kernel
theorem dX11_tire_25 : decode cX11_tire 25 = .ok (.goto 15, 3) := by decide +kernel
theorem dX11_tire_28 : decode cX11_tire 28 = .ok (.iload_n 3, 1) := by decide +kernel
theorem dX11_tire_29 : decode cX11_tire 29 = .ok (.bipush 60, 2) := by decide +kernel
theorem dX11_tire_31 : decode cX11_tire 31 = .ok (.if_icmp .le 8, 3) := by decide +kernel
theorem dX11_tire_34 : decode cX11_tire 34 = .ok (.bipush 60, 2) := by decide +kernel
theorem dX11_tire_36 : decode cX11_tire 36 = .ok (.goto 4, 3) := by decide +kernel
theorem dX11_tire_39 : decode cX11_tire 39 = .ok (.iload_n 3, 1) := by decide +kernel
theorem dX11_tire_40 : decode cX11_tire 40 = .ok (.iastore, 1) := by decide +kernel
theorem dX11_tire_41 : decode cX11_tire 41 = .ok (.return_, 1) := by decide +kernel
theorem dX11_move_0 : decode cX11_move 0 = .ok (.aload_n 0, 1) := by decide +kernel
theorem dX11_move_1 : decode cX11_move 1 = .ok (.getfield 15, 3) := by decide +kernel
theorem dX11_move_4 : decode cX11_move 4 = .ok (.iload_n 1, 1) := by decide +kernel
theorem dX11_move_5 : decode cX11_move 5 = .ok (.aaload, 1) := by decide +kernel
theorem dX11_move_6 : decode cX11_move 6 = .ok (.astore_n 2, 1) := by decide +kernel
theorem dX11_move_7 : decode cX11_move 7 = .ok (.aload_n 2, 1) := by decide +kernel
theorem dX11_move_8 : decode cX11_move 8 = .ok (.iconst 4, 1) := by decide +kernel
theorem dX11_move_9 : decode cX11_move 9 = .ok (.iaload, 1) := by decide +kernel
theorem dX11_move_10 : decode cX11_move 10 = .ok (.istore_n 3, 1) := by decide +kernel
theorem dX11_move_11 : decode cX11_move 11 = .ok (.aload_n 0, 1) := by decide +kernel
theorem dX11_move_12 : decode cX11_move 12 = .ok (.getfield 24, 3) := by decide +kernel
theorem dX11_move_15 : decode cX11_move 15 = .ok (.astore 4, 2) := by decide +kernel
theorem dX11_move_17 : decode cX11_move 17 = .ok (.aload 4, 2) := by decide +kernel
theorem dX11_move_19 : decode cX11_move 19 = .ok (.arraylength, 1) := by decide +kernel
theorem dX11_move_20 : decode cX11_move 20 = .ok (.istore 5, 2) := by decide +kernel
theorem dX11_move_22 : decode cX11_move 22 = .ok (.iconst 0, 1) := by decide +kernel
theorem dX11_move_23 : decode cX11_move 23 = .ok (.istore 6, 2) := by decide +kernel
theorem dX11_move_25 : decode cX11_move 25 = .ok (.iload 6, 2) := by decide +kernel
theorem dX11_move_27 : decode cX11_move 27 = .ok (.iload 5, 2) := by decide +kernel
theorem dX11_move_29 : decode cX11_move 29 = .ok (.if_icmp .ge 62, 3) := by decide +kernel
theorem dX11_move_32 : decode cX11_move 32 = .ok (.aload 4, 2) := by decide +kernel
theorem dX11_move_34 : decode cX11_move 34 = .ok (.iload 6, 2) := by decide +kernel
theorem dX11_move_36 : decode cX11_move 36 = .ok (.aaload, 1) := by decide +kernel
theorem dX11_move_37 : decode cX11_move 37 = .ok (.astore 7, 2) := by decide +kernel
theorem dX11_move_39 : decode cX11_move 39 = .ok (.aload 7, 2) := by decide +kernel
theorem dX11_move_41 : decode cX11_move 41 = .ok (.iconst 0, 1) := by decide +kernel
theorem dX11_move_42 : decode cX11_move 42 = .ok (.iaload, 1) := by decide +kernel
theorem dX11_move_43 : decode cX11_move 43 = .ok (.iload_n 1, 1) := by decide +kernel
theorem dX11_move_44 : decode cX11_move 44 = .ok (.if_icmp .ne 41, 3) := by decide +kernel
theorem dX11_move_47 : decode cX11_move 47 = .ok (.aload 7, 2) := by decide +kernel
theorem dX11_move_49 : decode cX11_move 49 = .ok (.iconst 1, 1) := by decide +kernel
theorem dX11_move_50 : decode cX11_move 50 = .ok (.iaload, 1) := by decide +kernel
theorem dX11_move_51 : decode cX11_move 51 = .ok (.iload_n 3, 1) := by decide +kernel
theorem dX11_move_52 : decode cX11_move 52 = .ok (.if_icmp .ne 33, 3) := by decide +kernel
theorem dX11_move_55 : decode cX11_move 55 = .ok (.aload_n 0, 1) := by decide +kernel
theorem dX11_move_56 : decode cX11_move 56 = .ok (.aload 7, 2) := by decide +kernel
theorem dX11_move_58 : decode cX11_move 58 = .ok (.iconst 2, 1) := by decide +kernel
theorem dX11_move_59 : decode cX11_move 59 = .ok (.iaload, 1) := by decide +kernel
theorem dX11_move_60 : decode cX11_move 60 = .ok (.aload 7, 2) := by decide +kernel
theorem dX11_move_62 : decode cX11_move 62 = .ok (.iconst 3, 1) := by decide +kernel
theorem dX11_move_63 : decode cX11_move 63 = .ok (.iaload, 1) := by decide +kernel
theorem dX11_move_64 : decode cX11_move 64 = .ok (.aload 7, 2) := by decide +kernel
theorem dX11_move_66 : decode cX11_move 66 = .ok (.iconst 4, 1) := by decide +kernel
theorem dX11_move_67 : decode cX11_move 67 = .ok (.iaload, 1) := by decide +kernel
theorem dX11_move_68 : decode cX11_move 68 = .ok (.invokevirtual 53, 3) := by decide +kernel
theorem dX11_move_71 : decode cX11_move 71 = .ok (.ifCond .ne 6, 3) := by decide +kernel
theorem dX11_move_74 : decode cX11_move 74 = .ok (.goto 11, 3) := by decide +kernel
theorem dX11_move_77 : decode cX11_move 77 = .ok (.aload_n 0, 1) := by decide +kernel
theorem dX11_move_78 : decode cX11_move 78 = .ok (.iload_n 1, 1) := by decide +kernel
theorem dX11_move_79 : decode cX11_move 79 = .ok (.bipush (-2), 2) := by decide +kernel
theorem dX11_move_81 : decode cX11_move 81 = .ok (.invokevirtual 61, 3) := by decide +kernel
theorem dX11_move_84 : decode cX11_move 84 = .ok (.return_, 1) := by decide +kernel
theorem dX11_move_85 : decode cX11_move 85 = .ok (.iinc 6 1, 3) := by decide +kernel
theorem dX11_move_88 : decode cX11_move 88 = .ok (.goto (-63), 3) := by decide +kernel
theorem dX11_move_91 : decode cX11_move 91 = .ok (.aload_n 2, 1) := by decide +kernel
theorem dX11_move_92 : decode cX11_move 92 = .ok (.iconst 5, 1) := by decide +kernel
theorem dX11_move_93 : decode cX11_move 93 = .ok (.iaload, 1) := by decide +kernel
theorem dX11_move_94 : decode cX11_move 94 = .ok (.iconst 1, 1) := by decide +kernel
theorem dX11_move_95 : decode cX11_move 95 = .ok (.if_icmp .ne 12, 3) := by decide +kernel
theorem dX11_move_98 : decode cX11_move 98 = .ok (.aload_n 0, 1) := by decide +kernel
theorem dX11_move_99 : decode cX11_move 99 = .ok (.iload_n 1, 1) := by decide +kernel
theorem dX11_move_100 : decode cX11_move 100 = .ok (.iload_n 3, 1) := by decide +kernel
theorem dX11_move_101 : decode cX11_move 101 = .ok (.invokevirtual 65, 3) := by decide +kernel
theorem dX11_move_104 : decode cX11_move 104 = .ok (.goto 4, 3) := by decide +kernel
theorem dX11_move_107 : decode cX11_move 107 = .ok (.iconst 0, 1) := by decide +kernel
theorem dX11_move_108 : decode cX11_move 108 = .ok (.istore 4, 2) := by decide +kernel
theorem dX11_move_110 : decode cX11_move 110 = .ok (.iload 4, 2) := by decide +kernel
theorem dX11_move_112 : decode cX11_move 112 = .ok (.aload_n 2, 1) := by decide +kernel
theorem dX11_move_113 : decode cX11_move 113 = .ok (.iconst 2, 1) := by decide +kernel
theorem dX11_move_114 : decode cX11_move 114 = .ok (.iaload, 1) := by decide +kernel
theorem dX11_move_115 : decode cX11_move 115 = .ok (.if_icmp .le 107, 3) := by decide +kernel
theorem dX11_move_118 : decode cX11_move 118 = .ok (.aload_n 2, 1) := by decide +kernel
theorem dX11_move_119 : decode cX11_move 119 = .ok (.iconst 1, 1) := by decide +kernel
theorem dX11_move_120 : decode cX11_move 120 = .ok (.dup2, 1) := by decide +kernel
theorem dX11_move_121 : decode cX11_move 121 = .ok (.iaload, 1) := by decide +kernel
theorem dX11_move_122 : decode cX11_move 122 = .ok (.iconst 1, 1) := by decide +kernel
theorem dX11_move_123 : decode cX11_move 123 = .ok (.isub, 1) := by decide +kernel
theorem dX11_move_124 : decode cX11_move 124 = .ok (.iastore, 1) := by decide +kernel
theorem dX11_move_125 : decode cX11_move 125 = .ok (.aload_n 0, 1) := by decide +kernel
theorem dX11_move_126 : decode cX11_move 126 = .ok (.dup, 1) := by decide +kernel
theorem dX11_move_127 : decode cX11_move 127 = .ok (.getfield 68, 3) := by decide +kernel
theorem dX11_move_130 : decode cX11_move 130 = .ok (.iconst 1, 1) := by decide +kernel
theorem dX11_move_131 : decode cX11_move 131 = .ok (.iadd, 1) := by decide +kernel
theorem dX11_move_132 : decode cX11_move 132 = .ok (.putfield 68, 3) := by decide +kernel
theorem dX11_move_135 : decode cX11_move 135 = .ok (.aload_n 0, 1) := by decide +kernel
theorem dX11_move_136 : decode cX11_move 136 = .ok (.getfield 18, 3) := by decide +kernel
theorem dX11_move_139 : decode cX11_move 139 = .ok (.astore 5, 2) := by decide +kernel
theorem dX11_move_141 : decode cX11_move 141 = .ok (.aload 5, 2) := by decide +kernel
theorem dX11_move_143 : decode cX11_move 143 = .ok (.arraylength, 1) := by decide +kernel
theorem dX11_move_144 : decode cX11_move 144 = .ok (.istore 6, 2) := by decide +kernel
theorem dX11_move_146 : decode cX11_move 146 = .ok (.iconst 0, 1) := by decide +kernel
theorem dX11_move_147 : decode cX11_move 147 = .ok (.istore 7, 2) := by decide +kernel
theorem dX11_move_149 : decode cX11_move 149 = .ok (.iload 7, 2) := by decide +kernel
theorem dX11_move_151 : decode cX11_move 151 = .ok (.iload 6, 2) := by decide +kernel
theorem dX11_move_153 : decode cX11_move 153 = .ok (.if_icmp .ge 45, 3) := by decide +kernel
theorem dX11_move_156 : decode cX11_move 156 = .ok (.aload 5, 2) := by decide +kernel
theorem dX11_move_158 : decode cX11_move 158 = .ok (.iload 7, 2) := by decide +kernel
theorem dX11_move_160 : decode cX11_move 160 = .ok (.aaload, 1) := by decide +kernel
theorem dX11_move_161 : decode cX11_move 161 = .ok (.astore 8, 2) := by decide +kernel
theorem dX11_move_163 : decode cX11_move 163 = .ok (.aload 8, 2) := by decide +kernel
theorem dX11_move_165 : decode cX11_move 165 = .ok (.iconst 1, 1) := by decide +kernel
theorem dX11_move_166 : decode cX11_move 166 = .ok (.iaload, 1) := by decide +kernel
theorem dX11_move_167 : decode cX11_move 167 = .ok (.iconst 1, 1) := by decide +kernel
theorem dX11_move_168 : decode cX11_move 168 = .ok (.if_icmp .ne 24, 3) := by decide +kernel
theorem dX11_move_171 : decode cX11_move 171 = .ok (.aload 8, 2) := by decide +kernel
theorem dX11_move_173 : decode cX11_move 173 = .ok (.iconst 2, 1) := by decide +kernel
theorem dX11_move_174 : decode cX11_move 174 = .ok (.iaload, 1) := by decide +kernel
theorem dX11_move_175 : decode cX11_move 175 = .ok (.iload_n 1, 1) := by decide +kernel
theorem dX11_move_176 : decode cX11_move 176 = .ok (.if_icmp .eq 6, 3) := by decide +kernel
theorem dX11_move_179 : decode cX11_move 179 = .ok (.goto 13, 3) := by decide +kernel
theorem dX11_move_182 : decode cX11_move 182 = .ok (.aload 8, 2) := by decide +kernel
theorem dX11_move_184 : decode cX11_move 184 = .ok (.iconst 1, 1) := by decide +kernel
theorem dX11_move_185 : decode cX11_move 185 = .ok (.iconst 2, 1) := by decide +kernel
theorem dX11_move_186 : decode cX11_move 186 = .ok (.iastore, 1) := by decide +kernel
theorem dX11_move_187 : decode cX11_move 187 = .ok (.aload 8, 2) := by decide +kernel
theorem dX11_move_189 : decode cX11_move 189 = .ok (.iconst 2, 1) := by decide +kernel
theorem dX11_move_190 : decode cX11_move 190 = .ok (.iload_n 3, 1) := by decide +kernel
theorem dX11_move_191 : decode cX11_move 191 = .ok (.iastore, 1) := by decide +kernel
theorem dX11_move_192 : decode cX11_move 192 = .ok (.iinc 7 1, 3) := by decide +kernel
theorem dX11_move_195 : decode cX11_move 195 = .ok (.goto (-46), 3) := by decide +kernel
theorem dX11_move_198 : decode cX11_move 198 = .ok (.aload_n 2, 1) := by decide +kernel
theorem dX11_move_199 : decode cX11_move 199 = .ok (.iconst 5, 1) := by decide +kernel
theorem dX11_move_200 : decode cX11_move 200 = .ok (.iconst 0, 1) := by decide +kernel
theorem dX11_move_201 : decode cX11_move 201 = .ok (.iastore, 1) := by decide +kernel
theorem dX11_move_202 : decode cX11_move 202 = .ok (.aload_n 2, 1) := by decide +kernel
theorem dX11_move_203 : decode cX11_move 203 = .ok (.bipush 6, 2) := by decide +kernel
theorem dX11_move_205 : decode cX11_move 205 = .ok (.aload_n 0, 1) := by decide +kernel
theorem dX11_move_206 : decode cX11_move 206 = .ok (.getfield 9, 3) := by decide +kernel
theorem dX11_move_209 : decode cX11_move 209 = .ok (.iload_n 3, 1) := by decide +kernel
theorem dX11_move_210 : decode cX11_move 210 = .ok (.aaload, 1) := by decide +kernel
theorem dX11_move_211 : decode cX11_move 211 = .ok (.iconst 0, 1) := by decide +kernel
theorem dX11_move_212 : decode cX11_move 212 = .ok (.iaload, 1) := by decide +kernel
theorem dX11_move_213 : decode cX11_move 213 = .ok (.aload_n 2, 1) := by decide +kernel
theorem dX11_move_214 : decode cX11_move 214 = .ok (.bipush 6, 2) := by decide +kernel
theorem dX11_move_216 : decode cX11_move 216 = .ok (.iaload, 1) := by decide +kernel
theorem dX11_move_217 : decode cX11_move 217 = .ok (.isub, 1) := by decide +kernel
theorem dX11_move_218 : decode cX11_move 218 = .ok (.iconst 1, 1) := by decide +kernel
theorem dX11_move_219 : decode cX11_move 219 = .ok (.isub, 1) := by decide +kernel
theorem dX11_move_220 : decode cX11_move 220 = .ok (.iastore, 1) := by decide +kernel
theorem dX11_move_221 : decode cX11_move 221 = .ok (.return_, 1) := by decide +kernel
theorem dX11_move_222 : decode cX11_move 222 = .ok (.iload 4, 2) := by decide +kernel
theorem dX11_move_224 : decode cX11_move 224 = .ok (.aload_n 2, 1) := by decide +kernel
theorem dX11_move_225 : decode cX11_move 225 = .ok (.bipush 7, 2) := by decide +kernel
theorem dX11_move_227 : decode cX11_move 227 = .ok (.iaload, 1) := by decide +kernel
theorem dX11_move_228 : decode cX11_move 228 = .ok (.iadd, 1) := by decide +kernel
theorem dX11_move_229 : decode cX11_move 229 = .ok (.aload_n 2, 1) := by decide +kernel
theorem dX11_move_230 : decode cX11_move 230 = .ok (.iconst 0, 1) := by decide +kernel
theorem dX11_move_231 : decode cX11_move 231 = .ok (.iaload, 1) := by decide +kernel
theorem dX11_move_232 : decode cX11_move 232 = .ok (.if_icmp .le 11, 3) := by decide +kernel
theorem dX11_move_235 : decode cX11_move 235 = .ok (.aload_n 0, 1) := by decide +kernel
theorem dX11_move_236 : decode cX11_move 236 = .ok (.iload_n 1, 1) := by decide +kernel
theorem dX11_move_237 : decode cX11_move 237 = .ok (.bipush (-4), 2) := by decide +kernel
theorem dX11_move_239 : decode cX11_move 239 = .ok (.invokevirtual 61, 3) := by decide +kernel
theorem dX11_move_242 : decode cX11_move 242 = .ok (.return_, 1) := by decide +kernel
theorem dX11_move_243 : decode cX11_move 243 = .ok (.aload_n 2, 1) := by decide +kernel
theorem dX11_move_244 : decode cX11_move 244 = .ok (.iconst 5, 1) := by decide +kernel
theorem dX11_move_245 : decode cX11_move 245 = .ok (.iaload, 1) := by decide +kernel
theorem dX11_move_246 : decode cX11_move 246 = .ok (.iconst 1, 1) := by decide +kernel
theorem dX11_move_247 : decode cX11_move 247 = .ok (.if_icmp .ne 31, 3) := by decide +kernel
theorem dX11_move_250 : decode cX11_move 250 = .ok (.aload_n 0, 1) := by decide +kernel
theorem dX11_move_251 : decode cX11_move 251 = .ok (.getfield 9, 3) := by decide +kernel
theorem dX11_move_254 : decode cX11_move 254 = .ok (.iload_n 3, 1) := by decide +kernel
theorem dX11_move_255 : decode cX11_move 255 = .ok (.aaload, 1) := by decide +kernel
theorem dX11_move_256 : decode cX11_move 256 = .ok (.iconst 1, 1) := by decide +kernel
theorem dX11_move_257 : decode cX11_move 257 = .ok (.iaload, 1) := by decide +kernel
theorem dX11_move_258 : decode cX11_move 258 = .ok (.ifCond .ge 20, 3) := by decide +kernel
theorem dX11_move_261 : decode cX11_move 261 = .ok (.aload_n 0, 1) := by decide +kernel
theorem dX11_move_262 : decode cX11_move 262 = .ok (.getfield 9, 3) := by decide +kernel
theorem dX11_move_265 : decode cX11_move 265 = .ok (.iload_n 3, 1) := by decide +kernel
theorem dX11_move_266 : decode cX11_move 266 = .ok (.aaload, 1) := by decide +kernel
theorem dX11_move_267 : decode cX11_move 267 = .ok (.iconst 2, 1) := by decide +kernel
theorem dX11_move_268 : decode cX11_move 268 = .ok (.iaload, 1) := by decide +kernel
theorem dX11_move_269 : decode cX11_move 269 = .ok (.bipush 6, 2) := by decide +kernel
theorem dX11_move_271 : decode cX11_move 271 = .ok (.if_icmp .lt 7, 3) := by decide +kernel
theorem dX11_move_274 : decode cX11_move 274 = .ok (.iconst 1, 1) := by decide +kernel
theorem dX11_move_275 : decode cX11_move 275 = .ok (.goto 4, 3) := by decide +kernel
theorem dX11_move_278 : decode cX11_move 278 = .ok (.iconst 0, 1) := by decide +kernel
theorem dX11_move_279 : decode cX11_move 279 = .ok (.istore 5, 2) := by decide +kernel
theorem dX11_move_281 : decode cX11_move 281 = .ok (.aload_n 2, 1) := by decide +kernel
theorem dX11_move_282 : decode cX11_move 282 = .ok (.bipush 6, 2) := by decide +kernel
theorem dX11_move_284 : decode cX11_move 284 = .ok (.dup2, 1) := by decide +kernel
theorem dX11_move_285 : decode cX11_move 285 = .ok (.iaload, 1) := by decide +kernel
theorem dX11_move_286 : decode cX11_move 286 = .ok (.iload 5, 2) := by decide +kernel
theorem dX11_move_288 : decode cX11_move 288 = .ok (.ifCond .eq 7, 3) := by decide +kernel
theorem dX11_move_291 : decode cX11_move 291 = .ok (.iconst 2, 1) := by decide +kernel
theorem dX11_move_292 : decode cX11_move 292 = .ok (.goto 4, 3) := by decide +kernel
theorem dX11_move_295 : decode cX11_move 295 = .ok (.iconst 1, 1) := by decide +kernel
theorem dX11_move_296 : decode cX11_move 296 = .ok (.iadd, 1) := by decide +kernel
theorem dX11_move_297 : decode cX11_move 297 = .ok (.iastore, 1) := by decide +kernel
theorem dX11_move_298 : decode cX11_move 298 = .ok (.aload_n 0, 1) := by decide +kernel
theorem dX11_move_299 : decode cX11_move 299 = .ok (.iload_n 1, 1) := by decide +kernel
theorem dX11_move_300 : decode cX11_move 300 = .ok (.aload_n 2, 1) := by decide +kernel
theorem dX11_move_301 : decode cX11_move 301 = .ok (.iconst 5, 1) := by decide +kernel
theorem dX11_move_302 : decode cX11_move 302 = .ok (.iaload, 1) := by decide +kernel
theorem dX11_move_303 : decode cX11_move 303 = .ok (.iconst 1, 1) := by decide +kernel
theorem dX11_move_304 : decode cX11_move 304 = .ok (.if_icmp .ne 11, 3) := by decide +kernel
theorem dX11_move_307 : decode cX11_move 307 = .ok (.iload 4, 2) := by decide +kernel
theorem dX11_move_309 : decode cX11_move 309 = .ok (.bipush 8, 2) := by decide +kernel
theorem dX11_move_311 : decode cX11_move 311 = .ok (.idiv, 1) := by decide +kernel
theorem dX11_move_312 : decode cX11_move 312 = .ok (.goto 4, 3) := by decide +kernel
theorem dX11_move_315 : decode cX11_move 315 = .ok (.iconst (-1), 1) := by decide +kernel
theorem dX11_move_316 : decode cX11_move 316 = .ok (.invokevirtual 61, 3) := by decide +kernel
theorem dX11_move_319 : decode cX11_move 319 = .ok (.aload_n 2, 1) := by decide +kernel
theorem dX11_move_320 : decode cX11_move 320 = .ok (.bipush 6, 2) := by decide +kernel
theorem dX11_move_322 : decode cX11_move 322 = .ok (.iaload, 1) := by decide +kernel
theorem dX11_move_323 : decode cX11_move 323 = .ok (.aload_n 0, 1) := by decide +kernel
theorem dX11_move_324 : decode cX11_move 324 = .ok (.getfield 9, 3) := by decide +kernel
theorem dX11_move_327 : decode cX11_move 327 = .ok (.iload_n 3, 1) := by decide +kernel
theorem dX11_move_328 : decode cX11_move 328 = .ok (.aaload, 1) := by decide +kernel
theorem dX11_move_329 : decode cX11_move 329 = .ok (.iconst 0, 1) := by decide +kernel
theorem dX11_move_330 : decode cX11_move 330 = .ok (.iaload, 1) := by decide +kernel
theorem dX11_move_331 : decode cX11_move 331 = .ok (.if_icmp .ge 4, 3) := by decide +kernel
theorem dX11_move_334 : decode cX11_move 334 = .ok (.return_, 1) := by decide +kernel
theorem dX11_move_335 : decode cX11_move 335 = .ok (.aload_n 2, 1) := by decide +kernel
theorem dX11_move_336 : decode cX11_move 336 = .ok (.iconst 5, 1) := by decide +kernel
theorem dX11_move_337 : decode cX11_move 337 = .ok (.iaload, 1) := by decide +kernel
theorem dX11_move_338 : decode cX11_move 338 = .ok (.iconst 1, 1) := by decide +kernel
theorem dX11_move_339 : decode cX11_move 339 = .ok (.if_icmp .ne 106, 3) := by decide +kernel
theorem dX11_move_342 : decode cX11_move 342 = .ok (.iload_n 3, 1) := by decide +kernel
theorem dX11_move_343 : decode cX11_move 343 = .ok (.aload_n 0, 1) := by decide +kernel
theorem dX11_move_344 : decode cX11_move 344 = .ok (.getfield 9, 3) := by decide +kernel
theorem dX11_move_347 : decode cX11_move 347 = .ok (.arraylength, 1) := by decide +kernel
theorem dX11_move_348 : decode cX11_move 348 = .ok (.iconst 1, 1) := by decide +kernel
theorem dX11_move_349 : decode cX11_move 349 = .ok (.isub, 1) := by decide +kernel
theorem dX11_move_350 : decode cX11_move 350 = .ok (.if_icmp .ne 95, 3) := by decide +kernel
theorem dX11_move_353 : decode cX11_move 353 = .ok (.aload_n 0, 1) := by decide +kernel
theorem dX11_move_354 : decode cX11_move 354 = .ok (.getfield 18, 3) := by decide +kernel
theorem dX11_move_357 : decode cX11_move 357 = .ok (.astore 6, 2) := by decide +kernel
theorem dX11_move_359 : decode cX11_move 359 = .ok (.aload 6, 2) := by decide +kernel
theorem dX11_move_361 : decode cX11_move 361 = .ok (.arraylength, 1) := by decide +kernel
theorem dX11_move_362 : decode cX11_move 362 = .ok (.istore 7, 2) := by decide +kernel
theorem dX11_move_364 : decode cX11_move 364 = .ok (.iconst 0, 1) := by decide +kernel
theorem dX11_move_365 : decode cX11_move 365 = .ok (.istore 8, 2) := by decide +kernel
theorem dX11_move_367 : decode cX11_move 367 = .ok (.iload 8, 2) := by decide +kernel
theorem dX11_move_369 : decode cX11_move 369 = .ok (.iload 7, 2) := by decide +kernel
theorem dX11_move_371 : decode cX11_move 371 = .ok (.if_icmp .ge 64, 3) := by decide +kernel
theorem dX11_move_374 : decode cX11_move 374 = .ok (.aload 6, 2) := by decide +kernel
theorem dX11_move_376 : decode cX11_move 376 = .ok (.iload 8, 2) := by decide +kernel
theorem dX11_move_378 : decode cX11_move 378 = .ok (.aaload, 1) := by decide +kernel
theorem dX11_move_379 : decode cX11_move 379 = .ok (.astore 9, 2) := by decide +kernel
theorem dX11_move_381 : decode cX11_move 381 = .ok (.aload 9, 2) := by decide +kernel
theorem dX11_move_383 : decode cX11_move 383 = .ok (.iconst 1, 1) := by decide +kernel
theorem dX11_move_384 : decode cX11_move 384 = .ok (.iaload, 1) := by decide +kernel
theorem dX11_move_385 : decode cX11_move 385 = .ok (.iconst 1, 1) := by decide +kernel
theorem dX11_move_386 : decode cX11_move 386 = .ok (.if_icmp .ne 43, 3) := by decide +kernel
theorem dX11_move_389 : decode cX11_move 389 = .ok (.aload 9, 2) := by decide +kernel
theorem dX11_move_391 : decode cX11_move 391 = .ok (.iconst 2, 1) := by decide +kernel
theorem dX11_move_392 : decode cX11_move 392 = .ok (.iaload, 1) := by decide +kernel
theorem dX11_move_393 : decode cX11_move 393 = .ok (.iload_n 1, 1) := by decide +kernel
theorem dX11_move_394 : decode cX11_move 394 = .ok (.if_icmp .eq 6, 3) := by decide +kernel
theorem dX11_move_397 : decode cX11_move 397 = .ok (.goto 32, 3) := by decide +kernel
theorem dX11_move_400 : decode cX11_move 400 = .ok (.aload_n 2, 1) := by decide +kernel
theorem dX11_move_401 : decode cX11_move 401 = .ok (.bipush 8, 2) := by decide +kernel
theorem dX11_move_403 : decode cX11_move 403 = .ok (.dup2, 1) := by decide +kernel
theorem dX11_move_404 : decode cX11_move 404 = .ok (.iaload, 1) := by decide +kernel
theorem dX11_move_405 : decode cX11_move 405 = .ok (.aload 9, 2) := by decide +kernel
theorem dX11_move_407 : decode cX11_move 407 = .ok (.iconst 0, 1) := by decide +kernel
theorem dX11_move_408 : decode cX11_move 408 = .ok (.iaload, 1) := by decide +kernel
theorem dX11_move_409 : decode cX11_move 409 = .ok (.iadd, 1) := by decide +kernel
theorem dX11_move_410 : decode cX11_move 410 = .ok (.iastore, 1) := by decide +kernel
theorem dX11_move_411 : decode cX11_move 411 = .ok (.aload 9, 2) := by decide +kernel
theorem dX11_move_413 : decode cX11_move 413 = .ok (.iconst 1, 1) := by decide +kernel
theorem dX11_move_414 : decode cX11_move 414 = .ok (.iconst 3, 1) := by decide +kernel
theorem dX11_move_415 : decode cX11_move 415 = .ok (.iastore, 1) := by decide +kernel
theorem dX11_move_416 : decode cX11_move 416 = .ok (.aload 9, 2) := by decide +kernel
theorem dX11_move_418 : decode cX11_move 418 = .ok (.iconst 2, 1) := by decide +kernel
theorem dX11_move_419 : decode cX11_move 419 = .ok (.iconst (-1), 1) := by decide +kernel
theorem dX11_move_420 : decode cX11_move 420 = .ok (.iastore, 1) := by decide +kernel
theorem dX11_move_421 : decode cX11_move 421 = .ok (.aload 9, 2) := by decide +kernel
theorem dX11_move_423 : decode cX11_move 423 = .ok (.iconst 3, 1) := by decide +kernel
theorem dX11_move_424 : decode cX11_move 424 = .ok (.aload_n 0, 1) := by decide +kernel
theorem dX11_move_425 : decode cX11_move 425 = .ok (.getfield 44, 3) := by decide +kernel
theorem dX11_move_428 : decode cX11_move 428 = .ok (.iastore, 1) := by decide +kernel
theorem dX11_move_429 : decode cX11_move 429 = .ok (.iinc 8 1, 3) := by decide +kernel
theorem dX11_move_432 : decode cX11_move 432 = .ok (.goto (-65), 3) := by decide +kernel
theorem dX11_move_435 : decode cX11_move 435 = .ok (.aload_n 2, 1) := by decide +kernel
theorem dX11_move_436 : decode cX11_move 436 = .ok (.iconst 5, 1) := by decide +kernel
theorem dX11_move_437 : decode cX11_move 437 = .ok (.iconst 0, 1) := by decide +kernel
theorem dX11_move_438 : decode cX11_move 438 = .ok (.iastore, 1) := by decide +kernel
theorem dX11_move_439 : decode cX11_move 439 = .ok (.aload_n 2, 1) := by decide +kernel
theorem dX11_move_440 : decode cX11_move 440 = .ok (.bipush 6, 2) := by decide +kernel
theorem dX11_move_442 : decode cX11_move 442 = .ok (.iconst 0, 1) := by decide +kernel
theorem dX11_move_443 : decode cX11_move 443 = .ok (.iastore, 1) := by decide +kernel
theorem dX11_move_444 : decode cX11_move 444 = .ok (.return_, 1) := by decide +kernel
theorem dX11_move_445 : decode cX11_move 445 = .ok (.aload_n 2, 1) := by decide +kernel
theorem dX11_move_446 : decode cX11_move 446 = .ok (.iconst 5, 1) := by decide +kernel
theorem dX11_move_447 : decode cX11_move 447 = .ok (.iaload, 1) := by decide +kernel
theorem dX11_move_448 : decode cX11_move 448 = .ok (.iconst 1, 1) := by decide +kernel
theorem dX11_move_449 : decode cX11_move 449 = .ok (.if_icmp .ne 9, 3) := by decide +kernel
theorem dX11_move_452 : decode cX11_move 452 = .ok (.iload_n 3, 1) := by decide +kernel
theorem dX11_move_453 : decode cX11_move 453 = .ok (.iconst 1, 1) := by decide +kernel
theorem dX11_move_454 : decode cX11_move 454 = .ok (.iadd, 1) := by decide +kernel
theorem dX11_move_455 : decode cX11_move 455 = .ok (.goto 6, 3) := by decide +kernel
theorem dX11_move_458 : decode cX11_move 458 = .ok (.iload_n 3, 1) := by decide +kernel
theorem dX11_move_459 : decode cX11_move 459 = .ok (.iconst 1, 1) := by decide +kernel
theorem dX11_move_460 : decode cX11_move 460 = .ok (.isub, 1) := by decide +kernel
theorem dX11_move_461 : decode cX11_move 461 = .ok (.istore 6, 2) := by decide +kernel
theorem dX11_move_463 : decode cX11_move 463 = .ok (.iconst 1, 1) := by decide +kernel
theorem dX11_move_464 : decode cX11_move 464 = .ok (.istore 7, 2) := by decide +kernel
theorem dX11_move_466 : decode cX11_move 466 = .ok (.aload_n 0, 1) := by decide +kernel
theorem dX11_move_467 : decode cX11_move 467 = .ok (.getfield 15, 3) := by decide +kernel
theorem dX11_move_470 : decode cX11_move 470 = .ok (.astore 8, 2) := by decide +kernel
theorem dX11_move_472 : decode cX11_move 472 = .ok (.aload 8, 2) := by decide +kernel
theorem dX11_move_474 : decode cX11_move 474 = .ok (.arraylength, 1) := by decide +kernel
theorem dX11_move_475 : decode cX11_move 475 = .ok (.istore 9, 2) := by decide +kernel
theorem dX11_move_477 : decode cX11_move 477 = .ok (.iconst 0, 1) := by decide +kernel
theorem dX11_move_478 : decode cX11_move 478 = .ok (.istore 10, 2) := by decide +kernel
theorem dX11_move_480 : decode cX11_move 480 = .ok (.iload 10, 2) := by decide +kernel
theorem dX11_move_482 : decode cX11_move 482 = .ok (.iload 9, 2) := by decide +kernel
theorem dX11_move_484 : decode cX11_move 484 = .ok (.if_icmp .ge 57, 3) := by decide +kernel
theorem dX11_move_487 : decode cX11_move 487 = .ok (.aload 8, 2) := by decide +kernel
theorem dX11_move_489 : decode cX11_move 489 = .ok (.iload 10, 2) := by decide +kernel
theorem dX11_move_491 : decode cX11_move 491 = .ok (.aaload, 1) := by decide +kernel
theorem dX11_move_492 : decode cX11_move 492 = .ok (.astore 11, 2) := by decide +kernel
theorem dX11_move_494 : decode cX11_move 494 = .ok (.iload 6, 2) := by decide +kernel
theorem dX11_move_496 : decode cX11_move 496 = .ok (.ifCond .lt 39, 3) := by decide +kernel
theorem dX11_move_499 : decode cX11_move 499 = .ok (.aload 11, 2) := by decide +kernel
theorem dX11_move_501 : decode cX11_move 501 = .ok (.iconst 4, 1) := by decide +kernel
theorem dX11_move_502 : decode cX11_move 502 = .ok (.iaload, 1) := by decide +kernel
theorem dX11_move_503 : decode cX11_move 503 = .ok (.iload 6, 2) := by decide +kernel
theorem dX11_move_505 : decode cX11_move 505 = .ok (.if_icmp .ne 30, 3) := by decide +kernel
theorem dX11_move_508 : decode cX11_move 508 = .ok (.aload 11, 2) := by decide +kernel
theorem dX11_move_510 : decode cX11_move 510 = .ok (.iconst 5, 1) := by decide +kernel
theorem dX11_move_511 : decode cX11_move 511 = .ok (.iaload, 1) := by decide +kernel
theorem dX11_move_512 : decode cX11_move 512 = .ok (.aload_n 2, 1) := by decide +kernel
theorem dX11_move_513 : decode cX11_move 513 = .ok (.iconst 5, 1) := by decide +kernel
theorem dX11_move_514 : decode cX11_move 514 = .ok (.iaload, 1) := by decide +kernel
theorem dX11_move_515 : decode cX11_move 515 = .ok (.if_icmp .eq 20, 3) := by decide +kernel
theorem dX11_move_518 : decode cX11_move 518 = .ok (.aload_n 2, 1) := by decide +kernel
theorem dX11_move_519 : decode cX11_move 519 = .ok (.iconst 3, 1) := by decide +kernel
theorem dX11_move_520 : decode cX11_move 520 = .ok (.iaload, 1) := by decide +kernel
theorem dX11_move_521 : decode cX11_move 521 = .ok (.ifCond .eq 11, 3) := by decide +kernel
theorem dX11_move_524 : decode cX11_move 524 = .ok (.aload 11, 2) := by decide +kernel
theorem dX11_move_526 : decode cX11_move 526 = .ok (.iconst 3, 1) := by decide +kernel
theorem dX11_move_527 : decode cX11_move 527 = .ok (.iaload, 1) := by decide +kernel
theorem dX11_move_528 : decode cX11_move 528 = .ok (.iconst 1, 1) := by decide +kernel
theorem dX11_move_529 : decode cX11_move 529 = .ok (.if_icmp .ne 6, 3) := by decide +kernel
theorem dX11_move_532 : decode cX11_move 532 = .ok (.iconst 0, 1) := by decide +kernel
theorem dX11_move_533 : decode cX11_move 533 = .ok (.istore 7, 2) := by decide +kernel
theorem dX11_move_535 : decode cX11_move 535 = .ok (.iinc 10 1, 3) := by decide +kernel
theorem dX11_move_538 : decode cX11_move 538 = .ok (.goto (-58), 3) := by decide +kernel
theorem dX11_move_541 : decode cX11_move 541 = .ok (.iload 7, 2) := by decide +kernel
theorem dX11_move_543 : decode cX11_move 543 = .ok (.ifCond .ne 18, 3) := by decide +kernel
theorem dX11_move_546 : decode cX11_move 546 = .ok (.aload_n 2, 1) := by decide +kernel
theorem dX11_move_547 : decode cX11_move 547 = .ok (.bipush 6, 2) := by decide +kernel
theorem dX11_move_549 : decode cX11_move 549 = .ok (.aload_n 0, 1) := by decide +kernel
theorem dX11_move_550 : decode cX11_move 550 = .ok (.getfield 9, 3) := by decide +kernel
theorem dX11_move_553 : decode cX11_move 553 = .ok (.iload_n 3, 1) := by decide +kernel
theorem dX11_move_554 : decode cX11_move 554 = .ok (.aaload, 1) := by decide +kernel
theorem dX11_move_555 : decode cX11_move 555 = .ok (.iconst 0, 1) := by decide +kernel
theorem dX11_move_556 : decode cX11_move 556 = .ok (.iaload, 1) := by decide +kernel
theorem dX11_move_557 : decode cX11_move 557 = .ok (.iconst 1, 1) := by decide +kernel
theorem dX11_move_558 : decode cX11_move 558 = .ok (.isub, 1) := by decide +kernel
theorem dX11_move_559 : decode cX11_move 559 = .ok (.iastore, 1) := by decide +kernel
theorem dX11_move_560 : decode cX11_move 560 = .ok (.return_, 1) := by decide +kernel
theorem dX11_move_561 : decode cX11_move 561 = .ok (.aload_n 0, 1) := by decide +kernel
theorem dX11_move_562 : decode cX11_move 562 = .ok (.getfield 15, 3) := by decide +kernel
theorem dX11_move_565 : decode cX11_move 565 = .ok (.astore 8, 2) := by decide +kernel
theorem dX11_move_567 : decode cX11_move 567 = .ok (.aload 8, 2) := by decide +kernel
theorem dX11_move_569 : decode cX11_move 569 = .ok (.arraylength, 1) := by decide +kernel
theorem dX11_move_570 : decode cX11_move 570 = .ok (.istore 9, 2) := by decide +kernel
theorem dX11_move_572 : decode cX11_move 572 = .ok (.iconst 0, 1) := by decide +kernel
theorem dX11_move_573 : decode cX11_move 573 = .ok (.istore 10, 2) := by decide +kernel
theorem dX11_move_575 : decode cX11_move 575 = .ok (.iload 10, 2) := by decide +kernel
theorem dX11_move_577 : decode cX11_move 577 = .ok (.iload 9, 2) := by decide +kernel
theorem dX11_move_579 : decode cX11_move 579 = .ok (.if_icmp .ge 46, 3) := by decide +kernel
theorem dX11_move_582 : decode cX11_move 582 = .ok (.aload 8, 2) := by decide +kernel
theorem dX11_move_584 : decode cX11_move 584 = .ok (.iload 10, 2) := by decide +kernel
theorem dX11_move_586 : decode cX11_move 586 = .ok (.aaload, 1) := by decide +kernel
theorem dX11_move_587 : decode cX11_move 587 = .ok (.astore 11, 2) := by decide +kernel
theorem dX11_move_589 : decode cX11_move 589 = .ok (.iload 6, 2) := by decide +kernel
theorem dX11_move_591 : decode cX11_move 591 = .ok (.ifCond .lt 28, 3) := by decide +kernel
theorem dX11_move_594 : decode cX11_move 594 = .ok (.aload 11, 2) := by decide +kernel
theorem dX11_move_596 : decode cX11_move 596 = .ok (.iconst 4, 1) := by decide +kernel
theorem dX11_move_597 : decode cX11_move 597 = .ok (.iaload, 1) := by decide +kernel
theorem dX11_move_598 : decode cX11_move 598 = .ok (.iload 6, 2) := by decide +kernel
theorem dX11_move_600 : decode cX11_move 600 = .ok (.if_icmp .ne 19, 3) := by decide +kernel
theorem dX11_move_603 : decode cX11_move 603 = .ok (.aload 11, 2) := by decide +kernel
theorem dX11_move_605 : decode cX11_move 605 = .ok (.iconst 5, 1) := by decide +kernel
theorem dX11_move_606 : decode cX11_move 606 = .ok (.iaload, 1) := by decide +kernel
theorem dX11_move_607 : decode cX11_move 607 = .ok (.aload_n 2, 1) := by decide +kernel
theorem dX11_move_608 : decode cX11_move 608 = .ok (.iconst 5, 1) := by decide +kernel
theorem dX11_move_609 : decode cX11_move 609 = .ok (.iaload, 1) := by decide +kernel
theorem dX11_move_610 : decode cX11_move 610 = .ok (.if_icmp .eq 9, 3) := by decide +kernel
theorem dX11_move_613 : decode cX11_move 613 = .ok (.aload 11, 2) := by decide +kernel
theorem dX11_move_615 : decode cX11_move 615 = .ok (.bipush 9, 2) := by decide +kernel
theorem dX11_move_617 : decode cX11_move 617 = .ok (.iconst 1, 1) := by decide +kernel
theorem dX11_move_618 : decode cX11_move 618 = .ok (.iastore, 1) := by decide +kernel
theorem dX11_move_619 : decode cX11_move 619 = .ok (.iinc 10 1, 3) := by decide +kernel
theorem dX11_move_622 : decode cX11_move 622 = .ok (.goto (-47), 3) := by decide +kernel
theorem dX11_move_625 : decode cX11_move 625 = .ok (.aload_n 2, 1) := by decide +kernel
theorem dX11_move_626 : decode cX11_move 626 = .ok (.iconst 4, 1) := by decide +kernel
theorem dX11_move_627 : decode cX11_move 627 = .ok (.iload 6, 2) := by decide +kernel
theorem dX11_move_629 : decode cX11_move 629 = .ok (.iastore, 1) := by decide +kernel
theorem dX11_move_630 : decode cX11_move 630 = .ok (.aload_n 2, 1) := by decide +kernel
theorem dX11_move_631 : decode cX11_move 631 = .ok (.bipush 6, 2) := by decide +kernel
theorem dX11_move_633 : decode cX11_move 633 = .ok (.iconst 0, 1) := by decide +kernel
theorem dX11_move_634 : decode cX11_move 634 = .ok (.iastore, 1) := by decide +kernel
theorem dX11_move_635 : decode cX11_move 635 = .ok (.return_, 1) := by decide +kernel
theorem dX11_pass_0 : decode cX11_pass 0 = .ok (.aload_n 0, 1) := by decide +kernel
theorem dX11_pass_1 : decode cX11_pass 1 = .ok (.getfield 15, 3) := by decide +kernel
theorem dX11_pass_4 : decode cX11_pass 4 = .ok (.astore_n 1, 1) := by decide +kernel
theorem dX11_pass_5 : decode cX11_pass 5 = .ok (.aload_n 1, 1) := by decide +kernel
theorem dX11_pass_6 : decode cX11_pass 6 = .ok (.arraylength, 1) := by decide +kernel
theorem dX11_pass_7 : decode cX11_pass 7 = .ok (.istore_n 2, 1) := by decide +kernel
theorem dX11_pass_8 : decode cX11_pass 8 = .ok (.iconst 0, 1) := by decide +kernel
theorem dX11_pass_9 : decode cX11_pass 9 = .ok (.istore_n 3, 1) := by decide +kernel
theorem dX11_pass_10 : decode cX11_pass 10 = .ok (.iload_n 3, 1) := by decide +kernel
theorem dX11_pass_11 : decode cX11_pass 11 = .ok (.iload_n 2, 1) := by decide +kernel
theorem dX11_pass_12 : decode cX11_pass 12 = .ok (.if_icmp .ge 20, 3) := by decide +kernel
theorem dX11_pass_15 : decode cX11_pass 15 = .ok (.aload_n 1, 1) := by decide +kernel
theorem dX11_pass_16 : decode cX11_pass 16 = .ok (.iload_n 3, 1) := by decide +kernel
theorem dX11_pass_17 : decode cX11_pass 17 = .ok (.aaload, 1) := by decide +kernel
theorem dX11_pass_18 : decode cX11_pass 18 = .ok (.astore 4, 2) := by decide +kernel
theorem dX11_pass_20 : decode cX11_pass 20 = .ok (.aload 4, 2) := by decide +kernel
theorem dX11_pass_22 : decode cX11_pass 22 = .ok (.bipush 9, 2) := by decide +kernel
theorem dX11_pass_24 : decode cX11_pass 24 = .ok (.iconst 0, 1) := by decide +kernel
theorem dX11_pass_25 : decode cX11_pass 25 = .ok (.iastore, 1) := by decide +kernel
theorem dX11_pass_26 : decode cX11_pass 26 = .ok (.iinc 3 1, 3) := by decide +kernel
theorem dX11_pass_29 : decode cX11_pass 29 = .ok (.goto (-19), 3) := by decide +kernel
theorem dX11_pass_32 : decode cX11_pass 32 = .ok (.iconst 0, 1) := by decide +kernel
theorem dX11_pass_33 : decode cX11_pass 33 = .ok (.istore_n 1, 1) := by decide +kernel
theorem dX11_pass_34 : decode cX11_pass 34 = .ok (.iload_n 1, 1) := by decide +kernel
theorem dX11_pass_35 : decode cX11_pass 35 = .ok (.aload_n 0, 1) := by decide +kernel
theorem dX11_pass_36 : decode cX11_pass 36 = .ok (.getfield 15, 3) := by decide +kernel
theorem dX11_pass_39 : decode cX11_pass 39 = .ok (.arraylength, 1) := by decide +kernel
theorem dX11_pass_40 : decode cX11_pass 40 = .ok (.if_icmp .ge 44, 3) := by decide +kernel
theorem dX11_pass_43 : decode cX11_pass 43 = .ok (.aload_n 0, 1) := by decide +kernel
theorem dX11_pass_44 : decode cX11_pass 44 = .ok (.getfield 15, 3) := by decide +kernel
theorem dX11_pass_47 : decode cX11_pass 47 = .ok (.iload_n 1, 1) := by decide +kernel
theorem dX11_pass_48 : decode cX11_pass 48 = .ok (.aaload, 1) := by decide +kernel
theorem dX11_pass_49 : decode cX11_pass 49 = .ok (.iconst 4, 1) := by decide +kernel
theorem dX11_pass_50 : decode cX11_pass 50 = .ok (.iaload, 1) := by decide +kernel
theorem dX11_pass_51 : decode cX11_pass 51 = .ok (.ifCond .ge 27, 3) := by decide +kernel
theorem dX11_pass_54 : decode cX11_pass 54 = .ok (.aload_n 0, 1) := by decide +kernel
theorem dX11_pass_55 : decode cX11_pass 55 = .ok (.getfield 15, 3) := by decide +kernel
theorem dX11_pass_58 : decode cX11_pass 58 = .ok (.iload_n 1, 1) := by decide +kernel
theorem dX11_pass_59 : decode cX11_pass 59 = .ok (.aaload, 1) := by decide +kernel
theorem dX11_pass_60 : decode cX11_pass 60 = .ok (.iconst 1, 1) := by decide +kernel
theorem dX11_pass_61 : decode cX11_pass 61 = .ok (.iaload, 1) := by decide +kernel
theorem dX11_pass_62 : decode cX11_pass 62 = .ok (.ifCond .le 16, 3) := by decide +kernel
theorem dX11_pass_65 : decode cX11_pass 65 = .ok (.aload_n 0, 1) := by decide +kernel
theorem dX11_pass_66 : decode cX11_pass 66 = .ok (.getfield 9, 3) := by decide +kernel
theorem dX11_pass_69 : decode cX11_pass 69 = .ok (.arraylength, 1) := by decide +kernel
theorem dX11_pass_70 : decode cX11_pass 70 = .ok (.ifCond .le 8, 3) := by decide +kernel
theorem dX11_pass_73 : decode cX11_pass 73 = .ok (.aload_n 0, 1) := by decide +kernel
theorem dX11_pass_74 : decode cX11_pass 74 = .ok (.iload_n 1, 1) := by decide +kernel
theorem dX11_pass_75 : decode cX11_pass 75 = .ok (.invokevirtual 71, 3) := by decide +kernel
theorem dX11_pass_78 : decode cX11_pass 78 = .ok (.iinc 1 1, 3) := by decide +kernel
theorem dX11_pass_81 : decode cX11_pass 81 = .ok (.goto (-47), 3) := by decide +kernel
theorem dX11_pass_84 : decode cX11_pass 84 = .ok (.iconst 0, 1) := by decide +kernel
theorem dX11_pass_85 : decode cX11_pass 85 = .ok (.istore_n 1, 1) := by decide +kernel
theorem dX11_pass_86 : decode cX11_pass 86 = .ok (.iload_n 1, 1) := by decide +kernel
theorem dX11_pass_87 : decode cX11_pass 87 = .ok (.aload_n 0, 1) := by decide +kernel
theorem dX11_pass_88 : decode cX11_pass 88 = .ok (.getfield 15, 3) := by decide +kernel
theorem dX11_pass_91 : decode cX11_pass 91 = .ok (.arraylength, 1) := by decide +kernel
theorem dX11_pass_92 : decode cX11_pass 92 = .ok (.if_icmp .ge 51, 3) := by decide +kernel
theorem dX11_pass_95 : decode cX11_pass 95 = .ok (.aload_n 0, 1) := by decide +kernel
theorem dX11_pass_96 : decode cX11_pass 96 = .ok (.getfield 15, 3) := by decide +kernel
theorem dX11_pass_99 : decode cX11_pass 99 = .ok (.iload_n 1, 1) := by decide +kernel
theorem dX11_pass_100 : decode cX11_pass 100 = .ok (.aaload, 1) := by decide +kernel
theorem dX11_pass_101 : decode cX11_pass 101 = .ok (.iconst 4, 1) := by decide +kernel
theorem dX11_pass_102 : decode cX11_pass 102 = .ok (.iaload, 1) := by decide +kernel
theorem dX11_pass_103 : decode cX11_pass 103 = .ok (.ifCond .lt 34, 3) := by decide +kernel
theorem dX11_pass_106 : decode cX11_pass 106 = .ok (.aload_n 0, 1) := by decide +kernel
theorem dX11_pass_107 : decode cX11_pass 107 = .ok (.getfield 15, 3) := by decide +kernel
theorem dX11_pass_110 : decode cX11_pass 110 = .ok (.iload_n 1, 1) := by decide +kernel
theorem dX11_pass_111 : decode cX11_pass 111 = .ok (.aaload, 1) := by decide +kernel
theorem dX11_pass_112 : decode cX11_pass 112 = .ok (.bipush 9, 2) := by decide +kernel
theorem dX11_pass_114 : decode cX11_pass 114 = .ok (.iaload, 1) := by decide +kernel
theorem dX11_pass_115 : decode cX11_pass 115 = .ok (.iconst 1, 1) := by decide +kernel
theorem dX11_pass_116 : decode cX11_pass 116 = .ok (.if_icmp .ne 6, 3) := by decide +kernel
theorem dX11_pass_119 : decode cX11_pass 119 = .ok (.goto 18, 3) := by decide +kernel
theorem dX11_pass_122 : decode cX11_pass 122 = .ok (.aload_n 0, 1) := by decide +kernel
theorem dX11_pass_123 : decode cX11_pass 123 = .ok (.getfield 15, 3) := by decide +kernel
theorem dX11_pass_126 : decode cX11_pass 126 = .ok (.iload_n 1, 1) := by decide +kernel
theorem dX11_pass_127 : decode cX11_pass 127 = .ok (.aaload, 1) := by decide +kernel
theorem dX11_pass_128 : decode cX11_pass 128 = .ok (.bipush 9, 2) := by decide +kernel
theorem dX11_pass_130 : decode cX11_pass 130 = .ok (.iconst 1, 1) := by decide +kernel
theorem dX11_pass_131 : decode cX11_pass 131 = .ok (.iastore, 1) := by decide +kernel
theorem dX11_pass_132 : decode cX11_pass 132 = .ok (.aload_n 0, 1) := by decide +kernel
theorem dX11_pass_133 : decode cX11_pass 133 = .ok (.iload_n 1, 1) := by decide +kernel
theorem dX11_pass_134 : decode cX11_pass 134 = .ok (.invokevirtual 75, 3) := by decide +kernel
theorem dX11_pass_137 : decode cX11_pass 137 = .ok (.iinc 1 1, 3) := by decide +kernel
theorem dX11_pass_140 : decode cX11_pass 140 = .ok (.goto (-54), 3) := by decide +kernel
theorem dX11_pass_143 : decode cX11_pass 143 = .ok (.aload_n 0, 1) := by decide +kernel
theorem dX11_pass_144 : decode cX11_pass 144 = .ok (.getfield 44, 3) := by decide +kernel
theorem dX11_pass_147 : decode cX11_pass 147 = .ok (.bipush 6, 2) := by decide +kernel
theorem dX11_pass_149 : decode cX11_pass 149 = .ok (.irem, 1) := by decide +kernel
theorem dX11_pass_150 : decode cX11_pass 150 = .ok (.ifCond .ne 77, 3) := by decide +kernel
theorem dX11_pass_153 : decode cX11_pass 153 = .ok (.aload_n 0, 1) := by decide +kernel
theorem dX11_pass_154 : decode cX11_pass 154 = .ok (.getfield 9, 3) := by decide +kernel
theorem dX11_pass_157 : decode cX11_pass 157 = .ok (.astore_n 1, 1) := by decide +kernel
theorem dX11_pass_158 : decode cX11_pass 158 = .ok (.aload_n 1, 1) := by decide +kernel
theorem dX11_pass_159 : decode cX11_pass 159 = .ok (.arraylength, 1) := by decide +kernel
theorem dX11_pass_160 : decode cX11_pass 160 = .ok (.istore_n 2, 1) := by decide +kernel
theorem dX11_pass_161 : decode cX11_pass 161 = .ok (.iconst 0, 1) := by decide +kernel
theorem dX11_pass_162 : decode cX11_pass 162 = .ok (.istore_n 3, 1) := by decide +kernel
theorem dX11_pass_163 : decode cX11_pass 163 = .ok (.iload_n 3, 1) := by decide +kernel
theorem dX11_pass_164 : decode cX11_pass 164 = .ok (.iload_n 2, 1) := by decide +kernel
theorem dX11_pass_165 : decode cX11_pass 165 = .ok (.if_icmp .ge 62, 3) := by decide +kernel
theorem dX11_pass_168 : decode cX11_pass 168 = .ok (.aload_n 1, 1) := by decide +kernel
theorem dX11_pass_169 : decode cX11_pass 169 = .ok (.iload_n 3, 1) := by decide +kernel
theorem dX11_pass_170 : decode cX11_pass 170 = .ok (.aaload, 1) := by decide +kernel
theorem dX11_pass_171 : decode cX11_pass 171 = .ok (.astore 4, 2) := by decide +kernel
theorem dX11_pass_173 : decode cX11_pass 173 = .ok (.aload 4, 2) := by decide +kernel
theorem dX11_pass_175 : decode cX11_pass 175 = .ok (.iconst 2, 1) := by decide +kernel
theorem dX11_pass_176 : decode cX11_pass 176 = .ok (.aload 4, 2) := by decide +kernel
theorem dX11_pass_178 : decode cX11_pass 178 = .ok (.iconst 2, 1) := by decide +kernel
theorem dX11_pass_179 : decode cX11_pass 179 = .ok (.iaload, 1) := by decide +kernel
theorem dX11_pass_180 : decode cX11_pass 180 = .ok (.aload_n 0, 1) := by decide +kernel
theorem dX11_pass_181 : decode cX11_pass 181 = .ok (.getfield 40, 3) := by decide +kernel
theorem dX11_pass_184 : decode cX11_pass 184 = .ok (.iadd, 1) := by decide +kernel
theorem dX11_pass_185 : decode cX11_pass 185 = .ok (.ifCond .ge 7, 3) := by decide +kernel
theorem dX11_pass_188 : decode cX11_pass 188 = .ok (.iconst 0, 1) := by decide +kernel
theorem dX11_pass_189 : decode cX11_pass 189 = .ok (.goto 31, 3) := by decide +kernel
theorem dX11_pass_192 : decode cX11_pass 192 = .ok (.aload 4, 2) := by decide +kernel
theorem dX11_pass_194 : decode cX11_pass 194 = .ok (.iconst 2, 1) := by decide +kernel
theorem dX11_pass_195 : decode cX11_pass 195 = .ok (.iaload, 1) := by decide +kernel
theorem dX11_pass_196 : decode cX11_pass 196 = .ok (.aload_n 0, 1) := by decide +kernel
theorem dX11_pass_197 : decode cX11_pass 197 = .ok (.getfield 40, 3) := by decide +kernel
theorem dX11_pass_200 : decode cX11_pass 200 = .ok (.iadd, 1) := by decide +kernel
theorem dX11_pass_201 : decode cX11_pass 201 = .ok (.bipush 9, 2) := by decide +kernel
theorem dX11_pass_203 : decode cX11_pass 203 = .ok (.if_icmp .le 8, 3) := by decide +kernel
theorem dX11_pass_206 : decode cX11_pass 206 = .ok (.bipush 9, 2) := by decide +kernel
theorem dX11_pass_208 : decode cX11_pass 208 = .ok (.goto 12, 3) := by decide +kernel
theorem dX11_pass_211 : decode cX11_pass 211 = .ok (.aload 4, 2) := by decide +kernel
theorem dX11_pass_213 : decode cX11_pass 213 = .ok (.iconst 2, 1) := by decide +kernel
theorem dX11_pass_214 : decode cX11_pass 214 = .ok (.iaload, 1) := by decide +kernel
theorem dX11_pass_215 : decode cX11_pass 215 = .ok (.aload_n 0, 1) := by decide +kernel
theorem dX11_pass_216 : decode cX11_pass 216 = .ok (.getfield 40, 3) := by decide +kernel
theorem dX11_pass_219 : decode cX11_pass 219 = .ok (.iadd, 1) := by decide +kernel
theorem dX11_pass_220 : decode cX11_pass 220 = .ok (.iastore, 1) := by decide +kernel
theorem dX11_pass_221 : decode cX11_pass 221 = .ok (.iinc 3 1, 3) := by decide +kernel
theorem dX11_pass_224 : decode cX11_pass 224 = .ok (.goto (-61), 3) := by decide +kernel
theorem dX11_pass_227 : decode cX11_pass 227 = .ok (.aload_n 0, 1) := by decide +kernel
theorem dX11_pass_228 : decode cX11_pass 228 = .ok (.dup, 1) := by decide +kernel
theorem dX11_pass_229 : decode cX11_pass 229 = .ok (.getfield 44, 3) := by decide +kernel
theorem dX11_pass_232 : decode cX11_pass 232 = .ok (.iconst 1, 1) := by decide +kernel
theorem dX11_pass_233 : decode cX11_pass 233 = .ok (.iadd, 1) := by decide +kernel
theorem dX11_pass_234 : decode cX11_pass 234 = .ok (.putfield 44, 3) := by decide +kernel
theorem dX11_pass_237 : decode cX11_pass 237 = .ok (.return_, 1) := by decide +kernel
theorem dX11_isSame_0 : decode cX11_isSame 0 = .ok (.iconst 0, 1) := by decide +kernel
theorem dX11_isSame_1 : decode cX11_isSame 1 = .ok (.istore_n 2, 1) := by decide +kernel
theorem dX11_isSame_2 : decode cX11_isSame 2 = .ok (.iconst 0, 1) := by decide +kernel
theorem dX11_isSame_3 : decode cX11_isSame 3 = .ok (.istore_n 3, 1) := by decide +kernel
theorem dX11_isSame_4 : decode cX11_isSame 4 = .ok (.iconst 0, 1) := by decide +kernel
theorem dX11_isSame_5 : decode cX11_isSame 5 = .ok (.istore 4, 2) := by decide +kernel
theorem dX11_isSame_7 : decode cX11_isSame 7 = .ok (.iload 4, 2) := by decide +kernel
theorem dX11_isSame_9 : decode cX11_isSame 9 = .ok (.aload_n 0, 1) := by decide +kernel
theorem dX11_isSame_10 : decode cX11_isSame 10 = .ok (.getfield 15, 3) := by decide +kernel
theorem dX11_isSame_13 : decode cX11_isSame 13 = .ok (.arraylength, 1) := by decide +kernel
theorem dX11_isSame_14 : decode cX11_isSame 14 = .ok (.if_icmp .ge 159, 3) := by decide +kernel
theorem dX11_isSame_17 : decode cX11_isSame 17 = .ok (.aload_n 0, 1) := by decide +kernel
theorem dX11_isSame_18 : decode cX11_isSame 18 = .ok (.getfield 15, 3) := by decide +kernel
theorem dX11_isSame_21 : decode cX11_isSame 21 = .ok (.iload 4, 2) := by decide +kernel
theorem dX11_isSame_23 : decode cX11_isSame 23 = .ok (.aaload, 1) := by decide +kernel
theorem dX11_isSame_24 : decode cX11_isSame 24 = .ok (.astore 5, 2) := by decide +kernel
theorem dX11_isSame_26 : decode cX11_isSame 26 = .ok (.bipush 10, 2) := by decide +kernel
theorem dX11_isSame_28 : decode cX11_isSame 28 = .ok (.newarray .int, 2) := by decide +kernel
theorem dX11_isSame_30 : decode cX11_isSame 30 = .ok (.dup, 1) := by decide +kernel
theorem dX11_isSame_31 : decode cX11_isSame 31 = .ok (.iconst 0, 1) := by decide +kernel
theorem dX11_isSame_32 : decode cX11_isSame 32 = .ok (.aload 5, 2) := by decide +kernel
theorem dX11_isSame_34 : decode cX11_isSame 34 = .ok (.iconst 0, 1) := by decide +kernel
theorem dX11_isSame_35 : decode cX11_isSame 35 = .ok (.iaload, 1) := by decide +kernel
theorem dX11_isSame_36 : decode cX11_isSame 36 = .ok (.iastore, 1) := by decide +kernel
theorem dX11_isSame_37 : decode cX11_isSame 37 = .ok (.dup, 1) := by decide +kernel
theorem dX11_isSame_38 : decode cX11_isSame 38 = .ok (.iconst 1, 1) := by decide +kernel
theorem dX11_isSame_39 : decode cX11_isSame 39 = .ok (.aload 5, 2) := by decide +kernel
theorem dX11_isSame_41 : decode cX11_isSame 41 = .ok (.iconst 1, 1) := by decide +kernel
theorem dX11_isSame_42 : decode cX11_isSame 42 = .ok (.iaload, 1) := by decide +kernel
theorem dX11_isSame_43 : decode cX11_isSame 43 = .ok (.iastore, 1) := by decide +kernel
theorem dX11_isSame_44 : decode cX11_isSame 44 = .ok (.dup, 1) := by decide +kernel
theorem dX11_isSame_45 : decode cX11_isSame 45 = .ok (.iconst 2, 1) := by decide +kernel
theorem dX11_isSame_46 : decode cX11_isSame 46 = .ok (.aload 5, 2) := by decide +kernel
theorem dX11_isSame_48 : decode cX11_isSame 48 = .ok (.iconst 2, 1) := by decide +kernel
theorem dX11_isSame_49 : decode cX11_isSame 49 = .ok (.iaload, 1) := by decide +kernel
theorem dX11_isSame_50 : decode cX11_isSame 50 = .ok (.iastore, 1) := by decide +kernel
theorem dX11_isSame_51 : decode cX11_isSame 51 = .ok (.dup, 1) := by decide +kernel
theorem dX11_isSame_52 : decode cX11_isSame 52 = .ok (.iconst 3, 1) := by decide +kernel
theorem dX11_isSame_53 : decode cX11_isSame 53 = .ok (.aload 5, 2) := by decide +kernel
theorem dX11_isSame_55 : decode cX11_isSame 55 = .ok (.iconst 3, 1) := by decide +kernel
theorem dX11_isSame_56 : decode cX11_isSame 56 = .ok (.iaload, 1) := by decide +kernel
theorem dX11_isSame_57 : decode cX11_isSame 57 = .ok (.iastore, 1) := by decide +kernel
theorem dX11_isSame_58 : decode cX11_isSame 58 = .ok (.dup, 1) := by decide +kernel
theorem dX11_isSame_59 : decode cX11_isSame 59 = .ok (.iconst 4, 1) := by decide +kernel
theorem dX11_isSame_60 : decode cX11_isSame 60 = .ok (.aload 5, 2) := by decide +kernel
theorem dX11_isSame_62 : decode cX11_isSame 62 = .ok (.iconst 4, 1) := by decide +kernel
theorem dX11_isSame_63 : decode cX11_isSame 63 = .ok (.iaload, 1) := by decide +kernel
theorem dX11_isSame_64 : decode cX11_isSame 64 = .ok (.iastore, 1) := by decide +kernel
theorem dX11_isSame_65 : decode cX11_isSame 65 = .ok (.dup, 1) := by decide +kernel
theorem dX11_isSame_66 : decode cX11_isSame 66 = .ok (.iconst 5, 1) := by decide +kernel
theorem dX11_isSame_67 : decode cX11_isSame 67 = .ok (.aload 5, 2) := by decide +kernel
theorem dX11_isSame_69 : decode cX11_isSame 69 = .ok (.iconst 5, 1) := by decide +kernel
theorem dX11_isSame_70 : decode cX11_isSame 70 = .ok (.iaload, 1) := by decide +kernel
theorem dX11_isSame_71 : decode cX11_isSame 71 = .ok (.iastore, 1) := by decide +kernel
theorem dX11_isSame_72 : decode cX11_isSame 72 = .ok (.dup, 1) := by decide +kernel
theorem dX11_isSame_73 : decode cX11_isSame 73 = .ok (.bipush 6, 2) := by decide +kernel
theorem dX11_isSame_75 : decode cX11_isSame 75 = .ok (.aload 5, 2) := by decide +kernel
theorem dX11_isSame_77 : decode cX11_isSame 77 = .ok (.bipush 6, 2) := by decide +kernel
theorem dX11_isSame_79 : decode cX11_isSame 79 = .ok (.iaload, 1) := by decide +kernel
theorem dX11_isSame_80 : decode cX11_isSame 80 = .ok (.iastore, 1) := by decide +kernel
theorem dX11_isSame_81 : decode cX11_isSame 81 = .ok (.dup, 1) := by decide +kernel
theorem dX11_isSame_82 : decode cX11_isSame 82 = .ok (.bipush 7, 2) := by decide +kernel
theorem dX11_isSame_84 : decode cX11_isSame 84 = .ok (.aload_n 0, 1) := by decide +kernel
theorem dX11_isSame_85 : decode cX11_isSame 85 = .ok (.iload 4, 2) := by decide +kernel
theorem dX11_isSame_87 : decode cX11_isSame 87 = .ok (.invokevirtual 31, 3) := by decide +kernel
theorem dX11_isSame_90 : decode cX11_isSame 90 = .ok (.iastore, 1) := by decide +kernel
theorem dX11_isSame_91 : decode cX11_isSame 91 = .ok (.dup, 1) := by decide +kernel
theorem dX11_isSame_92 : decode cX11_isSame 92 = .ok (.bipush 8, 2) := by decide +kernel
theorem dX11_isSame_94 : decode cX11_isSame 94 = .ok (.aload 5, 2) := by decide +kernel
theorem dX11_isSame_96 : decode cX11_isSame 96 = .ok (.bipush 7, 2) := by decide +kernel
theorem dX11_isSame_98 : decode cX11_isSame 98 = .ok (.iaload, 1) := by decide +kernel
theorem dX11_isSame_99 : decode cX11_isSame 99 = .ok (.iastore, 1) := by decide +kernel
theorem dX11_isSame_100 : decode cX11_isSame 100 = .ok (.dup, 1) := by decide +kernel
theorem dX11_isSame_101 : decode cX11_isSame 101 = .ok (.bipush 9, 2) := by decide +kernel
theorem dX11_isSame_103 : decode cX11_isSame 103 = .ok (.aload 5, 2) := by decide +kernel
theorem dX11_isSame_105 : decode cX11_isSame 105 = .ok (.bipush 8, 2) := by decide +kernel
theorem dX11_isSame_107 : decode cX11_isSame 107 = .ok (.iaload, 1) := by decide +kernel
theorem dX11_isSame_108 : decode cX11_isSame 108 = .ok (.iastore, 1) := by decide +kernel
theorem dX11_isSame_109 : decode cX11_isSame 109 = .ok (.astore 6, 2) := by decide +kernel
theorem dX11_isSame_111 : decode cX11_isSame 111 = .ok (.iconst 0, 1) := by decide +kernel
theorem dX11_isSame_112 : decode cX11_isSame 112 = .ok (.istore 7, 2) := by decide +kernel
theorem dX11_isSame_114 : decode cX11_isSame 114 = .ok (.iload 7, 2) := by decide +kernel
theorem dX11_isSame_116 : decode cX11_isSame 116 = .ok (.bipush 10, 2) := by decide +kernel
theorem dX11_isSame_118 : decode cX11_isSame 118 = .ok (.if_icmp .ge 27, 3) := by decide +kernel
theorem dX11_isSame_121 : decode cX11_isSame 121 = .ok (.aload_n 1, 1) := by decide +kernel
theorem dX11_isSame_122 : decode cX11_isSame 122 = .ok (.iload 4, 2) := by decide +kernel
theorem dX11_isSame_124 : decode cX11_isSame 124 = .ok (.iload 7, 2) := by decide +kernel
theorem dX11_isSame_126 : decode cX11_isSame 126 = .ok (.invokevirtual 87, 3) := by decide +kernel
theorem dX11_isSame_129 : decode cX11_isSame 129 = .ok (.aload 6, 2) := by decide +kernel
theorem dX11_isSame_131 : decode cX11_isSame 131 = .ok (.iload 7, 2) := by decide +kernel
theorem dX11_isSame_133 : decode cX11_isSame 133 = .ok (.iaload, 1) := by decide +kernel
theorem dX11_isSame_134 : decode cX11_isSame 134 = .ok (.if_icmp .eq 5, 3) := by decide +kernel
theorem dX11_isSame_137 : decode cX11_isSame 137 = .ok (.iconst 0, 1) := by decide +kernel
theorem dX11_isSame_138 : decode cX11_isSame 138 = .ok (.ireturn, 1) := by decide +kernel
theorem dX11_isSame_139 : decode cX11_isSame 139 = .ok (.iinc 7 1, 3) := by decide +kernel
theorem dX11_isSame_142 : decode cX11_isSame 142 = .ok (.goto (-28), 3) := by decide +kernel
theorem dX11_isSame_145 : decode cX11_isSame 145 = .ok (.iload_n 2, 1) := by decide +kernel
theorem dX11_isSame_146 : decode cX11_isSame 146 = .ok (.aload 5, 2) := by decide +kernel
theorem dX11_isSame_148 : decode cX11_isSame 148 = .ok (.iconst 4, 1) := by decide +kernel
theorem dX11_isSame_149 : decode cX11_isSame 149 = .ok (.iaload, 1) := by decide +kernel
theorem dX11_isSame_150 : decode cX11_isSame 150 = .ok (.ifCond .ge 7, 3) := by decide +kernel
theorem dX11_isSame_153 : decode cX11_isSame 153 = .ok (.iconst 0, 1) := by decide +kernel
theorem dX11_isSame_154 : decode cX11_isSame 154 = .ok (.goto 4, 3) := by decide +kernel
theorem dX11_isSame_157 : decode cX11_isSame 157 = .ok (.iconst 1, 1) := by decide +kernel
theorem dX11_isSame_158 : decode cX11_isSame 158 = .ok (.iadd, 1) := by decide +kernel
theorem dX11_isSame_159 : decode cX11_isSame 159 = .ok (.istore_n 2, 1) := by decide +kernel
theorem dX11_isSame_160 : decode cX11_isSame 160 = .ok (.iload_n 3, 1) := by decide +kernel
theorem dX11_isSame_161 : decode cX11_isSame 161 = .ok (.aload 5, 2) := by decide +kernel
theorem dX11_isSame_163 : decode cX11_isSame 163 = .ok (.iconst 1, 1) := by decide +kernel
theorem dX11_isSame_164 : decode cX11_isSame 164 = .ok (.iaload, 1) := by decide +kernel
theorem dX11_isSame_165 : decode cX11_isSame 165 = .ok (.iadd, 1) := by decide +kernel
theorem dX11_isSame_166 : decode cX11_isSame 166 = .ok (.istore_n 3, 1) := by decide +kernel
theorem dX11_isSame_167 : decode cX11_isSame 167 = .ok (.iinc 4 1, 3) := by decide +kernel
theorem dX11_isSame_170 : decode cX11_isSame 170 = .ok (.goto (-163), 3) := by decide +kernel
theorem dX11_isSame_173 : decode cX11_isSame 173 = .ok (.iconst 0, 1) := by decide +kernel
theorem dX11_isSame_174 : decode cX11_isSame 174 = .ok (.istore 4, 2) := by decide +kernel
theorem dX11_isSame_176 : decode cX11_isSame 176 = .ok (.iload 4, 2) := by decide +kernel
theorem dX11_isSame_178 : decode cX11_isSame 178 = .ok (.aload_n 0, 1) := by decide +kernel
theorem dX11_isSame_179 : decode cX11_isSame 179 = .ok (.getfield 9, 3) := by decide +kernel
theorem dX11_isSame_182 : decode cX11_isSame 182 = .ok (.arraylength, 1) := by decide +kernel
theorem dX11_isSame_183 : decode cX11_isSame 183 = .ok (.if_icmp .ge 194, 3) := by decide +kernel
theorem dX11_isSame_186 : decode cX11_isSame 186 = .ok (.iconst 0, 1) := by decide +kernel
theorem dX11_isSame_187 : decode cX11_isSame 187 = .ok (.istore 5, 2) := by decide +kernel
theorem dX11_isSame_189 : decode cX11_isSame 189 = .ok (.aload_n 0, 1) := by decide +kernel
theorem dX11_isSame_190 : decode cX11_isSame 190 = .ok (.getfield 15, 3) := by decide +kernel
theorem dX11_isSame_193 : decode cX11_isSame 193 = .ok (.astore 6, 2) := by decide +kernel
theorem dX11_isSame_195 : decode cX11_isSame 195 = .ok (.aload 6, 2) := by decide +kernel
theorem dX11_isSame_197 : decode cX11_isSame 197 = .ok (.arraylength, 1) := by decide +kernel
theorem dX11_isSame_198 : decode cX11_isSame 198 = .ok (.istore 7, 2) := by decide +kernel
theorem dX11_isSame_200 : decode cX11_isSame 200 = .ok (.iconst 0, 1) := by decide +kernel
theorem dX11_isSame_201 : decode cX11_isSame 201 = .ok (.istore 8, 2) := by decide +kernel
theorem dX11_isSame_203 : decode cX11_isSame 203 = .ok (.iload 8, 2) := by decide +kernel
theorem dX11_isSame_205 : decode cX11_isSame 205 = .ok (.iload 7, 2) := by decide +kernel
theorem dX11_isSame_207 : decode cX11_isSame 207 = .ok (.if_icmp .ge 35, 3) := by decide +kernel
theorem dX11_isSame_210 : decode cX11_isSame 210 = .ok (.aload 6, 2) := by decide +kernel
theorem dX11_isSame_212 : decode cX11_isSame 212 = .ok (.iload 8, 2) := by decide +kernel
theorem dX11_isSame_214 : decode cX11_isSame 214 = .ok (.aaload, 1) := by decide +kernel
theorem dX11_isSame_215 : decode cX11_isSame 215 = .ok (.astore 9, 2) := by decide +kernel
theorem dX11_isSame_217 : decode cX11_isSame 217 = .ok (.iload 5, 2) := by decide +kernel
theorem dX11_isSame_219 : decode cX11_isSame 219 = .ok (.aload 9, 2) := by decide +kernel
theorem dX11_isSame_221 : decode cX11_isSame 221 = .ok (.iconst 4, 1) := by decide +kernel
theorem dX11_isSame_222 : decode cX11_isSame 222 = .ok (.iaload, 1) := by decide +kernel
theorem dX11_isSame_223 : decode cX11_isSame 223 = .ok (.iload 4, 2) := by decide +kernel
theorem dX11_isSame_225 : decode cX11_isSame 225 = .ok (.if_icmp .ne 7, 3) := by decide +kernel
theorem dX11_isSame_228 : decode cX11_isSame 228 = .ok (.iconst 1, 1) := by decide +kernel
theorem dX11_isSame_229 : decode cX11_isSame 229 = .ok (.goto 4, 3) := by decide +kernel
theorem dX11_isSame_232 : decode cX11_isSame 232 = .ok (.iconst 0, 1) := by decide +kernel
theorem dX11_isSame_233 : decode cX11_isSame 233 = .ok (.iadd, 1) := by decide +kernel
theorem dX11_isSame_234 : decode cX11_isSame 234 = .ok (.istore 5, 2) := by decide +kernel
theorem dX11_isSame_236 : decode cX11_isSame 236 = .ok (.iinc 8 1, 3) := by decide +kernel
theorem dX11_isSame_239 : decode cX11_isSame 239 = .ok (.goto (-36), 3) := by decide +kernel
theorem dX11_isSame_242 : decode cX11_isSame 242 = .ok (.iconst 5, 1) := by decide +kernel
theorem dX11_isSame_243 : decode cX11_isSame 243 = .ok (.newarray .int, 2) := by decide +kernel
theorem dX11_isSame_245 : decode cX11_isSame 245 = .ok (.dup, 1) := by decide +kernel
theorem dX11_isSame_246 : decode cX11_isSame 246 = .ok (.iconst 0, 1) := by decide +kernel
theorem dX11_isSame_247 : decode cX11_isSame 247 = .ok (.aload_n 0, 1) := by decide +kernel
theorem dX11_isSame_248 : decode cX11_isSame 248 = .ok (.getfield 9, 3) := by decide +kernel
theorem dX11_isSame_251 : decode cX11_isSame 251 = .ok (.iload 4, 2) := by decide +kernel
theorem dX11_isSame_253 : decode cX11_isSame 253 = .ok (.aaload, 1) := by decide +kernel
theorem dX11_isSame_254 : decode cX11_isSame 254 = .ok (.iconst 0, 1) := by decide +kernel
theorem dX11_isSame_255 : decode cX11_isSame 255 = .ok (.iaload, 1) := by decide +kernel
theorem dX11_isSame_256 : decode cX11_isSame 256 = .ok (.iastore, 1) := by decide +kernel
theorem dX11_isSame_257 : decode cX11_isSame 257 = .ok (.dup, 1) := by decide +kernel
theorem dX11_isSame_258 : decode cX11_isSame 258 = .ok (.iconst 1, 1) := by decide +kernel
theorem dX11_isSame_259 : decode cX11_isSame 259 = .ok (.aload_n 0, 1) := by decide +kernel
theorem dX11_isSame_260 : decode cX11_isSame 260 = .ok (.getfield 9, 3) := by decide +kernel
theorem dX11_isSame_263 : decode cX11_isSame 263 = .ok (.iload 4, 2) := by decide +kernel
theorem dX11_isSame_265 : decode cX11_isSame 265 = .ok (.aaload, 1) := by decide +kernel
theorem dX11_isSame_266 : decode cX11_isSame 266 = .ok (.iconst 1, 1) := by decide +kernel
theorem dX11_isSame_267 : decode cX11_isSame 267 = .ok (.iaload, 1) := by decide +kernel
theorem dX11_isSame_268 : decode cX11_isSame 268 = .ok (.iastore, 1) := by decide +kernel
theorem dX11_isSame_269 : decode cX11_isSame 269 = .ok (.dup, 1) := by decide +kernel
theorem dX11_isSame_270 : decode cX11_isSame 270 = .ok (.iconst 2, 1) := by decide +kernel
theorem dX11_isSame_271 : decode cX11_isSame 271 = .ok (.aload_n 0, 1) := by decide +kernel
theorem dX11_isSame_272 : decode cX11_isSame 272 = .ok (.getfield 9, 3) := by decide +kernel
theorem dX11_isSame_275 : decode cX11_isSame 275 = .ok (.iload 4, 2) := by decide +kernel
theorem dX11_isSame_277 : decode cX11_isSame 277 = .ok (.aaload, 1) := by decide +kernel
theorem dX11_isSame_278 : decode cX11_isSame 278 = .ok (.iconst 2, 1) := by decide +kernel
theorem dX11_isSame_279 : decode cX11_isSame 279 = .ok (.iaload, 1) := by decide +kernel
theorem dX11_isSame_280 : decode cX11_isSame 280 = .ok (.iastore, 1) := by decide +kernel
theorem dX11_isSame_281 : decode cX11_isSame 281 = .ok (.dup, 1) := by decide +kernel
theorem dX11_isSame_282 : decode cX11_isSame 282 = .ok (.iconst 3, 1) := by decide +kernel
theorem dX11_isSame_283 : decode cX11_isSame 283 = .ok (.iload 5, 2) := by decide +kernel
theorem dX11_isSame_285 : decode cX11_isSame 285 = .ok (.iastore, 1) := by decide +kernel
theorem dX11_isSame_286 : decode cX11_isSame 286 = .ok (.dup, 1) := by decide +kernel
theorem dX11_isSame_287 : decode cX11_isSame 287 = .ok (.iconst 4, 1) := by decide +kernel
theorem dX11_isSame_288 : decode cX11_isSame 288 = .ok (.aload_n 0, 1) := by decide +kernel
theorem dX11_isSame_289 : decode cX11_isSame 289 = .ok (.iconst 2, 1) := by decide +kernel
theorem dX11_isSame_290 : decode cX11_isSame 290 = .ok (.iload 4, 2) := by decide +kernel
theorem dX11_isSame_292 : decode cX11_isSame 292 = .ok (.invokevirtual 50, 3) := by decide +kernel
theorem dX11_isSame_295 : decode cX11_isSame 295 = .ok (.iastore, 1) := by decide +kernel
theorem dX11_isSame_296 : decode cX11_isSame 296 = .ok (.astore 6, 2) := by decide +kernel
theorem dX11_isSame_298 : decode cX11_isSame 298 = .ok (.iconst 0, 1) := by decide +kernel
theorem dX11_isSame_299 : decode cX11_isSame 299 = .ok (.istore 7, 2) := by decide +kernel
theorem dX11_isSame_301 : decode cX11_isSame 301 = .ok (.iload 7, 2) := by decide +kernel
theorem dX11_isSame_303 : decode cX11_isSame 303 = .ok (.iconst 5, 1) := by decide +kernel
theorem dX11_isSame_304 : decode cX11_isSame 304 = .ok (.if_icmp .ge 27, 3) := by decide +kernel
theorem dX11_isSame_307 : decode cX11_isSame 307 = .ok (.aload_n 1, 1) := by decide +kernel
theorem dX11_isSame_308 : decode cX11_isSame 308 = .ok (.iload 4, 2) := by decide +kernel
theorem dX11_isSame_310 : decode cX11_isSame 310 = .ok (.iload 7, 2) := by decide +kernel
theorem dX11_isSame_312 : decode cX11_isSame 312 = .ok (.invokevirtual 91, 3) := by decide +kernel
theorem dX11_isSame_315 : decode cX11_isSame 315 = .ok (.aload 6, 2) := by decide +kernel
theorem dX11_isSame_317 : decode cX11_isSame 317 = .ok (.iload 7, 2) := by decide +kernel
theorem dX11_isSame_319 : decode cX11_isSame 319 = .ok (.iaload, 1) := by decide +kernel
theorem dX11_isSame_320 : decode cX11_isSame 320 = .ok (.if_icmp .eq 5, 3) := by decide +kernel
theorem dX11_isSame_323 : decode cX11_isSame 323 = .ok (.iconst 0, 1) := by decide +kernel
theorem dX11_isSame_324 : decode cX11_isSame 324 = .ok (.ireturn, 1) := by decide +kernel
theorem dX11_isSame_325 : decode cX11_isSame 325 = .ok (.iinc 7 1, 3) := by decide +kernel
theorem dX11_isSame_328 : decode cX11_isSame 328 = .ok (.goto (-27), 3) := by decide +kernel
theorem dX11_isSame_331 : decode cX11_isSame 331 = .ok (.iconst 0, 1) := by decide +kernel
theorem dX11_isSame_332 : decode cX11_isSame 332 = .ok (.istore 7, 2) := by decide +kernel
theorem dX11_isSame_334 : decode cX11_isSame 334 = .ok (.iload 7, 2) := by decide +kernel
theorem dX11_isSame_336 : decode cX11_isSame 336 = .ok (.aload_n 0, 1) := by decide +kernel
theorem dX11_isSame_337 : decode cX11_isSame 337 = .ok (.getfield 15, 3) := by decide +kernel
theorem dX11_isSame_340 : decode cX11_isSame 340 = .ok (.arraylength, 1) := by decide +kernel
theorem dX11_isSame_341 : decode cX11_isSame 341 = .ok (.if_icmp .ge 30, 3) := by decide +kernel
theorem dX11_isSame_344 : decode cX11_isSame 344 = .ok (.aload_n 1, 1) := by decide +kernel
theorem dX11_isSame_345 : decode cX11_isSame 345 = .ok (.iload 7, 2) := by decide +kernel
theorem dX11_isSame_347 : decode cX11_isSame 347 = .ok (.iload 4, 2) := by decide +kernel
theorem dX11_isSame_349 : decode cX11_isSame 349 = .ok (.invokevirtual 94, 3) := by decide +kernel
theorem dX11_isSame_352 : decode cX11_isSame 352 = .ok (.aload_n 0, 1) := by decide +kernel
theorem dX11_isSame_353 : decode cX11_isSame 353 = .ok (.iload 7, 2) := by decide +kernel
theorem dX11_isSame_355 : decode cX11_isSame 355 = .ok (.iload 4, 2) := by decide +kernel
theorem dX11_isSame_357 : decode cX11_isSame 357 = .ok (.invokevirtual 65, 3) := by decide +kernel
theorem dX11_isSame_360 : decode cX11_isSame 360 = .ok (.if_icmp .eq 5, 3) := by decide +kernel
theorem dX11_isSame_363 : decode cX11_isSame 363 = .ok (.iconst 0, 1) := by decide +kernel
theorem dX11_isSame_364 : decode cX11_isSame 364 = .ok (.ireturn, 1) := by decide +kernel
theorem dX11_isSame_365 : decode cX11_isSame 365 = .ok (.iinc 7 1, 3) := by decide +kernel
theorem dX11_isSame_368 : decode cX11_isSame 368 = .ok (.goto (-34), 3) := by decide +kernel
theorem dX11_isSame_371 : decode cX11_isSame 371 = .ok (.iinc 4 1, 3) := by decide +kernel
theorem dX11_isSame_374 : decode cX11_isSame 374 = .ok (.goto (-198), 3) := by decide +kernel
theorem dX11_isSame_377 : decode cX11_isSame 377 = .ok (.iconst 0, 1) := by decide +kernel
theorem dX11_isSame_378 : decode cX11_isSame 378 = .ok (.istore 4, 2) := by decide +kernel
theorem dX11_isSame_380 : decode cX11_isSame 380 = .ok (.iload 4, 2) := by decide +kernel
theorem dX11_isSame_382 : decode cX11_isSame 382 = .ok (.aload_n 0, 1) := by decide +kernel
theorem dX11_isSame_383 : decode cX11_isSame 383 = .ok (.getfield 18, 3) := by decide +kernel
theorem dX11_isSame_386 : decode cX11_isSame 386 = .ok (.arraylength, 1) := by decide +kernel
theorem dX11_isSame_387 : decode cX11_isSame 387 = .ok (.if_icmp .ge 47, 3) := by decide +kernel
theorem dX11_isSame_390 : decode cX11_isSame 390 = .ok (.iconst 0, 1) := by decide +kernel
theorem dX11_isSame_391 : decode cX11_isSame 391 = .ok (.istore 5, 2) := by decide +kernel
theorem dX11_isSame_393 : decode cX11_isSame 393 = .ok (.iload 5, 2) := by decide +kernel
theorem dX11_isSame_395 : decode cX11_isSame 395 = .ok (.iconst 4, 1) := by decide +kernel
theorem dX11_isSame_396 : decode cX11_isSame 396 = .ok (.if_icmp .ge 32, 3) := by decide +kernel
theorem dX11_isSame_399 : decode cX11_isSame 399 = .ok (.aload_n 1, 1) := by decide +kernel
theorem dX11_isSame_400 : decode cX11_isSame 400 = .ok (.iload 4, 2) := by decide +kernel
theorem dX11_isSame_402 : decode cX11_isSame 402 = .ok (.iload 5, 2) := by decide +kernel
theorem dX11_isSame_404 : decode cX11_isSame 404 = .ok (.invokevirtual 95, 3) := by decide +kernel
theorem dX11_isSame_407 : decode cX11_isSame 407 = .ok (.aload_n 0, 1) := by decide +kernel
theorem dX11_isSame_408 : decode cX11_isSame 408 = .ok (.getfield 18, 3) := by decide +kernel
theorem dX11_isSame_411 : decode cX11_isSame 411 = .ok (.iload 4, 2) := by decide +kernel
theorem dX11_isSame_413 : decode cX11_isSame 413 = .ok (.aaload, 1) := by decide +kernel
theorem dX11_isSame_414 : decode cX11_isSame 414 = .ok (.iload 5, 2) := by decide +kernel
theorem dX11_isSame_416 : decode cX11_isSame 416 = .ok (.iaload, 1) := by decide +kernel
theorem dX11_isSame_417 : decode cX11_isSame 417 = .ok (.if_icmp .eq 5, 3) := by decide +kernel
theorem dX11_isSame_420 : decode cX11_isSame 420 = .ok (.iconst 0, 1) := by decide +kernel
theorem dX11_isSame_421 : decode cX11_isSame 421 = .ok (.ireturn, 1) := by decide +kernel
theorem dX11_isSame_422 : decode cX11_isSame 422 = .ok (.iinc 5 1, 3) := by decide +kernel
theorem dX11_isSame_425 : decode cX11_isSame 425 = .ok (.goto (-32), 3) := by decide +kernel
theorem dX11_isSame_428 : decode cX11_isSame 428 = .ok (.iinc 4 1, 3) := by decide +kernel
theorem dX11_isSame_431 : decode cX11_isSame 431 = .ok (.goto (-51), 3) := by decide +kernel
theorem dX11_isSame_434 : decode cX11_isSame 434 = .ok (.bipush 13, 2) := by decide +kernel
theorem dX11_isSame_436 : decode cX11_isSame 436 = .ok (.newarray .int, 2) := by decide +kernel
theorem dX11_isSame_438 : decode cX11_isSame 438 = .ok (.dup, 1) := by decide +kernel
theorem dX11_isSame_439 : decode cX11_isSame 439 = .ok (.iconst 0, 1) := by decide +kernel
theorem dX11_isSame_440 : decode cX11_isSame 440 = .ok (.aload_n 0, 1) := by decide +kernel
theorem dX11_isSame_441 : decode cX11_isSame 441 = .ok (.getfield 44, 3) := by decide +kernel
theorem dX11_isSame_444 : decode cX11_isSame 444 = .ok (.iastore, 1) := by decide +kernel
theorem dX11_isSame_445 : decode cX11_isSame 445 = .ok (.dup, 1) := by decide +kernel
theorem dX11_isSame_446 : decode cX11_isSame 446 = .ok (.iconst 1, 1) := by decide +kernel
theorem dX11_isSame_447 : decode cX11_isSame 447 = .ok (.aload_n 0, 1) := by decide +kernel
theorem dX11_isSame_448 : decode cX11_isSame 448 = .ok (.getfield 40, 3) := by decide +kernel
theorem dX11_isSame_451 : decode cX11_isSame 451 = .ok (.iastore, 1) := by decide +kernel
theorem dX11_isSame_452 : decode cX11_isSame 452 = .ok (.dup, 1) := by decide +kernel
theorem dX11_isSame_453 : decode cX11_isSame 453 = .ok (.iconst 2, 1) := by decide +kernel
theorem dX11_isSame_454 : decode cX11_isSame 454 = .ok (.aload_n 0, 1) := by decide +kernel
theorem dX11_isSame_455 : decode cX11_isSame 455 = .ok (.getfield 9, 3) := by decide +kernel
theorem dX11_isSame_458 : decode cX11_isSame 458 = .ok (.arraylength, 1) := by decide +kernel
theorem dX11_isSame_459 : decode cX11_isSame 459 = .ok (.iastore, 1) := by decide +kernel
theorem dX11_isSame_460 : decode cX11_isSame 460 = .ok (.dup, 1) := by decide +kernel
theorem dX11_isSame_461 : decode cX11_isSame 461 = .ok (.iconst 3, 1) := by decide +kernel
theorem dX11_isSame_462 : decode cX11_isSame 462 = .ok (.aload_n 0, 1) := by decide +kernel
theorem dX11_isSame_463 : decode cX11_isSame 463 = .ok (.getfield 15, 3) := by decide +kernel
theorem dX11_isSame_466 : decode cX11_isSame 466 = .ok (.arraylength, 1) := by decide +kernel
theorem dX11_isSame_467 : decode cX11_isSame 467 = .ok (.iastore, 1) := by decide +kernel
theorem dX11_isSame_468 : decode cX11_isSame 468 = .ok (.dup, 1) := by decide +kernel
theorem dX11_isSame_469 : decode cX11_isSame 469 = .ok (.iconst 4, 1) := by decide +kernel
theorem dX11_isSame_470 : decode cX11_isSame 470 = .ok (.aload_n 0, 1) := by decide +kernel
theorem dX11_isSame_471 : decode cX11_isSame 471 = .ok (.getfield 18, 3) := by decide +kernel
theorem dX11_isSame_474 : decode cX11_isSame 474 = .ok (.arraylength, 1) := by decide +kernel
theorem dX11_isSame_475 : decode cX11_isSame 475 = .ok (.iastore, 1) := by decide +kernel
theorem dX11_isSame_476 : decode cX11_isSame 476 = .ok (.dup, 1) := by decide +kernel
theorem dX11_isSame_477 : decode cX11_isSame 477 = .ok (.iconst 5, 1) := by decide +kernel
theorem dX11_isSame_478 : decode cX11_isSame 478 = .ok (.aload_n 0, 1) := by decide +kernel
theorem dX11_isSame_479 : decode cX11_isSame 479 = .ok (.iconst 0, 1) := by decide +kernel
theorem dX11_isSame_480 : decode cX11_isSame 480 = .ok (.iconst (-1), 1) := by decide +kernel
theorem dX11_isSame_481 : decode cX11_isSame 481 = .ok (.invokevirtual 27, 3) := by decide +kernel
theorem dX11_isSame_484 : decode cX11_isSame 484 = .ok (.iastore, 1) := by decide +kernel
theorem dX11_isSame_485 : decode cX11_isSame 485 = .ok (.dup, 1) := by decide +kernel
theorem dX11_isSame_486 : decode cX11_isSame 486 = .ok (.bipush 6, 2) := by decide +kernel
theorem dX11_isSame_488 : decode cX11_isSame 488 = .ok (.aload_n 0, 1) := by decide +kernel
theorem dX11_isSame_489 : decode cX11_isSame 489 = .ok (.iconst 3, 1) := by decide +kernel
theorem dX11_isSame_490 : decode cX11_isSame 490 = .ok (.iconst (-1), 1) := by decide +kernel
theorem dX11_isSame_491 : decode cX11_isSame 491 = .ok (.invokevirtual 27, 3) := by decide +kernel
theorem dX11_isSame_494 : decode cX11_isSame 494 = .ok (.iastore, 1) := by decide +kernel
theorem dX11_isSame_495 : decode cX11_isSame 495 = .ok (.dup, 1) := by decide +kernel
theorem dX11_isSame_496 : decode cX11_isSame 496 = .ok (.bipush 7, 2) := by decide +kernel
theorem dX11_isSame_498 : decode cX11_isSame 498 = .ok (.aload_n 0, 1) := by decide +kernel
theorem dX11_isSame_499 : decode cX11_isSame 499 = .ok (.iconst 3, 1) := by decide +kernel
theorem dX11_isSame_500 : decode cX11_isSame 500 = .ok (.iconst (-1), 1) := by decide +kernel
theorem dX11_isSame_501 : decode cX11_isSame 501 = .ok (.invokevirtual 50, 3) := by decide +kernel
theorem dX11_isSame_504 : decode cX11_isSame 504 = .ok (.iastore, 1) := by decide +kernel
theorem dX11_isSame_505 : decode cX11_isSame 505 = .ok (.dup, 1) := by decide +kernel
theorem dX11_isSame_506 : decode cX11_isSame 506 = .ok (.bipush 8, 2) := by decide +kernel
theorem dX11_isSame_508 : decode cX11_isSame 508 = .ok (.aload_n 0, 1) := by decide +kernel
theorem dX11_isSame_509 : decode cX11_isSame 509 = .ok (.iconst 2, 1) := by decide +kernel
theorem dX11_isSame_510 : decode cX11_isSame 510 = .ok (.iconst (-1), 1) := by decide +kernel
theorem dX11_isSame_511 : decode cX11_isSame 511 = .ok (.invokevirtual 50, 3) := by decide +kernel
theorem dX11_isSame_514 : decode cX11_isSame 514 = .ok (.iastore, 1) := by decide +kernel
theorem dX11_isSame_515 : decode cX11_isSame 515 = .ok (.dup, 1) := by decide +kernel
theorem dX11_isSame_516 : decode cX11_isSame 516 = .ok (.bipush 9, 2) := by decide +kernel
theorem dX11_isSame_518 : decode cX11_isSame 518 = .ok (.iload_n 2, 1) := by decide +kernel
theorem dX11_isSame_519 : decode cX11_isSame 519 = .ok (.iastore, 1) := by decide +kernel
theorem dX11_isSame_520 : decode cX11_isSame 520 = .ok (.dup, 1) := by decide +kernel
theorem dX11_isSame_521 : decode cX11_isSame 521 = .ok (.bipush 10, 2) := by decide +kernel
theorem dX11_isSame_523 : decode cX11_isSame 523 = .ok (.iload_n 3, 1) := by decide +kernel
theorem dX11_isSame_524 : decode cX11_isSame 524 = .ok (.iastore, 1) := by decide +kernel
theorem dX11_isSame_525 : decode cX11_isSame 525 = .ok (.dup, 1) := by decide +kernel
theorem dX11_isSame_526 : decode cX11_isSame 526 = .ok (.bipush 11, 2) := by decide +kernel
theorem dX11_isSame_528 : decode cX11_isSame 528 = .ok (.aload_n 0, 1) := by decide +kernel
theorem dX11_isSame_529 : decode cX11_isSame 529 = .ok (.getfield 68, 3) := by decide +kernel
theorem dX11_isSame_532 : decode cX11_isSame 532 = .ok (.iastore, 1) := by decide +kernel
theorem dX11_isSame_533 : decode cX11_isSame 533 = .ok (.dup, 1) := by decide +kernel
theorem dX11_isSame_534 : decode cX11_isSame 534 = .ok (.bipush 12, 2) := by decide +kernel
theorem dX11_isSame_536 : decode cX11_isSame 536 = .ok (.iconst 0, 1) := by decide +kernel
theorem dX11_isSame_537 : decode cX11_isSame 537 = .ok (.iastore, 1) := by decide +kernel
theorem dX11_isSame_538 : decode cX11_isSame 538 = .ok (.astore 4, 2) := by decide +kernel
theorem dX11_isSame_540 : decode cX11_isSame 540 = .ok (.iconst 0, 1) := by decide +kernel
theorem dX11_isSame_541 : decode cX11_isSame 541 = .ok (.istore 5, 2) := by decide +kernel
theorem dX11_isSame_543 : decode cX11_isSame 543 = .ok (.iload 5, 2) := by decide +kernel
theorem dX11_isSame_545 : decode cX11_isSame 545 = .ok (.bipush 13, 2) := by decide +kernel
theorem dX11_isSame_547 : decode cX11_isSame 547 = .ok (.if_icmp .ge 25, 3) := by decide +kernel
theorem dX11_isSame_550 : decode cX11_isSame 550 = .ok (.aload_n 1, 1) := by decide +kernel
theorem dX11_isSame_551 : decode cX11_isSame 551 = .ok (.iload 5, 2) := by decide +kernel
theorem dX11_isSame_553 : decode cX11_isSame 553 = .ok (.invokevirtual 97, 3) := by decide +kernel
theorem dX11_isSame_556 : decode cX11_isSame 556 = .ok (.aload 4, 2) := by decide +kernel
theorem dX11_isSame_558 : decode cX11_isSame 558 = .ok (.iload 5, 2) := by decide +kernel
theorem dX11_isSame_560 : decode cX11_isSame 560 = .ok (.iaload, 1) := by decide +kernel
theorem dX11_isSame_561 : decode cX11_isSame 561 = .ok (.if_icmp .eq 5, 3) := by decide +kernel
theorem dX11_isSame_564 : decode cX11_isSame 564 = .ok (.iconst 0, 1) := by decide +kernel
theorem dX11_isSame_565 : decode cX11_isSame 565 = .ok (.ireturn, 1) := by decide +kernel
theorem dX11_isSame_566 : decode cX11_isSame 566 = .ok (.iinc 5 1, 3) := by decide +kernel
theorem dX11_isSame_569 : decode cX11_isSame 569 = .ok (.goto (-26), 3) := by decide +kernel
theorem dX11_isSame_572 : decode cX11_isSame 572 = .ok (.aload_n 1, 1) := by decide +kernel
theorem dX11_isSame_573 : decode cX11_isSame 573 = .ok (.invokevirtual 100, 3) := by decide +kernel
theorem dX11_isSame_576 : decode cX11_isSame 576 = .ok (.aload_n 0, 1) := by decide +kernel
theorem dX11_isSame_577 : decode cX11_isSame 577 = .ok (.iconst 3, 1) := by decide +kernel
theorem dX11_isSame_578 : decode cX11_isSame 578 = .ok (.iconst (-1), 1) := by decide +kernel
theorem dX11_isSame_579 : decode cX11_isSame 579 = .ok (.invokevirtual 50, 3) := by decide +kernel
theorem dX11_isSame_582 : decode cX11_isSame 582 = .ok (.ifCond .ne 7, 3) := by decide +kernel
theorem dX11_isSame_585 : decode cX11_isSame 585 = .ok (.dconst 0, 1) := by decide +kernel
theorem dX11_isSame_586 : decode cX11_isSame 586 = .ok (.goto 18, 3) := by decide +kernel
theorem dX11_isSame_589 : decode cX11_isSame 589 = .ok (.aload_n 0, 1) := by decide +kernel
theorem dX11_isSame_590 : decode cX11_isSame 590 = .ok (.iconst 3, 1) := by decide +kernel
theorem dX11_isSame_591 : decode cX11_isSame 591 = .ok (.iconst (-1), 1) := by decide +kernel
theorem dX11_isSame_592 : decode cX11_isSame 592 = .ok (.invokevirtual 27, 3) := by decide +kernel
theorem dX11_isSame_595 : decode cX11_isSame 595 = .ok (.i2d, 1) := by decide +kernel
theorem dX11_isSame_596 : decode cX11_isSame 596 = .ok (.aload_n 0, 1) := by decide +kernel
theorem dX11_isSame_597 : decode cX11_isSame 597 = .ok (.iconst 3, 1) := by decide +kernel
theorem dX11_isSame_598 : decode cX11_isSame 598 = .ok (.iconst (-1), 1) := by decide +kernel
theorem dX11_isSame_599 : decode cX11_isSame 599 = .ok (.invokevirtual 50, 3) := by decide +kernel
theorem dX11_isSame_602 : decode cX11_isSame 602 = .ok (.i2d, 1) := by decide +kernel
theorem dX11_isSame_603 : decode cX11_isSame 603 = .ok (.ddiv, 1) := by decide +kernel
theorem dX11_isSame_604 : decode cX11_isSame 604 = .ok (.dcmp .l, 1) := by decide +kernel
theorem dX11_isSame_605 : decode cX11_isSame 605 = .ok (.ifCond .ne 7, 3) := by decide +kernel
theorem dX11_isSame_608 : decode cX11_isSame 608 = .ok (.iconst 1, 1) := by decide +kernel
theorem dX11_isSame_609 : decode cX11_isSame 609 = .ok (.goto 4, 3) := by decide +kernel
theorem dX11_isSame_612 : decode cX11_isSame 612 = .ok (.iconst 0, 1) := by decide +kernel
theorem dX11_isSame_613 : decode cX11_isSame 613 = .ok (.ireturn, 1) := by decide +kernel
theorem dJ5_init_d00df_0 : decode cJ5_init_d00df 0 = .ok (.aload_n 0, 1) := by decide +kernel
theorem dJ5_init_d00df_1 : decode cJ5_init_d00df 1 = .ok (.invokespecial 3, 3) := by decide +kernel
theorem dJ5_init_d00df_4 : decode cJ5_init_d00df 4 = .ok (.getstatic 18, 3) := by decide +kernel
theorem dJ5_init_d00df_7 : decode cJ5_init_d00df 7 = .ok (.ifCond .eq 18, 3) := by decide +kernel
theorem dJ5_init_d00df_10 : decode cJ5_init_d00df 10 = .ok (.aload_n 0, 1) := by decide +kernel
theorem dJ5_init_d00df_11 : decode cJ5_init_d00df 11 = .ok (.iload_n 1, 1) := by decide +kernel
theorem dJ5_init_d00df_12 : decode cJ5_init_d00df 12 = .ok (.newarray .byte, 2) := by decide +kernel
theorem dJ5_init_d00df_14 : decode cJ5_init_d00df 14 = .ok (.putfield 15, 3) := by decide +kernel
theorem dJ5_init_d00df_17 : decode cJ5_init_d00df 17 = .ok (.aload_n 0, 1) := by decide +kernel
theorem dJ5_init_d00df_18 : decode cJ5_init_d00df 18 = .ok (.iconst 0, 1) := by decide +kernel
theorem dJ5_init_d00df_19 : decode cJ5_init_d00df 19 = .ok (.putfield 22, 3) := by decide +kernel
theorem dJ5_init_d00df_22 : decode cJ5_init_d00df 22 = .ok (.goto 16, 3) := by decide +kernel
theorem dJ5_init_d00df_25 : decode cJ5_init_d00df 25 = .ok (.aload_n 0, 1) := by decide +kernel
theorem dJ5_init_d00df_26 : decode cJ5_init_d00df 26 = .ok (.iload_n 1, 1) := by decide +kernel
theorem dJ5_init_d00df_27 : decode cJ5_init_d00df 27 = .ok (.invokestatic 26, 3) := by decide +kernel
theorem dJ5_init_d00df_30 : decode cJ5_init_d00df 30 = .ok (.putfield 15, 3) := by decide +kernel
theorem dJ5_init_d00df_33 : decode cJ5_init_d00df 33 = .ok (.aload_n 0, 1) := by decide +kernel
theorem dJ5_init_d00df_34 : decode cJ5_init_d00df 34 = .ok (.iconst 1, 1) := by decide +kernel
theorem dJ5_init_d00df_35 : decode cJ5_init_d00df 35 = .ok (.putfield 22, 3) := by decide +kernel
theorem dJ5_init_d00df_38 : decode cJ5_init_d00df 38 = .ok (.return_, 1) := by decide +kernel
theorem dJ5_length_8abf5_0 : decode cJ5_length_8abf5 0 = .ok (.aload_n 0, 1) := by decide +kernel
theorem dJ5_length_8abf5_1 : decode cJ5_length_8abf5 1 = .ok (.getfield 79, 3) := by decide +kernel
theorem dJ5_length_8abf5_4 : decode cJ5_length_8abf5 4 = .ok (.ireturn, 1) := by decide +kernel
theorem dJ5_ensureCapacityInternal_d00df_0 : decode cJ5_ensureCapacityInternal_d00df 0 = .ok (.aload_n 0, 1) := by decide +kernel
theorem dJ5_ensureCapacityInternal_d00df_1 : decode cJ5_ensureCapacityInternal_d00df 1 = .ok (.getfield 15, 3) := by decide +kernel
theorem dJ5_ensureCapacityInternal_d00df_4 : decode cJ5_ensureCapacityInternal_d00df 4 = .ok (.arraylength, 1) := by decide +kernel
theorem dJ5_ensureCapacityInternal_d00df_5 : decode cJ5_ensureCapacityInternal_d00df 5 = .ok (.aload_n 0, 1) := by decide +kernel
theorem dJ5_ensureCapacityInternal_d00df_6 : decode cJ5_ensureCapacityInternal_d00df 6 = .ok (.getfield 22, 3) := by decide +kernel
theorem dJ5_ensureCapacityInternal_d00df_9 : decode cJ5_ensureCapacityInternal_d00df 9 = .ok (.ishr, 1) := by decide +kernel
theorem dJ5_ensureCapacityInternal_d00df_10 : decode cJ5_ensureCapacityInternal_d00df 10 = .ok (.istore_n 2, 1) := by decide +kernel
theorem dJ5_ensureCapacityInternal_d00df_11 : decode cJ5_ensureCapacityInternal_d00df 11 = .ok (.iload_n 1, 1) := by decide +kernel
theorem dJ5_ensureCapacityInternal_d00df_12 : decode cJ5_ensureCapacityInternal_d00df 12 = .ok (.iload_n 2, 1) := by decide +kernel
theorem dJ5_ensureCapacityInternal_d00df_13 : decode cJ5_ensureCapacityInternal_d00df 13 = .ok (.isub, 1) := by decide +kernel
theorem dJ5_ensureCapacityInternal_d00df_14 : decode cJ5_ensureCapacityInternal_d00df 14 = .ok (.ifCond .le 24, 3) := by decide +kernel
theorem dJ5_ensureCapacityInternal_d00df_17 : decode cJ5_ensureCapacityInternal_d00df 17 = .ok (.aload_n 0, 1) := by decide +kernel
theorem dJ5_ensureCapacityInternal_d00df_18 : decode cJ5_ensureCapacityInternal_d00df 18 = .ok (.aload_n 0, 1) := by decide +kernel
theorem dJ5_ensureCapacityInternal_d00df_19 : decode cJ5_ensureCapacityInternal_d00df 19 = .ok (.getfield 15, 3) := by decide +kernel
theorem dJ5_ensureCapacityInternal_d00df_22 : decode cJ5_ensureCapacityInternal_d00df 22 = .ok (.aload_n 0, 1) := by decide +kernel
theorem dJ5_ensureCapacityInternal_d00df_23 : decode cJ5_ensureCapacityInternal_d00df 23 = .ok (.iload_n 1, 1) := by decide +kernel
theorem dJ5_ensureCapacityInternal_d00df_24 : decode cJ5_ensureCapacityInternal_d00df 24 = .ok (.invokevirtual 104, 3) := by decide +kernel
theorem dJ5_ensureCapacityInternal_d00df_27 : decode cJ5_ensureCapacityInternal_d00df 27 = .ok (.aload_n 0, 1) := by decide +kernel
theorem dJ5_ensureCapacityInternal_d00df_28 : decode cJ5_ensureCapacityInternal_d00df 28 = .ok (.getfield 22, 3) := by decide +kernel
theorem dJ5_ensureCapacityInternal_d00df_31 : decode cJ5_ensureCapacityInternal_d00df 31 = .ok (.ishl, 1) := by decide +kernel
