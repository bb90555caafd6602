theorem dX6_stopOthers_1 : decode cX6_stopOthers 1 = .ok (.istore_n 3, 1) := by decide +kernel
theorem dX6_stopOthers_2 : decode cX6_stopOthers 2 = .ok (.iload_n 3, 1) := by decide +kernel
theorem dX6_stopOthers_3 : decode cX6_stopOthers 3 = .ok (.aload_n 0, 1) := by decide +kernel
theorem dX6_stopOthers_4 : decode cX6_stopOthers 4 = .ok (.getfield 36, 3) := by decide +kernel
theorem dX6_stopOthers_7 : decode cX6_stopOthers 7 = .ok (.if_icmp .ge 48, 3) := by decide +kernel
theorem dX6_stopOthers_10 : decode cX6_stopOthers 10 = .ok (.aload_n 0, 1) := by decide +kernel
theorem dX6_stopOthers_11 : decode cX6_stopOthers 11 = .ok (.getfield 20, 3) := by decide +kernel
theorem dX6_stopOthers_14 : decode cX6_stopOthers 14 = .ok (.iload_n 3, 1) := by decide +kernel
theorem dX6_stopOthers_15 : decode cX6_stopOthers 15 = .ok (.aaload, 1) := by decide +kernel
theorem dX6_stopOthers_16 : decode cX6_stopOthers 16 = .ok (.getfield 123, 3) := by decide +kernel
theorem dX6_stopOthers_19 : decode cX6_stopOthers 19 = .ok (.iload_n 2, 1) := by decide +kernel
theorem dX6_stopOthers_20 : decode cX6_stopOthers 20 = .ok (.if_icmp .ne 29, 3) := by decide +kernel
theorem dX6_stopOthers_23 : decode cX6_stopOthers 23 = .ok (.aload_n 0, 1) := by decide +kernel
theorem dX6_stopOthers_24 : decode cX6_stopOthers 24 = .ok (.getfield 20, 3) := by decide +kernel
theorem dX6_stopOthers_27 : decode cX6_stopOthers 27 = .ok (.iload_n 3, 1) := by decide +kernel
theorem dX6_stopOthers_28 : decode cX6_stopOthers 28 = .ok (.aaload, 1) := by decide +kernel
theorem dX6_stopOthers_29 : decode cX6_stopOthers 29 = .ok (.getfield 126, 3) := by decide +kernel
theorem dX6_stopOthers_32 : decode cX6_stopOthers 32 = .ok (.aload_n 1, 1) := by decide +kernel
theorem dX6_stopOthers_33 : decode cX6_stopOthers 33 = .ok (.getfield 126, 3) := by decide +kernel
theorem dX6_stopOthers_36 : decode cX6_stopOthers 36 = .ok (.if_icmp .eq 13, 3) := by decide +kernel
theorem dX6_stopOthers_39 : decode cX6_stopOthers 39 = .ok (.aload_n 0, 1) := by decide +kernel
theorem dX6_stopOthers_40 : decode cX6_stopOthers 40 = .ok (.getfield 20, 3) := by decide +kernel
theorem dX6_stopOthers_43 : decode cX6_stopOthers 43 = .ok (.iload_n 3, 1) := by decide +kernel
theorem dX6_stopOthers_44 : decode cX6_stopOthers 44 = .ok (.aaload, 1) := by decide +kernel
theorem dX6_stopOthers_45 : decode cX6_stopOthers 45 = .ok (.iconst 1, 1) := by decide +kernel
theorem dX6_stopOthers_46 : decode cX6_stopOthers 46 = .ok (.putfield 166, 3) := by decide +kernel
theorem dX6_stopOthers_49 : decode cX6_stopOthers 49 = .ok (.iinc 3 1, 3) := by decide +kernel
theorem dX6_stopOthers_52 : decode cX6_stopOthers 52 = .ok (.goto (-50), 3) := by decide +kernel
theorem dX6_stopOthers_55 : decode cX6_stopOthers 55 = .ok (.return_, 1) := by decide +kernel
theorem dX6_freeze_0 : decode cX6_freeze 0 = .ok (.aload_n 0, 1) := by decide +kernel
theorem dX6_freeze_1 : decode cX6_freeze 1 = .ok (.getfield 42, 3) := by decide +kernel
theorem dX6_freeze_4 : decode cX6_freeze 4 = .ok (.bipush 6, 2) := by decide +kernel
theorem dX6_freeze_6 : decode cX6_freeze 6 = .ok (.irem, 1) := by decide +kernel
theorem dX6_freeze_7 : decode cX6_freeze 7 = .ok (.ifCond .eq 4, 3) := by decide +kernel
theorem dX6_freeze_10 : decode cX6_freeze 10 = .ok (.return_, 1) := by decide +kernel
theorem dX6_freeze_11 : decode cX6_freeze 11 = .ok (.iconst 0, 1) := by decide +kernel
theorem dX6_freeze_12 : decode cX6_freeze 12 = .ok (.istore_n 1, 1) := by decide +kernel
theorem dX6_freeze_13 : decode cX6_freeze 13 = .ok (.iload_n 1, 1) := by decide +kernel
theorem dX6_freeze_14 : decode cX6_freeze 14 = .ok (.aload_n 0, 1) := by decide +kernel
theorem dX6_freeze_15 : decode cX6_freeze 15 = .ok (.getfield 32, 3) := by decide +kernel
theorem dX6_freeze_18 : decode cX6_freeze 18 = .ok (.if_icmp .ge 41, 3) := by decide +kernel
theorem dX6_freeze_21 : decode cX6_freeze 21 = .ok (.aload_n 0, 1) := by decide +kernel
theorem dX6_freeze_22 : decode cX6_freeze 22 = .ok (.getfield 11, 3) := by decide +kernel
theorem dX6_freeze_25 : decode cX6_freeze 25 = .ok (.iload_n 1, 1) := by decide +kernel
theorem dX6_freeze_26 : decode cX6_freeze 26 = .ok (.aaload, 1) := by decide +kernel
theorem dX6_freeze_27 : decode cX6_freeze 27 = .ok (.iconst 0, 1) := by decide +kernel
theorem dX6_freeze_28 : decode cX6_freeze 28 = .ok (.bipush 9, 2) := by decide +kernel
theorem dX6_freeze_30 : decode cX6_freeze 30 = .ok (.aload_n 0, 1) := by decide +kernel
theorem dX6_freeze_31 : decode cX6_freeze 31 = .ok (.getfield 11, 3) := by decide +kernel
theorem dX6_freeze_34 : decode cX6_freeze 34 = .ok (.iload_n 1, 1) := by decide +kernel
theorem dX6_freeze_35 : decode cX6_freeze 35 = .ok (.aaload, 1) := by decide +kernel
theorem dX6_freeze_36 : decode cX6_freeze 36 = .ok (.getfield 101, 3) := by decide +kernel
theorem dX6_freeze_39 : decode cX6_freeze 39 = .ok (.aload_n 0, 1) := by decide +kernel
theorem dX6_freeze_40 : decode cX6_freeze 40 = .ok (.getfield 45, 3) := by decide +kernel
theorem dX6_freeze_43 : decode cX6_freeze 43 = .ok (.iadd, 1) := by decide +kernel
theorem dX6_freeze_44 : decode cX6_freeze 44 = .ok (.invokestatic 159, 3) := by decide +kernel
theorem dX6_freeze_47 : decode cX6_freeze 47 = .ok (.invokestatic 153, 3) := by decide +kernel
theorem dX6_freeze_50 : decode cX6_freeze 50 = .ok (.putfield 101, 3) := by decide +kernel
theorem dX6_freeze_53 : decode cX6_freeze 53 = .ok (.iinc 1 1, 3) := by decide +kernel
theorem dX6_freeze_56 : decode cX6_freeze 56 = .ok (.goto (-43), 3) := by decide +kernel
theorem dX6_freeze_59 : decode cX6_freeze 59 = .ok (.return_, 1) := by decide +kernel
theorem dX8_init_0 : decode cX8_init 0 = .ok (.aload_n 0, 1) := by decide +kernel
theorem dX8_init_1 : decode cX8_init 1 = .ok (.invokespecial 1, 3) := by decide +kernel
theorem dX8_init_4 : decode cX8_init 4 = .ok (.return_, 1) := by decide +kernel
theorem dX8_tell_0 : decode cX8_tell 0 = .ok (.aload_n 0, 1) := by decide +kernel
theorem dX8_tell_1 : decode cX8_tell 1 = .ok (.lload_n 1, 1) := by decide +kernel
theorem dX8_tell_2 : decode cX8_tell 2 = .ok (.putfield 7, 3) := by decide +kernel
theorem dX8_tell_5 : decode cX8_tell 5 = .ok (.aload_n 0, 1) := by decide +kernel
theorem dX8_tell_6 : decode cX8_tell 6 = .ok (.iload_n 3, 1) := by decide +kernel
theorem dX8_tell_7 : decode cX8_tell 7 = .ok (.putfield 13, 3) := by decide +kernel
theorem dX8_tell_10 : decode cX8_tell 10 = .ok (.aload_n 0, 1) := by decide +kernel
theorem dX8_tell_11 : decode cX8_tell 11 = .ok (.iload 4, 2) := by decide +kernel
theorem dX8_tell_13 : decode cX8_tell 13 = .ok (.putfield 17, 3) := by decide +kernel
theorem dX8_tell_16 : decode cX8_tell 16 = .ok (.aload_n 0, 1) := by decide +kernel
theorem dX8_tell_17 : decode cX8_tell 17 = .ok (.iload 5, 2) := by decide +kernel
theorem dX8_tell_19 : decode cX8_tell 19 = .ok (.putfield 20, 3) := by decide +kernel
theorem dX8_tell_22 : decode cX8_tell 22 = .ok (.return_, 1) := by decide +kernel
theorem dX8_become_0 : decode cX8_become 0 = .ok (.aload_n 0, 1) := by decide +kernel
theorem dX8_become_1 : decode cX8_become 1 = .ok (.aload_n 1, 1) := by decide +kernel
theorem dX8_become_2 : decode cX8_become 2 = .ok (.getfield 7, 3) := by decide +kernel
theorem dX8_become_5 : decode cX8_become 5 = .ok (.aload_n 1, 1) := by decide +kernel
theorem dX8_become_6 : decode cX8_become 6 = .ok (.getfield 13, 3) := by decide +kernel
theorem dX8_become_9 : decode cX8_become 9 = .ok (.aload_n 1, 1) := by decide +kernel
theorem dX8_become_10 : decode cX8_become 10 = .ok (.getfield 17, 3) := by decide +kernel
theorem dX8_become_13 : decode cX8_become 13 = .ok (.aload_n 1, 1) := by decide +kernel
theorem dX8_become_14 : decode cX8_become 14 = .ok (.getfield 20, 3) := by decide +kernel
theorem dX8_become_17 : decode cX8_become 17 = .ok (.invokevirtual 23, 3) := by decide +kernel
theorem dX8_become_20 : decode cX8_become 20 = .ok (.return_, 1) := by decide +kernel
theorem dX9_init_0 : decode cX9_init 0 = .ok (.aload_n 0, 1) := by decide +kernel
theorem dX9_init_1 : decode cX9_init 1 = .ok (.invokespecial 3, 3) := by decide +kernel
theorem dX9_init_4 : decode cX9_init 4 = .ok (.aload_n 0, 1) := by decide +kernel
theorem dX9_init_5 : decode cX9_init 5 = .ok (.sipush 401, 3) := by decide +kernel
theorem dX9_init_8 : decode cX9_init 8 = .ok (.anewarray 9, 3) := by decide +kernel
theorem dX9_init_11 : decode cX9_init 11 = .ok (.putfield 11, 3) := by decide +kernel
theorem dX9_init_14 : decode cX9_init 14 = .ok (.iconst 0, 1) := by decide +kernel
theorem dX9_init_15 : decode cX9_init 15 = .ok (.istore_n 1, 1) := by decide +kernel
theorem dX9_init_16 : decode cX9_init 16 = .ok (.iload_n 1, 1) := by decide +kernel
theorem dX9_init_17 : decode cX9_init 17 = .ok (.aload_n 0, 1) := by decide +kernel
theorem dX9_init_18 : decode cX9_init 18 = .ok (.getfield 11, 3) := by decide +kernel
theorem dX9_init_21 : decode cX9_init 21 = .ok (.arraylength, 1) := by decide +kernel
theorem dX9_init_22 : decode cX9_init 22 = .ok (.if_icmp .ge 18, 3) := by decide +kernel
theorem dX9_init_25 : decode cX9_init 25 = .ok (.aload_n 0, 1) := by decide +kernel
theorem dX9_init_26 : decode cX9_init 26 = .ok (.getfield 11, 3) := by decide +kernel
theorem dX9_init_29 : decode cX9_init 29 = .ok (.iload_n 1, 1) := by decide +kernel
theorem dX9_init_30 : decode cX9_init 30 = .ok (.getstatic 17, 3) := by decide +kernel
theorem dX9_init_33 : decode cX9_init 33 = .ok (.aastore, 1) := by decide +kernel
theorem dX9_init_34 : decode cX9_init 34 = .ok (.iinc 1 1, 3) := by decide +kernel
theorem dX9_init_37 : decode cX9_init 37 = .ok (.goto (-21), 3) := by decide +kernel
theorem dX9_init_40 : decode cX9_init 40 = .ok (.aload_n 0, 1) := by decide +kernel
theorem dX9_init_41 : decode cX9_init 41 = .ok (.sipush 401, 3) := by decide +kernel
theorem dX9_init_44 : decode cX9_init 44 = .ok (.newarray .int, 2) := by decide +kernel
theorem dX9_init_46 : decode cX9_init 46 = .ok (.putfield 21, 3) := by decide +kernel
theorem dX9_init_49 : decode cX9_init 49 = .ok (.aload_n 0, 1) := by decide +kernel
theorem dX9_init_50 : decode cX9_init 50 = .ok (.sipush 401, 3) := by decide +kernel
theorem dX9_init_53 : decode cX9_init 53 = .ok (.newarray .long, 2) := by decide +kernel
theorem dX9_init_55 : decode cX9_init 55 = .ok (.putfield 25, 3) := by decide +kernel
theorem dX9_init_58 : decode cX9_init 58 = .ok (.aload_n 0, 1) := by decide +kernel
theorem dX9_init_59 : decode cX9_init 59 = .ok (.iconst 0, 1) := by decide +kernel
theorem dX9_init_60 : decode cX9_init 60 = .ok (.putfield 29, 3) := by decide +kernel
theorem dX9_init_63 : decode cX9_init 63 = .ok (.aload_n 0, 1) := by decide +kernel
theorem dX9_init_64 : decode cX9_init 64 = .ok (.iconst 0, 1) := by decide +kernel
theorem dX9_init_65 : decode cX9_init 65 = .ok (.newarray .byte, 2) := by decide +kernel
theorem dX9_init_67 : decode cX9_init 67 = .ok (.putfield 33, 3) := by decide +kernel
theorem dX9_init_70 : decode cX9_init 70 = .ok (.aload_n 0, 1) := by decide +kernel
theorem dX9_init_71 : decode cX9_init 71 = .ok (.iconst 0, 1) := by decide +kernel
theorem dX9_init_72 : decode cX9_init 72 = .ok (.putfield 37, 3) := by decide +kernel
theorem dX9_init_75 : decode cX9_init 75 = .ok (.return_, 1) := by decide +kernel
theorem dX9_scan_0 : decode cX9_scan 0 = .ok (.aload_n 0, 1) := by decide +kernel
theorem dX9_scan_1 : decode cX9_scan 1 = .ok (.aload_n 1, 1) := by decide +kernel
theorem dX9_scan_2 : decode cX9_scan 2 = .ok (.putfield 33, 3) := by decide +kernel
theorem dX9_scan_5 : decode cX9_scan 5 = .ok (.aload_n 0, 1) := by decide +kernel
theorem dX9_scan_6 : decode cX9_scan 6 = .ok (.iconst 0, 1) := by decide +kernel
theorem dX9_scan_7 : decode cX9_scan 7 = .ok (.iload_n 2, 1) := by decide +kernel
theorem dX9_scan_8 : decode cX9_scan 8 = .ok (.aload_n 1, 1) := by decide +kernel
theorem dX9_scan_9 : decode cX9_scan 9 = .ok (.arraylength, 1) := by decide +kernel
theorem dX9_scan_10 : decode cX9_scan 10 = .ok (.invokestatic 40, 3) := by decide +kernel
theorem dX9_scan_13 : decode cX9_scan 13 = .ok (.invokestatic 46, 3) := by decide +kernel
theorem dX9_scan_16 : decode cX9_scan 16 = .ok (.putfield 37, 3) := by decide +kernel
theorem dX9_scan_19 : decode cX9_scan 19 = .ok (.iconst 0, 1) := by decide +kernel
theorem dX9_scan_20 : decode cX9_scan 20 = .ok (.istore_n 3, 1) := by decide +kernel
theorem dX9_scan_21 : decode cX9_scan 21 = .ok (.aload_n 0, 1) := by decide +kernel
theorem dX9_scan_22 : decode cX9_scan 22 = .ok (.iconst 0, 1) := by decide +kernel
theorem dX9_scan_23 : decode cX9_scan 23 = .ok (.putfield 29, 3) := by decide +kernel
theorem dX9_scan_26 : decode cX9_scan 26 = .ok (.aload_n 0, 1) := by decide +kernel
theorem dX9_scan_27 : decode cX9_scan 27 = .ok (.getfield 29, 3) := by decide +kernel
theorem dX9_scan_30 : decode cX9_scan 30 = .ok (.sipush 400, 3) := by decide +kernel
theorem dX9_scan_33 : decode cX9_scan 33 = .ok (.if_icmp .ge 53, 3) := by decide +kernel
theorem dX9_scan_36 : decode cX9_scan 36 = .ok (.aload_n 0, 1) := by decide +kernel
theorem dX9_scan_37 : decode cX9_scan 37 = .ok (.iload_n 3, 1) := by decide +kernel
theorem dX9_scan_38 : decode cX9_scan 38 = .ok (.invokevirtual 49, 3) := by decide +kernel
theorem dX9_scan_41 : decode cX9_scan 41 = .ok (.istore_n 3, 1) := by decide +kernel
theorem dX9_scan_42 : decode cX9_scan 42 = .ok (.iload_n 3, 1) := by decide +kernel
theorem dX9_scan_43 : decode cX9_scan 43 = .ok (.aload_n 0, 1) := by decide +kernel
theorem dX9_scan_44 : decode cX9_scan 44 = .ok (.getfield 37, 3) := by decide +kernel
theorem dX9_scan_47 : decode cX9_scan 47 = .ok (.if_icmp .ge 11, 3) := by decide +kernel
theorem dX9_scan_50 : decode cX9_scan 50 = .ok (.aload_n 0, 1) := by decide +kernel
theorem dX9_scan_51 : decode cX9_scan 51 = .ok (.iload_n 3, 1) := by decide +kernel
theorem dX9_scan_52 : decode cX9_scan 52 = .ok (.invokevirtual 53, 3) := by decide +kernel
theorem dX9_scan_55 : decode cX9_scan 55 = .ok (.goto 4, 3) := by decide +kernel
theorem dX9_scan_58 : decode cX9_scan 58 = .ok (.iload_n 3, 1) := by decide +kernel
theorem dX9_scan_59 : decode cX9_scan 59 = .ok (.istore 4, 2) := by decide +kernel
theorem dX9_scan_61 : decode cX9_scan 61 = .ok (.iload 4, 2) := by decide +kernel
theorem dX9_scan_63 : decode cX9_scan 63 = .ok (.iload_n 3, 1) := by decide +kernel
theorem dX9_scan_64 : decode cX9_scan 64 = .ok (.if_icmp .gt 6, 3) := by decide +kernel
theorem dX9_scan_67 : decode cX9_scan 67 = .ok (.goto 19, 3) := by decide +kernel
theorem dX9_scan_70 : decode cX9_scan 70 = .ok (.iload 4, 2) := by decide +kernel
theorem dX9_scan_72 : decode cX9_scan 72 = .ok (.istore_n 3, 1) := by decide +kernel
theorem dX9_scan_73 : decode cX9_scan 73 = .ok (.aload_n 0, 1) := by decide +kernel
theorem dX9_scan_74 : decode cX9_scan 74 = .ok (.dup, 1) := by decide +kernel
theorem dX9_scan_75 : decode cX9_scan 75 = .ok (.getfield 29, 3) := by decide +kernel
theorem dX9_scan_78 : decode cX9_scan 78 = .ok (.iconst 1, 1) := by decide +kernel
theorem dX9_scan_79 : decode cX9_scan 79 = .ok (.iadd, 1) := by decide +kernel
theorem dX9_scan_80 : decode cX9_scan 80 = .ok (.putfield 29, 3) := by decide +kernel
theorem dX9_scan_83 : decode cX9_scan 83 = .ok (.goto (-57), 3) := by decide +kernel
theorem dX9_scan_86 : decode cX9_scan 86 = .ok (.aload_n 0, 1) := by decide +kernel
theorem dX9_scan_87 : decode cX9_scan 87 = .ok (.iload_n 3, 1) := by decide +kernel
theorem dX9_scan_88 : decode cX9_scan 88 = .ok (.invokevirtual 49, 3) := by decide +kernel
theorem dX9_scan_91 : decode cX9_scan 91 = .ok (.istore_n 3, 1) := by decide +kernel
theorem dX9_scan_92 : decode cX9_scan 92 = .ok (.aload_n 0, 1) := by decide +kernel
theorem dX9_scan_93 : decode cX9_scan 93 = .ok (.getfield 11, 3) := by decide +kernel
theorem dX9_scan_96 : decode cX9_scan 96 = .ok (.aload_n 0, 1) := by decide +kernel
theorem dX9_scan_97 : decode cX9_scan 97 = .ok (.getfield 29, 3) := by decide +kernel
theorem dX9_scan_100 : decode cX9_scan 100 = .ok (.iload_n 3, 1) := by decide +kernel
theorem dX9_scan_101 : decode cX9_scan 101 = .ok (.aload_n 0, 1) := by decide +kernel
theorem dX9_scan_102 : decode cX9_scan 102 = .ok (.getfield 37, 3) := by decide +kernel
theorem dX9_scan_105 : decode cX9_scan 105 = .ok (.if_icmp .ge 9, 3) := by decide +kernel
theorem dX9_scan_108 : decode cX9_scan 108 = .ok (.getstatic 56, 3) := by decide +kernel
theorem dX9_scan_111 : decode cX9_scan 111 = .ok (.goto 6, 3) := by decide +kernel
theorem dX9_scan_114 : decode cX9_scan 114 = .ok (.getstatic 17, 3) := by decide +kernel
theorem dX9_scan_117 : decode cX9_scan 117 = .ok (.aastore, 1) := by decide +kernel
theorem dX9_scan_118 : decode cX9_scan 118 = .ok (.aload_n 0, 1) := by decide +kernel
theorem dX9_scan_119 : decode cX9_scan 119 = .ok (.getfield 21, 3) := by decide +kernel
theorem dX9_scan_122 : decode cX9_scan 122 = .ok (.aload_n 0, 1) := by decide +kernel
theorem dX9_scan_123 : decode cX9_scan 123 = .ok (.getfield 29, 3) := by decide +kernel
theorem dX9_scan_126 : decode cX9_scan 126 = .ok (.iload_n 3, 1) := by decide +kernel
theorem dX9_scan_127 : decode cX9_scan 127 = .ok (.iastore, 1) := by decide +kernel
theorem dX9_scan_128 : decode cX9_scan 128 = .ok (.return_, 1) := by decide +kernel
theorem dX9_behindBlanks_0 : decode cX9_behindBlanks 0 = .ok (.iload_n 1, 1) := by decide +kernel
theorem dX9_behindBlanks_1 : decode cX9_behindBlanks 1 = .ok (.istore_n 2, 1) := by decide +kernel
theorem dX9_behindBlanks_2 : decode cX9_behindBlanks 2 = .ok (.iload_n 2, 1) := by decide +kernel
theorem dX9_behindBlanks_3 : decode cX9_behindBlanks 3 = .ok (.aload_n 0, 1) := by decide +kernel
theorem dX9_behindBlanks_4 : decode cX9_behindBlanks 4 = .ok (.getfield 37, 3) := by decide +kernel
theorem dX9_behindBlanks_7 : decode cX9_behindBlanks 7 = .ok (.if_icmp .ge 31, 3) := by decide +kernel
theorem dX9_behindBlanks_10 : decode cX9_behindBlanks 10 = .ok (.aload_n 0, 1) := by decide +kernel
theorem dX9_behindBlanks_11 : decode cX9_behindBlanks 11 = .ok (.getfield 33, 3) := by decide +kernel
theorem dX9_behindBlanks_14 : decode cX9_behindBlanks 14 = .ok (.iload_n 2, 1) := by decide +kernel
theorem dX9_behindBlanks_15 : decode cX9_behindBlanks 15 = .ok (.baload, 1) := by decide +kernel
theorem dX9_behindBlanks_16 : decode cX9_behindBlanks 16 = .ok (.bipush 32, 2) := by decide +kernel
theorem dX9_behindBlanks_18 : decode cX9_behindBlanks 18 = .ok (.if_icmp .eq 14, 3) := by decide +kernel
theorem dX9_behindBlanks_21 : decode cX9_behindBlanks 21 = .ok (.aload_n 0, 1) := by decide +kernel
theorem dX9_behindBlanks_22 : decode cX9_behindBlanks 22 = .ok (.getfield 33, 3) := by decide +kernel
theorem dX9_behindBlanks_25 : decode cX9_behindBlanks 25 = .ok (.iload_n 2, 1) := by decide +kernel
theorem dX9_behindBlanks_26 : decode cX9_behindBlanks 26 = .ok (.baload, 1) := by decide +kernel
theorem dX9_behindBlanks_27 : decode cX9_behindBlanks 27 = .ok (.bipush 10, 2) := by decide +kernel
theorem dX9_behindBlanks_29 : decode cX9_behindBlanks 29 = .ok (.if_icmp .ne 9, 3) := by decide +kernel
theorem dX9_behindBlanks_32 : decode cX9_behindBlanks 32 = .ok (.iinc 2 1, 3) := by decide +kernel
theorem dX9_behindBlanks_35 : decode cX9_behindBlanks 35 = .ok (.goto (-33), 3) := by decide +kernel
theorem dX9_behindBlanks_38 : decode cX9_behindBlanks 38 = .ok (.iload_n 2, 1) := by decide +kernel
theorem dX9_behindBlanks_39 : decode cX9_behindBlanks 39 = .ok (.ireturn, 1) := by decide +kernel
theorem dX9_scanToken_0 : decode cX9_scanToken 0 = .ok (.aload_n 0, 1) := by decide +kernel
theorem dX9_scanToken_1 : decode cX9_scanToken 1 = .ok (.getfield 21, 3) := by decide +kernel
theorem dX9_scanToken_4 : decode cX9_scanToken 4 = .ok (.aload_n 0, 1) := by decide +kernel
theorem dX9_scanToken_5 : decode cX9_scanToken 5 = .ok (.getfield 29, 3) := by decide +kernel
theorem dX9_scanToken_8 : decode cX9_scanToken 8 = .ok (.iload_n 1, 1) := by decide +kernel
theorem dX9_scanToken_9 : decode cX9_scanToken 9 = .ok (.iastore, 1) := by decide +kernel
theorem dX9_scanToken_10 : decode cX9_scanToken 10 = .ok (.aload_n 0, 1) := by decide +kernel
theorem dX9_scanToken_11 : decode cX9_scanToken 11 = .ok (.getfield 33, 3) := by decide +kernel
theorem dX9_scanToken_14 : decode cX9_scanToken 14 = .ok (.iload_n 1, 1) := by decide +kernel
theorem dX9_scanToken_15 : decode cX9_scanToken 15 = .ok (.baload, 1) := by decide +kernel
theorem dX9_scanToken_16 : decode cX9_scanToken 16 = .ok (.istore_n 2, 1) := by decide +kernel
theorem dX9_scanToken_17 : decode cX9_scanToken 17 = .ok (.iload_n 2, 1) := by decide +kernel
theorem dX9_scanToken_18 : decode cX9_scanToken 18 = .ok (.invokestatic 59, 3) := by decide +kernel
theorem dX9_scanToken_21 : decode cX9_scanToken 21 = .ok (.ifCond .eq 9, 3) := by decide +kernel
theorem dX9_scanToken_24 : decode cX9_scanToken 24 = .ok (.aload_n 0, 1) := by decide +kernel
theorem dX9_scanToken_25 : decode cX9_scanToken 25 = .ok (.iload_n 1, 1) := by decide +kernel
theorem dX9_scanToken_26 : decode cX9_scanToken 26 = .ok (.invokevirtual 63, 3) := by decide +kernel
theorem dX9_scanToken_29 : decode cX9_scanToken 29 = .ok (.ireturn, 1) := by decide +kernel
theorem dX9_scanToken_30 : decode cX9_scanToken 30 = .ok (.iload_n 2, 1) := by decide +kernel
theorem dX9_scanToken_31 : decode cX9_scanToken 31 = .ok (.invokestatic 66, 3) := by decide +kernel
theorem dX9_scanToken_34 : decode cX9_scanToken 34 = .ok (.ifCond .eq 11, 3) := by decide +kernel
theorem dX9_scanToken_37 : decode cX9_scanToken 37 = .ok (.aload_n 0, 1) := by decide +kernel
theorem dX9_scanToken_38 : decode cX9_scanToken 38 = .ok (.iload_n 1, 1) := by decide +kernel
theorem dX9_scanToken_39 : decode cX9_scanToken 39 = .ok (.invokevirtual 69, 3) := by decide +kernel
theorem dX9_scanToken_42 : decode cX9_scanToken 42 = .ok (.goto 8, 3) := by decide +kernel
theorem dX9_scanToken_45 : decode cX9_scanToken 45 = .ok (.aload_n 0, 1) := by decide +kernel
theorem dX9_scanToken_46 : decode cX9_scanToken 46 = .ok (.iload_n 1, 1) := by decide +kernel
theorem dX9_scanToken_47 : decode cX9_scanToken 47 = .ok (.invokevirtual 72, 3) := by decide +kernel
theorem dX9_scanToken_50 : decode cX9_scanToken 50 = .ok (.ireturn, 1) := by decide +kernel
theorem dX9_scanWord_0 : decode cX9_scanWord 0 = .ok (.lconst 0, 1) := by decide +kernel
theorem dX9_scanWord_1 : decode cX9_scanWord 1 = .ok (.lstore_n 2, 1) := by decide +kernel
theorem dX9_scanWord_2 : decode cX9_scanWord 2 = .ok (.iload_n 1, 1) := by decide +kernel
theorem dX9_scanWord_3 : decode cX9_scanWord 3 = .ok (.istore 4, 2) := by decide +kernel
theorem dX9_scanWord_5 : decode cX9_scanWord 5 = .ok (.iload 4, 2) := by decide +kernel
theorem dX9_scanWord_7 : decode cX9_scanWord 7 = .ok (.aload_n 0, 1) := by decide +kernel
theorem dX9_scanWord_8 : decode cX9_scanWord 8 = .ok (.getfield 37, 3) := by decide +kernel
theorem dX9_scanWord_11 : decode cX9_scanWord 11 = .ok (.if_icmp .ge 84, 3) := by decide +kernel
theorem dX9_scanWord_14 : decode cX9_scanWord 14 = .ok (.aload_n 0, 1) := by decide +kernel
theorem dX9_scanWord_15 : decode cX9_scanWord 15 = .ok (.getfield 33, 3) := by decide +kernel
theorem dX9_scanWord_18 : decode cX9_scanWord 18 = .ok (.iload 4, 2) := by decide +kernel
theorem dX9_scanWord_20 : decode cX9_scanWord 20 = .ok (.baload, 1) := by decide +kernel
theorem dX9_scanWord_21 : decode cX9_scanWord 21 = .ok (.invokestatic 59, 3) := by decide +kernel
theorem dX9_scanWord_24 : decode cX9_scanWord 24 = .ok (.ifCond .ne 16, 3) := by decide +kernel
theorem dX9_scanWord_27 : decode cX9_scanWord 27 = .ok (.aload_n 0, 1) := by decide +kernel
theorem dX9_scanWord_28 : decode cX9_scanWord 28 = .ok (.getfield 33, 3) := by decide +kernel
theorem dX9_scanWord_31 : decode cX9_scanWord 31 = .ok (.iload 4, 2) := by decide +kernel
theorem dX9_scanWord_33 : decode cX9_scanWord 33 = .ok (.baload, 1) := by decide +kernel
theorem dX9_scanWord_34 : decode cX9_scanWord 34 = .ok (.invokestatic 66, 3) := by decide +kernel
theorem dX9_scanWord_37 : decode cX9_scanWord 37 = .ok (.ifCond .eq 58, 3) := by decide +kernel
theorem dX9_scanWord_40 : decode cX9_scanWord 40 = .ok (.lload_n 2, 1) := by decide +kernel
theorem dX9_scanWord_41 : decode cX9_scanWord 41 = .ok (.ldc2_w 75, 3) := by decide +kernel
theorem dX9_scanWord_44 : decode cX9_scanWord 44 = .ok (.lmul, 1) := by decide +kernel
theorem dX9_scanWord_45 : decode cX9_scanWord 45 = .ok (.aload_n 0, 1) := by decide +kernel
theorem dX9_scanWord_46 : decode cX9_scanWord 46 = .ok (.getfield 33, 3) := by decide +kernel
theorem dX9_scanWord_49 : decode cX9_scanWord 49 = .ok (.iload 4, 2) := by decide +kernel
theorem dX9_scanWord_51 : decode cX9_scanWord 51 = .ok (.baload, 1) := by decide +kernel
theorem dX9_scanWord_52 : decode cX9_scanWord 52 = .ok (.invokestatic 59, 3) := by decide +kernel
theorem dX9_scanWord_55 : decode cX9_scanWord 55 = .ok (.ifCond .eq 18, 3) := by decide +kernel
theorem dX9_scanWord_58 : decode cX9_scanWord 58 = .ok (.aload_n 0, 1) := by decide +kernel
theorem dX9_scanWord_59 : decode cX9_scanWord 59 = .ok (.getfield 33, 3) := by decide +kernel
theorem dX9_scanWord_62 : decode cX9_scanWord 62 = .ok (.iload 4, 2) := by decide +kernel
theorem dX9_scanWord_64 : decode cX9_scanWord 64 = .ok (.baload, 1) := by decide +kernel
theorem dX9_scanWord_65 : decode cX9_scanWord 65 = .ok (.bipush 97, 2) := by decide +kernel
theorem dX9_scanWord_67 : decode cX9_scanWord 67 = .ok (.isub, 1) := by decide +kernel
theorem dX9_scanWord_68 : decode cX9_scanWord 68 = .ok (.iconst 1, 1) := by decide +kernel
theorem dX9_scanWord_69 : decode cX9_scanWord 69 = .ok (.iadd, 1) := by decide +kernel
theorem dX9_scanWord_70 : decode cX9_scanWord 70 = .ok (.goto 16, 3) := by decide +kernel
theorem dX9_scanWord_73 : decode cX9_scanWord 73 = .ok (.aload_n 0, 1) := by decide +kernel
theorem dX9_scanWord_74 : decode cX9_scanWord 74 = .ok (.getfield 33, 3) := by decide +kernel
theorem dX9_scanWord_77 : decode cX9_scanWord 77 = .ok (.iload 4, 2) := by decide +kernel
theorem dX9_scanWord_79 : decode cX9_scanWord 79 = .ok (.baload, 1) := by decide +kernel
theorem dX9_scanWord_80 : decode cX9_scanWord 80 = .ok (.bipush 48, 2) := by decide +kernel
theorem dX9_scanWord_82 : decode cX9_scanWord 82 = .ok (.isub, 1) := by decide +kernel
theorem dX9_scanWord_83 : decode cX9_scanWord 83 = .ok (.bipush 27, 2) := by decide +kernel
theorem dX9_scanWord_85 : decode cX9_scanWord 85 = .ok (.iadd, 1) := by decide +kernel
theorem dX9_scanWord_86 : decode cX9_scanWord 86 = .ok (.i2l, 1) := by decide +kernel
theorem dX9_scanWord_87 : decode cX9_scanWord 87 = .ok (.ladd, 1) := by decide +kernel
theorem dX9_scanWord_88 : decode cX9_scanWord 88 = .ok (.lstore_n 2, 1) := by decide +kernel
theorem dX9_scanWord_89 : decode cX9_scanWord 89 = .ok (.iinc 4 1, 3) := by decide +kernel
theorem dX9_scanWord_92 : decode cX9_scanWord 92 = .ok (.goto (-87), 3) := by decide +kernel
theorem dX9_scanWord_95 : decode cX9_scanWord 95 = .ok (.iload 4, 2) := by decide +kernel
theorem dX9_scanWord_97 : decode cX9_scanWord 97 = .ok (.iload_n 1, 1) := by decide +kernel
theorem dX9_scanWord_98 : decode cX9_scanWord 98 = .ok (.isub, 1) := by decide +kernel
theorem dX9_scanWord_99 : decode cX9_scanWord 99 = .ok (.bipush 10, 2) := by decide +kernel
theorem dX9_scanWord_101 : decode cX9_scanWord 101 = .ok (.if_icmp .le 5, 3) := by decide +kernel
theorem dX9_scanWord_104 : decode cX9_scanWord 104 = .ok (.iload_n 1, 1) := by decide +kernel
theorem dX9_scanWord_105 : decode cX9_scanWord 105 = .ok (.ireturn, 1) := by decide +kernel
theorem dX9_scanWord_106 : decode cX9_scanWord 106 = .ok (.aload_n 0, 1) := by decide +kernel
theorem dX9_scanWord_107 : decode cX9_scanWord 107 = .ok (.getfield 11, 3) := by decide +kernel
theorem dX9_scanWord_110 : decode cX9_scanWord 110 = .ok (.aload_n 0, 1) := by decide +kernel
theorem dX9_scanWord_111 : decode cX9_scanWord 111 = .ok (.getfield 29, 3) := by decide +kernel
theorem dX9_scanWord_114 : decode cX9_scanWord 114 = .ok (.aload_n 0, 1) := by decide +kernel
theorem dX9_scanWord_115 : decode cX9_scanWord 115 = .ok (.iload_n 1, 1) := by decide +kernel
theorem dX9_scanWord_116 : decode cX9_scanWord 116 = .ok (.iload 4, 2) := by decide +kernel
theorem dX9_scanWord_118 : decode cX9_scanWord 118 = .ok (.invokevirtual 77, 3) := by decide +kernel
theorem dX9_scanWord_121 : decode cX9_scanWord 121 = .ok (.aastore, 1) := by decide +kernel
theorem dX9_scanWord_122 : decode cX9_scanWord 122 = .ok (.aload_n 0, 1) := by decide +kernel
theorem dX9_scanWord_123 : decode cX9_scanWord 123 = .ok (.getfield 25, 3) := by decide +kernel
theorem dX9_scanWord_126 : decode cX9_scanWord 126 = .ok (.aload_n 0, 1) := by decide +kernel
theorem dX9_scanWord_127 : decode cX9_scanWord 127 = .ok (.getfield 29, 3) := by decide +kernel
theorem dX9_scanWord_130 : decode cX9_scanWord 130 = .ok (.lload_n 2, 1) := by decide +kernel
theorem dX9_scanWord_131 : decode cX9_scanWord 131 = .ok (.lastore, 1) := by decide +kernel
theorem dX9_scanWord_132 : decode cX9_scanWord 132 = .ok (.iload 4, 2) := by decide +kernel
theorem dX9_scanWord_134 : decode cX9_scanWord 134 = .ok (.ireturn, 1) := by decide +kernel
theorem dX9_keywordOrName_0 : decode cX9_keywordOrName 0 = .ok (.iconst 0, 1) := by decide +kernel
theorem dX9_keywordOrName_1 : decode cX9_keywordOrName 1 = .ok (.istore_n 3, 1) := by decide +kernel
theorem dX9_keywordOrName_2 : decode cX9_keywordOrName 2 = .ok (.iload_n 3, 1) := by decide +kernel
theorem dX9_keywordOrName_3 : decode cX9_keywordOrName 3 = .ok (.getstatic 81, 3) := by decide +kernel
theorem dX9_keywordOrName_6 : decode cX9_keywordOrName 6 = .ok (.arraylength, 1) := by decide +kernel
theorem dX9_keywordOrName_7 : decode cX9_keywordOrName 7 = .ok (.if_icmp .ge 32, 3) := by decide +kernel
theorem dX9_keywordOrName_10 : decode cX9_keywordOrName 10 = .ok (.aload_n 0, 1) := by decide +kernel
theorem dX9_keywordOrName_11 : decode cX9_keywordOrName 11 = .ok (.getstatic 81, 3) := by decide +kernel
theorem dX9_keywordOrName_14 : decode cX9_keywordOrName 14 = .ok (.iload_n 3, 1) := by decide +kernel
theorem dX9_keywordOrName_15 : decode cX9_keywordOrName 15 = .ok (.aaload, 1) := by decide +kernel
theorem dX9_keywordOrName_16 : decode cX9_keywordOrName 16 = .ok (.getfield 84, 3) := by decide +kernel
theorem dX9_keywordOrName_19 : decode cX9_keywordOrName 19 = .ok (.iload_n 1, 1) := by decide +kernel
theorem dX9_keywordOrName_20 : decode cX9_keywordOrName 20 = .ok (.iload_n 2, 1) := by decide +kernel
theorem dX9_keywordOrName_21 : decode cX9_keywordOrName 21 = .ok (.invokevirtual 88, 3) := by decide +kernel
theorem dX9_keywordOrName_24 : decode cX9_keywordOrName 24 = .ok (.ifCond .eq 9, 3) := by decide +kernel
theorem dX9_keywordOrName_27 : decode cX9_keywordOrName 27 = .ok (.getstatic 81, 3) := by decide +kernel
theorem dX9_keywordOrName_30 : decode cX9_keywordOrName 30 = .ok (.iload_n 3, 1) := by decide +kernel
theorem dX9_keywordOrName_31 : decode cX9_keywordOrName 31 = .ok (.aaload, 1) := by decide +kernel
theorem dX9_keywordOrName_32 : decode cX9_keywordOrName 32 = .ok (.areturn, 1) := by decide +kernel
theorem dX9_keywordOrName_33 : decode cX9_keywordOrName 33 = .ok (.iinc 3 1, 3) := by decide +kernel
theorem dX9_keywordOrName_36 : decode cX9_keywordOrName 36 = .ok (.goto (-34), 3) := by decide +kernel
theorem dX9_keywordOrName_39 : decode cX9_keywordOrName 39 = .ok (.getstatic 92, 3) := by decide +kernel
theorem dX9_keywordOrName_42 : decode cX9_keywordOrName 42 = .ok (.areturn, 1) := by decide +kernel
theorem dX9_isText_0 : decode cX9_isText 0 = .ok (.aload_n 1, 1) := by decide +kernel
theorem dX9_isText_1 : decode cX9_isText 1 = .ok (.invokevirtual 95, 3) := by decide +kernel
theorem dX9_isText_4 : decode cX9_isText 4 = .ok (.iload_n 3, 1) := by decide +kernel
theorem dX9_isText_5 : decode cX9_isText 5 = .ok (.iload_n 2, 1) := by decide +kernel
theorem dX9_isText_6 : decode cX9_isText 6 = .ok (.isub, 1) := by decide +kernel
theorem dX9_isText_7 : decode cX9_isText 7 = .ok (.if_icmp .eq 5, 3) := by decide +kernel
theorem dX9_isText_10 : decode cX9_isText 10 = .ok (.iconst 0, 1) := by decide +kernel
theorem dX9_isText_11 : decode cX9_isText 11 = .ok (.ireturn, 1) := by decide +kernel
theorem dX9_isText_12 : decode cX9_isText 12 = .ok (.iconst 0, 1) := by decide +kernel
theorem dX9_isText_13 : decode cX9_isText 13 = .ok (.istore 4, 2) := by decide +kernel
theorem dX9_isText_15 : decode cX9_isText 15 = .ok (.iload 4, 2) := by decide +kernel
theorem dX9_isText_17 : decode cX9_isText 17 = .ok (.aload_n 1, 1) := by decide +kernel
theorem dX9_isText_18 : decode cX9_isText 18 = .ok (.invokevirtual 95, 3) := by decide +kernel
theorem dX9_isText_21 : decode cX9_isText 21 = .ok (.if_icmp .ge 29, 3) := by decide +kernel
theorem dX9_isText_24 : decode cX9_isText 24 = .ok (.aload_n 1, 1) := by decide +kernel
theorem dX9_isText_25 : decode cX9_isText 25 = .ok (.iload 4, 2) := by decide +kernel
theorem dX9_isText_27 : decode cX9_isText 27 = .ok (.invokevirtual 100, 3) := by decide +kernel
theorem dX9_isText_30 : decode cX9_isText 30 = .ok (.aload_n 0, 1) := by decide +kernel
theorem dX9_isText_31 : decode cX9_isText 31 = .ok (.getfield 33, 3) := by decide +kernel
theorem dX9_isText_34 : decode cX9_isText 34 = .ok (.iload_n 2, 1) := by decide +kernel
theorem dX9_isText_35 : decode cX9_isText 35 = .ok (.iload 4, 2) := by decide +kernel
theorem dX9_isText_37 : decode cX9_isText 37 = .ok (.iadd, 1) := by decide +kernel
theorem dX9_isText_38 : decode cX9_isText 38 = .ok (.baload, 1) := by decide +kernel
theorem dX9_isText_39 : decode cX9_isText 39 = .ok (.if_icmp .eq 5, 3) := by decide +kernel
theorem dX9_isText_42 : decode cX9_isText 42 = .ok (.iconst 0, 1) := by decide +kernel
theorem dX9_isText_43 : decode cX9_isText 43 = .ok (.ireturn, 1) := by decide +kernel
theorem dX9_isText_44 : decode cX9_isText 44 = .ok (.iinc 4 1, 3) := by decide +kernel
theorem dX9_isText_47 : decode cX9_isText 47 = .ok (.goto (-32), 3) := by decide +kernel
theorem dX9_isText_50 : decode cX9_isText 50 = .ok (.iconst 1, 1) := by decide +kernel
theorem dX9_isText_51 : decode cX9_isText 51 = .ok (.ireturn, 1) := by decide +kernel
theorem dX9_scanNumber_0 : decode cX9_scanNumber 0 = .ok (.lconst 0, 1) := by decide +kernel
theorem dX9_scanNumber_1 : decode cX9_scanNumber 1 = .ok (.lstore_n 2, 1) := by decide +kernel
theorem dX9_scanNumber_2 : decode cX9_scanNumber 2 = .ok (.iload_n 1, 1) := by decide +kernel
theorem dX9_scanNumber_3 : decode cX9_scanNumber 3 = .ok (.istore 4, 2) := by decide +kernel
theorem dX9_scanNumber_5 : decode cX9_scanNumber 5 = .ok (.iload 4, 2) := by decide +kernel
theorem dX9_scanNumber_7 : decode cX9_scanNumber 7 = .ok (.aload_n 0, 1) := by decide +kernel
theorem dX9_scanNumber_8 : decode cX9_scanNumber 8 = .ok (.getfield 37, 3) := by decide +kernel
theorem dX9_scanNumber_11 : decode cX9_scanNumber 11 = .ok (.if_icmp .ge 41, 3) := by decide +kernel
theorem dX9_scanNumber_14 : decode cX9_scanNumber 14 = .ok (.aload_n 0, 1) := by decide +kernel
theorem dX9_scanNumber_15 : decode cX9_scanNumber 15 = .ok (.getfield 33, 3) := by decide +kernel
theorem dX9_scanNumber_18 : decode cX9_scanNumber 18 = .ok (.iload 4, 2) := by decide +kernel
theorem dX9_scanNumber_20 : decode cX9_scanNumber 20 = .ok (.baload, 1) := by decide +kernel
theorem dX9_scanNumber_21 : decode cX9_scanNumber 21 = .ok (.invokestatic 66, 3) := by decide +kernel
theorem dX9_scanNumber_24 : decode cX9_scanNumber 24 = .ok (.ifCond .eq 28, 3) := by decide +kernel
theorem dX9_scanNumber_27 : decode cX9_scanNumber 27 = .ok (.lload_n 2, 1) := by decide +kernel
theorem dX9_scanNumber_28 : decode cX9_scanNumber 28 = .ok (.ldc2_w 104, 3) := by decide +kernel
theorem dX9_scanNumber_31 : decode cX9_scanNumber 31 = .ok (.lmul, 1) := by decide +kernel
theorem dX9_scanNumber_32 : decode cX9_scanNumber 32 = .ok (.aload_n 0, 1) := by decide +kernel
theorem dX9_scanNumber_33 : decode cX9_scanNumber 33 = .ok (.getfield 33, 3) := by decide +kernel
theorem dX9_scanNumber_36 : decode cX9_scanNumber 36 = .ok (.iload 4, 2) := by decide +kernel
theorem dX9_scanNumber_38 : decode cX9_scanNumber 38 = .ok (.baload, 1) := by decide +kernel
theorem dX9_scanNumber_39 : decode cX9_scanNumber 39 = .ok (.i2l, 1) := by decide +kernel
theorem dX9_scanNumber_40 : decode cX9_scanNumber 40 = .ok (.ladd, 1) := by decide +kernel
theorem dX9_scanNumber_41 : decode cX9_scanNumber 41 = .ok (.ldc2_w 106, 3) := by decide +kernel
theorem dX9_scanNumber_44 : decode cX9_scanNumber 44 = .ok (.lsub, 1) := by decide +kernel
theorem dX9_scanNumber_45 : decode cX9_scanNumber 45 = .ok (.lstore_n 2, 1) := by decide +kernel
theorem dX9_scanNumber_46 : decode cX9_scanNumber 46 = .ok (.iinc 4 1, 3) := by decide +kernel
theorem dX9_scanNumber_49 : decode cX9_scanNumber 49 = .ok (.goto (-44), 3) := by decide +kernel
theorem dX9_scanNumber_52 : decode cX9_scanNumber 52 = .ok (.iload 4, 2) := by decide +kernel
theorem dX9_scanNumber_54 : decode cX9_scanNumber 54 = .ok (.iload_n 1, 1) := by decide +kernel
theorem dX9_scanNumber_55 : decode cX9_scanNumber 55 = .ok (.isub, 1) := by decide +kernel
theorem dX9_scanNumber_56 : decode cX9_scanNumber 56 = .ok (.bipush 6, 2) := by decide +kernel
theorem dX9_scanNumber_58 : decode cX9_scanNumber 58 = .ok (.if_icmp .le 5, 3) := by decide +kernel
theorem dX9_scanNumber_61 : decode cX9_scanNumber 61 = .ok (.iload_n 1, 1) := by decide +kernel
theorem dX9_scanNumber_62 : decode cX9_scanNumber 62 = .ok (.ireturn, 1) := by decide +kernel
theorem dX9_scanNumber_63 : decode cX9_scanNumber 63 = .ok (.aload_n 0, 1) := by decide +kernel
theorem dX9_scanNumber_64 : decode cX9_scanNumber 64 = .ok (.getfield 11, 3) := by decide +kernel
theorem dX9_scanNumber_67 : decode cX9_scanNumber 67 = .ok (.aload_n 0, 1) := by decide +kernel
theorem dX9_scanNumber_68 : decode cX9_scanNumber 68 = .ok (.getfield 29, 3) := by decide +kernel
theorem dX9_scanNumber_71 : decode cX9_scanNumber 71 = .ok (.getstatic 108, 3) := by decide +kernel
theorem dX9_scanNumber_74 : decode cX9_scanNumber 74 = .ok (.aastore, 1) := by decide +kernel
theorem dX9_scanNumber_75 : decode cX9_scanNumber 75 = .ok (.aload_n 0, 1) := by decide +kernel
theorem dX9_scanNumber_76 : decode cX9_scanNumber 76 = .ok (.getfield 25, 3) := by decide +kernel
theorem dX9_scanNumber_79 : decode cX9_scanNumber 79 = .ok (.aload_n 0, 1) := by decide +kernel
theorem dX9_scanNumber_80 : decode cX9_scanNumber 80 = .ok (.getfield 29, 3) := by decide +kernel
theorem dX9_scanNumber_83 : decode cX9_scanNumber 83 = .ok (.lload_n 2, 1) := by decide +kernel
theorem dX9_scanNumber_84 : decode cX9_scanNumber 84 = .ok (.lastore, 1) := by decide +kernel
theorem dX9_scanNumber_85 : decode cX9_scanNumber 85 = .ok (.iload 4, 2) := by decide +kernel
theorem dX9_scanNumber_87 : decode cX9_scanNumber 87 = .ok (.ireturn, 1) := by decide +kernel
theorem dX9_scanSymbol_0 : decode cX9_scanSymbol 0 = .ok (.iconst 2, 1) := by decide +kernel
theorem dX9_scanSymbol_1 : decode cX9_scanSymbol 1 = .ok (.aload_n 0, 1) := by decide +kernel
theorem dX9_scanSymbol_2 : decode cX9_scanSymbol 2 = .ok (.getfield 37, 3) := by decide +kernel
theorem dX9_scanSymbol_5 : decode cX9_scanSymbol 5 = .ok (.iload_n 1, 1) := by decide +kernel
theorem dX9_scanSymbol_6 : decode cX9_scanSymbol 6 = .ok (.isub, 1) := by decide +kernel
theorem dX9_scanSymbol_7 : decode cX9_scanSymbol 7 = .ok (.invokestatic 40, 3) := by decide +kernel
theorem dX9_scanSymbol_10 : decode cX9_scanSymbol 10 = .ok (.istore_n 2, 1) := by decide +kernel
theorem dX9_scanSymbol_11 : decode cX9_scanSymbol 11 = .ok (.iload_n 2, 1) := by decide +kernel
theorem dX9_scanSymbol_12 : decode cX9_scanSymbol 12 = .ok (.iconst 1, 1) := by decide +kernel
theorem dX9_scanSymbol_13 : decode cX9_scanSymbol 13 = .ok (.if_icmp .lt 39, 3) := by decide +kernel
theorem dX9_scanSymbol_16 : decode cX9_scanSymbol 16 = .ok (.aload_n 0, 1) := by decide +kernel
theorem dX9_scanSymbol_17 : decode cX9_scanSymbol 17 = .ok (.iload_n 1, 1) := by decide +kernel
theorem dX9_scanSymbol_18 : decode cX9_scanSymbol 18 = .ok (.iload_n 1, 1) := by decide +kernel
theorem dX9_scanSymbol_19 : decode cX9_scanSymbol 19 = .ok (.iload_n 2, 1) := by decide +kernel
theorem dX9_scanSymbol_20 : decode cX9_scanSymbol 20 = .ok (.iadd, 1) := by decide +kernel
theorem dX9_scanSymbol_21 : decode cX9_scanSymbol 21 = .ok (.invokevirtual 77, 3) := by decide +kernel
theorem dX9_scanSymbol_24 : decode cX9_scanSymbol 24 = .ok (.astore_n 3, 1) := by decide +kernel
theorem dX9_scanSymbol_25 : decode cX9_scanSymbol 25 = .ok (.aload_n 3, 1) := by decide +kernel
theorem dX9_scanSymbol_26 : decode cX9_scanSymbol 26 = .ok (.getstatic 92, 3) := by decide +kernel
theorem dX9_scanSymbol_29 : decode cX9_scanSymbol 29 = .ok (.if_acmp .eq 17, 3) := by decide +kernel
theorem dX9_scanSymbol_32 : decode cX9_scanSymbol 32 = .ok (.aload_n 0, 1) := by decide +kernel
theorem dX9_scanSymbol_33 : decode cX9_scanSymbol 33 = .ok (.getfield 11, 3) := by decide +kernel
theorem dX9_scanSymbol_36 : decode cX9_scanSymbol 36 = .ok (.aload_n 0, 1) := by decide +kernel
theorem dX9_scanSymbol_37 : decode cX9_scanSymbol 37 = .ok (.getfield 29, 3) := by decide +kernel
theorem dX9_scanSymbol_40 : decode cX9_scanSymbol 40 = .ok (.aload_n 3, 1) := by decide +kernel
theorem dX9_scanSymbol_41 : decode cX9_scanSymbol 41 = .ok (.aastore, 1) := by decide +kernel
theorem dX9_scanSymbol_42 : decode cX9_scanSymbol 42 = .ok (.iload_n 1, 1) := by decide +kernel
theorem dX9_scanSymbol_43 : decode cX9_scanSymbol 43 = .ok (.iload_n 2, 1) := by decide +kernel
theorem dX9_scanSymbol_44 : decode cX9_scanSymbol 44 = .ok (.iadd, 1) := by decide +kernel
theorem dX9_scanSymbol_45 : decode cX9_scanSymbol 45 = .ok (.ireturn, 1) := by decide +kernel
theorem dX9_scanSymbol_46 : decode cX9_scanSymbol 46 = .ok (.iinc 2 (-1), 3) := by decide +kernel
theorem dX9_scanSymbol_49 : decode cX9_scanSymbol 49 = .ok (.goto (-38), 3) := by decide +kernel
theorem dX9_scanSymbol_52 : decode cX9_scanSymbol 52 = .ok (.iload_n 1, 1) := by decide +kernel
theorem dX9_scanSymbol_53 : decode cX9_scanSymbol 53 = .ok (.ireturn, 1) := by decide +kernel
theorem dX9_isLetter_0 : decode cX9_isLetter 0 = .ok (.iload_n 0, 1) := by decide +kernel
theorem dX9_isLetter_1 : decode cX9_isLetter 1 = .ok (.bipush 97, 2) := by decide +kernel
theorem dX9_isLetter_3 : decode cX9_isLetter 3 = .ok (.if_icmp .lt 13, 3) := by decide +kernel
theorem dX9_isLetter_6 : decode cX9_isLetter 6 = .ok (.iload_n 0, 1) := by decide +kernel
theorem dX9_isLetter_7 : decode cX9_isLetter 7 = .ok (.bipush 122, 2) := by decide +kernel
theorem dX9_isLetter_9 : decode cX9_isLetter 9 = .ok (.if_icmp .gt 7, 3) := by decide +kernel
theorem dX9_isLetter_12 : decode cX9_isLetter 12 = .ok (.iconst 1, 1) := by decide +kernel
theorem dX9_isLetter_13 : decode cX9_isLetter 13 = .ok (.goto 4, 3) := by decide +kernel
theorem dX9_isLetter_16 : decode cX9_isLetter 16 = .ok (.iconst 0, 1) := by decide +kernel
theorem dX9_isLetter_17 : decode cX9_isLetter 17 = .ok (.ireturn, 1) := by decide +kernel
theorem dX9_isDigit_0 : decode cX9_isDigit 0 = .ok (.iload_n 0, 1) := by decide +kernel
theorem dX9_isDigit_1 : decode cX9_isDigit 1 = .ok (.bipush 48, 2) := by decide +kernel
theorem dX9_isDigit_3 : decode cX9_isDigit 3 = .ok (.if_icmp .lt 13, 3) := by decide +kernel
theorem dX9_isDigit_6 : decode cX9_isDigit 6 = .ok (.iload_n 0, 1) := by decide +kernel
theorem dX9_isDigit_7 : decode cX9_isDigit 7 = .ok (.bipush 57, 2) := by decide +kernel
theorem dX9_isDigit_9 : decode cX9_isDigit 9 = .ok (.if_icmp .gt 7, 3) := by decide +kernel
theorem dX9_isDigit_12 : decode cX9_isDigit 12 = .ok (.iconst 1, 1) := by decide +kernel
theorem dX9_isDigit_13 : decode cX9_isDigit 13 = .ok (.goto 4, 3) := by decide +kernel
theorem dX9_isDigit_16 : decode cX9_isDigit 16 = .ok (.iconst 0, 1) := by decide +kernel
theorem dX9_isDigit_17 : decode cX9_isDigit 17 = .ok (.ireturn, 1) := by decide +kernel
theorem dX10_init_0 : decode cX10_init 0 = .ok (.aload_n 0, 1) := by decide +kernel
theorem dX10_init_1 : decode cX10_init 1 = .ok (.invokespecial 1, 3) := by decide +kernel
theorem dX10_init_4 : decode cX10_init 4 = .ok (.aload_n 0, 1) := by decide +kernel
theorem dX10_init_5 : decode cX10_init 5 = .ok (.sipush 2000, 3) := by decide +kernel
theorem dX10_init_8 : decode cX10_init 8 = .ok (.newarray .byte, 2) := by decide +kernel
theorem dX10_init_10 : decode cX10_init 10 = .ok (.putfield 9, 3) := by decide +kernel
theorem dX10_init_13 : decode cX10_init 13 = .ok (.aload_n 0, 1) := by decide +kernel
theorem dX10_init_14 : decode cX10_init 14 = .ok (.iconst 0, 1) := by decide +kernel
theorem dX10_init_15 : decode cX10_init 15 = .ok (.putfield 13, 3) := by decide +kernel
theorem dX10_init_18 : decode cX10_init 18 = .ok (.aload_n 0, 1) := by decide +kernel
theorem dX10_init_19 : decode cX10_init 19 = .ok (.iconst (-1), 1) := by decide +kernel
theorem dX10_init_20 : decode cX10_init 20 = .ok (.putfield 17, 3) := by decide +kernel
theorem dX10_init_23 : decode cX10_init 23 = .ok (.aload_n 0, 1) := by decide +kernel
theorem dX10_init_24 : decode cX10_init 24 = .ok (.new 20, 3) := by decide +kernel
theorem dX10_init_27 : decode cX10_init 27 = .ok (.dup, 1) := by decide +kernel
theorem dX10_init_28 : decode cX10_init 28 = .ok (.invokespecial 22, 3) := by decide +kernel
theorem dX10_init_31 : decode cX10_init 31 = .ok (.putfield 23, 3) := by decide +kernel
theorem dX10_init_34 : decode cX10_init 34 = .ok (.aload_n 0, 1) := by decide +kernel
theorem dX10_init_35 : decode cX10_init 35 = .ok (.new 27, 3) := by decide +kernel
theorem dX10_init_38 : decode cX10_init 38 = .ok (.dup, 1) := by decide +kernel
theorem dX10_init_39 : decode cX10_init 39 = .ok (.invokespecial 29, 3) := by decide +kernel
theorem dX10_init_42 : decode cX10_init 42 = .ok (.putfield 30, 3) := by decide +kernel
theorem dX10_init_45 : decode cX10_init 45 = .ok (.aload_n 0, 1) := by decide +kernel
theorem dX10_init_46 : decode cX10_init 46 = .ok (.new 20, 3) := by decide +kernel
theorem dX10_init_49 : decode cX10_init 49 = .ok (.dup, 1) := by decide +kernel
theorem dX10_init_50 : decode cX10_init 50 = .ok (.invokespecial 22, 3) := by decide +kernel
theorem dX10_init_53 : decode cX10_init 53 = .ok (.putfield 34, 3) := by decide +kernel
theorem dX10_init_56 : decode cX10_init 56 = .ok (.aload_n 0, 1) := by decide +kernel
theorem dX10_init_57 : decode cX10_init 57 = .ok (.new 27, 3) := by decide +kernel
theorem dX10_init_60 : decode cX10_init 60 = .ok (.dup, 1) := by decide +kernel
theorem dX10_init_61 : decode cX10_init 61 = .ok (.invokespecial 29, 3) := by decide +kernel
theorem dX10_init_64 : decode cX10_init 64 = .ok (.putfield 37, 3) := by decide +kernel
theorem dX10_init_67 : decode cX10_init 67 = .ok (.aload_n 0, 1) := by decide +kernel
theorem dX10_init_68 : decode cX10_init 68 = .ok (.new 40, 3) := by decide +kernel
theorem dX10_init_71 : decode cX10_init 71 = .ok (.dup, 1) := by decide +kernel
theorem dX10_init_72 : decode cX10_init 72 = .ok (.aload_n 0, 1) := by decide +kernel
theorem dX10_init_73 : decode cX10_init 73 = .ok (.getfield 34, 3) := by decide +kernel
theorem dX10_init_76 : decode cX10_init 76 = .ok (.aload_n 0, 1) := by decide +kernel
theorem dX10_init_77 : decode cX10_init 77 = .ok (.getfield 37, 3) := by decide +kernel
theorem dX10_init_80 : decode cX10_init 80 = .ok (.invokespecial 42, 3) := by decide +kernel
theorem dX10_init_83 : decode cX10_init 83 = .ok (.putfield 45, 3) := by decide +kernel
theorem dX10_init_86 : decode cX10_init 86 = .ok (.return_, 1) := by decide +kernel
theorem dX10_feed_0 : decode cX10_feed 0 = .ok (.aload_n 0, 1) := by decide +kernel
theorem dX10_feed_1 : decode cX10_feed 1 = .ok (.getfield 13, 3) := by decide +kernel
theorem dX10_feed_4 : decode cX10_feed 4 = .ok (.sipush 1980, 3) := by decide +kernel
theorem dX10_feed_7 : decode cX10_feed 7 = .ok (.if_icmp .le 13, 3) := by decide +kernel
theorem dX10_feed_10 : decode cX10_feed 10 = .ok (.new 49, 3) := by decide +kernel
theorem dX10_feed_13 : decode cX10_feed 13 = .ok (.dup, 1) := by decide +kernel
theorem dX10_feed_14 : decode cX10_feed 14 = .ok (.ldc 51, 2) := by decide +kernel
theorem dX10_feed_16 : decode cX10_feed 16 = .ok (.invokespecial 53, 3) := by decide +kernel
theorem dX10_feed_19 : decode cX10_feed 19 = .ok (.athrow, 1) := by decide +kernel
theorem dX10_feed_20 : decode cX10_feed 20 = .ok (.aload_n 0, 1) := by decide +kernel
theorem dX10_feed_21 : decode cX10_feed 21 = .ok (.iload_n 1, 1) := by decide +kernel
theorem dX10_feed_22 : decode cX10_feed 22 = .ok (.invokevirtual 56, 3) := by decide +kernel
theorem dX10_feed_25 : decode cX10_feed 25 = .ok (.aload_n 0, 1) := by decide +kernel
theorem dX10_feed_26 : decode cX10_feed 26 = .ok (.iload_n 2, 1) := by decide +kernel
theorem dX10_feed_27 : decode cX10_feed 27 = .ok (.invokevirtual 56, 3) := by decide +kernel
theorem dX10_feed_30 : decode cX10_feed 30 = .ok (.aload_n 0, 1) := by decide +kernel
theorem dX10_feed_31 : decode cX10_feed 31 = .ok (.iload_n 3, 1) := by decide +kernel
theorem dX10_feed_32 : decode cX10_feed 32 = .ok (.invokevirtual 56, 3) := by decide +kernel
theorem dX10_feed_35 : decode cX10_feed 35 = .ok (.aload_n 0, 1) := by decide +kernel
theorem dX10_feed_36 : decode cX10_feed 36 = .ok (.iload 4, 2) := by decide +kernel
theorem dX10_feed_38 : decode cX10_feed 38 = .ok (.invokevirtual 56, 3) := by decide +kernel
theorem dX10_feed_41 : decode cX10_feed 41 = .ok (.aload_n 0, 1) := by decide +kernel
theorem dX10_feed_42 : decode cX10_feed 42 = .ok (.iload 5, 2) := by decide +kernel
theorem dX10_feed_44 : decode cX10_feed 44 = .ok (.invokevirtual 56, 3) := by decide +kernel
theorem dX10_feed_47 : decode cX10_feed 47 = .ok (.aload_n 0, 1) := by decide +kernel
theorem dX10_feed_48 : decode cX10_feed 48 = .ok (.getfield 13, 3) := by decide +kernel
theorem dX10_feed_51 : decode cX10_feed 51 = .ok (.ireturn, 1) := by decide +kernel
theorem dX10_append_0 : decode cX10_append 0 = .ok (.bipush 24, 2) := by decide +kernel
theorem dX10_append_2 : decode cX10_append 2 = .ok (.istore_n 2, 1) := by decide +kernel
theorem dX10_append_3 : decode cX10_append 3 = .ok (.iload_n 2, 1) := by decide +kernel
theorem dX10_append_4 : decode cX10_append 4 = .ok (.ifCond .lt 51, 3) := by decide +kernel
theorem dX10_append_7 : decode cX10_append 7 = .ok (.aload_n 0, 1) := by decide +kernel
theorem dX10_append_8 : decode cX10_append 8 = .ok (.getfield 13, 3) := by decide +kernel
theorem dX10_append_11 : decode cX10_append 11 = .ok (.ifCond .lt 38, 3) := by decide +kernel
theorem dX10_append_14 : decode cX10_append 14 = .ok (.aload_n 0, 1) := by decide +kernel
theorem dX10_append_15 : decode cX10_append 15 = .ok (.getfield 13, 3) := by decide +kernel
theorem dX10_append_18 : decode cX10_append 18 = .ok (.aload_n 0, 1) := by decide +kernel
theorem dX10_append_19 : decode cX10_append 19 = .ok (.getfield 9, 3) := by decide +kernel
theorem dX10_append_22 : decode cX10_append 22 = .ok (.arraylength, 1) := by decide +kernel
theorem dX10_append_23 : decode cX10_append 23 = .ok (.if_icmp .ge 26, 3) := by decide +kernel
theorem dX10_append_26 : decode cX10_append 26 = .ok (.aload_n 0, 1) := by decide +kernel
theorem dX10_append_27 : decode cX10_append 27 = .ok (.getfield 9, 3) := by decide +kernel
theorem dX10_append_30 : decode cX10_append 30 = .ok (.aload_n 0, 1) := by decide +kernel
theorem dX10_append_31 : decode cX10_append 31 = .ok (.getfield 13, 3) := by decide +kernel
theorem dX10_append_34 : decode cX10_append 34 = .ok (.iload_n 1, 1) := by decide +kernel
theorem dX10_append_35 : decode cX10_append 35 = .ok (.iload_n 2, 1) := by decide +kernel
theorem dX10_append_36 : decode cX10_append 36 = .ok (.ishr, 1) := by decide +kernel
theorem dX10_append_37 : decode cX10_append 37 = .ok (.i2b, 1) := by decide +kernel
theorem dX10_append_38 : decode cX10_append 38 = .ok (.bastore, 1) := by decide +kernel
theorem dX10_append_39 : decode cX10_append 39 = .ok (.aload_n 0, 1) := by decide +kernel
theorem dX10_append_40 : decode cX10_append 40 = .ok (.dup, 1) := by decide +kernel
theorem dX10_append_41 : decode cX10_append 41 = .ok (.getfield 13, 3) := by decide +kernel
theorem dX10_append_44 : decode cX10_append 44 = .ok (.iconst 1, 1) := by decide +kernel
theorem dX10_append_45 : decode cX10_append 45 = .ok (.iadd, 1) := by decide +kernel
theorem dX10_append_46 : decode cX10_append 46 = .ok (.putfield 13, 3) := by decide +kernel
theorem dX10_append_49 : decode cX10_append 49 = .ok (.iinc 2 (-8), 3) := by decide +kernel
theorem dX10_append_52 : decode cX10_append 52 = .ok (.goto (-49), 3) := by decide +kernel
theorem dX10_append_55 : decode cX10_append 55 = .ok (.return_, 1) := by decide +kernel
theorem dX10_trim_0 : decode cX10_trim 0 = .ok (.iload_n 1, 1) := by decide +kernel
theorem dX10_trim_1 : decode cX10_trim 1 = .ok (.iconst 0, 1) := by decide +kernel
theorem dX10_trim_2 : decode cX10_trim 2 = .ok (.aload_n 0, 1) := by decide +kernel
theorem dX10_trim_3 : decode cX10_trim 3 = .ok (.getfield 13, 3) := by decide +kernel
theorem dX10_trim_6 : decode cX10_trim 6 = .ok (.invokestatic 60, 3) := by decide +kernel
theorem dX10_trim_9 : decode cX10_trim 9 = .ok (.aload_n 0, 1) := by decide +kernel
theorem dX10_trim_10 : decode cX10_trim 10 = .ok (.iload_n 1, 1) := by decide +kernel
theorem dX10_trim_11 : decode cX10_trim 11 = .ok (.putfield 13, 3) := by decide +kernel
theorem dX10_trim_14 : decode cX10_trim 14 = .ok (.iload_n 1, 1) := by decide +kernel
theorem dX10_trim_15 : decode cX10_trim 15 = .ok (.ireturn, 1) := by decide +kernel
theorem dX10_teach_0 : decode cX10_teach 0 = .ok (.aload_n 0, 1) := by decide +kernel
theorem dX10_teach_1 : decode cX10_teach 1 = .ok (.getfield 45, 3) := by decide +kernel
theorem dX10_teach_4 : decode cX10_teach 4 = .ok (.aload_n 0, 1) := by decide +kernel
theorem dX10_teach_5 : decode cX10_teach 5 = .ok (.getfield 9, 3) := by decide +kernel
theorem dX10_teach_8 : decode cX10_teach 8 = .ok (.aload_n 0, 1) := by decide +kernel
theorem dX10_teach_9 : decode cX10_teach 9 = .ok (.getfield 13, 3) := by decide +kernel
theorem dX10_teach_12 : decode cX10_teach 12 = .ok (.aload_n 0, 1) := by decide +kernel
theorem dX10_teach_13 : decode cX10_teach 13 = .ok (.getfield 34, 3) := by decide +kernel
theorem dX10_teach_16 : decode cX10_teach 16 = .ok (.aload_n 0, 1) := by decide +kernel
theorem dX10_teach_17 : decode cX10_teach 17 = .ok (.getfield 37, 3) := by decide +kernel
theorem dX10_teach_20 : decode cX10_teach 20 = .ok (.invokevirtual 64, 3) := by decide +kernel
theorem dX10_teach_23 : decode cX10_teach 23 = .ok (.istore_n 1, 1) := by decide +kernel
theorem dX10_teach_24 : decode cX10_teach 24 = .ok (.aload_n 0, 1) := by decide +kernel
theorem dX10_teach_25 : decode cX10_teach 25 = .ok (.iconst 0, 1) := by decide +kernel
theorem dX10_teach_26 : decode cX10_teach 26 = .ok (.putfield 13, 3) := by decide +kernel
theorem dX10_teach_29 : decode cX10_teach 29 = .ok (.aload_n 0, 1) := by decide +kernel
theorem dX10_teach_30 : decode cX10_teach 30 = .ok (.aload_n 0, 1) := by decide +kernel
theorem dX10_teach_31 : decode cX10_teach 31 = .ok (.getfield 45, 3) := by decide +kernel
theorem dX10_teach_34 : decode cX10_teach 34 = .ok (.invokevirtual 68, 3) := by decide +kernel
theorem dX10_teach_37 : decode cX10_teach 37 = .ok (.putfield 17, 3) := by decide +kernel
theorem dX10_teach_40 : decode cX10_teach 40 = .ok (.iload_n 1, 1) := by decide +kernel
theorem dX10_teach_41 : decode cX10_teach 41 = .ok (.ifCond .ne 7, 3) := by decide +kernel
theorem dX10_teach_44 : decode cX10_teach 44 = .ok (.aload_n 0, 1) := by decide +kernel
theorem dX10_teach_45 : decode cX10_teach 45 = .ok (.invokevirtual 72, 3) := by decide +kernel
theorem dX10_teach_48 : decode cX10_teach 48 = .ok (.iload_n 1, 1) := by decide +kernel
theorem dX10_teach_49 : decode cX10_teach 49 = .ok (.ireturn, 1) := by decide +kernel
theorem dX10_adoptSpare_0 : decode cX10_adoptSpare 0 = .ok (.aload_n 0, 1) := by decide +kernel
theorem dX10_adoptSpare_1 : decode cX10_adoptSpare 1 = .ok (.getfield 34, 3) := by decide +kernel
theorem dX10_adoptSpare_4 : decode cX10_adoptSpare 4 = .ok (.aload_n 0, 1) := by decide +kernel
theorem dX10_adoptSpare_5 : decode cX10_adoptSpare 5 = .ok (.getfield 23, 3) := by decide +kernel
theorem dX10_adoptSpare_8 : decode cX10_adoptSpare 8 = .ok (.getfield 75, 3) := by decide +kernel
theorem dX10_adoptSpare_11 : decode cX10_adoptSpare 11 = .ok (.putfield 75, 3) := by decide +kernel
theorem dX10_adoptSpare_14 : decode cX10_adoptSpare 14 = .ok (.aload_n 0, 1) := by decide +kernel
theorem dX10_adoptSpare_15 : decode cX10_adoptSpare 15 = .ok (.getfield 34, 3) := by decide +kernel
theorem dX10_adoptSpare_18 : decode cX10_adoptSpare 18 = .ok (.aload_n 0, 1) := by decide +kernel
theorem dX10_adoptSpare_19 : decode cX10_adoptSpare 19 = .ok (.getfield 23, 3) := by decide +kernel
theorem dX10_adoptSpare_22 : decode cX10_adoptSpare 22 = .ok (.getfield 78, 3) := by decide +kernel
theorem dX10_adoptSpare_25 : decode cX10_adoptSpare 25 = .ok (.putfield 78, 3) := by decide +kernel
theorem dX10_adoptSpare_28 : decode cX10_adoptSpare 28 = .ok (.aload_n 0, 1) := by decide +kernel
theorem dX10_adoptSpare_29 : decode cX10_adoptSpare 29 = .ok (.getfield 23, 3) := by decide +kernel
theorem dX10_adoptSpare_32 : decode cX10_adoptSpare 32 = .ok (.astore_n 1, 1) := by decide +kernel
theorem dX10_adoptSpare_33 : decode cX10_adoptSpare 33 = .ok (.aload_n 0, 1) := by decide +kernel
theorem dX10_adoptSpare_34 : decode cX10_adoptSpare 34 = .ok (.aload_n 0, 1) := by decide +kernel
theorem dX10_adoptSpare_35 : decode cX10_adoptSpare 35 = .ok (.getfield 34, 3) := by decide +kernel
theorem dX10_adoptSpare_38 : decode cX10_adoptSpare 38 = .ok (.putfield 23, 3) := by decide +kernel
theorem dX10_adoptSpare_41 : decode cX10_adoptSpare 41 = .ok (.aload_n 0, 1) := by decide +kernel
theorem dX10_adoptSpare_42 : decode cX10_adoptSpare 42 = .ok (.aload_n 1, 1) := by decide +kernel
theorem dX10_adoptSpare_43 : decode cX10_adoptSpare 43 = .ok (.putfield 34, 3) := by decide +kernel
theorem dX10_adoptSpare_46 : decode cX10_adoptSpare 46 = .ok (.aload_n 0, 1) := by decide +kernel
theorem dX10_adoptSpare_47 : decode cX10_adoptSpare 47 = .ok (.getfield 30, 3) := by decide +kernel
theorem dX10_adoptSpare_50 : decode cX10_adoptSpare 50 = .ok (.astore_n 2, 1) := by decide +kernel
theorem dX10_adoptSpare_51 : decode cX10_adoptSpare 51 = .ok (.aload_n 0, 1) := by decide +kernel
theorem dX10_adoptSpare_52 : decode cX10_adoptSpare 52 = .ok (.aload_n 0, 1) := by decide +kernel
theorem dX10_adoptSpare_53 : decode cX10_adoptSpare 53 = .ok (.getfield 37, 3) := by decide +kernel
theorem dX10_adoptSpare_56 : decode cX10_adoptSpare 56 = .ok (.putfield 30, 3) := by decide +kernel
theorem dX10_adoptSpare_59 : decode cX10_adoptSpare 59 = .ok (.aload_n 0, 1) := by decide +kernel
theorem dX10_adoptSpare_60 : decode cX10_adoptSpare 60 = .ok (.aload_n 2, 1) := by decide +kernel
theorem dX10_adoptSpare_61 : decode cX10_adoptSpare 61 = .ok (.putfield 37, 3) := by decide +kernel
theorem dX10_adoptSpare_64 : decode cX10_adoptSpare 64 = .ok (.return_, 1) := by decide +kernel
theorem dX10_errorAt_0 : decode cX10_errorAt 0 = .ok (.aload_n 0, 1) := by decide +kernel
theorem dX10_errorAt_1 : decode cX10_errorAt 1 = .ok (.getfield 17, 3) := by decide +kernel
theorem dX10_errorAt_4 : decode cX10_errorAt 4 = .ok (.ireturn, 1) := by decide +kernel
theorem dX10_count_0 : decode cX10_count 0 = .ok (.iload_n 1, 1) := by decide +kernel
theorem dX10_count_1 : decode cX10_count 1 = .ok (.bipush 13, 2) := by decide +kernel
theorem dX10_count_3 : decode cX10_count 3 = .ok (.invokestatic 81, 3) := by decide +kernel
theorem dX10_count_6 : decode cX10_count 6 = .ok (.iload_n 1, 1) := by decide +kernel
theorem dX10_count_7 : decode cX10_count 7 = .ok (.bipush 12, 2) := by decide +kernel
theorem dX10_count_9 : decode cX10_count 9 = .ok (.if_icmp .ne 10, 3) := by decide +kernel
theorem dX10_count_12 : decode cX10_count 12 = .ok (.aload_n 0, 1) := by decide +kernel
theorem dX10_count_13 : decode cX10_count 13 = .ok (.getfield 13, 3) := by decide +kernel
theorem dX10_count_16 : decode cX10_count 16 = .ok (.goto 11, 3) := by decide +kernel
theorem dX10_count_19 : decode cX10_count 19 = .ok (.aload_n 0, 1) := by decide +kernel
theorem dX10_count_20 : decode cX10_count 20 = .ok (.getfield 23, 3) := by decide +kernel
theorem dX10_count_23 : decode cX10_count 23 = .ok (.iload_n 1, 1) := by decide +kernel
theorem dX10_count_24 : decode cX10_count 24 = .ok (.invokevirtual 85, 3) := by decide +kernel
theorem dX10_count_27 : decode cX10_count 27 = .ok (.ireturn, 1) := by decide +kernel
theorem dX10_stretch_0 : decode cX10_stretch 0 = .ok (.iload_n 1, 1) := by decide +kernel
theorem dX10_stretch_1 : decode cX10_stretch 1 = .ok (.aload_n 0, 1) := by decide +kernel
theorem dX10_stretch_2 : decode cX10_stretch 2 = .ok (.getfield 23, 3) := by decide +kernel
theorem dX10_stretch_5 : decode cX10_stretch 5 = .ok (.getfield 89, 3) := by decide +kernel
theorem dX10_stretch_8 : decode cX10_stretch 8 = .ok (.invokestatic 81, 3) := by decide +kernel
theorem dX10_stretch_11 : decode cX10_stretch 11 = .ok (.iload_n 2, 1) := by decide +kernel
theorem dX10_stretch_12 : decode cX10_stretch 12 = .ok (.iconst 5, 1) := by decide +kernel
theorem dX10_stretch_13 : decode cX10_stretch 13 = .ok (.invokestatic 81, 3) := by decide +kernel
theorem dX10_stretch_16 : decode cX10_stretch 16 = .ok (.aload_n 0, 1) := by decide +kernel
theorem dX10_stretch_17 : decode cX10_stretch 17 = .ok (.getfield 23, 3) := by decide +kernel
theorem dX10_stretch_20 : decode cX10_stretch 20 = .ok (.iload_n 1, 1) := by decide +kernel
theorem dX10_stretch_21 : decode cX10_stretch 21 = .ok (.iload_n 2, 1) := by decide +kernel
theorem dX10_stretch_22 : decode cX10_stretch 22 = .ok (.invokevirtual 92, 3) := by decide +kernel
theorem dX10_stretch_25 : decode cX10_stretch 25 = .ok (.ireturn, 1) := by decide +kernel
theorem dX10_horse_0 : decode cX10_horse 0 = .ok (.iload_n 1, 1) := by decide +kernel
theorem dX10_horse_1 : decode cX10_horse 1 = .ok (.aload_n 0, 1) := by decide +kernel
theorem dX10_horse_2 : decode cX10_horse 2 = .ok (.getfield 23, 3) := by decide +kernel
theorem dX10_horse_5 : decode cX10_horse 5 = .ok (.getfield 96, 3) := by decide +kernel
theorem dX10_horse_8 : decode cX10_horse 8 = .ok (.invokestatic 81, 3) := by decide +kernel
theorem dX10_horse_11 : decode cX10_horse 11 = .ok (.iload_n 2, 1) := by decide +kernel
theorem dX10_horse_12 : decode cX10_horse 12 = .ok (.bipush 10, 2) := by decide +kernel
theorem dX10_horse_14 : decode cX10_horse 14 = .ok (.invokestatic 81, 3) := by decide +kernel
theorem dX10_horse_17 : decode cX10_horse 17 = .ok (.aload_n 0, 1) := by decide +kernel
theorem dX10_horse_18 : decode cX10_horse 18 = .ok (.getfield 23, 3) := by decide +kernel
theorem dX10_horse_21 : decode cX10_horse 21 = .ok (.iload_n 1, 1) := by decide +kernel
theorem dX10_horse_22 : decode cX10_horse 22 = .ok (.iload_n 2, 1) := by decide +kernel
theorem dX10_horse_23 : decode cX10_horse 23 = .ok (.invokevirtual 99, 3) := by decide +kernel
theorem dX10_horse_26 : decode cX10_horse 26 = .ok (.ireturn, 1) := by decide +kernel
theorem dX10_log_0 : decode cX10_log 0 = .ok (.iload_n 1, 1) := by decide +kernel
theorem dX10_log_1 : decode cX10_log 1 = .ok (.aload_n 0, 1) := by decide +kernel
theorem dX10_log_2 : decode cX10_log 2 = .ok (.getfield 23, 3) := by decide +kernel
theorem dX10_log_5 : decode cX10_log 5 = .ok (.getfield 102, 3) := by decide +kernel
theorem dX10_log_8 : decode cX10_log 8 = .ok (.invokestatic 81, 3) := by decide +kernel
theorem dX10_log_11 : decode cX10_log 11 = .ok (.iload_n 2, 1) := by decide +kernel
theorem dX10_log_12 : decode cX10_log 12 = .ok (.iconst 4, 1) := by decide +kernel
theorem dX10_log_13 : decode cX10_log 13 = .ok (.invokestatic 81, 3) := by decide +kernel
theorem dX10_log_16 : decode cX10_log 16 = .ok (.aload_n 0, 1) := by decide +kernel
theorem dX10_log_17 : decode cX10_log 17 = .ok (.getfield 23, 3) := by decide +kernel
theorem dX10_log_20 : decode cX10_log 20 = .ok (.iload_n 1, 1) := by decide +kernel
theorem dX10_log_21 : decode cX10_log 21 = .ok (.iload_n 2, 1) := by decide +kernel
theorem dX10_log_22 : decode cX10_log 22 = .ok (.invokevirtual 105, 3) := by decide +kernel
theorem dX10_log_25 : decode cX10_log 25 = .ok (.ireturn, 1) := by decide +kernel
theorem dX10_needs_0 : decode cX10_needs 0 = .ok (.iload_n 1, 1) := by decide +kernel
theorem dX10_needs_1 : decode cX10_needs 1 = .ok (.aload_n 0, 1) := by decide +kernel
theorem dX10_needs_2 : decode cX10_needs 2 = .ok (.getfield 23, 3) := by decide +kernel
theorem dX10_needs_5 : decode cX10_needs 5 = .ok (.getfield 96, 3) := by decide +kernel
theorem dX10_needs_8 : decode cX10_needs 8 = .ok (.invokestatic 81, 3) := by decide +kernel
theorem dX10_needs_11 : decode cX10_needs 11 = .ok (.iload_n 2, 1) := by decide +kernel
theorem dX10_needs_12 : decode cX10_needs 12 = .ok (.aload_n 0, 1) := by decide +kernel
theorem dX10_needs_13 : decode cX10_needs 13 = .ok (.getfield 23, 3) := by decide +kernel
theorem dX10_needs_16 : decode cX10_needs 16 = .ok (.getfield 89, 3) := by decide +kernel
theorem dX10_needs_19 : decode cX10_needs 19 = .ok (.invokestatic 81, 3) := by decide +kernel
theorem dX10_needs_22 : decode cX10_needs 22 = .ok (.aload_n 0, 1) := by decide +kernel
theorem dX10_needs_23 : decode cX10_needs 23 = .ok (.getfield 23, 3) := by decide +kernel
theorem dX10_needs_26 : decode cX10_needs 26 = .ok (.iload_n 1, 1) := by decide +kernel
theorem dX10_needs_27 : decode cX10_needs 27 = .ok (.iload_n 2, 1) := by decide +kernel
theorem dX10_needs_28 : decode cX10_needs 28 = .ok (.invokevirtual 108, 3) := by decide +kernel
theorem dX10_needs_31 : decode cX10_needs 31 = .ok (.ireturn, 1) := by decide +kernel
theorem dX10_setWeather_0 : decode cX10_setWeather 0 = .ok (.iload_n 1, 1) := by decide +kernel
theorem dX10_setWeather_1 : decode cX10_setWeather 1 = .ok (.bipush (-3), 2) := by decide +kernel
theorem dX10_setWeather_3 : decode cX10_setWeather 3 = .ok (.iconst 3, 1) := by decide +kernel
theorem dX10_setWeather_4 : decode cX10_setWeather 4 = .ok (.invokestatic 60, 3) := by decide +kernel
theorem dX10_setWeather_7 : decode cX10_setWeather 7 = .ok (.aload_n 0, 1) := by decide +kernel
theorem dX10_setWeather_8 : decode cX10_setWeather 8 = .ok (.getfield 23, 3) := by decide +kernel
theorem dX10_setWeather_11 : decode cX10_setWeather 11 = .ok (.getfield 78, 3) := by decide +kernel
theorem dX10_setWeather_14 : decode cX10_setWeather 14 = .ok (.istore_n 2, 1) := by decide +kernel
theorem dX10_setWeather_15 : decode cX10_setWeather 15 = .ok (.aload_n 0, 1) := by decide +kernel
theorem dX10_setWeather_16 : decode cX10_setWeather 16 = .ok (.getfield 23, 3) := by decide +kernel
theorem dX10_setWeather_19 : decode cX10_setWeather 19 = .ok (.iload_n 1, 1) := by decide +kernel
theorem dX10_setWeather_20 : decode cX10_setWeather 20 = .ok (.putfield 78, 3) := by decide +kernel
theorem dX10_setWeather_23 : decode cX10_setWeather 23 = .ok (.iload_n 2, 1) := by decide +kernel
theorem dX10_setWeather_24 : decode cX10_setWeather 24 = .ok (.ireturn, 1) := by decide +kernel
theorem dX10_forge_0 : decode cX10_forge 0 = .ok (.iload_n 1, 1) := by decide +kernel
theorem dX10_forge_1 : decode cX10_forge 1 = .ok (.aload_n 0, 1) := by decide +kernel
theorem dX10_forge_2 : decode cX10_forge 2 = .ok (.getfield 23, 3) := by decide +kernel
theorem dX10_forge_5 : decode cX10_forge 5 = .ok (.getfield 96, 3) := by decide +kernel
theorem dX10_forge_8 : decode cX10_forge 8 = .ok (.invokestatic 81, 3) := by decide +kernel
theorem dX10_forge_11 : decode cX10_forge 11 = .ok (.iload_n 2, 1) := by decide +kernel
theorem dX10_forge_12 : decode cX10_forge 12 = .ok (.iconst 1, 1) := by decide +kernel
theorem dX10_forge_13 : decode cX10_forge 13 = .ok (.bipush 9, 2) := by decide +kernel
theorem dX10_forge_15 : decode cX10_forge 15 = .ok (.invokestatic 60, 3) := by decide +kernel
theorem dX10_forge_18 : decode cX10_forge 18 = .ok (.aload_n 0, 1) := by decide +kernel
theorem dX10_forge_19 : decode cX10_forge 19 = .ok (.getfield 23, 3) := by decide +kernel
theorem dX10_forge_22 : decode cX10_forge 22 = .ok (.iload_n 1, 1) := by decide +kernel
theorem dX10_forge_23 : decode cX10_forge 23 = .ok (.iload_n 2, 1) := by decide +kernel
theorem dX10_forge_24 : decode cX10_forge 24 = .ok (.invokevirtual 111, 3) := by decide +kernel
theorem dX10_forge_27 : decode cX10_forge 27 = .ok (.ireturn, 1) := by decide +kernel
theorem dX10_clear_0 : decode cX10_clear 0 = .ok (.iload_n 1, 1) := by decide +kernel
theorem dX10_clear_1 : decode cX10_clear 1 = .ok (.aload_n 0, 1) := by decide +kernel
theorem dX10_clear_2 : decode cX10_clear 2 = .ok (.getfield 23, 3) := by decide +kernel
theorem dX10_clear_5 : decode cX10_clear 5 = .ok (.getfield 89, 3) := by decide +kernel
theorem dX10_clear_8 : decode cX10_clear 8 = .ok (.invokestatic 81, 3) := by decide +kernel
theorem dX10_clear_11 : decode cX10_clear 11 = .ok (.aload_n 0, 1) := by decide +kernel
theorem dX10_clear_12 : decode cX10_clear 12 = .ok (.getfield 23, 3) := by decide +kernel
theorem dX10_clear_15 : decode cX10_clear 15 = .ok (.iload_n 1, 1) := by decide +kernel
theorem dX10_clear_16 : decode cX10_clear 16 = .ok (.invokevirtual 114, 3) := by decide +kernel
theorem dX10_clear_19 : decode cX10_clear 19 = .ok (.ireturn, 1) := by decide +kernel
theorem dX10_pass_0 : decode cX10_pass 0 = .ok (.iload_n 1, 1) := by decide +kernel
theorem dX10_pass_1 : decode cX10_pass 1 = .ok (.iconst 1, 1) := by decide +kernel
theorem dX10_pass_2 : decode cX10_pass 2 = .ok (.bipush 120, 2) := by decide +kernel
theorem dX10_pass_4 : decode cX10_pass 4 = .ok (.invokestatic 60, 3) := by decide +kernel
theorem dX10_pass_7 : decode cX10_pass 7 = .ok (.aload_n 0, 1) := by decide +kernel
theorem dX10_pass_8 : decode cX10_pass 8 = .ok (.getfield 23, 3) := by decide +kernel
theorem dX10_pass_11 : decode cX10_pass 11 = .ok (.iconst 3, 1) := by decide +kernel
theorem dX10_pass_12 : decode cX10_pass 12 = .ok (.invokevirtual 119, 3) := by decide +kernel
theorem dX10_pass_15 : decode cX10_pass 15 = .ok (.istore_n 2, 1) := by decide +kernel
theorem dX10_pass_16 : decode cX10_pass 16 = .ok (.aload_n 0, 1) := by decide +kernel
theorem dX10_pass_17 : decode cX10_pass 17 = .ok (.getfield 23, 3) := by decide +kernel
theorem dX10_pass_20 : decode cX10_pass 20 = .ok (.iload_n 1, 1) := by decide +kernel
theorem dX10_pass_21 : decode cX10_pass 21 = .ok (.aload_n 0, 1) := by decide +kernel
theorem dX10_pass_22 : decode cX10_pass 22 = .ok (.getfield 30, 3) := by decide +kernel
theorem dX10_pass_25 : decode cX10_pass 25 = .ok (.invokevirtual 122, 3) := by decide +kernel
theorem dX10_pass_28 : decode cX10_pass 28 = .ok (.aload_n 0, 1) := by decide +kernel
theorem dX10_pass_29 : decode cX10_pass 29 = .ok (.getfield 23, 3) := by decide +kernel
theorem dX10_pass_32 : decode cX10_pass 32 = .ok (.iconst 3, 1) := by decide +kernel
theorem dX10_pass_33 : decode cX10_pass 33 = .ok (.invokevirtual 119, 3) := by decide +kernel
theorem dX10_pass_36 : decode cX10_pass 36 = .ok (.iload_n 2, 1) := by decide +kernel
theorem dX10_pass_37 : decode cX10_pass 37 = .ok (.isub, 1) := by decide +kernel
theorem dX10_pass_38 : decode cX10_pass 38 = .ok (.ireturn, 1) := by decide +kernel
theorem dX10_arrives_0 : decode cX10_arrives 0 = .ok (.iload_n 1, 1) := by decide +kernel
theorem dX10_arrives_1 : decode cX10_arrives 1 = .ok (.aload_n 0, 1) := by decide +kernel
theorem dX10_arrives_2 : decode cX10_arrives 2 = .ok (.getfield 23, 3) := by decide +kernel
theorem dX10_arrives_5 : decode cX10_arrives 5 = .ok (.getfield 102, 3) := by decide +kernel
theorem dX10_arrives_8 : decode cX10_arrives 8 = .ok (.invokestatic 81, 3) := by decide +kernel
theorem dX10_arrives_11 : decode cX10_arrives 11 = .ok (.aload_n 0, 1) := by decide +kernel
theorem dX10_arrives_12 : decode cX10_arrives 12 = .ok (.getfield 34, 3) := by decide +kernel
theorem dX10_arrives_15 : decode cX10_arrives 15 = .ok (.aload_n 0, 1) := by decide +kernel
theorem dX10_arrives_16 : decode cX10_arrives 16 = .ok (.getfield 23, 3) := by decide +kernel
theorem dX10_arrives_19 : decode cX10_arrives 19 = .ok (.invokevirtual 126, 3) := by decide +kernel
theorem dX10_arrives_22 : decode cX10_arrives 22 = .ok (.iconst 0, 1) := by decide +kernel
theorem dX10_arrives_23 : decode cX10_arrives 23 = .ok (.istore_n 2, 1) := by decide +kernel
theorem dX10_arrives_24 : decode cX10_arrives 24 = .ok (.iload_n 2, 1) := by decide +kernel
theorem dX10_arrives_25 : decode cX10_arrives 25 = .ok (.sipush 200, 3) := by decide +kernel
theorem dX10_arrives_28 : decode cX10_arrives 28 = .ok (.if_icmp .gt 34, 3) := by decide +kernel
theorem dX10_arrives_31 : decode cX10_arrives 31 = .ok (.aload_n 0, 1) := by decide +kernel
theorem dX10_arrives_32 : decode cX10_arrives 32 = .ok (.getfield 34, 3) := by decide +kernel
theorem dX10_arrives_35 : decode cX10_arrives 35 = .ok (.iload_n 1, 1) := by decide +kernel
theorem dX10_arrives_36 : decode cX10_arrives 36 = .ok (.invokevirtual 130, 3) := by decide +kernel
theorem dX10_arrives_39 : decode cX10_arrives 39 = .ok (.ifCond .eq 5, 3) := by decide +kernel
theorem dX10_arrives_42 : decode cX10_arrives 42 = .ok (.iload_n 2, 1) := by decide +kernel
theorem dX10_arrives_43 : decode cX10_arrives 43 = .ok (.ireturn, 1) := by decide +kernel
theorem dX10_arrives_44 : decode cX10_arrives 44 = .ok (.aload_n 0, 1) := by decide +kernel
theorem dX10_arrives_45 : decode cX10_arrives 45 = .ok (.getfield 34, 3) := by decide +kernel
theorem dX10_arrives_48 : decode cX10_arrives 48 = .ok (.iconst 1, 1) := by decide +kernel
theorem dX10_arrives_49 : decode cX10_arrives 49 = .ok (.aload_n 0, 1) := by decide +kernel
theorem dX10_arrives_50 : decode cX10_arrives 50 = .ok (.getfield 30, 3) := by decide +kernel
theorem dX10_arrives_53 : decode cX10_arrives 53 = .ok (.invokevirtual 122, 3) := by decide +kernel
theorem dX10_arrives_56 : decode cX10_arrives 56 = .ok (.iinc 2 1, 3) := by decide +kernel
theorem dX10_arrives_59 : decode cX10_arrives 59 = .ok (.goto (-35), 3) := by decide +kernel
theorem dX10_arrives_62 : decode cX10_arrives 62 = .ok (.iconst (-1), 1) := by decide +kernel
theorem dX10_arrives_63 : decode cX10_arrives 63 = .ok (.ireturn, 1) := by decide +kernel
theorem dX10_breaks_0 : decode cX10_breaks 0 = .ok (.iload_n 1, 1) := by decide +kernel
theorem dX10_breaks_1 : decode cX10_breaks 1 = .ok (.aload_n 0, 1) := by decide +kernel
theorem dX10_breaks_2 : decode cX10_breaks 2 = .ok (.getfield 23, 3) := by decide +kernel
theorem dX10_breaks_5 : decode cX10_breaks 5 = .ok (.getfield 96, 3) := by decide +kernel
theorem dX10_breaks_8 : decode cX10_breaks 8 = .ok (.invokestatic 81, 3) := by decide +kernel
theorem dX10_breaks_11 : decode cX10_breaks 11 = .ok (.aload_n 0, 1) := by decide +kernel
theorem dX10_breaks_12 : decode cX10_breaks 12 = .ok (.getfield 23, 3) := by decide +kernel
theorem dX10_breaks_15 : decode cX10_breaks 15 = .ok (.iload_n 1, 1) := by decide +kernel
theorem dX10_breaks_16 : decode cX10_breaks 16 = .ok (.invokevirtual 134, 3) := by decide +kernel
theorem dX10_breaks_19 : decode cX10_breaks 19 = .ok (.istore_n 2, 1) := by decide +kernel
theorem dX10_breaks_20 : decode cX10_breaks 20 = .ok (.aload_n 0, 1) := by decide +kernel
theorem dX10_breaks_21 : decode cX10_breaks 21 = .ok (.getfield 34, 3) := by decide +kernel
theorem dX10_breaks_24 : decode cX10_breaks 24 = .ok (.aload_n 0, 1) := by decide +kernel
theorem dX10_breaks_25 : decode cX10_breaks 25 = .ok (.getfield 23, 3) := by decide +kernel
theorem dX10_breaks_28 : decode cX10_breaks 28 = .ok (.invokevirtual 126, 3) := by decide +kernel
theorem dX10_breaks_31 : decode cX10_breaks 31 = .ok (.iconst 1, 1) := by decide +kernel
theorem dX10_breaks_32 : decode cX10_breaks 32 = .ok (.istore_n 3, 1) := by decide +kernel
theorem dX10_breaks_33 : decode cX10_breaks 33 = .ok (.iload_n 3, 1) := by decide +kernel
theorem dX10_breaks_34 : decode cX10_breaks 34 = .ok (.sipush 200, 3) := by decide +kernel
theorem dX10_breaks_37 : decode cX10_breaks 37 = .ok (.if_icmp .gt 35, 3) := by decide +kernel
theorem dX10_breaks_40 : decode cX10_breaks 40 = .ok (.aload_n 0, 1) := by decide +kernel
theorem dX10_breaks_41 : decode cX10_breaks 41 = .ok (.getfield 34, 3) := by decide +kernel
theorem dX10_breaks_44 : decode cX10_breaks 44 = .ok (.iconst 1, 1) := by decide +kernel
theorem dX10_breaks_45 : decode cX10_breaks 45 = .ok (.aload_n 0, 1) := by decide +kernel
theorem dX10_breaks_46 : decode cX10_breaks 46 = .ok (.getfield 30, 3) := by decide +kernel
theorem dX10_breaks_49 : decode cX10_breaks 49 = .ok (.invokevirtual 122, 3) := by decide +kernel
theorem dX10_breaks_52 : decode cX10_breaks 52 = .ok (.aload_n 0, 1) := by decide +kernel
theorem dX10_breaks_53 : decode cX10_breaks 53 = .ok (.getfield 34, 3) := by decide +kernel
theorem dX10_breaks_56 : decode cX10_breaks 56 = .ok (.iload_n 1, 1) := by decide +kernel
theorem dX10_breaks_57 : decode cX10_breaks 57 = .ok (.invokevirtual 134, 3) := by decide +kernel
theorem dX10_breaks_60 : decode cX10_breaks 60 = .ok (.iload_n 2, 1) := by decide +kernel
theorem dX10_breaks_61 : decode cX10_breaks 61 = .ok (.if_icmp .ge 5, 3) := by decide +kernel
theorem dX10_breaks_64 : decode cX10_breaks 64 = .ok (.iload_n 3, 1) := by decide +kernel
theorem dX10_breaks_65 : decode cX10_breaks 65 = .ok (.ireturn, 1) := by decide +kernel
theorem dX10_breaks_66 : decode cX10_breaks 66 = .ok (.iinc 3 1, 3) := by decide +kernel
theorem dX10_breaks_69 : decode cX10_breaks 69 = .ok (.goto (-36), 3) := by decide +kernel
theorem dX10_breaks_72 : decode cX10_breaks 72 = .ok (.iconst (-1), 1) := by decide +kernel
theorem dX10_breaks_73 : decode cX10_breaks 73 = .ok (.ireturn, 1) := by decide +kernel
theorem dX10_foresee_0 : decode cX10_foresee 0 = .ok (.iload_n 1, 1) := by decide +kernel
theorem dX10_foresee_1 : decode cX10_foresee 1 = .ok (.iconst 1, 1) := by decide +kernel
theorem dX10_foresee_2 : decode cX10_foresee 2 = .ok (.bipush 120, 2) := by decide +kernel
theorem dX10_foresee_4 : decode cX10_foresee 4 = .ok (.invokestatic 60, 3) := by decide +kernel
theorem dX10_foresee_7 : decode cX10_foresee 7 = .ok (.iload_n 2, 1) := by decide +kernel
theorem dX10_foresee_8 : decode cX10_foresee 8 = .ok (.iconst 4, 1) := by decide +kernel
theorem dX10_foresee_9 : decode cX10_foresee 9 = .ok (.invokestatic 81, 3) := by decide +kernel
theorem dX10_foresee_12 : decode cX10_foresee 12 = .ok (.aload_n 0, 1) := by decide +kernel
theorem dX10_foresee_13 : decode cX10_foresee 13 = .ok (.getfield 34, 3) := by decide +kernel
theorem dX10_foresee_16 : decode cX10_foresee 16 = .ok (.aload_n 0, 1) := by decide +kernel
theorem dX10_foresee_17 : decode cX10_foresee 17 = .ok (.getfield 23, 3) := by decide +kernel
theorem dX10_foresee_20 : decode cX10_foresee 20 = .ok (.invokevirtual 126, 3) := by decide +kernel
theorem dX10_foresee_23 : decode cX10_foresee 23 = .ok (.aload_n 0, 1) := by decide +kernel
theorem dX10_foresee_24 : decode cX10_foresee 24 = .ok (.getfield 34, 3) := by decide +kernel
theorem dX10_foresee_27 : decode cX10_foresee 27 = .ok (.iload_n 1, 1) := by decide +kernel
theorem dX10_foresee_28 : decode cX10_foresee 28 = .ok (.aload_n 0, 1) := by decide +kernel
theorem dX10_foresee_29 : decode cX10_foresee 29 = .ok (.getfield 30, 3) := by decide +kernel
theorem dX10_foresee_32 : decode cX10_foresee 32 = .ok (.invokevirtual 122, 3) := by decide +kernel
theorem dX10_foresee_35 : decode cX10_foresee 35 = .ok (.iload_n 2, 1) := by decide +kernel
theorem dX10_foresee_36 : decode cX10_foresee 36 = .ok (.tableswitch 71 0 2 #[28, 46, 55], 28) := by decide +kernel
theorem dX10_foresee_64 : decode cX10_foresee 64 = .ok (.aload_n 0, 1) := by decide +kernel
theorem dX10_foresee_65 : decode cX10_foresee 65 = .ok (.getfield 34, 3) := by decide +kernel
theorem dX10_foresee_68 : decode cX10_foresee 68 = .ok (.iconst 3, 1) := by decide +kernel
theorem dX10_foresee_69 : decode cX10_foresee 69 = .ok (.invokevirtual 119, 3) := by decide +kernel
theorem dX10_foresee_72 : decode cX10_foresee 72 = .ok (.aload_n 0, 1) := by decide +kernel
theorem dX10_foresee_73 : decode cX10_foresee 73 = .ok (.getfield 23, 3) := by decide +kernel
theorem dX10_foresee_76 : decode cX10_foresee 76 = .ok (.iconst 3, 1) := by decide +kernel
theorem dX10_foresee_77 : decode cX10_foresee 77 = .ok (.invokevirtual 119, 3) := by decide +kernel
theorem dX10_foresee_80 : decode cX10_foresee 80 = .ok (.isub, 1) := by decide +kernel
theorem dX10_foresee_81 : decode cX10_foresee 81 = .ok (.ireturn, 1) := by decide +kernel
theorem dX10_foresee_82 : decode cX10_foresee 82 = .ok (.aload_n 0, 1) := by decide +kernel
theorem dX10_foresee_83 : decode cX10_foresee 83 = .ok (.getfield 34, 3) := by decide +kernel
theorem dX10_foresee_86 : decode cX10_foresee 86 = .ok (.iconst 2, 1) := by decide +kernel
theorem dX10_foresee_87 : decode cX10_foresee 87 = .ok (.invokevirtual 137, 3) := by decide +kernel
theorem dX10_foresee_90 : decode cX10_foresee 90 = .ok (.ireturn, 1) := by decide +kernel
theorem dX10_foresee_91 : decode cX10_foresee 91 = .ok (.aload_n 0, 1) := by decide +kernel
theorem dX10_foresee_92 : decode cX10_foresee 92 = .ok (.getfield 34, 3) := by decide +kernel
theorem dX10_foresee_95 : decode cX10_foresee 95 = .ok (.getfield 140, 3) := by decide +kernel
theorem dX10_foresee_98 : decode cX10_foresee 98 = .ok (.aload_n 0, 1) := by decide +kernel
theorem dX10_foresee_99 : decode cX10_foresee 99 = .ok (.getfield 23, 3) := by decide +kernel
theorem dX10_foresee_102 : decode cX10_foresee 102 = .ok (.getfield 140, 3) := by decide +kernel
theorem dX10_foresee_105 : decode cX10_foresee 105 = .ok (.isub, 1) := by decide +kernel
theorem dX10_foresee_106 : decode cX10_foresee 106 = .ok (.ireturn, 1) := by decide +kernel
theorem dX10_foresee_107 : decode cX10_foresee 107 = .ok (.aload_n 0, 1) := by decide +kernel
theorem dX10_foresee_108 : decode cX10_foresee 108 = .ok (.getfield 34, 3) := by decide +kernel
theorem dX10_foresee_111 : decode cX10_foresee 111 = .ok (.iconst 0, 1) := by decide +kernel
theorem dX10_foresee_112 : decode cX10_foresee 112 = .ok (.invokevirtual 119, 3) := by decide +kernel
theorem dX10_foresee_115 : decode cX10_foresee 115 = .ok (.ireturn, 1) := by decide +kernel
theorem dX10_advise_0 : decode cX10_advise 0 = .ok (.iload_n 1, 1) := by decide +kernel
theorem dX10_advise_1 : decode cX10_advise 1 = .ok (.iconst 1, 1) := by decide +kernel
theorem dX10_advise_2 : decode cX10_advise 2 = .ok (.bipush 80, 2) := by decide +kernel
theorem dX10_advise_4 : decode cX10_advise 4 = .ok (.invokestatic 60, 3) := by decide +kernel
theorem dX10_advise_7 : decode cX10_advise 7 = .ok (.bipush (-3), 2) := by decide +kernel
theorem dX10_advise_9 : decode cX10_advise 9 = .ok (.istore_n 2, 1) := by decide +kernel
theorem dX10_advise_10 : decode cX10_advise 10 = .ok (.iconst (-1), 1) := by decide +kernel
theorem dX10_advise_11 : decode cX10_advise 11 = .ok (.istore_n 3, 1) := by decide +kernel
theorem dX10_advise_12 : decode cX10_advise 12 = .ok (.bipush (-3), 2) := by decide +kernel
theorem dX10_advise_14 : decode cX10_advise 14 = .ok (.istore 4, 2) := by decide +kernel
theorem dX10_advise_16 : decode cX10_advise 16 = .ok (.iload 4, 2) := by decide +kernel
theorem dX10_advise_18 : decode cX10_advise 18 = .ok (.iconst 3, 1) := by decide +kernel
theorem dX10_advise_19 : decode cX10_advise 19 = .ok (.if_icmp .gt 63, 3) := by decide +kernel
theorem dX10_advise_22 : decode cX10_advise 22 = .ok (.aload_n 0, 1) := by decide +kernel
theorem dX10_advise_23 : decode cX10_advise 23 = .ok (.getfield 34, 3) := by decide +kernel
theorem dX10_advise_26 : decode cX10_advise 26 = .ok (.aload_n 0, 1) := by decide +kernel
theorem dX10_advise_27 : decode cX10_advise 27 = .ok (.getfield 23, 3) := by decide +kernel
theorem dX10_advise_30 : decode cX10_advise 30 = .ok (.invokevirtual 126, 3) := by decide +kernel
theorem dX10_advise_33 : decode cX10_advise 33 = .ok (.aload_n 0, 1) := by decide +kernel
theorem dX10_advise_34 : decode cX10_advise 34 = .ok (.getfield 34, 3) := by decide +kernel
theorem dX10_advise_37 : decode cX10_advise 37 = .ok (.iload 4, 2) := by decide +kernel
theorem dX10_advise_39 : decode cX10_advise 39 = .ok (.putfield 78, 3) := by decide +kernel
theorem dX10_advise_42 : decode cX10_advise 42 = .ok (.aload_n 0, 1) := by decide +kernel
theorem dX10_advise_43 : decode cX10_advise 43 = .ok (.getfield 34, 3) := by decide +kernel
theorem dX10_advise_46 : decode cX10_advise 46 = .ok (.iload_n 1, 1) := by decide +kernel
theorem dX10_advise_47 : decode cX10_advise 47 = .ok (.aload_n 0, 1) := by decide +kernel
theorem dX10_advise_48 : decode cX10_advise 48 = .ok (.getfield 30, 3) := by decide +kernel
theorem dX10_advise_51 : decode cX10_advise 51 = .ok (.invokevirtual 122, 3) := by decide +kernel
theorem dX10_advise_54 : decode cX10_advise 54 = .ok (.aload_n 0, 1) := by decide +kernel
theorem dX10_advise_55 : decode cX10_advise 55 = .ok (.getfield 34, 3) := by decide +kernel
theorem dX10_advise_58 : decode cX10_advise 58 = .ok (.iconst 3, 1) := by decide +kernel
theorem dX10_advise_59 : decode cX10_advise 59 = .ok (.invokevirtual 119, 3) := by decide +kernel
theorem dX10_advise_62 : decode cX10_advise 62 = .ok (.istore 5, 2) := by decide +kernel
theorem dX10_advise_64 : decode cX10_advise 64 = .ok (.iload 5, 2) := by decide +kernel
theorem dX10_advise_66 : decode cX10_advise 66 = .ok (.iload_n 3, 1) := by decide +kernel
theorem dX10_advise_67 : decode cX10_advise 67 = .ok (.if_icmp .le 9, 3) := by decide +kernel
theorem dX10_advise_70 : decode cX10_advise 70 = .ok (.iload 5, 2) := by decide +kernel
theorem dX10_advise_72 : decode cX10_advise 72 = .ok (.istore_n 3, 1) := by decide +kernel
theorem dX10_advise_73 : decode cX10_advise 73 = .ok (.iload 4, 2) := by decide +kernel
theorem dX10_advise_75 : decode cX10_advise 75 = .ok (.istore_n 2, 1) := by decide +kernel
theorem dX10_advise_76 : decode cX10_advise 76 = .ok (.iinc 4 1, 3) := by decide +kernel
theorem dX10_advise_79 : decode cX10_advise 79 = .ok (.goto (-63), 3) := by decide +kernel
theorem dX10_advise_82 : decode cX10_advise 82 = .ok (.iload_n 2, 1) := by decide +kernel
theorem dX10_advise_83 : decode cX10_advise 83 = .ok (.ireturn, 1) := by decide +kernel
theorem dX10_choose_0 : decode cX10_choose 0 = .ok (.iload_n 1, 1) := by decide +kernel
theorem dX10_choose_1 : decode cX10_choose 1 = .ok (.iconst 1, 1) := by decide +kernel
theorem dX10_choose_2 : decode cX10_choose 2 = .ok (.bipush 80, 2) := by decide +kernel
theorem dX10_choose_4 : decode cX10_choose 4 = .ok (.invokestatic 60, 3) := by decide +kernel
theorem dX10_choose_7 : decode cX10_choose 7 = .ok (.aload_n 0, 1) := by decide +kernel
theorem dX10_choose_8 : decode cX10_choose 8 = .ok (.getfield 34, 3) := by decide +kernel
theorem dX10_choose_11 : decode cX10_choose 11 = .ok (.aload_n 0, 1) := by decide +kernel
theorem dX10_choose_12 : decode cX10_choose 12 = .ok (.getfield 23, 3) := by decide +kernel
theorem dX10_choose_15 : decode cX10_choose 15 = .ok (.invokevirtual 126, 3) := by decide +kernel
theorem dX10_choose_18 : decode cX10_choose 18 = .ok (.aload_n 0, 1) := by decide +kernel
theorem dX10_choose_19 : decode cX10_choose 19 = .ok (.getfield 34, 3) := by decide +kernel
theorem dX10_choose_22 : decode cX10_choose 22 = .ok (.iload_n 1, 1) := by decide +kernel
theorem dX10_choose_23 : decode cX10_choose 23 = .ok (.aload_n 0, 1) := by decide +kernel
theorem dX10_choose_24 : decode cX10_choose 24 = .ok (.getfield 30, 3) := by decide +kernel
theorem dX10_choose_27 : decode cX10_choose 27 = .ok (.invokevirtual 122, 3) := by decide +kernel
theorem dX10_choose_30 : decode cX10_choose 30 = .ok (.aload_n 0, 1) := by decide +kernel
theorem dX10_choose_31 : decode cX10_choose 31 = .ok (.getfield 34, 3) := by decide +kernel
theorem dX10_choose_34 : decode cX10_choose 34 = .ok (.iconst 3, 1) := by decide +kernel
theorem dX10_choose_35 : decode cX10_choose 35 = .ok (.invokevirtual 119, 3) := by decide +kernel
theorem dX10_choose_38 : decode cX10_choose 38 = .ok (.istore_n 2, 1) := by decide +kernel
theorem dX10_choose_39 : decode cX10_choose 39 = .ok (.iconst (-1), 1) := by decide +kernel
theorem dX10_choose_40 : decode cX10_choose 40 = .ok (.istore_n 3, 1) := by decide +kernel
theorem dX10_choose_41 : decode cX10_choose 41 = .ok (.iconst 0, 1) := by decide +kernel
theorem dX10_choose_42 : decode cX10_choose 42 = .ok (.istore 4, 2) := by decide +kernel
theorem dX10_choose_44 : decode cX10_choose 44 = .ok (.iload 4, 2) := by decide +kernel
theorem dX10_choose_46 : decode cX10_choose 46 = .ok (.aload_n 0, 1) := by decide +kernel
theorem dX10_choose_47 : decode cX10_choose 47 = .ok (.getfield 23, 3) := by decide +kernel
theorem dX10_choose_50 : decode cX10_choose 50 = .ok (.getfield 96, 3) := by decide +kernel
theorem dX10_choose_53 : decode cX10_choose 53 = .ok (.if_icmp .ge 63, 3) := by decide +kernel
theorem dX10_choose_56 : decode cX10_choose 56 = .ok (.aload_n 0, 1) := by decide +kernel
theorem dX10_choose_57 : decode cX10_choose 57 = .ok (.getfield 34, 3) := by decide +kernel
theorem dX10_choose_60 : decode cX10_choose 60 = .ok (.aload_n 0, 1) := by decide +kernel
theorem dX10_choose_61 : decode cX10_choose 61 = .ok (.getfield 23, 3) := by decide +kernel
theorem dX10_choose_64 : decode cX10_choose 64 = .ok (.invokevirtual 126, 3) := by decide +kernel
theorem dX10_choose_67 : decode cX10_choose 67 = .ok (.aload_n 0, 1) := by decide +kernel
theorem dX10_choose_68 : decode cX10_choose 68 = .ok (.getfield 34, 3) := by decide +kernel
theorem dX10_choose_71 : decode cX10_choose 71 = .ok (.iload 4, 2) := by decide +kernel
theorem dX10_choose_73 : decode cX10_choose 73 = .ok (.invokevirtual 143, 3) := by decide +kernel
theorem dX10_choose_76 : decode cX10_choose 76 = .ok (.aload_n 0, 1) := by decide +kernel
theorem dX10_choose_77 : decode cX10_choose 77 = .ok (.getfield 34, 3) := by decide +kernel
theorem dX10_choose_80 : decode cX10_choose 80 = .ok (.iload_n 1, 1) := by decide +kernel
theorem dX10_choose_81 : decode cX10_choose 81 = .ok (.aload_n 0, 1) := by decide +kernel
theorem dX10_choose_82 : decode cX10_choose 82 = .ok (.getfield 30, 3) := by decide +kernel
theorem dX10_choose_85 : decode cX10_choose 85 = .ok (.invokevirtual 122, 3) := by decide +kernel
theorem dX10_choose_88 : decode cX10_choose 88 = .ok (.aload_n 0, 1) := by decide +kernel
theorem dX10_choose_89 : decode cX10_choose 89 = .ok (.getfield 34, 3) := by decide +kernel
theorem dX10_choose_92 : decode cX10_choose 92 = .ok (.iconst 3, 1) := by decide +kernel
theorem dX10_choose_93 : decode cX10_choose 93 = .ok (.invokevirtual 119, 3) := by decide +kernel
theorem dX10_choose_96 : decode cX10_choose 96 = .ok (.istore 5, 2) := by decide +kernel
theorem dX10_choose_98 : decode cX10_choose 98 = .ok (.iload 5, 2) := by decide +kernel
theorem dX10_choose_100 : decode cX10_choose 100 = .ok (.iload_n 2, 1) := by decide +kernel
theorem dX10_choose_101 : decode cX10_choose 101 = .ok (.if_icmp .le 9, 3) := by decide +kernel
theorem dX10_choose_104 : decode cX10_choose 104 = .ok (.iload 5, 2) := by decide +kernel
theorem dX10_choose_106 : decode cX10_choose 106 = .ok (.istore_n 2, 1) := by decide +kernel
theorem dX10_choose_107 : decode cX10_choose 107 = .ok (.iload 4, 2) := by decide +kernel
theorem dX10_choose_109 : decode cX10_choose 109 = .ok (.istore_n 3, 1) := by decide +kernel
theorem dX10_choose_110 : decode cX10_choose 110 = .ok (.iinc 4 1, 3) := by decide +kernel
theorem dX10_choose_113 : decode cX10_choose 113 = .ok (.goto (-69), 3) := by decide +kernel
theorem dX10_choose_116 : decode cX10_choose 116 = .ok (.iload_n 3, 1) := by decide +kernel
theorem dX10_choose_117 : decode cX10_choose 117 = .ok (.ireturn, 1) := by decide +kernel
theorem dX10_mean_0 : decode cX10_mean 0 = .ok (.aload_n 0, 1) := by decide +kernel
theorem dX10_mean_1 : decode cX10_mean 1 = .ok (.getfield 23, 3) := by decide +kernel
theorem dX10_mean_4 : decode cX10_mean 4 = .ok (.iconst 3, 1) := by decide +kernel
theorem dX10_mean_5 : decode cX10_mean 5 = .ok (.invokevirtual 137, 3) := by decide +kernel
theorem dX10_mean_8 : decode cX10_mean 8 = .ok (.istore_n 1, 1) := by decide +kernel
theorem dX10_mean_9 : decode cX10_mean 9 = .ok (.iload_n 1, 1) := by decide +kernel
theorem dX10_mean_10 : decode cX10_mean 10 = .ok (.ifCond .le 18, 3) := by decide +kernel
theorem dX10_mean_13 : decode cX10_mean 13 = .ok (.aload_n 0, 1) := by decide +kernel
theorem dX10_mean_14 : decode cX10_mean 14 = .ok (.getfield 23, 3) := by decide +kernel
theorem dX10_mean_17 : decode cX10_mean 17 = .ok (.iconst 3, 1) := by decide +kernel
theorem dX10_mean_18 : decode cX10_mean 18 = .ok (.invokevirtual 119, 3) := by decide +kernel
theorem dX10_mean_21 : decode cX10_mean 21 = .ok (.i2d, 1) := by decide +kernel
theorem dX10_mean_22 : decode cX10_mean 22 = .ok (.iload_n 1, 1) := by decide +kernel
theorem dX10_mean_23 : decode cX10_mean 23 = .ok (.i2d, 1) := by decide +kernel
theorem dX10_mean_24 : decode cX10_mean 24 = .ok (.ddiv, 1) := by decide +kernel
theorem dX10_mean_25 : decode cX10_mean 25 = .ok (.goto 4, 3) := by decide +kernel
theorem dX10_mean_28 : decode cX10_mean 28 = .ok (.dconst 0, 1) := by decide +kernel
theorem dX10_mean_29 : decode cX10_mean 29 = .ok (.dreturn, 1) := by decide +kernel
theorem dX10_digest_0 : decode cX10_digest 0 = .ok (.ldc2_w 146, 3) := by decide +kernel
theorem dX10_digest_3 : decode cX10_digest 3 = .ok (.lstore_n 1, 1) := by decide +kernel
theorem dX10_digest_4 : decode cX10_digest 4 = .ok (.iconst 0, 1) := by decide +kernel
theorem dX10_digest_5 : decode cX10_digest 5 = .ok (.istore_n 3, 1) := by decide +kernel
theorem dX10_digest_6 : decode cX10_digest 6 = .ok (.iload_n 3, 1) := by decide +kernel
theorem dX10_digest_7 : decode cX10_digest 7 = .ok (.bipush 13, 2) := by decide +kernel
theorem dX10_digest_9 : decode cX10_digest 9 = .ok (.if_icmp .ge 22, 3) := by decide +kernel
theorem dX10_digest_12 : decode cX10_digest 12 = .ok (.lload_n 1, 1) := by decide +kernel
theorem dX10_digest_13 : decode cX10_digest 13 = .ok (.ldc2_w 148, 3) := by decide +kernel
theorem dX10_digest_16 : decode cX10_digest 16 = .ok (.lmul, 1) := by decide +kernel
theorem dX10_digest_17 : decode cX10_digest 17 = .ok (.aload_n 0, 1) := by decide +kernel
theorem dX10_digest_18 : decode cX10_digest 18 = .ok (.iload_n 3, 1) := by decide +kernel
theorem dX10_digest_19 : decode cX10_digest 19 = .ok (.invokevirtual 150, 3) := by decide +kernel
theorem dX10_digest_22 : decode cX10_digest 22 = .ok (.i2l, 1) := by decide +kernel
theorem dX10_digest_23 : decode cX10_digest 23 = .ok (.ladd, 1) := by decide +kernel
theorem dX10_digest_24 : decode cX10_digest 24 = .ok (.lstore_n 1, 1) := by decide +kernel
theorem dX10_digest_25 : decode cX10_digest 25 = .ok (.iinc 3 1, 3) := by decide +kernel
theorem dX10_digest_28 : decode cX10_digest 28 = .ok (.goto (-22), 3) := by decide +kernel
theorem dX10_digest_31 : decode cX10_digest 31 = .ok (.iconst 0, 1) := by decide +kernel
theorem dX10_digest_32 : decode cX10_digest 32 = .ok (.istore_n 3, 1) := by decide +kernel
theorem dX10_digest_33 : decode cX10_digest 33 = .ok (.iload_n 3, 1) := by decide +kernel
theorem dX10_digest_34 : decode cX10_digest 34 = .ok (.aload_n 0, 1) := by decide +kernel
theorem dX10_digest_35 : decode cX10_digest 35 = .ok (.getfield 23, 3) := by decide +kernel
theorem dX10_digest_38 : decode cX10_digest 38 = .ok (.getfield 89, 3) := by decide +kernel
theorem dX10_digest_41 : decode cX10_digest 41 = .ok (.if_icmp .ge 42, 3) := by decide +kernel
theorem dX10_digest_44 : decode cX10_digest 44 = .ok (.iconst 0, 1) := by decide +kernel
theorem dX10_digest_45 : decode cX10_digest 45 = .ok (.istore 4, 2) := by decide +kernel
theorem dX10_digest_47 : decode cX10_digest 47 = .ok (.iload 4, 2) := by decide +kernel
theorem dX10_digest_49 : decode cX10_digest 49 = .ok (.iconst 5, 1) := by decide +kernel
theorem dX10_digest_50 : decode cX10_digest 50 = .ok (.if_icmp .ge 27, 3) := by decide +kernel
theorem dX10_digest_53 : decode cX10_digest 53 = .ok (.lload_n 1, 1) := by decide +kernel
theorem dX10_digest_54 : decode cX10_digest 54 = .ok (.ldc2_w 148, 3) := by decide +kernel
theorem dX10_digest_57 : decode cX10_digest 57 = .ok (.lmul, 1) := by decide +kernel
theorem dX10_digest_58 : decode cX10_digest 58 = .ok (.aload_n 0, 1) := by decide +kernel
theorem dX10_digest_59 : decode cX10_digest 59 = .ok (.getfield 23, 3) := by decide +kernel
theorem dX10_digest_62 : decode cX10_digest 62 = .ok (.iload_n 3, 1) := by decide +kernel
theorem dX10_digest_63 : decode cX10_digest 63 = .ok (.iload 4, 2) := by decide +kernel
theorem dX10_digest_65 : decode cX10_digest 65 = .ok (.invokevirtual 92, 3) := by decide +kernel
theorem dX10_digest_68 : decode cX10_digest 68 = .ok (.i2l, 1) := by decide +kernel
theorem dX10_digest_69 : decode cX10_digest 69 = .ok (.ladd, 1) := by decide +kernel
theorem dX10_digest_70 : decode cX10_digest 70 = .ok (.lstore_n 1, 1) := by decide +kernel
theorem dX10_digest_71 : decode cX10_digest 71 = .ok (.iinc 4 1, 3) := by decide +kernel
theorem dX10_digest_74 : decode cX10_digest 74 = .ok (.goto (-27), 3) := by decide +kernel
theorem dX10_digest_77 : decode cX10_digest 77 = .ok (.iinc 3 1, 3) := by decide +kernel
theorem dX10_digest_80 : decode cX10_digest 80 = .ok (.goto (-47), 3) := by decide +kernel
theorem dX10_digest_83 : decode cX10_digest 83 = .ok (.iconst 0, 1) := by decide +kernel
theorem dX10_digest_84 : decode cX10_digest 84 = .ok (.istore_n 3, 1) := by decide +kernel
theorem dX10_digest_85 : decode cX10_digest 85 = .ok (.iload_n 3, 1) := by decide +kernel
theorem dX10_digest_86 : decode cX10_digest 86 = .ok (.aload_n 0, 1) := by decide +kernel
theorem dX10_digest_87 : decode cX10_digest 87 = .ok (.getfield 23, 3) := by decide +kernel
theorem dX10_digest_90 : decode cX10_digest 90 = .ok (.getfield 96, 3) := by decide +kernel
theorem dX10_digest_93 : decode cX10_digest 93 = .ok (.if_icmp .ge 43, 3) := by decide +kernel
theorem dX10_digest_96 : decode cX10_digest 96 = .ok (.iconst 0, 1) := by decide +kernel
theorem dX10_digest_97 : decode cX10_digest 97 = .ok (.istore 4, 2) := by decide +kernel
theorem dX10_digest_99 : decode cX10_digest 99 = .ok (.iload 4, 2) := by decide +kernel
theorem dX10_digest_101 : decode cX10_digest 101 = .ok (.bipush 10, 2) := by decide +kernel
theorem dX10_digest_103 : decode cX10_digest 103 = .ok (.if_icmp .ge 27, 3) := by decide +kernel
theorem dX10_digest_106 : decode cX10_digest 106 = .ok (.lload_n 1, 1) := by decide +kernel
theorem dX10_digest_107 : decode cX10_digest 107 = .ok (.ldc2_w 148, 3) := by decide +kernel
theorem dX10_digest_110 : decode cX10_digest 110 = .ok (.lmul, 1) := by decide +kernel
theorem dX10_digest_111 : decode cX10_digest 111 = .ok (.aload_n 0, 1) := by decide +kernel
theorem dX10_digest_112 : decode cX10_digest 112 = .ok (.getfield 23, 3) := by decide +kernel
theorem dX10_digest_115 : decode cX10_digest 115 = .ok (.iload_n 3, 1) := by decide +kernel
theorem dX10_digest_116 : decode cX10_digest 116 = .ok (.iload 4, 2) := by decide +kernel
theorem dX10_digest_118 : decode cX10_digest 118 = .ok (.invokevirtual 99, 3) := by decide +kernel
theorem dX10_digest_121 : decode cX10_digest 121 = .ok (.i2l, 1) := by decide +kernel
theorem dX10_digest_122 : decode cX10_digest 122 = .ok (.ladd, 1) := by decide +kernel
theorem dX10_digest_123 : decode cX10_digest 123 = .ok (.lstore_n 1, 1) := by decide +kernel
theorem dX10_digest_124 : decode cX10_digest 124 = .ok (.iinc 4 1, 3) := by decide +kernel
theorem dX10_digest_127 : decode cX10_digest 127 = .ok (.goto (-28), 3) := by decide +kernel
theorem dX10_digest_130 : decode cX10_digest 130 = .ok (.iinc 3 1, 3) := by decide +kernel
theorem dX10_digest_133 : decode cX10_digest 133 = .ok (.goto (-48), 3) := by decide +kernel
theorem dX10_digest_136 : decode cX10_digest 136 = .ok (.iconst 0, 1) := by decide +kernel
theorem dX10_digest_137 : decode cX10_digest 137 = .ok (.istore_n 3, 1) := by decide +kernel
theorem dX10_digest_138 : decode cX10_digest 138 = .ok (.iload_n 3, 1) := by decide +kernel
theorem dX10_digest_139 : decode cX10_digest 139 = .ok (.aload_n 0, 1) := by decide +kernel
theorem dX10_digest_140 : decode cX10_digest 140 = .ok (.getfield 23, 3) := by decide +kernel
theorem dX10_digest_143 : decode cX10_digest 143 = .ok (.getfield 102, 3) := by decide +kernel
theorem dX10_digest_146 : decode cX10_digest 146 = .ok (.if_icmp .ge 42, 3) := by decide +kernel
theorem dX10_digest_149 : decode cX10_digest 149 = .ok (.iconst 0, 1) := by decide +kernel
theorem dX10_digest_150 : decode cX10_digest 150 = .ok (.istore 4, 2) := by decide +kernel
theorem dX10_digest_152 : decode cX10_digest 152 = .ok (.iload 4, 2) := by decide +kernel
theorem dX10_digest_154 : decode cX10_digest 154 = .ok (.iconst 4, 1) := by decide +kernel
theorem dX10_digest_155 : decode cX10_digest 155 = .ok (.if_icmp .ge 27, 3) := by decide +kernel
theorem dX10_digest_158 : decode cX10_digest 158 = .ok (.lload_n 1, 1) := by decide +kernel
theorem dX10_digest_159 : decode cX10_digest 159 = .ok (.ldc2_w 148, 3) := by decide +kernel
theorem dX10_digest_162 : decode cX10_digest 162 = .ok (.lmul, 1) := by decide +kernel
theorem dX10_digest_163 : decode cX10_digest 163 = .ok (.aload_n 0, 1) := by decide +kernel
theorem dX10_digest_164 : decode cX10_digest 164 = .ok (.getfield 23, 3) := by decide +kernel
theorem dX10_digest_167 : decode cX10_digest 167 = .ok (.iload_n 3, 1) := by decide +kernel
theorem dX10_digest_168 : decode cX10_digest 168 = .ok (.iload 4, 2) := by decide +kernel
theorem dX10_digest_170 : decode cX10_digest 170 = .ok (.invokevirtual 105, 3) := by decide +kernel
theorem dX10_digest_173 : decode cX10_digest 173 = .ok (.i2l, 1) := by decide +kernel
theorem dX10_digest_174 : decode cX10_digest 174 = .ok (.ladd, 1) := by decide +kernel
theorem dX10_digest_175 : decode cX10_digest 175 = .ok (.lstore_n 1, 1) := by decide +kernel
theorem dX10_digest_176 : decode cX10_digest 176 = .ok (.iinc 4 1, 3) := by decide +kernel
theorem dX10_digest_179 : decode cX10_digest 179 = .ok (.goto (-27), 3) := by decide +kernel
theorem dX10_digest_182 : decode cX10_digest 182 = .ok (.iinc 3 1, 3) := by decide +kernel
theorem dX10_digest_185 : decode cX10_digest 185 = .ok (.goto (-47), 3) := by decide +kernel
theorem dX10_digest_188 : decode cX10_digest 188 = .ok (.lload_n 1, 1) := by decide +kernel
theorem dX10_digest_189 : decode cX10_digest 189 = .ok (.lreturn, 1) := by decide +kernel
theorem dX10_checkIndex_0 : decode cX10_checkIndex 0 = .ok (.iload_n 0, 1) := by decide +kernel
theorem dX10_checkIndex_1 : decode cX10_checkIndex 1 = .ok (.ifCond .lt 8, 3) := by decide +kernel
theorem dX10_checkIndex_4 : decode cX10_checkIndex 4 = .ok (.iload_n 0, 1) := by decide +kernel
theorem dX10_checkIndex_5 : decode cX10_checkIndex 5 = .ok (.iload_n 1, 1) := by decide +kernel
theorem dX10_checkIndex_6 : decode cX10_checkIndex 6 = .ok (.if_icmp .lt 13, 3) := by decide +kernel
theorem dX10_checkIndex_9 : decode cX10_checkIndex 9 = .ok (.new 153, 3) := by decide +kernel
theorem dX10_checkIndex_12 : decode cX10_checkIndex 12 = .ok (.dup, 1) := by decide +kernel
theorem dX10_checkIndex_13 : decode cX10_checkIndex 13 = .ok (.ldc 155, 2) := by decide +kernel
theorem dX10_checkIndex_15 : decode cX10_checkIndex 15 = .ok (.invokespecial 157, 3) := by decide +kernel
theorem dX10_checkIndex_18 : decode cX10_checkIndex 18 = .ok (.athrow, 1) := by decide +kernel
theorem dX10_checkIndex_19 : decode cX10_checkIndex 19 = .ok (.return_, 1) := by decide +kernel
theorem dX10_checkRange_0 : decode cX10_checkRange 0 = .ok (.iload_n 0, 1) := by decide +kernel
theorem dX10_checkRange_1 : decode cX10_checkRange 1 = .ok (.iload_n 1, 1) := by decide +kernel
theorem dX10_checkRange_2 : decode cX10_checkRange 2 = .ok (.if_icmp .lt 8, 3) := by decide +kernel
theorem dX10_checkRange_5 : decode cX10_checkRange 5 = .ok (.iload_n 0, 1) := by decide +kernel
theorem dX10_checkRange_6 : decode cX10_checkRange 6 = .ok (.iload_n 2, 1) := by decide +kernel
theorem dX10_checkRange_7 : decode cX10_checkRange 7 = .ok (.if_icmp .le 13, 3) := by decide +kernel
theorem dX10_checkRange_10 : decode cX10_checkRange 10 = .ok (.new 158, 3) := by decide +kernel
theorem dX10_checkRange_13 : decode cX10_checkRange 13 = .ok (.dup, 1) := by decide +kernel
theorem dX10_checkRange_14 : decode cX10_checkRange 14 = .ok (.ldc 160, 2) := by decide +kernel
theorem dX10_checkRange_16 : decode cX10_checkRange 16 = .ok (.invokespecial 162, 3) := by decide +kernel
theorem dX10_checkRange_19 : decode cX10_checkRange 19 = .ok (.athrow, 1) := by decide +kernel
theorem dX10_checkRange_20 : decode cX10_checkRange 20 = .ok (.return_, 1) := by decide +kernel
theorem dX11_init_0 : decode cX11_init 0 = .ok (.aload_n 0, 1) := by decide +kernel
theorem dX11_init_1 : decode cX11_init 1 = .ok (.invokespecial 3, 3) := by decide +kernel
theorem dX11_init_4 : decode cX11_init 4 = .ok (.aload_n 0, 1) := by decide +kernel
theorem dX11_init_5 : decode cX11_init 5 = .ok (.bipush 8, 2) := by decide +kernel
theorem dX11_init_7 : decode cX11_init 7 = .ok (.newarray .int, 2) := by decide +kernel
theorem dX11_init_9 : decode cX11_init 9 = .ok (.putfield 9, 3) := by decide +kernel
theorem dX11_init_12 : decode cX11_init 12 = .ok (.aload_n 0, 1) := by decide +kernel
theorem dX11_init_13 : decode cX11_init 13 = .ok (.bipush 8, 2) := by decide +kernel
theorem dX11_init_15 : decode cX11_init 15 = .ok (.newarray .int, 2) := by decide +kernel
theorem dX11_init_17 : decode cX11_init 17 = .ok (.putfield 15, 3) := by decide +kernel
theorem dX11_init_20 : decode cX11_init 20 = .ok (.aload_n 0, 1) := by decide +kernel
theorem dX11_init_21 : decode cX11_init 21 = .ok (.bipush 8, 2) := by decide +kernel
theorem dX11_init_23 : decode cX11_init 23 = .ok (.newarray .int, 2) := by decide +kernel
theorem dX11_init_25 : decode cX11_init 25 = .ok (.putfield 18, 3) := by decide +kernel
theorem dX11_init_28 : decode cX11_init 28 = .ok (.aload_n 0, 1) := by decide +kernel
theorem dX11_init_29 : decode cX11_init 29 = .ok (.bipush 6, 2) := by decide +kernel
theorem dX11_init_31 : decode cX11_init 31 = .ok (.newarray .int, 2) := by decide +kernel
theorem dX11_init_33 : decode cX11_init 33 = .ok (.putfield 21, 3) := by decide +kernel
theorem dX11_init_36 : decode cX11_init 36 = .ok (.aload_n 0, 1) := by decide +kernel
theorem dX11_init_37 : decode cX11_init 37 = .ok (.bipush 6, 2) := by decide +kernel
theorem dX11_init_39 : decode cX11_init 39 = .ok (.newarray .int, 2) := by decide +kernel
theorem dX11_init_41 : decode cX11_init 41 = .ok (.putfield 24, 3) := by decide +kernel
theorem dX11_init_44 : decode cX11_init 44 = .ok (.aload_n 0, 1) := by decide +kernel
theorem dX11_init_45 : decode cX11_init 45 = .ok (.bipush 6, 2) := by decide +kernel
theorem dX11_init_47 : decode cX11_init 47 = .ok (.newarray .int, 2) := by decide +kernel
theorem dX11_init_49 : decode cX11_init 49 = .ok (.putfield 27, 3) := by decide +kernel
theorem dX11_init_52 : decode cX11_init 52 = .ok (.aload_n 0, 1) := by decide +kernel
theorem dX11_init_53 : decode cX11_init 53 = .ok (.bipush 6, 2) := by decide +kernel
theorem dX11_init_55 : decode cX11_init 55 = .ok (.newarray .int, 2) := by decide +kernel
theorem dX11_init_57 : decode cX11_init 57 = .ok (.putfield 30, 3) := by decide +kernel
theorem dX11_init_60 : decode cX11_init 60 = .ok (.aload_n 0, 1) := by decide +kernel
theorem dX11_init_61 : decode cX11_init 61 = .ok (.bipush 20, 2) := by decide +kernel
theorem dX11_init_63 : decode cX11_init 63 = .ok (.newarray .int, 2) := by decide +kernel
theorem dX11_init_65 : decode cX11_init 65 = .ok (.putfield 33, 3) := by decide +kernel
theorem dX11_init_68 : decode cX11_init 68 = .ok (.aload_n 0, 1) := by decide +kernel
theorem dX11_init_69 : decode cX11_init 69 = .ok (.bipush 12, 2) := by decide +kernel
theorem dX11_init_71 : decode cX11_init 71 = .ok (.newarray .int, 2) := by decide +kernel
theorem dX11_init_73 : decode cX11_init 73 = .ok (.putfield 36, 3) := by decide +kernel
theorem dX11_init_76 : decode cX11_init 76 = .ok (.aload_n 0, 1) := by decide +kernel
theorem dX11_init_77 : decode cX11_init 77 = .ok (.bipush 13, 2) := by decide +kernel
theorem dX11_init_79 : decode cX11_init 79 = .ok (.newarray .int, 2) := by decide +kernel
theorem dX11_init_81 : decode cX11_init 81 = .ok (.putfield 39, 3) := by decide +kernel
theorem dX11_init_84 : decode cX11_init 84 = .ok (.aload_n 0, 1) := by decide +kernel
theorem dX11_init_85 : decode cX11_init 85 = .ok (.bipush 13, 2) := by decide +kernel
theorem dX11_init_87 : decode cX11_init 87 = .ok (.newarray .int, 2) := by decide +kernel
theorem dX11_init_89 : decode cX11_init 89 = .ok (.putfield 42, 3) := by decide +kernel
theorem dX11_init_92 : decode cX11_init 92 = .ok (.aload_n 0, 1) := by decide +kernel
theorem dX11_init_93 : decode cX11_init 93 = .ok (.bipush 13, 2) := by decide +kernel
theorem dX11_init_95 : decode cX11_init 95 = .ok (.newarray .int, 2) := by decide +kernel
theorem dX11_init_97 : decode cX11_init 97 = .ok (.putfield 45, 3) := by decide +kernel
theorem dX11_init_100 : decode cX11_init 100 = .ok (.aload_n 0, 1) := by decide +kernel
theorem dX11_init_101 : decode cX11_init 101 = .ok (.bipush 12, 2) := by decide +kernel
theorem dX11_init_103 : decode cX11_init 103 = .ok (.newarray .int, 2) := by decide +kernel
theorem dX11_init_105 : decode cX11_init 105 = .ok (.putfield 48, 3) := by decide +kernel
theorem dX11_init_108 : decode cX11_init 108 = .ok (.aload_n 0, 1) := by decide +kernel
theorem dX11_init_109 : decode cX11_init 109 = .ok (.bipush 12, 2) := by decide +kernel
theorem dX11_init_111 : decode cX11_init 111 = .ok (.newarray .int, 2) := by decide +kernel
theorem dX11_init_113 : decode cX11_init 113 = .ok (.putfield 51, 3) := by decide +kernel
theorem dX11_init_116 : decode cX11_init 116 = .ok (.aload_n 0, 1) := by decide +kernel
theorem dX11_init_117 : decode cX11_init 117 = .ok (.bipush 13, 2) := by decide +kernel
theorem dX11_init_119 : decode cX11_init 119 = .ok (.newarray .int, 2) := by decide +kernel
theorem dX11_init_121 : decode cX11_init 121 = .ok (.putfield 54, 3) := by decide +kernel
theorem dX11_init_124 : decode cX11_init 124 = .ok (.aload_n 0, 1) := by decide +kernel
theorem dX11_init_125 : decode cX11_init 125 = .ok (.bipush 13, 2) := by decide +kernel
theorem dX11_init_127 : decode cX11_init 127 = .ok (.newarray .int, 2) := by decide +kernel
theorem dX11_init_129 : decode cX11_init 129 = .ok (.putfield 57, 3) := by decide +kernel
theorem dX11_init_132 : decode cX11_init 132 = .ok (.aload_n 0, 1) := by decide +kernel
theorem dX11_init_133 : decode cX11_init 133 = .ok (.sipush 800, 3) := by decide +kernel
theorem dX11_init_136 : decode cX11_init 136 = .ok (.newarray .int, 2) := by decide +kernel
theorem dX11_init_138 : decode cX11_init 138 = .ok (.putfield 60, 3) := by decide +kernel
theorem dX11_init_141 : decode cX11_init 141 = .ok (.aload_n 0, 1) := by decide +kernel
theorem dX11_init_142 : decode cX11_init 142 = .ok (.sipush 400, 3) := by decide +kernel
theorem dX11_init_145 : decode cX11_init 145 = .ok (.newarray .int, 2) := by decide +kernel
theorem dX11_init_147 : decode cX11_init 147 = .ok (.putfield 63, 3) := by decide +kernel
theorem dX11_init_150 : decode cX11_init 150 = .ok (.return_, 1) := by decide +kernel
theorem dX12_init_0 : decode cX12_init 0 = .ok (.aload_n 0, 1) := by decide +kernel
theorem dX12_init_1 : decode cX12_init 1 = .ok (.aload_n 1, 1) := by decide +kernel
theorem dX12_init_2 : decode cX12_init 2 = .ok (.putfield 3, 3) := by decide +kernel
theorem dX12_init_5 : decode cX12_init 5 = .ok (.aload_n 0, 1) := by decide +kernel
theorem dX12_init_6 : decode cX12_init 6 = .ok (.invokespecial 9, 3) := by decide +kernel
theorem dX12_init_9 : decode cX12_init 9 = .ok (.aload_n 0, 1) := by decide +kernel
theorem dX12_init_10 : decode cX12_init 10 = .ok (.bipush 8, 2) := by decide +kernel
theorem dX12_init_12 : decode cX12_init 12 = .ok (.newarray .int, 2) := by decide +kernel
theorem dX12_init_14 : decode cX12_init 14 = .ok (.putfield 15, 3) := by decide +kernel
theorem dX12_init_17 : decode cX12_init 17 = .ok (.aload_n 0, 1) := by decide +kernel
theorem dX12_init_18 : decode cX12_init 18 = .ok (.bipush 6, 2) := by decide +kernel
theorem dX12_init_20 : decode cX12_init 20 = .ok (.newarray .int, 2) := by decide +kernel
theorem dX12_init_22 : decode cX12_init 22 = .ok (.putfield 19, 3) := by decide +kernel
theorem dX12_init_25 : decode cX12_init 25 = .ok (.aload_n 0, 1) := by decide +kernel
theorem dX12_init_26 : decode cX12_init 26 = .ok (.bipush 6, 2) := by decide +kernel
theorem dX12_init_28 : decode cX12_init 28 = .ok (.newarray .int, 2) := by decide +kernel
theorem dX12_init_30 : decode cX12_init 30 = .ok (.putfield 22, 3) := by decide +kernel
theorem dX12_init_33 : decode cX12_init 33 = .ok (.aload_n 0, 1) := by decide +kernel
theorem dX12_init_34 : decode cX12_init 34 = .ok (.bipush 6, 2) := by decide +kernel
theorem dX12_init_36 : decode cX12_init 36 = .ok (.newarray .int, 2) := by decide +kernel
theorem dX12_init_38 : decode cX12_init 38 = .ok (.putfield 25, 3) := by decide +kernel
theorem dX12_init_41 : decode cX12_init 41 = .ok (.aload_n 0, 1) := by decide +kernel
theorem dX12_init_42 : decode cX12_init 42 = .ok (.bipush 6, 2) := by decide +kernel
theorem dX12_init_44 : decode cX12_init 44 = .ok (.newarray .int, 2) := by decide +kernel
theorem dX12_init_46 : decode cX12_init 46 = .ok (.putfield 28, 3) := by decide +kernel
theorem dX12_init_49 : decode cX12_init 49 = .ok (.aload_n 0, 1) := by decide +kernel
theorem dX12_init_50 : decode cX12_init 50 = .ok (.bipush 6, 2) := by decide +kernel
theorem dX12_init_52 : decode cX12_init 52 = .ok (.newarray .int, 2) := by decide +kernel
theorem dX12_init_54 : decode cX12_init 54 = .ok (.putfield 31, 3) := by decide +kernel
theorem dX12_init_57 : decode cX12_init 57 = .ok (.aload_n 0, 1) := by decide +kernel
theorem dX12_init_58 : decode cX12_init 58 = .ok (.bipush 6, 2) := by decide +kernel
theorem dX12_init_60 : decode cX12_init 60 = .ok (.newarray .int, 2) := by decide +kernel
theorem dX12_init_62 : decode cX12_init 62 = .ok (.putfield 34, 3) := by decide +kernel
theorem dX12_init_65 : decode cX12_init 65 = .ok (.aload_n 0, 1) := by decide +kernel
theorem dX12_init_66 : decode cX12_init 66 = .ok (.bipush 6, 2) := by decide +kernel
theorem dX12_init_68 : decode cX12_init 68 = .ok (.newarray .int, 2) := by decide +kernel
theorem dX12_init_70 : decode cX12_init 70 = .ok (.putfield 37, 3) := by decide +kernel
theorem dX12_init_73 : decode cX12_init 73 = .ok (.aload_n 0, 1) := by decide +kernel
theorem dX12_init_74 : decode cX12_init 74 = .ok (.bipush 6, 2) := by decide +kernel
theorem dX12_init_76 : decode cX12_init 76 = .ok (.newarray .int, 2) := by decide +kernel
theorem dX12_init_78 : decode cX12_init 78 = .ok (.putfield 40, 3) := by decide +kernel
theorem dX12_init_81 : decode cX12_init 81 = .ok (.aload_n 0, 1) := by decide +kernel
theorem dX12_init_82 : decode cX12_init 82 = .ok (.bipush 20, 2) := by decide +kernel
theorem dX12_init_84 : decode cX12_init 84 = .ok (.newarray .int, 2) := by decide +kernel
theorem dX12_init_86 : decode cX12_init 86 = .ok (.putfield 43, 3) := by decide +kernel
theorem dX12_init_89 : decode cX12_init 89 = .ok (.aload_n 0, 1) := by decide +kernel
theorem dX12_init_90 : decode cX12_init 90 = .ok (.bipush 20, 2) := by decide +kernel
theorem dX12_init_92 : decode cX12_init 92 = .ok (.newarray .int, 2) := by decide +kernel
theorem dX12_init_94 : decode cX12_init 94 = .ok (.putfield 46, 3) := by decide +kernel
theorem dX12_init_97 : decode cX12_init 97 = .ok (.aload_n 0, 1) := by decide +kernel
theorem dX12_init_98 : decode cX12_init 98 = .ok (.bipush 20, 2) := by decide +kernel
theorem dX12_init_100 : decode cX12_init 100 = .ok (.newarray .int, 2) := by decide +kernel
theorem dX12_init_102 : decode cX12_init 102 = .ok (.putfield 49, 3) := by decide +kernel
theorem dX12_init_105 : decode cX12_init 105 = .ok (.aload_n 0, 1) := by decide +kernel
theorem dX12_init_106 : decode cX12_init 106 = .ok (.sipush 400, 3) := by decide +kernel
theorem dX12_init_109 : decode cX12_init 109 = .ok (.newarray .int, 2) := by decide +kernel
theorem dX12_init_111 : decode cX12_init 111 = .ok (.putfield 52, 3) := by decide +kernel
theorem dX12_init_114 : decode cX12_init 114 = .ok (.return_, 1) := by decide +kernel
theorem dX12_copy_0 : decode cX12_copy 0 = .ok (.aload_n 1, 1) := by decide +kernel
theorem dX12_copy_1 : decode cX12_copy 1 = .ok (.iconst 0, 1) := by decide +kernel
theorem dX12_copy_2 : decode cX12_copy 2 = .ok (.aload_n 2, 1) := by decide +kernel
theorem dX12_copy_3 : decode cX12_copy 3 = .ok (.iconst 0, 1) := by decide +kernel
theorem dX12_copy_4 : decode cX12_copy 4 = .ok (.aload_n 1, 1) := by decide +kernel
theorem dX12_copy_5 : decode cX12_copy 5 = .ok (.arraylength, 1) := by decide +kernel
theorem dX12_copy_6 : decode cX12_copy 6 = .ok (.invokestatic 55, 3) := by decide +kernel
theorem dX12_copy_9 : decode cX12_copy 9 = .ok (.return_, 1) := by decide +kernel
theorem dX12_become_0 : decode cX12_become 0 = .ok (.aload_n 0, 1) := by decide +kernel
theorem dX12_become_1 : decode cX12_become 1 = .ok (.aload_n 1, 1) := by decide +kernel
theorem dX12_become_2 : decode cX12_become 2 = .ok (.getfield 61, 3) := by decide +kernel
theorem dX12_become_5 : decode cX12_become 5 = .ok (.putfield 61, 3) := by decide +kernel
theorem dX12_become_8 : decode cX12_become 8 = .ok (.aload_n 0, 1) := by decide +kernel
theorem dX12_become_9 : decode cX12_become 9 = .ok (.aload_n 1, 1) := by decide +kernel
theorem dX12_become_10 : decode cX12_become 10 = .ok (.getfield 65, 3) := by decide +kernel
theorem dX12_become_13 : decode cX12_become 13 = .ok (.putfield 65, 3) := by decide +kernel
theorem dX12_become_16 : decode cX12_become 16 = .ok (.aload_n 0, 1) := by decide +kernel
theorem dX12_become_17 : decode cX12_become 17 = .ok (.aload_n 1, 1) := by decide +kernel
theorem dX12_become_18 : decode cX12_become 18 = .ok (.getfield 68, 3) := by decide +kernel
theorem dX12_become_21 : decode cX12_become 21 = .ok (.putfield 68, 3) := by decide +kernel
theorem dX12_become_24 : decode cX12_become 24 = .ok (.aload_n 0, 1) := by decide +kernel
theorem dX12_become_25 : decode cX12_become 25 = .ok (.aload_n 1, 1) := by decide +kernel
theorem dX12_become_26 : decode cX12_become 26 = .ok (.getfield 15, 3) := by decide +kernel
theorem dX12_become_29 : decode cX12_become 29 = .ok (.aload_n 0, 1) := by decide +kernel
theorem dX12_become_30 : decode cX12_become 30 = .ok (.getfield 15, 3) := by decide +kernel
theorem dX12_become_33 : decode cX12_become 33 = .ok (.invokevirtual 71, 3) := by decide +kernel
theorem dX12_become_36 : decode cX12_become 36 = .ok (.aload_n 0, 1) := by decide +kernel
theorem dX12_become_37 : decode cX12_become 37 = .ok (.aload_n 1, 1) := by decide +kernel
theorem dX12_become_38 : decode cX12_become 38 = .ok (.getfield 19, 3) := by decide +kernel
theorem dX12_become_41 : decode cX12_become 41 = .ok (.aload_n 0, 1) := by decide +kernel
theorem dX12_become_42 : decode cX12_become 42 = .ok (.getfield 19, 3) := by decide +kernel
theorem dX12_become_45 : decode cX12_become 45 = .ok (.invokevirtual 71, 3) := by decide +kernel
theorem dX12_become_48 : decode cX12_become 48 = .ok (.aload_n 0, 1) := by decide +kernel
theorem dX12_become_49 : decode cX12_become 49 = .ok (.aload_n 1, 1) := by decide +kernel
theorem dX12_become_50 : decode cX12_become 50 = .ok (.getfield 22, 3) := by decide +kernel
theorem dX12_become_53 : decode cX12_become 53 = .ok (.aload_n 0, 1) := by decide +kernel
theorem dX12_become_54 : decode cX12_become 54 = .ok (.getfield 22, 3) := by decide +kernel
theorem dX12_become_57 : decode cX12_become 57 = .ok (.invokevirtual 71, 3) := by decide +kernel
theorem dX12_become_60 : decode cX12_become 60 = .ok (.aload_n 0, 1) := by decide +kernel
theorem dX12_become_61 : decode cX12_become 61 = .ok (.aload_n 1, 1) := by decide +kernel
theorem dX12_become_62 : decode cX12_become 62 = .ok (.getfield 25, 3) := by decide +kernel
theorem dX12_become_65 : decode cX12_become 65 = .ok (.aload_n 0, 1) := by decide +kernel
theorem dX12_become_66 : decode cX12_become 66 = .ok (.getfield 25, 3) := by decide +kernel
theorem dX12_become_69 : decode cX12_become 69 = .ok (.invokevirtual 71, 3) := by decide +kernel
theorem dX12_become_72 : decode cX12_become 72 = .ok (.aload_n 0, 1) := by decide +kernel
theorem dX12_become_73 : decode cX12_become 73 = .ok (.aload_n 1, 1) := by decide +kernel
theorem dX12_become_74 : decode cX12_become 74 = .ok (.getfield 28, 3) := by decide +kernel
theorem dX12_become_77 : decode cX12_become 77 = .ok (.aload_n 0, 1) := by decide +kernel
theorem dX12_become_78 : decode cX12_become 78 = .ok (.getfield 28, 3) := by decide +kernel
theorem dX12_become_81 : decode cX12_become 81 = .ok (.invokevirtual 71, 3) := by decide +kernel
theorem dX12_become_84 : decode cX12_become 84 = .ok (.aload_n 0, 1) := by decide +kernel
theorem dX12_become_85 : decode cX12_become 85 = .ok (.aload_n 1, 1) := by decide +kernel
theorem dX12_become_86 : decode cX12_become 86 = .ok (.getfield 31, 3) := by decide +kernel
theorem dX12_become_89 : decode cX12_become 89 = .ok (.aload_n 0, 1) := by decide +kernel
theorem dX12_become_90 : decode cX12_become 90 = .ok (.getfield 31, 3) := by decide +kernel
theorem dX12_become_93 : decode cX12_become 93 = .ok (.invokevirtual 71, 3) := by decide +kernel
theorem dX12_become_96 : decode cX12_become 96 = .ok (.aload_n 0, 1) := by decide +kernel
theorem dX12_become_97 : decode cX12_become 97 = .ok (.aload_n 1, 1) := by decide +kernel
theorem dX12_become_98 : decode cX12_become 98 = .ok (.getfield 34, 3) := by decide +kernel
theorem dX12_become_101 : decode cX12_become 101 = .ok (.aload_n 0, 1) := by decide +kernel
theorem dX12_become_102 : decode cX12_become 102 = .ok (.getfield 34, 3) := by decide +kernel
theorem dX12_become_105 : decode cX12_become 105 = .ok (.invokevirtual 71, 3) := by decide +kernel
theorem dX12_become_108 : decode cX12_become 108 = .ok (.aload_n 0, 1) := by decide +kernel
theorem dX12_become_109 : decode cX12_become 109 = .ok (.aload_n 1, 1) := by decide +kernel
theorem dX12_become_110 : decode cX12_become 110 = .ok (.getfield 37, 3) := by decide +kernel
theorem dX12_become_113 : decode cX12_become 113 = .ok (.aload_n 0, 1) := by decide +kernel
theorem dX12_become_114 : decode cX12_become 114 = .ok (.getfield 37, 3) := by decide +kernel
theorem dX12_become_117 : decode cX12_become 117 = .ok (.invokevirtual 71, 3) := by decide +kernel
theorem dX12_become_120 : decode cX12_become 120 = .ok (.aload_n 0, 1) := by decide +kernel
theorem dX12_become_121 : decode cX12_become 121 = .ok (.aload_n 1, 1) := by decide +kernel
theorem dX12_become_122 : decode cX12_become 122 = .ok (.getfield 43, 3) := by decide +kernel
theorem dX12_become_125 : decode cX12_become 125 = .ok (.aload_n 0, 1) := by decide +kernel
theorem dX12_become_126 : decode cX12_become 126 = .ok (.getfield 43, 3) := by decide +kernel
theorem dX12_become_129 : decode cX12_become 129 = .ok (.invokevirtual 71, 3) := by decide +kernel
theorem dX12_become_132 : decode cX12_become 132 = .ok (.aload_n 0, 1) := by decide +kernel
theorem dX12_become_133 : decode cX12_become 133 = .ok (.aload_n 1, 1) := by decide +kernel
theorem dX12_become_134 : decode cX12_become 134 = .ok (.getfield 46, 3) := by decide +kernel
theorem dX12_become_137 : decode cX12_become 137 = .ok (.aload_n 0, 1) := by decide +kernel
theorem dX12_become_138 : decode cX12_become 138 = .ok (.getfield 46, 3) := by decide +kernel
theorem dX12_become_141 : decode cX12_become 141 = .ok (.invokevirtual 71, 3) := by decide +kernel
theorem dX12_become_144 : decode cX12_become 144 = .ok (.aload_n 0, 1) := by decide +kernel
theorem dX12_become_145 : decode cX12_become 145 = .ok (.aload_n 1, 1) := by decide +kernel
theorem dX12_become_146 : decode cX12_become 146 = .ok (.getfield 49, 3) := by decide +kernel
theorem dX12_become_149 : decode cX12_become 149 = .ok (.aload_n 0, 1) := by decide +kernel
theorem dX12_become_150 : decode cX12_become 150 = .ok (.getfield 49, 3) := by decide +kernel
theorem dX12_become_153 : decode cX12_become 153 = .ok (.invokevirtual 71, 3) := by decide +kernel
theorem dX12_become_156 : decode cX12_become 156 = .ok (.return_, 1) := by decide +kernel
theorem dX12_begin_0 : decode cX12_begin 0 = .ok (.aload_n 0, 1) := by decide +kernel
theorem dX12_begin_1 : decode cX12_begin 1 = .ok (.iconst 0, 1) := by decide +kernel
theorem dX12_begin_2 : decode cX12_begin 2 = .ok (.putfield 68, 3) := by decide +kernel
theorem dX12_begin_5 : decode cX12_begin 5 = .ok (.aload_n 0, 1) := by decide +kernel
theorem dX12_begin_6 : decode cX12_begin 6 = .ok (.aload_n 0, 1) := by decide +kernel
theorem dX12_begin_7 : decode cX12_begin 7 = .ok (.getfield 3, 3) := by decide +kernel
theorem dX12_begin_10 : decode cX12_begin 10 = .ok (.getfield 75, 3) := by decide +kernel
theorem dX12_begin_13 : decode cX12_begin 13 = .ok (.getfield 79, 3) := by decide +kernel
theorem dX12_begin_16 : decode cX12_begin 16 = .ok (.aload_n 0, 1) := by decide +kernel
theorem dX12_begin_17 : decode cX12_begin 17 = .ok (.getfield 15, 3) := by decide +kernel
theorem dX12_begin_20 : decode cX12_begin 20 = .ok (.invokevirtual 71, 3) := by decide +kernel
theorem dX12_begin_23 : decode cX12_begin 23 = .ok (.aload_n 0, 1) := by decide +kernel
theorem dX12_begin_24 : decode cX12_begin 24 = .ok (.aload_n 0, 1) := by decide +kernel
theorem dX12_begin_25 : decode cX12_begin 25 = .ok (.getfield 3, 3) := by decide +kernel
theorem dX12_begin_28 : decode cX12_begin 28 = .ok (.getfield 75, 3) := by decide +kernel
theorem dX12_begin_31 : decode cX12_begin 31 = .ok (.getfield 82, 3) := by decide +kernel
theorem dX12_begin_34 : decode cX12_begin 34 = .ok (.aload_n 0, 1) := by decide +kernel
theorem dX12_begin_35 : decode cX12_begin 35 = .ok (.getfield 31, 3) := by decide +kernel
theorem dX12_begin_38 : decode cX12_begin 38 = .ok (.invokevirtual 71, 3) := by decide +kernel
theorem dX12_begin_41 : decode cX12_begin 41 = .ok (.aload_n 0, 1) := by decide +kernel
theorem dX12_begin_42 : decode cX12_begin 42 = .ok (.aload_n 0, 1) := by decide +kernel
theorem dX12_begin_43 : decode cX12_begin 43 = .ok (.getfield 3, 3) := by decide +kernel
theorem dX12_begin_46 : decode cX12_begin 46 = .ok (.getfield 75, 3) := by decide +kernel
theorem dX12_begin_49 : decode cX12_begin 49 = .ok (.getfield 83, 3) := by decide +kernel
theorem dX12_begin_52 : decode cX12_begin 52 = .ok (.aload_n 0, 1) := by decide +kernel
theorem dX12_begin_53 : decode cX12_begin 53 = .ok (.getfield 34, 3) := by decide +kernel
theorem dX12_begin_56 : decode cX12_begin 56 = .ok (.invokevirtual 71, 3) := by decide +kernel
theorem dX12_begin_59 : decode cX12_begin 59 = .ok (.iconst 0, 1) := by decide +kernel
theorem dX12_begin_60 : decode cX12_begin 60 = .ok (.istore_n 1, 1) := by decide +kernel
theorem dX12_begin_61 : decode cX12_begin 61 = .ok (.iload_n 1, 1) := by decide +kernel
theorem dX12_begin_62 : decode cX12_begin 62 = .ok (.bipush 6, 2) := by decide +kernel
theorem dX12_begin_64 : decode cX12_begin 64 = .ok (.if_icmp .ge 44, 3) := by decide +kernel
theorem dX12_begin_67 : decode cX12_begin 67 = .ok (.aload_n 0, 1) := by decide +kernel
theorem dX12_begin_68 : decode cX12_begin 68 = .ok (.getfield 19, 3) := by decide +kernel
theorem dX12_begin_71 : decode cX12_begin 71 = .ok (.iload_n 1, 1) := by decide +kernel
theorem dX12_begin_72 : decode cX12_begin 72 = .ok (.iconst (-1), 1) := by decide +kernel
theorem dX12_begin_73 : decode cX12_begin 73 = .ok (.iastore, 1) := by decide +kernel
theorem dX12_begin_74 : decode cX12_begin 74 = .ok (.aload_n 0, 1) := by decide +kernel
theorem dX12_begin_75 : decode cX12_begin 75 = .ok (.getfield 22, 3) := by decide +kernel
theorem dX12_begin_78 : decode cX12_begin 78 = .ok (.iload_n 1, 1) := by decide +kernel
theorem dX12_begin_79 : decode cX12_begin 79 = .ok (.iconst 0, 1) := by decide +kernel
theorem dX12_begin_80 : decode cX12_begin 80 = .ok (.iastore, 1) := by decide +kernel
theorem dX12_begin_81 : decode cX12_begin 81 = .ok (.aload_n 0, 1) := by decide +kernel
theorem dX12_begin_82 : decode cX12_begin 82 = .ok (.getfield 25, 3) := by decide +kernel
theorem dX12_begin_85 : decode cX12_begin 85 = .ok (.iload_n 1, 1) := by decide +kernel
theorem dX12_begin_86 : decode cX12_begin 86 = .ok (.iconst 0, 1) := by decide +kernel
theorem dX12_begin_87 : decode cX12_begin 87 = .ok (.iastore, 1) := by decide +kernel
theorem dX12_begin_88 : decode cX12_begin 88 = .ok (.aload_n 0, 1) := by decide +kernel
theorem dX12_begin_89 : decode cX12_begin 89 = .ok (.getfield 28, 3) := by decide +kernel
theorem dX12_begin_92 : decode cX12_begin 92 = .ok (.iload_n 1, 1) := by decide +kernel
theorem dX12_begin_93 : decode cX12_begin 93 = .ok (.iconst 0, 1) := by decide +kernel
theorem dX12_begin_94 : decode cX12_begin 94 = .ok (.iastore, 1) := by decide +kernel
theorem dX12_begin_95 : decode cX12_begin 95 = .ok (.aload_n 0, 1) := by decide +kernel
theorem dX12_begin_96 : decode cX12_begin 96 = .ok (.getfield 37, 3) := by decide +kernel
theorem dX12_begin_99 : decode cX12_begin 99 = .ok (.iload_n 1, 1) := by decide +kernel
theorem dX12_begin_100 : decode cX12_begin 100 = .ok (.iconst 0, 1) := by decide +kernel
theorem dX12_begin_101 : decode cX12_begin 101 = .ok (.iastore, 1) := by decide +kernel
theorem dX12_begin_102 : decode cX12_begin 102 = .ok (.iinc 1 1, 3) := by decide +kernel
theorem dX12_begin_105 : decode cX12_begin 105 = .ok (.goto (-44), 3) := by decide +kernel
theorem dX12_begin_108 : decode cX12_begin 108 = .ok (.iconst 0, 1) := by decide +kernel
theorem dX12_begin_109 : decode cX12_begin 109 = .ok (.istore_n 1, 1) := by decide +kernel
theorem dX12_begin_110 : decode cX12_begin 110 = .ok (.iload_n 1, 1) := by decide +kernel
theorem dX12_begin_111 : decode cX12_begin 111 = .ok (.bipush 20, 2) := by decide +kernel
theorem dX12_begin_113 : decode cX12_begin 113 = .ok (.if_icmp .ge 30, 3) := by decide +kernel
theorem dX12_begin_116 : decode cX12_begin 116 = .ok (.aload_n 0, 1) := by decide +kernel
theorem dX12_begin_117 : decode cX12_begin 117 = .ok (.getfield 43, 3) := by decide +kernel
theorem dX12_begin_120 : decode cX12_begin 120 = .ok (.iload_n 1, 1) := by decide +kernel
theorem dX12_begin_121 : decode cX12_begin 121 = .ok (.iconst 0, 1) := by decide +kernel
theorem dX12_begin_122 : decode cX12_begin 122 = .ok (.iastore, 1) := by decide +kernel
theorem dX12_begin_123 : decode cX12_begin 123 = .ok (.aload_n 0, 1) := by decide +kernel
theorem dX12_begin_124 : decode cX12_begin 124 = .ok (.getfield 46, 3) := by decide +kernel
theorem dX12_begin_127 : decode cX12_begin 127 = .ok (.iload_n 1, 1) := by decide +kernel
theorem dX12_begin_128 : decode cX12_begin 128 = .ok (.iconst (-1), 1) := by decide +kernel
theorem dX12_begin_129 : decode cX12_begin 129 = .ok (.iastore, 1) := by decide +kernel
theorem dX12_begin_130 : decode cX12_begin 130 = .ok (.aload_n 0, 1) := by decide +kernel
theorem dX12_begin_131 : decode cX12_begin 131 = .ok (.getfield 49, 3) := by decide +kernel
theorem dX12_begin_134 : decode cX12_begin 134 = .ok (.iload_n 1, 1) := by decide +kernel
theorem dX12_begin_135 : decode cX12_begin 135 = .ok (.iconst (-1), 1) := by decide +kernel
theorem dX12_begin_136 : decode cX12_begin 136 = .ok (.iastore, 1) := by decide +kernel
theorem dX12_begin_137 : decode cX12_begin 137 = .ok (.iinc 1 1, 3) := by decide +kernel
theorem dX12_begin_140 : decode cX12_begin 140 = .ok (.goto (-30), 3) := by decide +kernel
theorem dX12_begin_143 : decode cX12_begin 143 = .ok (.return_, 1) := by decide +kernel
theorem dX12_weights_0 : decode cX12_weights 0 = .ok (.iconst 0, 1) := by decide +kernel
theorem dX12_weights_1 : decode cX12_weights 1 = .ok (.istore_n 3, 1) := by decide +kernel
theorem dX12_weights_2 : decode cX12_weights 2 = .ok (.iconst 0, 1) := by decide +kernel
theorem dX12_weights_3 : decode cX12_weights 3 = .ok (.istore 4, 2) := by decide +kernel
theorem dX12_weights_5 : decode cX12_weights 5 = .ok (.iload 4, 2) := by decide +kernel
theorem dX12_weights_7 : decode cX12_weights 7 = .ok (.aload_n 0, 1) := by decide +kernel
theorem dX12_weights_8 : decode cX12_weights 8 = .ok (.getfield 3, 3) := by decide +kernel
theorem dX12_weights_11 : decode cX12_weights 11 = .ok (.getfield 75, 3) := by decide +kernel
theorem dX12_weights_14 : decode cX12_weights 14 = .ok (.getfield 84, 3) := by decide +kernel
theorem dX12_weights_17 : decode cX12_weights 17 = .ok (.if_icmp .ge 56, 3) := by decide +kernel
theorem dX12_weights_20 : decode cX12_weights 20 = .ok (.iload_n 3, 1) := by decide +kernel
theorem dX12_weights_21 : decode cX12_weights 21 = .ok (.aload_n 0, 1) := by decide +kernel
theorem dX12_weights_22 : decode cX12_weights 22 = .ok (.getfield 43, 3) := by decide +kernel
theorem dX12_weights_25 : decode cX12_weights 25 = .ok (.iload 4, 2) := by decide +kernel
theorem dX12_weights_27 : decode cX12_weights 27 = .ok (.iaload, 1) := by decide +kernel
theorem dX12_weights_28 : decode cX12_weights 28 = .ok (.iload_n 1, 1) := by decide +kernel
theorem dX12_weights_29 : decode cX12_weights 29 = .ok (.if_icmp .ne 35, 3) := by decide +kernel
theorem dX12_weights_32 : decode cX12_weights 32 = .ok (.iload_n 2, 1) := by decide +kernel
theorem dX12_weights_33 : decode cX12_weights 33 = .ok (.iconst (-1), 1) := by decide +kernel
theorem dX12_weights_34 : decode cX12_weights 34 = .ok (.if_icmp .eq 14, 3) := by decide +kernel
theorem dX12_weights_37 : decode cX12_weights 37 = .ok (.aload_n 0, 1) := by decide +kernel
theorem dX12_weights_38 : decode cX12_weights 38 = .ok (.getfield 46, 3) := by decide +kernel
theorem dX12_weights_41 : decode cX12_weights 41 = .ok (.iload 4, 2) := by decide +kernel
theorem dX12_weights_43 : decode cX12_weights 43 = .ok (.iaload, 1) := by decide +kernel
theorem dX12_weights_44 : decode cX12_weights 44 = .ok (.iload_n 2, 1) := by decide +kernel
theorem dX12_weights_45 : decode cX12_weights 45 = .ok (.if_icmp .ne 19, 3) := by decide +kernel
theorem dX12_weights_48 : decode cX12_weights 48 = .ok (.aload_n 0, 1) := by decide +kernel
theorem dX12_weights_49 : decode cX12_weights 49 = .ok (.getfield 3, 3) := by decide +kernel
theorem dX12_weights_52 : decode cX12_weights 52 = .ok (.getfield 75, 3) := by decide +kernel
theorem dX12_weights_55 : decode cX12_weights 55 = .ok (.getfield 87, 3) := by decide +kernel
theorem dX12_weights_58 : decode cX12_weights 58 = .ok (.iload 4, 2) := by decide +kernel
theorem dX12_weights_60 : decode cX12_weights 60 = .ok (.iaload, 1) := by decide +kernel
theorem dX12_weights_61 : decode cX12_weights 61 = .ok (.goto 4, 3) := by decide +kernel
theorem dX12_weights_64 : decode cX12_weights 64 = .ok (.iconst 0, 1) := by decide +kernel
theorem dX12_weights_65 : decode cX12_weights 65 = .ok (.iadd, 1) := by decide +kernel
theorem dX12_weights_66 : decode cX12_weights 66 = .ok (.istore_n 3, 1) := by decide +kernel
theorem dX12_weights_67 : decode cX12_weights 67 = .ok (.iinc 4 1, 3) := by decide +kernel
theorem dX12_weights_70 : decode cX12_weights 70 = .ok (.goto (-65), 3) := by decide +kernel
theorem dX12_weights_73 : decode cX12_weights 73 = .ok (.iload_n 3, 1) := by decide +kernel
theorem dX12_weights_74 : decode cX12_weights 74 = .ok (.ireturn, 1) := by decide +kernel
theorem dX12_logs_0 : decode cX12_logs 0 = .ok (.iconst 0, 1) := by decide +kernel
theorem dX12_logs_1 : decode cX12_logs 1 = .ok (.istore_n 3, 1) := by decide +kernel
theorem dX12_logs_2 : decode cX12_logs 2 = .ok (.iconst 0, 1) := by decide +kernel
theorem dX12_logs_3 : decode cX12_logs 3 = .ok (.istore 4, 2) := by decide +kernel
theorem dX12_logs_5 : decode cX12_logs 5 = .ok (.iload 4, 2) := by decide +kernel
theorem dX12_logs_7 : decode cX12_logs 7 = .ok (.aload_n 0, 1) := by decide +kernel
theorem dX12_logs_8 : decode cX12_logs 8 = .ok (.getfield 3, 3) := by decide +kernel
theorem dX12_logs_11 : decode cX12_logs 11 = .ok (.getfield 75, 3) := by decide +kernel
theorem dX12_logs_14 : decode cX12_logs 14 = .ok (.getfield 84, 3) := by decide +kernel
theorem dX12_logs_17 : decode cX12_logs 17 = .ok (.if_icmp .ge 44, 3) := by decide +kernel
theorem dX12_logs_20 : decode cX12_logs 20 = .ok (.iload_n 3, 1) := by decide +kernel
theorem dX12_logs_21 : decode cX12_logs 21 = .ok (.aload_n 0, 1) := by decide +kernel
theorem dX12_logs_22 : decode cX12_logs 22 = .ok (.getfield 43, 3) := by decide +kernel
theorem dX12_logs_25 : decode cX12_logs 25 = .ok (.iload 4, 2) := by decide +kernel
theorem dX12_logs_27 : decode cX12_logs 27 = .ok (.iaload, 1) := by decide +kernel
theorem dX12_logs_28 : decode cX12_logs 28 = .ok (.iload_n 1, 1) := by decide +kernel
theorem dX12_logs_29 : decode cX12_logs 29 = .ok (.if_icmp .ne 23, 3) := by decide +kernel
theorem dX12_logs_32 : decode cX12_logs 32 = .ok (.iload_n 2, 1) := by decide +kernel
theorem dX12_logs_33 : decode cX12_logs 33 = .ok (.iconst (-1), 1) := by decide +kernel
theorem dX12_logs_34 : decode cX12_logs 34 = .ok (.if_icmp .eq 14, 3) := by decide +kernel
theorem dX12_logs_37 : decode cX12_logs 37 = .ok (.aload_n 0, 1) := by decide +kernel
theorem dX12_logs_38 : decode cX12_logs 38 = .ok (.getfield 46, 3) := by decide +kernel
theorem dX12_logs_41 : decode cX12_logs 41 = .ok (.iload 4, 2) := by decide +kernel
theorem dX12_logs_43 : decode cX12_logs 43 = .ok (.iaload, 1) := by decide +kernel
theorem dX12_logs_44 : decode cX12_logs 44 = .ok (.iload_n 2, 1) := by decide +kernel
theorem dX12_logs_45 : decode cX12_logs 45 = .ok (.if_icmp .ne 7, 3) := by decide +kernel
theorem dX12_logs_48 : decode cX12_logs 48 = .ok (.iconst 1, 1) := by decide +kernel
theorem dX12_logs_49 : decode cX12_logs 49 = .ok (.goto 4, 3) := by decide +kernel
theorem dX12_logs_52 : decode cX12_logs 52 = .ok (.iconst 0, 1) := by decide +kernel
theorem dX12_logs_53 : decode cX12_logs 53 = .ok (.iadd, 1) := by decide +kernel
theorem dX12_logs_54 : decode cX12_logs 54 = .ok (.istore_n 3, 1) := by decide +kernel
theorem dX12_logs_55 : decode cX12_logs 55 = .ok (.iinc 4 1, 3) := by decide +kernel
theorem dX12_logs_58 : decode cX12_logs 58 = .ok (.goto (-53), 3) := by decide +kernel
theorem dX12_logs_61 : decode cX12_logs 61 = .ok (.iload_n 3, 1) := by decide +kernel
theorem dX12_logs_62 : decode cX12_logs 62 = .ok (.ireturn, 1) := by decide +kernel
theorem dX12_load_0 : decode cX12_load 0 = .ok (.aload_n 0, 1) := by decide +kernel
theorem dX12_load_1 : decode cX12_load 1 = .ok (.iconst 1, 1) := by decide +kernel
theorem dX12_load_2 : decode cX12_load 2 = .ok (.iload_n 1, 1) := by decide +kernel
theorem dX12_load_3 : decode cX12_load 3 = .ok (.invokevirtual 90, 3) := by decide +kernel
theorem dX12_load_6 : decode cX12_load 6 = .ok (.ireturn, 1) := by decide +kernel
theorem dX12_needs_0 : decode cX12_needs 0 = .ok (.iconst 0, 1) := by decide +kernel
theorem dX12_needs_1 : decode cX12_needs 1 = .ok (.aload_n 0, 1) := by decide +kernel
theorem dX12_needs_2 : decode cX12_needs 2 = .ok (.iload_n 1, 1) := by decide +kernel
theorem dX12_needs_3 : decode cX12_needs 3 = .ok (.invokevirtual 94, 3) := by decide +kernel
theorem dX12_needs_6 : decode cX12_needs 6 = .ok (.bipush 10, 2) := by decide +kernel
theorem dX12_needs_8 : decode cX12_needs 8 = .ok (.aload_n 0, 1) := by decide +kernel
theorem dX12_needs_9 : decode cX12_needs 9 = .ok (.getfield 3, 3) := by decide +kernel
theorem dX12_needs_12 : decode cX12_needs 12 = .ok (.getfield 75, 3) := by decide +kernel
theorem dX12_needs_15 : decode cX12_needs 15 = .ok (.getfield 98, 3) := by decide +kernel
theorem dX12_needs_18 : decode cX12_needs 18 = .ok (.iload_n 2, 1) := by decide +kernel
theorem dX12_needs_19 : decode cX12_needs 19 = .ok (.iaload, 1) := by decide +kernel
theorem dX12_needs_20 : decode cX12_needs 20 = .ok (.iadd, 1) := by decide +kernel
theorem dX12_needs_21 : decode cX12_needs 21 = .ok (.imul, 1) := by decide +kernel
theorem dX12_needs_22 : decode cX12_needs 22 = .ok (.bipush 10, 2) := by decide +kernel
theorem dX12_needs_24 : decode cX12_needs 24 = .ok (.idiv, 1) := by decide +kernel
theorem dX12_needs_25 : decode cX12_needs 25 = .ok (.aload_n 0, 1) := by decide +kernel
theorem dX12_needs_26 : decode cX12_needs 26 = .ok (.getfield 15, 3) := by decide +kernel
theorem dX12_needs_29 : decode cX12_needs 29 = .ok (.iload_n 2, 1) := by decide +kernel
theorem dX12_needs_30 : decode cX12_needs 30 = .ok (.iaload, 1) := by decide +kernel
theorem dX12_needs_31 : decode cX12_needs 31 = .ok (.isub, 1) := by decide +kernel
theorem dX12_needs_32 : decode cX12_needs 32 = .ok (.invokestatic 101, 3) := by decide +kernel
theorem dX12_needs_35 : decode cX12_needs 35 = .ok (.ireturn, 1) := by decide +kernel
theorem dX12_put_0 : decode cX12_put 0 = .ok (.aload_n 0, 1) := by decide +kernel
theorem dX12_put_1 : decode cX12_put 1 = .ok (.getfield 43, 3) := by decide +kernel
theorem dX12_put_4 : decode cX12_put 4 = .ok (.iload_n 1, 1) := by decide +kernel
theorem dX12_put_5 : decode cX12_put 5 = .ok (.iload_n 2, 1) := by decide +kernel
theorem dX12_put_6 : decode cX12_put 6 = .ok (.iastore, 1) := by decide +kernel
theorem dX12_put_7 : decode cX12_put 7 = .ok (.aload_n 0, 1) := by decide +kernel
theorem dX12_put_8 : decode cX12_put 8 = .ok (.getfield 46, 3) := by decide +kernel
theorem dX12_put_11 : decode cX12_put 11 = .ok (.iload_n 1, 1) := by decide +kernel
theorem dX12_put_12 : decode cX12_put 12 = .ok (.iload_n 3, 1) := by decide +kernel
theorem dX12_put_13 : decode cX12_put 13 = .ok (.iastore, 1) := by decide +kernel
theorem dX12_put_14 : decode cX12_put 14 = .ok (.return_, 1) := by decide +kernel
theorem dX12_haul_0 : decode cX12_haul 0 = .ok (.iconst 0, 1) := by decide +kernel
theorem dX12_haul_1 : decode cX12_haul 1 = .ok (.istore_n 2, 1) := by decide +kernel
theorem dX12_haul_2 : decode cX12_haul 2 = .ok (.iload_n 2, 1) := by decide +kernel
theorem dX12_haul_3 : decode cX12_haul 3 = .ok (.aload_n 0, 1) := by decide +kernel
theorem dX12_haul_4 : decode cX12_haul 4 = .ok (.getfield 3, 3) := by decide +kernel
theorem dX12_haul_7 : decode cX12_haul 7 = .ok (.getfield 75, 3) := by decide +kernel
theorem dX12_haul_10 : decode cX12_haul 10 = .ok (.getfield 106, 3) := by decide +kernel
theorem dX12_haul_13 : decode cX12_haul 13 = .ok (.if_icmp .ge 120, 3) := by decide +kernel
theorem dX12_haul_16 : decode cX12_haul 16 = .ok (.aload_n 0, 1) := by decide +kernel
theorem dX12_haul_17 : decode cX12_haul 17 = .ok (.getfield 3, 3) := by decide +kernel
theorem dX12_haul_20 : decode cX12_haul 20 = .ok (.getfield 75, 3) := by decide +kernel
theorem dX12_haul_23 : decode cX12_haul 23 = .ok (.getfield 109, 3) := by decide +kernel
theorem dX12_haul_26 : decode cX12_haul 26 = .ok (.iload_n 2, 1) := by decide +kernel
theorem dX12_haul_27 : decode cX12_haul 27 = .ok (.iaload, 1) := by decide +kernel
theorem dX12_haul_28 : decode cX12_haul 28 = .ok (.iload_n 1, 1) := by decide +kernel
theorem dX12_haul_29 : decode cX12_haul 29 = .ok (.if_icmp .ne 98, 3) := by decide +kernel
theorem dX12_haul_32 : decode cX12_haul 32 = .ok (.aload_n 0, 1) := by decide +kernel
theorem dX12_haul_33 : decode cX12_haul 33 = .ok (.getfield 3, 3) := by decide +kernel
theorem dX12_haul_36 : decode cX12_haul 36 = .ok (.getfield 75, 3) := by decide +kernel
theorem dX12_haul_39 : decode cX12_haul 39 = .ok (.getfield 112, 3) := by decide +kernel
theorem dX12_haul_42 : decode cX12_haul 42 = .ok (.iload_n 2, 1) := by decide +kernel
theorem dX12_haul_43 : decode cX12_haul 43 = .ok (.iaload, 1) := by decide +kernel
theorem dX12_haul_44 : decode cX12_haul 44 = .ok (.aload_n 0, 1) := by decide +kernel
theorem dX12_haul_45 : decode cX12_haul 45 = .ok (.getfield 3, 3) := by decide +kernel
theorem dX12_haul_48 : decode cX12_haul 48 = .ok (.getfield 75, 3) := by decide +kernel
theorem dX12_haul_51 : decode cX12_haul 51 = .ok (.getfield 115, 3) := by decide +kernel
theorem dX12_haul_54 : decode cX12_haul 54 = .ok (.iload_n 2, 1) := by decide +kernel
theorem dX12_haul_55 : decode cX12_haul 55 = .ok (.iaload, 1) := by decide +kernel
theorem dX12_haul_56 : decode cX12_haul 56 = .ok (.if_icmp .le 37, 3) := by decide +kernel
theorem dX12_haul_59 : decode cX12_haul 59 = .ok (.aload_n 0, 1) := by decide +kernel
theorem dX12_haul_60 : decode cX12_haul 60 = .ok (.aload_n 0, 1) := by decide +kernel
theorem dX12_haul_61 : decode cX12_haul 61 = .ok (.getfield 3, 3) := by decide +kernel
theorem dX12_haul_64 : decode cX12_haul 64 = .ok (.getfield 75, 3) := by decide +kernel
theorem dX12_haul_67 : decode cX12_haul 67 = .ok (.getfield 115, 3) := by decide +kernel
theorem dX12_haul_70 : decode cX12_haul 70 = .ok (.iload_n 2, 1) := by decide +kernel
theorem dX12_haul_71 : decode cX12_haul 71 = .ok (.iaload, 1) := by decide +kernel
theorem dX12_haul_72 : decode cX12_haul 72 = .ok (.aload_n 0, 1) := by decide +kernel
theorem dX12_haul_73 : decode cX12_haul 73 = .ok (.getfield 3, 3) := by decide +kernel
theorem dX12_haul_76 : decode cX12_haul 76 = .ok (.getfield 75, 3) := by decide +kernel
theorem dX12_haul_79 : decode cX12_haul 79 = .ok (.getfield 112, 3) := by decide +kernel
theorem dX12_haul_82 : decode cX12_haul 82 = .ok (.iload_n 2, 1) := by decide +kernel
theorem dX12_haul_83 : decode cX12_haul 83 = .ok (.iaload, 1) := by decide +kernel
theorem dX12_haul_84 : decode cX12_haul 84 = .ok (.invokevirtual 118, 3) := by decide +kernel
theorem dX12_haul_87 : decode cX12_haul 87 = .ok (.ifCond .ne 6, 3) := by decide +kernel
theorem dX12_haul_90 : decode cX12_haul 90 = .ok (.goto 37, 3) := by decide +kernel
theorem dX12_haul_93 : decode cX12_haul 93 = .ok (.aload_n 0, 1) := by decide +kernel
theorem dX12_haul_94 : decode cX12_haul 94 = .ok (.iload_n 1, 1) := by decide +kernel
theorem dX12_haul_95 : decode cX12_haul 95 = .ok (.aload_n 0, 1) := by decide +kernel
theorem dX12_haul_96 : decode cX12_haul 96 = .ok (.aload_n 0, 1) := by decide +kernel
theorem dX12_haul_97 : decode cX12_haul 97 = .ok (.getfield 3, 3) := by decide +kernel
theorem dX12_haul_100 : decode cX12_haul 100 = .ok (.getfield 75, 3) := by decide +kernel
theorem dX12_haul_103 : decode cX12_haul 103 = .ok (.getfield 121, 3) := by decide +kernel
theorem dX12_haul_106 : decode cX12_haul 106 = .ok (.iload_n 2, 1) := by decide +kernel
theorem dX12_haul_107 : decode cX12_haul 107 = .ok (.iaload, 1) := by decide +kernel
theorem dX12_haul_108 : decode cX12_haul 108 = .ok (.aload_n 0, 1) := by decide +kernel
theorem dX12_haul_109 : decode cX12_haul 109 = .ok (.getfield 3, 3) := by decide +kernel
theorem dX12_haul_112 : decode cX12_haul 112 = .ok (.getfield 75, 3) := by decide +kernel
theorem dX12_haul_115 : decode cX12_haul 115 = .ok (.getfield 115, 3) := by decide +kernel
theorem dX12_haul_118 : decode cX12_haul 118 = .ok (.iload_n 2, 1) := by decide +kernel
theorem dX12_haul_119 : decode cX12_haul 119 = .ok (.iaload, 1) := by decide +kernel
theorem dX12_haul_120 : decode cX12_haul 120 = .ok (.invokevirtual 118, 3) := by decide +kernel
theorem dX12_haul_123 : decode cX12_haul 123 = .ok (.invokevirtual 124, 3) := by decide +kernel
theorem dX12_haul_126 : decode cX12_haul 126 = .ok (.return_, 1) := by decide +kernel
theorem dX12_haul_127 : decode cX12_haul 127 = .ok (.iinc 2 1, 3) := by decide +kernel
theorem dX12_haul_130 : decode cX12_haul 130 = .ok (.goto (-128), 3) := by decide +kernel
theorem dX12_haul_133 : decode cX12_haul 133 = .ok (.return_, 1) := by decide +kernel
theorem dX12_loadUp_0 : decode cX12_loadUp 0 = .ok (.iconst 0, 1) := by decide +kernel
theorem dX12_loadUp_1 : decode cX12_loadUp 1 = .ok (.istore_n 3, 1) := by decide +kernel
theorem dX12_loadUp_2 : decode cX12_loadUp 2 = .ok (.iconst 0, 1) := by decide +kernel
theorem dX12_loadUp_3 : decode cX12_loadUp 3 = .ok (.istore 4, 2) := by decide +kernel
theorem dX12_loadUp_5 : decode cX12_loadUp 5 = .ok (.iconst 0, 1) := by decide +kernel
theorem dX12_loadUp_6 : decode cX12_loadUp 6 = .ok (.istore 5, 2) := by decide +kernel
theorem dX12_loadUp_8 : decode cX12_loadUp 8 = .ok (.iload 5, 2) := by decide +kernel
theorem dX12_loadUp_10 : decode cX12_loadUp 10 = .ok (.aload_n 0, 1) := by decide +kernel
theorem dX12_loadUp_11 : decode cX12_loadUp 11 = .ok (.getfield 3, 3) := by decide +kernel
theorem dX12_loadUp_14 : decode cX12_loadUp 14 = .ok (.getfield 75, 3) := by decide +kernel
theorem dX12_loadUp_17 : decode cX12_loadUp 17 = .ok (.getfield 84, 3) := by decide +kernel
theorem dX12_loadUp_20 : decode cX12_loadUp 20 = .ok (.if_icmp .ge 74, 3) := by decide +kernel
theorem dX12_loadUp_23 : decode cX12_loadUp 23 = .ok (.iload 4, 2) := by decide +kernel
theorem dX12_loadUp_25 : decode cX12_loadUp 25 = .ok (.iconst 5, 1) := by decide +kernel
theorem dX12_loadUp_26 : decode cX12_loadUp 26 = .ok (.if_icmp .ge 68, 3) := by decide +kernel
theorem dX12_loadUp_29 : decode cX12_loadUp 29 = .ok (.aload_n 0, 1) := by decide +kernel
theorem dX12_loadUp_30 : decode cX12_loadUp 30 = .ok (.getfield 43, 3) := by decide +kernel
theorem dX12_loadUp_33 : decode cX12_loadUp 33 = .ok (.iload 5, 2) := by decide +kernel
theorem dX12_loadUp_35 : decode cX12_loadUp 35 = .ok (.iaload, 1) := by decide +kernel
theorem dX12_loadUp_36 : decode cX12_loadUp 36 = .ok (.ifCond .ne 52, 3) := by decide +kernel
theorem dX12_loadUp_39 : decode cX12_loadUp 39 = .ok (.iload_n 3, 1) := by decide +kernel
theorem dX12_loadUp_40 : decode cX12_loadUp 40 = .ok (.aload_n 0, 1) := by decide +kernel
theorem dX12_loadUp_41 : decode cX12_loadUp 41 = .ok (.getfield 3, 3) := by decide +kernel
theorem dX12_loadUp_44 : decode cX12_loadUp 44 = .ok (.getfield 75, 3) := by decide +kernel
theorem dX12_loadUp_47 : decode cX12_loadUp 47 = .ok (.getfield 87, 3) := by decide +kernel
theorem dX12_loadUp_50 : decode cX12_loadUp 50 = .ok (.iload 5, 2) := by decide +kernel
theorem dX12_loadUp_52 : decode cX12_loadUp 52 = .ok (.iaload, 1) := by decide +kernel
theorem dX12_loadUp_53 : decode cX12_loadUp 53 = .ok (.iadd, 1) := by decide +kernel
theorem dX12_loadUp_54 : decode cX12_loadUp 54 = .ok (.iload_n 2, 1) := by decide +kernel
theorem dX12_loadUp_55 : decode cX12_loadUp 55 = .ok (.if_icmp .le 6, 3) := by decide +kernel
theorem dX12_loadUp_58 : decode cX12_loadUp 58 = .ok (.goto 30, 3) := by decide +kernel
theorem dX12_loadUp_61 : decode cX12_loadUp 61 = .ok (.aload_n 0, 1) := by decide +kernel
theorem dX12_loadUp_62 : decode cX12_loadUp 62 = .ok (.iload 5, 2) := by decide +kernel
theorem dX12_loadUp_64 : decode cX12_loadUp 64 = .ok (.iconst 1, 1) := by decide +kernel
theorem dX12_loadUp_65 : decode cX12_loadUp 65 = .ok (.iload_n 1, 1) := by decide +kernel
theorem dX12_loadUp_66 : decode cX12_loadUp 66 = .ok (.invokevirtual 128, 3) := by decide +kernel
theorem dX12_loadUp_69 : decode cX12_loadUp 69 = .ok (.iload_n 3, 1) := by decide +kernel
theorem dX12_loadUp_70 : decode cX12_loadUp 70 = .ok (.aload_n 0, 1) := by decide +kernel
theorem dX12_loadUp_71 : decode cX12_loadUp 71 = .ok (.getfield 3, 3) := by decide +kernel
theorem dX12_loadUp_74 : decode cX12_loadUp 74 = .ok (.getfield 75, 3) := by decide +kernel
theorem dX12_loadUp_77 : decode cX12_loadUp 77 = .ok (.getfield 87, 3) := by decide +kernel
theorem dX12_loadUp_80 : decode cX12_loadUp 80 = .ok (.iload 5, 2) := by decide +kernel
theorem dX12_loadUp_82 : decode cX12_loadUp 82 = .ok (.iaload, 1) := by decide +kernel
theorem dX12_loadUp_83 : decode cX12_loadUp 83 = .ok (.iadd, 1) := by decide +kernel
theorem dX12_loadUp_84 : decode cX12_loadUp 84 = .ok (.istore_n 3, 1) := by decide +kernel
theorem dX12_loadUp_85 : decode cX12_loadUp 85 = .ok (.iinc 4 1, 3) := by decide +kernel
theorem dX12_loadUp_88 : decode cX12_loadUp 88 = .ok (.iinc 5 1, 3) := by decide +kernel
theorem dX12_loadUp_91 : decode cX12_loadUp 91 = .ok (.goto (-83), 3) := by decide +kernel
theorem dX12_loadUp_94 : decode cX12_loadUp 94 = .ok (.iload 4, 2) := by decide +kernel
theorem dX12_loadUp_96 : decode cX12_loadUp 96 = .ok (.ifCond .ne 4, 3) := by decide +kernel
theorem dX12_loadUp_99 : decode cX12_loadUp 99 = .ok (.return_, 1) := by decide +kernel
theorem dX12_loadUp_100 : decode cX12_loadUp 100 = .ok (.aload_n 0, 1) := by decide +kernel
theorem dX12_loadUp_101 : decode cX12_loadUp 101 = .ok (.getfield 19, 3) := by decide +kernel
theorem dX12_loadUp_104 : decode cX12_loadUp 104 = .ok (.iload_n 1, 1) := by decide +kernel
theorem dX12_loadUp_105 : decode cX12_loadUp 105 = .ok (.iconst 0, 1) := by decide +kernel
theorem dX12_loadUp_106 : decode cX12_loadUp 106 = .ok (.iastore, 1) := by decide +kernel
theorem dX12_loadUp_107 : decode cX12_loadUp 107 = .ok (.aload_n 0, 1) := by decide +kernel
theorem dX12_loadUp_108 : decode cX12_loadUp 108 = .ok (.getfield 22, 3) := by decide +kernel
theorem dX12_loadUp_111 : decode cX12_loadUp 111 = .ok (.iload_n 1, 1) := by decide +kernel
theorem dX12_loadUp_112 : decode cX12_loadUp 112 = .ok (.iconst 1, 1) := by decide +kernel
theorem dX12_loadUp_113 : decode cX12_loadUp 113 = .ok (.iastore, 1) := by decide +kernel
theorem dX12_loadUp_114 : decode cX12_loadUp 114 = .ok (.aload_n 0, 1) := by decide +kernel
theorem dX12_loadUp_115 : decode cX12_loadUp 115 = .ok (.getfield 25, 3) := by decide +kernel
theorem dX12_loadUp_118 : decode cX12_loadUp 118 = .ok (.iload_n 1, 1) := by decide +kernel
theorem dX12_loadUp_119 : decode cX12_loadUp 119 = .ok (.iconst 0, 1) := by decide +kernel
theorem dX12_loadUp_120 : decode cX12_loadUp 120 = .ok (.iastore, 1) := by decide +kernel
theorem dX12_loadUp_121 : decode cX12_loadUp 121 = .ok (.aload_n 0, 1) := by decide +kernel
theorem dX12_loadUp_122 : decode cX12_loadUp 122 = .ok (.getfield 40, 3) := by decide +kernel
theorem dX12_loadUp_125 : decode cX12_loadUp 125 = .ok (.iload_n 1, 1) := by decide +kernel
theorem dX12_loadUp_126 : decode cX12_loadUp 126 = .ok (.iconst 1, 1) := by decide +kernel
theorem dX12_loadUp_127 : decode cX12_loadUp 127 = .ok (.iastore, 1) := by decide +kernel
theorem dX12_loadUp_128 : decode cX12_loadUp 128 = .ok (.return_, 1) := by decide +kernel
theorem dX12_waits_0 : decode cX12_waits 0 = .ok (.iconst 0, 1) := by decide +kernel
theorem dX12_waits_1 : decode cX12_waits 1 = .ok (.istore_n 2, 1) := by decide +kernel
theorem dX12_waits_2 : decode cX12_waits 2 = .ok (.iload_n 2, 1) := by decide +kernel
theorem dX12_waits_3 : decode cX12_waits 3 = .ok (.aload_n 0, 1) := by decide +kernel
theorem dX12_waits_4 : decode cX12_waits 4 = .ok (.getfield 3, 3) := by decide +kernel
theorem dX12_waits_7 : decode cX12_waits 7 = .ok (.getfield 75, 3) := by decide +kernel
theorem dX12_waits_10 : decode cX12_waits 10 = .ok (.getfield 132, 3) := by decide +kernel
theorem dX12_waits_13 : decode cX12_waits 13 = .ok (.if_icmp .ge 80, 3) := by decide +kernel
theorem dX12_waits_16 : decode cX12_waits 16 = .ok (.aload_n 0, 1) := by decide +kernel
theorem dX12_waits_17 : decode cX12_waits 17 = .ok (.getfield 3, 3) := by decide +kernel
theorem dX12_waits_20 : decode cX12_waits 20 = .ok (.getfield 75, 3) := by decide +kernel
theorem dX12_waits_23 : decode cX12_waits 23 = .ok (.getfield 135, 3) := by decide +kernel
theorem dX12_waits_26 : decode cX12_waits 26 = .ok (.iload_n 2, 1) := by decide +kernel
theorem dX12_waits_27 : decode cX12_waits 27 = .ok (.iaload, 1) := by decide +kernel
theorem dX12_waits_28 : decode cX12_waits 28 = .ok (.iload_n 1, 1) := by decide +kernel
theorem dX12_waits_29 : decode cX12_waits 29 = .ok (.if_icmp .ne 58, 3) := by decide +kernel
theorem dX12_waits_32 : decode cX12_waits 32 = .ok (.aload_n 0, 1) := by decide +kernel
theorem dX12_waits_33 : decode cX12_waits 33 = .ok (.getfield 3, 3) := by decide +kernel
theorem dX12_waits_36 : decode cX12_waits 36 = .ok (.getfield 75, 3) := by decide +kernel
theorem dX12_waits_39 : decode cX12_waits 39 = .ok (.getfield 138, 3) := by decide +kernel
theorem dX12_waits_42 : decode cX12_waits 42 = .ok (.iload_n 2, 1) := by decide +kernel
theorem dX12_waits_43 : decode cX12_waits 43 = .ok (.iaload, 1) := by decide +kernel
theorem dX12_waits_44 : decode cX12_waits 44 = .ok (.aload_n 0, 1) := by decide +kernel
theorem dX12_waits_45 : decode cX12_waits 45 = .ok (.getfield 19, 3) := by decide +kernel
theorem dX12_waits_48 : decode cX12_waits 48 = .ok (.iload_n 1, 1) := by decide +kernel
theorem dX12_waits_49 : decode cX12_waits 49 = .ok (.iaload, 1) := by decide +kernel
theorem dX12_waits_50 : decode cX12_waits 50 = .ok (.if_icmp .ne 37, 3) := by decide +kernel
theorem dX12_waits_53 : decode cX12_waits 53 = .ok (.aload_n 0, 1) := by decide +kernel
theorem dX12_waits_54 : decode cX12_waits 54 = .ok (.aload_n 0, 1) := by decide +kernel
theorem dX12_waits_55 : decode cX12_waits 55 = .ok (.getfield 3, 3) := by decide +kernel
theorem dX12_waits_58 : decode cX12_waits 58 = .ok (.getfield 75, 3) := by decide +kernel
theorem dX12_waits_61 : decode cX12_waits 61 = .ok (.getfield 141, 3) := by decide +kernel
theorem dX12_waits_64 : decode cX12_waits 64 = .ok (.iload_n 2, 1) := by decide +kernel
theorem dX12_waits_65 : decode cX12_waits 65 = .ok (.iaload, 1) := by decide +kernel
theorem dX12_waits_66 : decode cX12_waits 66 = .ok (.aload_n 0, 1) := by decide +kernel
theorem dX12_waits_67 : decode cX12_waits 67 = .ok (.getfield 3, 3) := by decide +kernel
theorem dX12_waits_70 : decode cX12_waits 70 = .ok (.getfield 75, 3) := by decide +kernel
theorem dX12_waits_73 : decode cX12_waits 73 = .ok (.getfield 144, 3) := by decide +kernel
theorem dX12_waits_76 : decode cX12_waits 76 = .ok (.iload_n 2, 1) := by decide +kernel
theorem dX12_waits_77 : decode cX12_waits 77 = .ok (.iaload, 1) := by decide +kernel
theorem dX12_waits_78 : decode cX12_waits 78 = .ok (.invokevirtual 118, 3) := by decide +kernel
theorem dX12_waits_81 : decode cX12_waits 81 = .ok (.iconst 1, 1) := by decide +kernel
theorem dX12_waits_82 : decode cX12_waits 82 = .ok (.if_icmp .ne 5, 3) := by decide +kernel
theorem dX12_waits_85 : decode cX12_waits 85 = .ok (.iconst 1, 1) := by decide +kernel
theorem dX12_waits_86 : decode cX12_waits 86 = .ok (.ireturn, 1) := by decide +kernel
theorem dX12_waits_87 : decode cX12_waits 87 = .ok (.iinc 2 1, 3) := by decide +kernel
theorem dX12_waits_90 : decode cX12_waits 90 = .ok (.goto (-88), 3) := by decide +kernel
theorem dX12_waits_93 : decode cX12_waits 93 = .ok (.iconst 0, 1) := by decide +kernel
theorem dX12_waits_94 : decode cX12_waits 94 = .ok (.ireturn, 1) := by decide +kernel
theorem dX12_move_0 : decode cX12_move 0 = .ok (.aload_n 0, 1) := by decide +kernel
theorem dX12_move_1 : decode cX12_move 1 = .ok (.getfield 19, 3) := by decide +kernel
theorem dX12_move_4 : decode cX12_move 4 = .ok (.iload_n 1, 1) := by decide +kernel
theorem dX12_move_5 : decode cX12_move 5 = .ok (.iaload, 1) := by decide +kernel
theorem dX12_move_6 : decode cX12_move 6 = .ok (.istore_n 2, 1) := by decide +kernel
theorem dX12_move_7 : decode cX12_move 7 = .ok (.aload_n 0, 1) := by decide +kernel
theorem dX12_move_8 : decode cX12_move 8 = .ok (.getfield 22, 3) := by decide +kernel
theorem dX12_move_11 : decode cX12_move 11 = .ok (.iload_n 1, 1) := by decide +kernel
theorem dX12_move_12 : decode cX12_move 12 = .ok (.iaload, 1) := by decide +kernel
theorem dX12_move_13 : decode cX12_move 13 = .ok (.iconst 1, 1) := by decide +kernel
theorem dX12_move_14 : decode cX12_move 14 = .ok (.if_icmp .ne 12, 3) := by decide +kernel
theorem dX12_move_17 : decode cX12_move 17 = .ok (.aload_n 0, 1) := by decide +kernel
theorem dX12_move_18 : decode cX12_move 18 = .ok (.iload_n 1, 1) := by decide +kernel
theorem dX12_move_19 : decode cX12_move 19 = .ok (.iload_n 2, 1) := by decide +kernel
theorem dX12_move_20 : decode cX12_move 20 = .ok (.invokevirtual 147, 3) := by decide +kernel
theorem dX12_move_23 : decode cX12_move 23 = .ok (.goto 4, 3) := by decide +kernel
theorem dX12_move_26 : decode cX12_move 26 = .ok (.iconst 0, 1) := by decide +kernel
theorem dX12_move_27 : decode cX12_move 27 = .ok (.istore_n 3, 1) := by decide +kernel
theorem dX12_move_28 : decode cX12_move 28 = .ok (.aload_n 0, 1) := by decide +kernel
theorem dX12_move_29 : decode cX12_move 29 = .ok (.iload_n 1, 1) := by decide +kernel
theorem dX12_move_30 : decode cX12_move 30 = .ok (.invokevirtual 150, 3) := by decide +kernel
theorem dX12_move_33 : decode cX12_move 33 = .ok (.ifCond .eq 24, 3) := by decide +kernel
theorem dX12_move_36 : decode cX12_move 36 = .ok (.aload_n 0, 1) := by decide +kernel
theorem dX12_move_37 : decode cX12_move 37 = .ok (.getfield 28, 3) := by decide +kernel
theorem dX12_move_40 : decode cX12_move 40 = .ok (.iload_n 1, 1) := by decide +kernel
theorem dX12_move_41 : decode cX12_move 41 = .ok (.iconst 0, 1) := by decide +kernel
theorem dX12_move_42 : decode cX12_move 42 = .ok (.aload_n 0, 1) := by decide +kernel
theorem dX12_move_43 : decode cX12_move 43 = .ok (.getfield 28, 3) := by decide +kernel
theorem dX12_move_46 : decode cX12_move 46 = .ok (.iload_n 1, 1) := by decide +kernel
theorem dX12_move_47 : decode cX12_move 47 = .ok (.iaload, 1) := by decide +kernel
theorem dX12_move_48 : decode cX12_move 48 = .ok (.iconst 2, 1) := by decide +kernel
theorem dX12_move_49 : decode cX12_move 49 = .ok (.isub, 1) := by decide +kernel
theorem dX12_move_50 : decode cX12_move 50 = .ok (.invokestatic 101, 3) := by decide +kernel
theorem dX12_move_53 : decode cX12_move 53 = .ok (.iastore, 1) := by decide +kernel
theorem dX12_move_54 : decode cX12_move 54 = .ok (.goto 180, 3) := by decide +kernel
theorem dX12_move_57 : decode cX12_move 57 = .ok (.iload_n 3, 1) := by decide +kernel
theorem dX12_move_58 : decode cX12_move 58 = .ok (.aload_n 0, 1) := by decide +kernel
theorem dX12_move_59 : decode cX12_move 59 = .ok (.getfield 34, 3) := by decide +kernel
theorem dX12_move_62 : decode cX12_move 62 = .ok (.iload_n 1, 1) := by decide +kernel
theorem dX12_move_63 : decode cX12_move 63 = .ok (.iaload, 1) := by decide +kernel
theorem dX12_move_64 : decode cX12_move 64 = .ok (.if_icmp .le 11, 3) := by decide +kernel
theorem dX12_move_67 : decode cX12_move 67 = .ok (.aload_n 0, 1) := by decide +kernel
theorem dX12_move_68 : decode cX12_move 68 = .ok (.iload_n 1, 1) := by decide +kernel
theorem dX12_move_69 : decode cX12_move 69 = .ok (.invokevirtual 153, 3) := by decide +kernel
theorem dX12_move_72 : decode cX12_move 72 = .ok (.goto 162, 3) := by decide +kernel
theorem dX12_move_75 : decode cX12_move 75 = .ok (.iload_n 3, 1) := by decide +kernel
theorem dX12_move_76 : decode cX12_move 76 = .ok (.aload_n 0, 1) := by decide +kernel
theorem dX12_move_77 : decode cX12_move 77 = .ok (.getfield 3, 3) := by decide +kernel
theorem dX12_move_80 : decode cX12_move 80 = .ok (.getfield 75, 3) := by decide +kernel
theorem dX12_move_83 : decode cX12_move 83 = .ok (.getfield 157, 3) := by decide +kernel
theorem dX12_move_86 : decode cX12_move 86 = .ok (.iload_n 1, 1) := by decide +kernel
theorem dX12_move_87 : decode cX12_move 87 = .ok (.iaload, 1) := by decide +kernel
theorem dX12_move_88 : decode cX12_move 88 = .ok (.aload_n 0, 1) := by decide +kernel
theorem dX12_move_89 : decode cX12_move 89 = .ok (.getfield 28, 3) := by decide +kernel
theorem dX12_move_92 : decode cX12_move 92 = .ok (.iload_n 1, 1) := by decide +kernel
theorem dX12_move_93 : decode cX12_move 93 = .ok (.iaload, 1) := by decide +kernel
theorem dX12_move_94 : decode cX12_move 94 = .ok (.isub, 1) := by decide +kernel
theorem dX12_move_95 : decode cX12_move 95 = .ok (.if_icmp .le 24, 3) := by decide +kernel
theorem dX12_move_98 : decode cX12_move 98 = .ok (.aload_n 0, 1) := by decide +kernel
theorem dX12_move_99 : decode cX12_move 99 = .ok (.getfield 28, 3) := by decide +kernel
theorem dX12_move_102 : decode cX12_move 102 = .ok (.iload_n 1, 1) := by decide +kernel
theorem dX12_move_103 : decode cX12_move 103 = .ok (.iconst 0, 1) := by decide +kernel
theorem dX12_move_104 : decode cX12_move 104 = .ok (.aload_n 0, 1) := by decide +kernel
theorem dX12_move_105 : decode cX12_move 105 = .ok (.getfield 28, 3) := by decide +kernel
theorem dX12_move_108 : decode cX12_move 108 = .ok (.iload_n 1, 1) := by decide +kernel
theorem dX12_move_109 : decode cX12_move 109 = .ok (.iaload, 1) := by decide +kernel
theorem dX12_move_110 : decode cX12_move 110 = .ok (.iconst 4, 1) := by decide +kernel
theorem dX12_move_111 : decode cX12_move 111 = .ok (.isub, 1) := by decide +kernel
theorem dX12_move_112 : decode cX12_move 112 = .ok (.invokestatic 101, 3) := by decide +kernel
theorem dX12_move_115 : decode cX12_move 115 = .ok (.iastore, 1) := by decide +kernel
theorem dX12_move_116 : decode cX12_move 116 = .ok (.goto 118, 3) := by decide +kernel
theorem dX12_move_119 : decode cX12_move 119 = .ok (.aload_n 0, 1) := by decide +kernel
theorem dX12_move_120 : decode cX12_move 120 = .ok (.getfield 25, 3) := by decide +kernel
theorem dX12_move_123 : decode cX12_move 123 = .ok (.iload_n 1, 1) := by decide +kernel
theorem dX12_move_124 : decode cX12_move 124 = .ok (.dup2, 1) := by decide +kernel
theorem dX12_move_125 : decode cX12_move 125 = .ok (.iaload, 1) := by decide +kernel
theorem dX12_move_126 : decode cX12_move 126 = .ok (.aload_n 0, 1) := by decide +kernel
theorem dX12_move_127 : decode cX12_move 127 = .ok (.getfield 22, 3) := by decide +kernel
theorem dX12_move_130 : decode cX12_move 130 = .ok (.iload_n 1, 1) := by decide +kernel
theorem dX12_move_131 : decode cX12_move 131 = .ok (.iaload, 1) := by decide +kernel
theorem dX12_move_132 : decode cX12_move 132 = .ok (.iconst 1, 1) := by decide +kernel
theorem dX12_move_133 : decode cX12_move 133 = .ok (.if_icmp .ne 32, 3) := by decide +kernel
theorem dX12_move_136 : decode cX12_move 136 = .ok (.aload_n 0, 1) := by decide +kernel
theorem dX12_move_137 : decode cX12_move 137 = .ok (.getfield 3, 3) := by decide +kernel
theorem dX12_move_140 : decode cX12_move 140 = .ok (.getfield 75, 3) := by decide +kernel
theorem dX12_move_143 : decode cX12_move 143 = .ok (.getfield 98, 3) := by decide +kernel
theorem dX12_move_146 : decode cX12_move 146 = .ok (.iload_n 2, 1) := by decide +kernel
theorem dX12_move_147 : decode cX12_move 147 = .ok (.iaload, 1) := by decide +kernel
theorem dX12_move_148 : decode cX12_move 148 = .ok (.ifCond .ge 17, 3) := by decide +kernel
theorem dX12_move_151 : decode cX12_move 151 = .ok (.aload_n 0, 1) := by decide +kernel
theorem dX12_move_152 : decode cX12_move 152 = .ok (.getfield 15, 3) := by decide +kernel
theorem dX12_move_155 : decode cX12_move 155 = .ok (.iload_n 2, 1) := by decide +kernel
theorem dX12_move_156 : decode cX12_move 156 = .ok (.iaload, 1) := by decide +kernel
theorem dX12_move_157 : decode cX12_move 157 = .ok (.iconst 5, 1) := by decide +kernel
theorem dX12_move_158 : decode cX12_move 158 = .ok (.if_icmp .le 7, 3) := by decide +kernel
theorem dX12_move_161 : decode cX12_move 161 = .ok (.iconst 2, 1) := by decide +kernel
theorem dX12_move_162 : decode cX12_move 162 = .ok (.goto 4, 3) := by decide +kernel
theorem dX12_move_165 : decode cX12_move 165 = .ok (.iconst 1, 1) := by decide +kernel
theorem dX12_move_166 : decode cX12_move 166 = .ok (.iadd, 1) := by decide +kernel
theorem dX12_move_167 : decode cX12_move 167 = .ok (.iastore, 1) := by decide +kernel
theorem dX12_move_168 : decode cX12_move 168 = .ok (.aload_n 0, 1) := by decide +kernel
theorem dX12_move_169 : decode cX12_move 169 = .ok (.getfield 28, 3) := by decide +kernel
theorem dX12_move_172 : decode cX12_move 172 = .ok (.iload_n 1, 1) := by decide +kernel
theorem dX12_move_173 : decode cX12_move 173 = .ok (.iconst 0, 1) := by decide +kernel
theorem dX12_move_174 : decode cX12_move 174 = .ok (.bipush 60, 2) := by decide +kernel
theorem dX12_move_176 : decode cX12_move 176 = .ok (.aload_n 0, 1) := by decide +kernel
theorem dX12_move_177 : decode cX12_move 177 = .ok (.getfield 28, 3) := by decide +kernel
theorem dX12_move_180 : decode cX12_move 180 = .ok (.iload_n 1, 1) := by decide +kernel
theorem dX12_move_181 : decode cX12_move 181 = .ok (.iaload, 1) := by decide +kernel
theorem dX12_move_182 : decode cX12_move 182 = .ok (.aload_n 0, 1) := by decide +kernel
theorem dX12_move_183 : decode cX12_move 183 = .ok (.getfield 22, 3) := by decide +kernel
theorem dX12_move_186 : decode cX12_move 186 = .ok (.iload_n 1, 1) := by decide +kernel
theorem dX12_move_187 : decode cX12_move 187 = .ok (.iaload, 1) := by decide +kernel
theorem dX12_move_188 : decode cX12_move 188 = .ok (.iconst 1, 1) := by decide +kernel
theorem dX12_move_189 : decode cX12_move 189 = .ok (.if_icmp .ne 10, 3) := by decide +kernel
theorem dX12_move_192 : decode cX12_move 192 = .ok (.iload_n 3, 1) := by decide +kernel
theorem dX12_move_193 : decode cX12_move 193 = .ok (.bipush 8, 2) := by decide +kernel
theorem dX12_move_195 : decode cX12_move 195 = .ok (.idiv, 1) := by decide +kernel
theorem dX12_move_196 : decode cX12_move 196 = .ok (.goto 4, 3) := by decide +kernel
theorem dX12_move_199 : decode cX12_move 199 = .ok (.iconst (-1), 1) := by decide +kernel
theorem dX12_move_200 : decode cX12_move 200 = .ok (.iadd, 1) := by decide +kernel
theorem dX12_move_201 : decode cX12_move 201 = .ok (.invokestatic 160, 3) := by decide +kernel
theorem dX12_move_204 : decode cX12_move 204 = .ok (.invokestatic 101, 3) := by decide +kernel
theorem dX12_move_207 : decode cX12_move 207 = .ok (.iastore, 1) := by decide +kernel
theorem dX12_move_208 : decode cX12_move 208 = .ok (.aload_n 0, 1) := by decide +kernel
theorem dX12_move_209 : decode cX12_move 209 = .ok (.getfield 25, 3) := by decide +kernel
theorem dX12_move_212 : decode cX12_move 212 = .ok (.iload_n 1, 1) := by decide +kernel
theorem dX12_move_213 : decode cX12_move 213 = .ok (.iaload, 1) := by decide +kernel
theorem dX12_move_214 : decode cX12_move 214 = .ok (.aload_n 0, 1) := by decide +kernel
theorem dX12_move_215 : decode cX12_move 215 = .ok (.getfield 3, 3) := by decide +kernel
theorem dX12_move_218 : decode cX12_move 218 = .ok (.getfield 75, 3) := by decide +kernel
theorem dX12_move_221 : decode cX12_move 221 = .ok (.getfield 163, 3) := by decide +kernel
theorem dX12_move_224 : decode cX12_move 224 = .ok (.iload_n 2, 1) := by decide +kernel
theorem dX12_move_225 : decode cX12_move 225 = .ok (.iaload, 1) := by decide +kernel
theorem dX12_move_226 : decode cX12_move 226 = .ok (.if_icmp .lt 8, 3) := by decide +kernel
theorem dX12_move_229 : decode cX12_move 229 = .ok (.aload_n 0, 1) := by decide +kernel
theorem dX12_move_230 : decode cX12_move 230 = .ok (.iload_n 1, 1) := by decide +kernel
theorem dX12_move_231 : decode cX12_move 231 = .ok (.invokevirtual 166, 3) := by decide +kernel
theorem dX12_move_234 : decode cX12_move 234 = .ok (.return_, 1) := by decide +kernel
theorem dX12_snap_0 : decode cX12_snap 0 = .ok (.aload_n 0, 1) := by decide +kernel
theorem dX12_snap_1 : decode cX12_snap 1 = .ok (.getfield 19, 3) := by decide +kernel
theorem dX12_snap_4 : decode cX12_snap 4 = .ok (.iload_n 1, 1) := by decide +kernel
theorem dX12_snap_5 : decode cX12_snap 5 = .ok (.iaload, 1) := by decide +kernel
theorem dX12_snap_6 : decode cX12_snap 6 = .ok (.istore_n 2, 1) := by decide +kernel
theorem dX12_snap_7 : decode cX12_snap 7 = .ok (.aload_n 0, 1) := by decide +kernel
theorem dX12_snap_8 : decode cX12_snap 8 = .ok (.getfield 31, 3) := by decide +kernel
theorem dX12_snap_11 : decode cX12_snap 11 = .ok (.iload_n 1, 1) := by decide +kernel
theorem dX12_snap_12 : decode cX12_snap 12 = .ok (.dup2, 1) := by decide +kernel
theorem dX12_snap_13 : decode cX12_snap 13 = .ok (.iaload, 1) := by decide +kernel
theorem dX12_snap_14 : decode cX12_snap 14 = .ok (.iconst 1, 1) := by decide +kernel
theorem dX12_snap_15 : decode cX12_snap 15 = .ok (.isub, 1) := by decide +kernel
theorem dX12_snap_16 : decode cX12_snap 16 = .ok (.iastore, 1) := by decide +kernel
theorem dX12_snap_17 : decode cX12_snap 17 = .ok (.aload_n 0, 1) := by decide +kernel
theorem dX12_snap_18 : decode cX12_snap 18 = .ok (.dup, 1) := by decide +kernel
theorem dX12_snap_19 : decode cX12_snap 19 = .ok (.getfield 68, 3) := by decide +kernel
theorem dX12_snap_22 : decode cX12_snap 22 = .ok (.iconst 1, 1) := by decide +kernel
theorem dX12_snap_23 : decode cX12_snap 23 = .ok (.iadd, 1) := by decide +kernel
theorem dX12_snap_24 : decode cX12_snap 24 = .ok (.putfield 68, 3) := by decide +kernel
theorem dX12_snap_27 : decode cX12_snap 27 = .ok (.iconst 0, 1) := by decide +kernel
theorem dX12_snap_28 : decode cX12_snap 28 = .ok (.istore_n 3, 1) := by decide +kernel
theorem dX12_snap_29 : decode cX12_snap 29 = .ok (.iload_n 3, 1) := by decide +kernel
theorem dX12_snap_30 : decode cX12_snap 30 = .ok (.aload_n 0, 1) := by decide +kernel
theorem dX12_snap_31 : decode cX12_snap 31 = .ok (.getfield 3, 3) := by decide +kernel
theorem dX12_snap_34 : decode cX12_snap 34 = .ok (.getfield 75, 3) := by decide +kernel
theorem dX12_snap_37 : decode cX12_snap 37 = .ok (.getfield 84, 3) := by decide +kernel
theorem dX12_snap_40 : decode cX12_snap 40 = .ok (.if_icmp .ge 36, 3) := by decide +kernel
theorem dX12_snap_43 : decode cX12_snap 43 = .ok (.aload_n 0, 1) := by decide +kernel
theorem dX12_snap_44 : decode cX12_snap 44 = .ok (.getfield 43, 3) := by decide +kernel
theorem dX12_snap_47 : decode cX12_snap 47 = .ok (.iload_n 3, 1) := by decide +kernel
theorem dX12_snap_48 : decode cX12_snap 48 = .ok (.iaload, 1) := by decide +kernel
theorem dX12_snap_49 : decode cX12_snap 49 = .ok (.iconst 1, 1) := by decide +kernel
theorem dX12_snap_50 : decode cX12_snap 50 = .ok (.if_icmp .ne 20, 3) := by decide +kernel
theorem dX12_snap_53 : decode cX12_snap 53 = .ok (.aload_n 0, 1) := by decide +kernel
theorem dX12_snap_54 : decode cX12_snap 54 = .ok (.getfield 46, 3) := by decide +kernel
theorem dX12_snap_57 : decode cX12_snap 57 = .ok (.iload_n 3, 1) := by decide +kernel
theorem dX12_snap_58 : decode cX12_snap 58 = .ok (.iaload, 1) := by decide +kernel
theorem dX12_snap_59 : decode cX12_snap 59 = .ok (.iload_n 1, 1) := by decide +kernel
theorem dX12_snap_60 : decode cX12_snap 60 = .ok (.if_icmp .ne 10, 3) := by decide +kernel
theorem dX12_snap_63 : decode cX12_snap 63 = .ok (.aload_n 0, 1) := by decide +kernel
theorem dX12_snap_64 : decode cX12_snap 64 = .ok (.iload_n 3, 1) := by decide +kernel
theorem dX12_snap_65 : decode cX12_snap 65 = .ok (.iconst 2, 1) := by decide +kernel
theorem dX12_snap_66 : decode cX12_snap 66 = .ok (.iload_n 2, 1) := by decide +kernel
theorem dX12_snap_67 : decode cX12_snap 67 = .ok (.invokevirtual 128, 3) := by decide +kernel
theorem dX12_snap_70 : decode cX12_snap 70 = .ok (.iinc 3 1, 3) := by decide +kernel
theorem dX12_snap_73 : decode cX12_snap 73 = .ok (.goto (-44), 3) := by decide +kernel
theorem dX12_snap_76 : decode cX12_snap 76 = .ok (.aload_n 0, 1) := by decide +kernel
theorem dX12_snap_77 : decode cX12_snap 77 = .ok (.getfield 22, 3) := by decide +kernel
theorem dX12_snap_80 : decode cX12_snap 80 = .ok (.iload_n 1, 1) := by decide +kernel
theorem dX12_snap_81 : decode cX12_snap 81 = .ok (.iconst 0, 1) := by decide +kernel
theorem dX12_snap_82 : decode cX12_snap 82 = .ok (.iastore, 1) := by decide +kernel
theorem dX12_snap_83 : decode cX12_snap 83 = .ok (.aload_n 0, 1) := by decide +kernel
theorem dX12_snap_84 : decode cX12_snap 84 = .ok (.getfield 25, 3) := by decide +kernel
theorem dX12_snap_87 : decode cX12_snap 87 = .ok (.iload_n 1, 1) := by decide +kernel
theorem dX12_snap_88 : decode cX12_snap 88 = .ok (.aload_n 0, 1) := by decide +kernel
theorem dX12_snap_89 : decode cX12_snap 89 = .ok (.getfield 3, 3) := by decide +kernel
theorem dX12_snap_92 : decode cX12_snap 92 = .ok (.getfield 75, 3) := by decide +kernel
theorem dX12_snap_95 : decode cX12_snap 95 = .ok (.getfield 163, 3) := by decide +kernel
theorem dX12_snap_98 : decode cX12_snap 98 = .ok (.iload_n 2, 1) := by decide +kernel
theorem dX12_snap_99 : decode cX12_snap 99 = .ok (.iaload, 1) := by decide +kernel
theorem dX12_snap_100 : decode cX12_snap 100 = .ok (.iconst 1, 1) := by decide +kernel
theorem dX12_snap_101 : decode cX12_snap 101 = .ok (.isub, 1) := by decide +kernel
theorem dX12_snap_102 : decode cX12_snap 102 = .ok (.aload_n 0, 1) := by decide +kernel
theorem dX12_snap_103 : decode cX12_snap 103 = .ok (.getfield 25, 3) := by decide +kernel
theorem dX12_snap_106 : decode cX12_snap 106 = .ok (.iload_n 1, 1) := by decide +kernel
theorem dX12_snap_107 : decode cX12_snap 107 = .ok (.iaload, 1) := by decide +kernel
theorem dX12_snap_108 : decode cX12_snap 108 = .ok (.isub, 1) := by decide +kernel
theorem dX12_snap_109 : decode cX12_snap 109 = .ok (.iastore, 1) := by decide +kernel
theorem dX12_snap_110 : decode cX12_snap 110 = .ok (.return_, 1) := by decide +kernel
theorem dX12_arrive_0 : decode cX12_arrive 0 = .ok (.aload_n 0, 1) := by decide +kernel
theorem dX12_arrive_1 : decode cX12_arrive 1 = .ok (.getfield 19, 3) := by decide +kernel
theorem dX12_arrive_4 : decode cX12_arrive 4 = .ok (.iload_n 1, 1) := by decide +kernel
theorem dX12_arrive_5 : decode cX12_arrive 5 = .ok (.iaload, 1) := by decide +kernel
theorem dX12_arrive_6 : decode cX12_arrive 6 = .ok (.istore_n 2, 1) := by decide +kernel
theorem dX12_arrive_7 : decode cX12_arrive 7 = .ok (.aload_n 0, 1) := by decide +kernel
theorem dX12_arrive_8 : decode cX12_arrive 8 = .ok (.getfield 22, 3) := by decide +kernel
theorem dX12_arrive_11 : decode cX12_arrive 11 = .ok (.iload_n 1, 1) := by decide +kernel
theorem dX12_arrive_12 : decode cX12_arrive 12 = .ok (.iaload, 1) := by decide +kernel
theorem dX12_arrive_13 : decode cX12_arrive 13 = .ok (.iconst 1, 1) := by decide +kernel
theorem dX12_arrive_14 : decode cX12_arrive 14 = .ok (.if_icmp .ne 9, 3) := by decide +kernel
theorem dX12_arrive_17 : decode cX12_arrive 17 = .ok (.iload_n 2, 1) := by decide +kernel
theorem dX12_arrive_18 : decode cX12_arrive 18 = .ok (.iconst 1, 1) := by decide +kernel
theorem dX12_arrive_19 : decode cX12_arrive 19 = .ok (.iadd, 1) := by decide +kernel
theorem dX12_arrive_20 : decode cX12_arrive 20 = .ok (.goto 6, 3) := by decide +kernel
theorem dX12_arrive_23 : decode cX12_arrive 23 = .ok (.iload_n 2, 1) := by decide +kernel
theorem dX12_arrive_24 : decode cX12_arrive 24 = .ok (.iconst 1, 1) := by decide +kernel
theorem dX12_arrive_25 : decode cX12_arrive 25 = .ok (.isub, 1) := by decide +kernel
theorem dX12_arrive_26 : decode cX12_arrive 26 = .ok (.istore_n 3, 1) := by decide +kernel
theorem dX12_arrive_27 : decode cX12_arrive 27 = .ok (.iload_n 3, 1) := by decide +kernel
theorem dX12_arrive_28 : decode cX12_arrive 28 = .ok (.aload_n 0, 1) := by decide +kernel
theorem dX12_arrive_29 : decode cX12_arrive 29 = .ok (.getfield 3, 3) := by decide +kernel
theorem dX12_arrive_32 : decode cX12_arrive 32 = .ok (.getfield 75, 3) := by decide +kernel
theorem dX12_arrive_35 : decode cX12_arrive 35 = .ok (.getfield 169, 3) := by decide +kernel
theorem dX12_arrive_38 : decode cX12_arrive 38 = .ok (.if_icmp .ne 11, 3) := by decide +kernel
theorem dX12_arrive_41 : decode cX12_arrive 41 = .ok (.aload_n 0, 1) := by decide +kernel
theorem dX12_arrive_42 : decode cX12_arrive 42 = .ok (.iload_n 1, 1) := by decide +kernel
theorem dX12_arrive_43 : decode cX12_arrive 43 = .ok (.invokevirtual 172, 3) := by decide +kernel
theorem dX12_arrive_46 : decode cX12_arrive 46 = .ok (.goto 71, 3) := by decide +kernel
theorem dX12_arrive_49 : decode cX12_arrive 49 = .ok (.iload_n 3, 1) := by decide +kernel
theorem dX12_arrive_50 : decode cX12_arrive 50 = .ok (.iconst (-1), 1) := by decide +kernel
theorem dX12_arrive_51 : decode cX12_arrive 51 = .ok (.if_icmp .ne 20, 3) := by decide +kernel
theorem dX12_arrive_54 : decode cX12_arrive 54 = .ok (.aload_n 0, 1) := by decide +kernel
theorem dX12_arrive_55 : decode cX12_arrive 55 = .ok (.getfield 19, 3) := by decide +kernel
theorem dX12_arrive_58 : decode cX12_arrive 58 = .ok (.iload_n 1, 1) := by decide +kernel
theorem dX12_arrive_59 : decode cX12_arrive 59 = .ok (.iconst (-1), 1) := by decide +kernel
theorem dX12_arrive_60 : decode cX12_arrive 60 = .ok (.iastore, 1) := by decide +kernel
theorem dX12_arrive_61 : decode cX12_arrive 61 = .ok (.aload_n 0, 1) := by decide +kernel
theorem dX12_arrive_62 : decode cX12_arrive 62 = .ok (.getfield 25, 3) := by decide +kernel
theorem dX12_arrive_65 : decode cX12_arrive 65 = .ok (.iload_n 1, 1) := by decide +kernel
theorem dX12_arrive_66 : decode cX12_arrive 66 = .ok (.iconst 0, 1) := by decide +kernel
theorem dX12_arrive_67 : decode cX12_arrive 67 = .ok (.iastore, 1) := by decide +kernel
theorem dX12_arrive_68 : decode cX12_arrive 68 = .ok (.goto 49, 3) := by decide +kernel
theorem dX12_arrive_71 : decode cX12_arrive 71 = .ok (.aload_n 0, 1) := by decide +kernel
theorem dX12_arrive_72 : decode cX12_arrive 72 = .ok (.iload_n 1, 1) := by decide +kernel
theorem dX12_arrive_73 : decode cX12_arrive 73 = .ok (.iload_n 3, 1) := by decide +kernel
theorem dX12_arrive_74 : decode cX12_arrive 74 = .ok (.invokevirtual 175, 3) := by decide +kernel
theorem dX12_arrive_77 : decode cX12_arrive 77 = .ok (.ifCond .eq 20, 3) := by decide +kernel
theorem dX12_arrive_80 : decode cX12_arrive 80 = .ok (.aload_n 0, 1) := by decide +kernel
theorem dX12_arrive_81 : decode cX12_arrive 81 = .ok (.getfield 19, 3) := by decide +kernel
theorem dX12_arrive_84 : decode cX12_arrive 84 = .ok (.iload_n 1, 1) := by decide +kernel
theorem dX12_arrive_85 : decode cX12_arrive 85 = .ok (.iload_n 3, 1) := by decide +kernel
theorem dX12_arrive_86 : decode cX12_arrive 86 = .ok (.iastore, 1) := by decide +kernel
theorem dX12_arrive_87 : decode cX12_arrive 87 = .ok (.aload_n 0, 1) := by decide +kernel
theorem dX12_arrive_88 : decode cX12_arrive 88 = .ok (.getfield 25, 3) := by decide +kernel
theorem dX12_arrive_91 : decode cX12_arrive 91 = .ok (.iload_n 1, 1) := by decide +kernel
theorem dX12_arrive_92 : decode cX12_arrive 92 = .ok (.iconst 0, 1) := by decide +kernel
theorem dX12_arrive_93 : decode cX12_arrive 93 = .ok (.iastore, 1) := by decide +kernel
theorem dX12_arrive_94 : decode cX12_arrive 94 = .ok (.goto 23, 3) := by decide +kernel
theorem dX12_arrive_97 : decode cX12_arrive 97 = .ok (.aload_n 0, 1) := by decide +kernel
theorem dX12_arrive_98 : decode cX12_arrive 98 = .ok (.getfield 25, 3) := by decide +kernel
theorem dX12_arrive_101 : decode cX12_arrive 101 = .ok (.iload_n 1, 1) := by decide +kernel
theorem dX12_arrive_102 : decode cX12_arrive 102 = .ok (.aload_n 0, 1) := by decide +kernel
theorem dX12_arrive_103 : decode cX12_arrive 103 = .ok (.getfield 3, 3) := by decide +kernel
theorem dX12_arrive_106 : decode cX12_arrive 106 = .ok (.getfield 75, 3) := by decide +kernel
theorem dX12_arrive_109 : decode cX12_arrive 109 = .ok (.getfield 163, 3) := by decide +kernel
theorem dX12_arrive_112 : decode cX12_arrive 112 = .ok (.iload_n 2, 1) := by decide +kernel
theorem dX12_arrive_113 : decode cX12_arrive 113 = .ok (.iaload, 1) := by decide +kernel
theorem dX12_arrive_114 : decode cX12_arrive 114 = .ok (.iconst 1, 1) := by decide +kernel
theorem dX12_arrive_115 : decode cX12_arrive 115 = .ok (.isub, 1) := by decide +kernel
theorem dX12_arrive_116 : decode cX12_arrive 116 = .ok (.iastore, 1) := by decide +kernel
theorem dX12_arrive_117 : decode cX12_arrive 117 = .ok (.return_, 1) := by decide +kernel
theorem dX12_unload_0 : decode cX12_unload 0 = .ok (.aload_n 0, 1) := by decide +kernel
theorem dX12_unload_1 : decode cX12_unload 1 = .ok (.getfield 37, 3) := by decide +kernel
theorem dX12_unload_4 : decode cX12_unload 4 = .ok (.iload_n 1, 1) := by decide +kernel
theorem dX12_unload_5 : decode cX12_unload 5 = .ok (.dup2, 1) := by decide +kernel
theorem dX12_unload_6 : decode cX12_unload 6 = .ok (.iaload, 1) := by decide +kernel
theorem dX12_unload_7 : decode cX12_unload 7 = .ok (.aload_n 0, 1) := by decide +kernel
theorem dX12_unload_8 : decode cX12_unload 8 = .ok (.iload_n 1, 1) := by decide +kernel
theorem dX12_unload_9 : decode cX12_unload 9 = .ok (.invokevirtual 94, 3) := by decide +kernel
theorem dX12_unload_12 : decode cX12_unload 12 = .ok (.iadd, 1) := by decide +kernel
theorem dX12_unload_13 : decode cX12_unload 13 = .ok (.iastore, 1) := by decide +kernel
theorem dX12_unload_14 : decode cX12_unload 14 = .ok (.iconst 0, 1) := by decide +kernel
theorem dX12_unload_15 : decode cX12_unload 15 = .ok (.istore_n 2, 1) := by decide +kernel
theorem dX12_unload_16 : decode cX12_unload 16 = .ok (.iload_n 2, 1) := by decide +kernel
theorem dX12_unload_17 : decode cX12_unload 17 = .ok (.aload_n 0, 1) := by decide +kernel
theorem dX12_unload_18 : decode cX12_unload 18 = .ok (.getfield 3, 3) := by decide +kernel
theorem dX12_unload_21 : decode cX12_unload 21 = .ok (.getfield 75, 3) := by decide +kernel
theorem dX12_unload_24 : decode cX12_unload 24 = .ok (.getfield 84, 3) := by decide +kernel
theorem dX12_unload_27 : decode cX12_unload 27 = .ok (.if_icmp .ge 49, 3) := by decide +kernel
theorem dX12_unload_30 : decode cX12_unload 30 = .ok (.aload_n 0, 1) := by decide +kernel
theorem dX12_unload_31 : decode cX12_unload 31 = .ok (.getfield 43, 3) := by decide +kernel
theorem dX12_unload_34 : decode cX12_unload 34 = .ok (.iload_n 2, 1) := by decide +kernel
theorem dX12_unload_35 : decode cX12_unload 35 = .ok (.iaload, 1) := by decide +kernel
theorem dX12_unload_36 : decode cX12_unload 36 = .ok (.iconst 1, 1) := by decide +kernel
theorem dX12_unload_37 : decode cX12_unload 37 = .ok (.if_icmp .ne 33, 3) := by decide +kernel
theorem dX12_unload_40 : decode cX12_unload 40 = .ok (.aload_n 0, 1) := by decide +kernel
theorem dX12_unload_41 : decode cX12_unload 41 = .ok (.getfield 46, 3) := by decide +kernel
theorem dX12_unload_44 : decode cX12_unload 44 = .ok (.iload_n 2, 1) := by decide +kernel
theorem dX12_unload_45 : decode cX12_unload 45 = .ok (.iaload, 1) := by decide +kernel
theorem dX12_unload_46 : decode cX12_unload 46 = .ok (.iload_n 1, 1) := by decide +kernel
theorem dX12_unload_47 : decode cX12_unload 47 = .ok (.if_icmp .eq 6, 3) := by decide +kernel
theorem dX12_unload_50 : decode cX12_unload 50 = .ok (.goto 20, 3) := by decide +kernel
theorem dX12_unload_53 : decode cX12_unload 53 = .ok (.aload_n 0, 1) := by decide +kernel
theorem dX12_unload_54 : decode cX12_unload 54 = .ok (.iload_n 2, 1) := by decide +kernel
theorem dX12_unload_55 : decode cX12_unload 55 = .ok (.iconst 3, 1) := by decide +kernel
theorem dX12_unload_56 : decode cX12_unload 56 = .ok (.iconst (-1), 1) := by decide +kernel
theorem dX12_unload_57 : decode cX12_unload 57 = .ok (.invokevirtual 128, 3) := by decide +kernel
theorem dX12_unload_60 : decode cX12_unload 60 = .ok (.aload_n 0, 1) := by decide +kernel
theorem dX12_unload_61 : decode cX12_unload 61 = .ok (.getfield 49, 3) := by decide +kernel
theorem dX12_unload_64 : decode cX12_unload 64 = .ok (.iload_n 2, 1) := by decide +kernel
theorem dX12_unload_65 : decode cX12_unload 65 = .ok (.aload_n 0, 1) := by decide +kernel
theorem dX12_unload_66 : decode cX12_unload 66 = .ok (.getfield 61, 3) := by decide +kernel
theorem dX12_unload_69 : decode cX12_unload 69 = .ok (.iastore, 1) := by decide +kernel
theorem dX12_unload_70 : decode cX12_unload 70 = .ok (.iinc 2 1, 3) := by decide +kernel
theorem dX12_unload_73 : decode cX12_unload 73 = .ok (.goto (-57), 3) := by decide +kernel
theorem dX12_unload_76 : decode cX12_unload 76 = .ok (.aload_n 0, 1) := by decide +kernel
theorem dX12_unload_77 : decode cX12_unload 77 = .ok (.getfield 22, 3) := by decide +kernel
theorem dX12_unload_80 : decode cX12_unload 80 = .ok (.iload_n 1, 1) := by decide +kernel
theorem dX12_unload_81 : decode cX12_unload 81 = .ok (.iconst 0, 1) := by decide +kernel
theorem dX12_unload_82 : decode cX12_unload 82 = .ok (.iastore, 1) := by decide +kernel
theorem dX12_unload_83 : decode cX12_unload 83 = .ok (.aload_n 0, 1) := by decide +kernel
theorem dX12_unload_84 : decode cX12_unload 84 = .ok (.getfield 25, 3) := by decide +kernel
theorem dX12_unload_87 : decode cX12_unload 87 = .ok (.iload_n 1, 1) := by decide +kernel
theorem dX12_unload_88 : decode cX12_unload 88 = .ok (.iconst 0, 1) := by decide +kernel
theorem dX12_unload_89 : decode cX12_unload 89 = .ok (.iastore, 1) := by decide +kernel
theorem dX12_unload_90 : decode cX12_unload 90 = .ok (.return_, 1) := by decide +kernel
theorem dX12_meets_0 : decode cX12_meets 0 = .ok (.aload_n 0, 1) := by decide +kernel
theorem dX12_meets_1 : decode cX12_meets 1 = .ok (.getfield 19, 3) := by decide +kernel
theorem dX12_meets_4 : decode cX12_meets 4 = .ok (.iload_n 2, 1) := by decide +kernel
theorem dX12_meets_5 : decode cX12_meets 5 = .ok (.iaload, 1) := by decide +kernel
theorem dX12_meets_6 : decode cX12_meets 6 = .ok (.iload_n 3, 1) := by decide +kernel
theorem dX12_meets_7 : decode cX12_meets 7 = .ok (.if_icmp .ne 22, 3) := by decide +kernel
theorem dX12_meets_10 : decode cX12_meets 10 = .ok (.aload_n 0, 1) := by decide +kernel
theorem dX12_meets_11 : decode cX12_meets 11 = .ok (.getfield 22, 3) := by decide +kernel
theorem dX12_meets_14 : decode cX12_meets 14 = .ok (.iload_n 2, 1) := by decide +kernel
theorem dX12_meets_15 : decode cX12_meets 15 = .ok (.iaload, 1) := by decide +kernel
theorem dX12_meets_16 : decode cX12_meets 16 = .ok (.aload_n 0, 1) := by decide +kernel
theorem dX12_meets_17 : decode cX12_meets 17 = .ok (.getfield 22, 3) := by decide +kernel
theorem dX12_meets_20 : decode cX12_meets 20 = .ok (.iload_n 1, 1) := by decide +kernel
theorem dX12_meets_21 : decode cX12_meets 21 = .ok (.iaload, 1) := by decide +kernel
theorem dX12_meets_22 : decode cX12_meets 22 = .ok (.if_icmp .eq 7, 3) := by decide +kernel
theorem dX12_meets_25 : decode cX12_meets 25 = .ok (.iconst 1, 1) := by decide +kernel
theorem dX12_meets_26 : decode cX12_meets 26 = .ok (.goto 4, 3) := by decide +kernel
theorem dX12_meets_29 : decode cX12_meets 29 = .ok (.iconst 0, 1) := by decide +kernel
theorem dX12_meets_30 : decode cX12_meets 30 = .ok (.ireturn, 1) := by decide +kernel
theorem dX12_canGo_0 : decode cX12_canGo 0 = .ok (.iconst 0, 1) := by decide +kernel
theorem dX12_canGo_1 : decode cX12_canGo 1 = .ok (.istore_n 3, 1) := by decide +kernel
theorem dX12_canGo_2 : decode cX12_canGo 2 = .ok (.iconst 0, 1) := by decide +kernel
theorem dX12_canGo_3 : decode cX12_canGo 3 = .ok (.istore 4, 2) := by decide +kernel
theorem dX12_canGo_5 : decode cX12_canGo 5 = .ok (.iconst 0, 1) := by decide +kernel
theorem dX12_canGo_6 : decode cX12_canGo 6 = .ok (.istore 5, 2) := by decide +kernel
theorem dX12_canGo_8 : decode cX12_canGo 8 = .ok (.iload 5, 2) := by decide +kernel
theorem dX12_canGo_10 : decode cX12_canGo 10 = .ok (.aload_n 0, 1) := by decide +kernel
theorem dX12_canGo_11 : decode cX12_canGo 11 = .ok (.getfield 3, 3) := by decide +kernel
theorem dX12_canGo_14 : decode cX12_canGo 14 = .ok (.getfield 75, 3) := by decide +kernel
theorem dX12_canGo_17 : decode cX12_canGo 17 = .ok (.getfield 179, 3) := by decide +kernel
theorem dX12_canGo_20 : decode cX12_canGo 20 = .ok (.if_icmp .ge 58, 3) := by decide +kernel
theorem dX12_canGo_23 : decode cX12_canGo 23 = .ok (.iload_n 3, 1) := by decide +kernel
theorem dX12_canGo_24 : decode cX12_canGo 24 = .ok (.aload_n 0, 1) := by decide +kernel
theorem dX12_canGo_25 : decode cX12_canGo 25 = .ok (.iload_n 1, 1) := by decide +kernel
theorem dX12_canGo_26 : decode cX12_canGo 26 = .ok (.iload 5, 2) := by decide +kernel
theorem dX12_canGo_28 : decode cX12_canGo 28 = .ok (.iload_n 2, 1) := by decide +kernel
theorem dX12_canGo_29 : decode cX12_canGo 29 = .ok (.invokevirtual 182, 3) := by decide +kernel
theorem dX12_canGo_32 : decode cX12_canGo 32 = .ok (.ior, 1) := by decide +kernel
theorem dX12_canGo_33 : decode cX12_canGo 33 = .ok (.istore_n 3, 1) := by decide +kernel
theorem dX12_canGo_34 : decode cX12_canGo 34 = .ok (.iload 4, 2) := by decide +kernel
theorem dX12_canGo_36 : decode cX12_canGo 36 = .ok (.aload_n 0, 1) := by decide +kernel
theorem dX12_canGo_37 : decode cX12_canGo 37 = .ok (.iload_n 1, 1) := by decide +kernel
theorem dX12_canGo_38 : decode cX12_canGo 38 = .ok (.iload 5, 2) := by decide +kernel
theorem dX12_canGo_40 : decode cX12_canGo 40 = .ok (.iload_n 2, 1) := by decide +kernel
theorem dX12_canGo_41 : decode cX12_canGo 41 = .ok (.invokevirtual 182, 3) := by decide +kernel
theorem dX12_canGo_44 : decode cX12_canGo 44 = .ok (.ifCond .eq 24, 3) := by decide +kernel
theorem dX12_canGo_47 : decode cX12_canGo 47 = .ok (.aload_n 0, 1) := by decide +kernel
theorem dX12_canGo_48 : decode cX12_canGo 48 = .ok (.getfield 3, 3) := by decide +kernel
theorem dX12_canGo_51 : decode cX12_canGo 51 = .ok (.getfield 75, 3) := by decide +kernel
theorem dX12_canGo_54 : decode cX12_canGo 54 = .ok (.getfield 186, 3) := by decide +kernel
theorem dX12_canGo_57 : decode cX12_canGo 57 = .ok (.iload 5, 2) := by decide +kernel
theorem dX12_canGo_59 : decode cX12_canGo 59 = .ok (.iaload, 1) := by decide +kernel
theorem dX12_canGo_60 : decode cX12_canGo 60 = .ok (.iconst 1, 1) := by decide +kernel
theorem dX12_canGo_61 : decode cX12_canGo 61 = .ok (.if_icmp .ne 7, 3) := by decide +kernel
theorem dX12_canGo_64 : decode cX12_canGo 64 = .ok (.iconst 1, 1) := by decide +kernel
theorem dX12_canGo_65 : decode cX12_canGo 65 = .ok (.goto 4, 3) := by decide +kernel
theorem dX12_canGo_68 : decode cX12_canGo 68 = .ok (.iconst 0, 1) := by decide +kernel
theorem dX12_canGo_69 : decode cX12_canGo 69 = .ok (.ior, 1) := by decide +kernel
theorem dX12_canGo_70 : decode cX12_canGo 70 = .ok (.istore 4, 2) := by decide +kernel
theorem dX12_canGo_72 : decode cX12_canGo 72 = .ok (.iinc 5 1, 3) := by decide +kernel
theorem dX12_canGo_75 : decode cX12_canGo 75 = .ok (.goto (-67), 3) := by decide +kernel
theorem dX12_canGo_78 : decode cX12_canGo 78 = .ok (.iload_n 3, 1) := by decide +kernel
theorem dX12_canGo_79 : decode cX12_canGo 79 = .ok (.ifCond .eq 25, 3) := by decide +kernel
theorem dX12_canGo_82 : decode cX12_canGo 82 = .ok (.aload_n 0, 1) := by decide +kernel
theorem dX12_canGo_83 : decode cX12_canGo 83 = .ok (.getfield 3, 3) := by decide +kernel
theorem dX12_canGo_86 : decode cX12_canGo 86 = .ok (.getfield 75, 3) := by decide +kernel
theorem dX12_canGo_89 : decode cX12_canGo 89 = .ok (.getfield 186, 3) := by decide +kernel
theorem dX12_canGo_92 : decode cX12_canGo 92 = .ok (.iload_n 1, 1) := by decide +kernel
theorem dX12_canGo_93 : decode cX12_canGo 93 = .ok (.iaload, 1) := by decide +kernel
theorem dX12_canGo_94 : decode cX12_canGo 94 = .ok (.ifCond .eq 8, 3) := by decide +kernel
theorem dX12_canGo_97 : decode cX12_canGo 97 = .ok (.iload 4, 2) := by decide +kernel
theorem dX12_canGo_99 : decode cX12_canGo 99 = .ok (.ifCond .eq 5, 3) := by decide +kernel
theorem dX12_canGo_102 : decode cX12_canGo 102 = .ok (.iconst 0, 1) := by decide +kernel
theorem dX12_canGo_103 : decode cX12_canGo 103 = .ok (.ireturn, 1) := by decide +kernel
theorem dX12_canGo_104 : decode cX12_canGo 104 = .ok (.iconst 0, 1) := by decide +kernel
theorem dX12_canGo_105 : decode cX12_canGo 105 = .ok (.istore 5, 2) := by decide +kernel
theorem dX12_canGo_107 : decode cX12_canGo 107 = .ok (.iload 5, 2) := by decide +kernel
theorem dX12_canGo_109 : decode cX12_canGo 109 = .ok (.aload_n 0, 1) := by decide +kernel
theorem dX12_canGo_110 : decode cX12_canGo 110 = .ok (.getfield 3, 3) := by decide +kernel
theorem dX12_canGo_113 : decode cX12_canGo 113 = .ok (.getfield 75, 3) := by decide +kernel
theorem dX12_canGo_116 : decode cX12_canGo 116 = .ok (.getfield 179, 3) := by decide +kernel
theorem dX12_canGo_119 : decode cX12_canGo 119 = .ok (.if_icmp .ge 28, 3) := by decide +kernel
theorem dX12_canGo_122 : decode cX12_canGo 122 = .ok (.aload_n 0, 1) := by decide +kernel
theorem dX12_canGo_123 : decode cX12_canGo 123 = .ok (.iload_n 1, 1) := by decide +kernel
theorem dX12_canGo_124 : decode cX12_canGo 124 = .ok (.iload 5, 2) := by decide +kernel
theorem dX12_canGo_126 : decode cX12_canGo 126 = .ok (.iload_n 2, 1) := by decide +kernel
theorem dX12_canGo_127 : decode cX12_canGo 127 = .ok (.invokevirtual 182, 3) := by decide +kernel
theorem dX12_canGo_130 : decode cX12_canGo 130 = .ok (.ifCond .eq 11, 3) := by decide +kernel
theorem dX12_canGo_133 : decode cX12_canGo 133 = .ok (.aload_n 0, 1) := by decide +kernel
theorem dX12_canGo_134 : decode cX12_canGo 134 = .ok (.getfield 40, 3) := by decide +kernel
theorem dX12_canGo_137 : decode cX12_canGo 137 = .ok (.iload 5, 2) := by decide +kernel
theorem dX12_canGo_139 : decode cX12_canGo 139 = .ok (.iconst 1, 1) := by decide +kernel
theorem dX12_canGo_140 : decode cX12_canGo 140 = .ok (.iastore, 1) := by decide +kernel
theorem dX12_canGo_141 : decode cX12_canGo 141 = .ok (.iinc 5 1, 3) := by decide +kernel
theorem dX12_canGo_144 : decode cX12_canGo 144 = .ok (.goto (-37), 3) := by decide +kernel
theorem dX12_canGo_147 : decode cX12_canGo 147 = .ok (.iconst 1, 1) := by decide +kernel
theorem dX12_canGo_148 : decode cX12_canGo 148 = .ok (.ireturn, 1) := by decide +kernel
theorem dX12_pass_0 : decode cX12_pass 0 = .ok (.iconst 0, 1) := by decide +kernel
theorem dX12_pass_1 : decode cX12_pass 1 = .ok (.istore_n 1, 1) := by decide +kernel
theorem dX12_pass_2 : decode cX12_pass 2 = .ok (.iload_n 1, 1) := by decide +kernel
theorem dX12_pass_3 : decode cX12_pass 3 = .ok (.aload_n 0, 1) := by decide +kernel
theorem dX12_pass_4 : decode cX12_pass 4 = .ok (.getfield 3, 3) := by decide +kernel
theorem dX12_pass_7 : decode cX12_pass 7 = .ok (.getfield 75, 3) := by decide +kernel
theorem dX12_pass_10 : decode cX12_pass 10 = .ok (.getfield 179, 3) := by decide +kernel
theorem dX12_pass_13 : decode cX12_pass 13 = .ok (.if_icmp .ge 16, 3) := by decide +kernel
theorem dX12_pass_16 : decode cX12_pass 16 = .ok (.aload_n 0, 1) := by decide +kernel
theorem dX12_pass_17 : decode cX12_pass 17 = .ok (.getfield 40, 3) := by decide +kernel
theorem dX12_pass_20 : decode cX12_pass 20 = .ok (.iload_n 1, 1) := by decide +kernel
theorem dX12_pass_21 : decode cX12_pass 21 = .ok (.iconst 0, 1) := by decide +kernel
theorem dX12_pass_22 : decode cX12_pass 22 = .ok (.iastore, 1) := by decide +kernel
theorem dX12_pass_23 : decode cX12_pass 23 = .ok (.iinc 1 1, 3) := by decide +kernel
theorem dX12_pass_26 : decode cX12_pass 26 = .ok (.goto (-24), 3) := by decide +kernel
theorem dX12_pass_29 : decode cX12_pass 29 = .ok (.iconst 0, 1) := by decide +kernel
theorem dX12_pass_30 : decode cX12_pass 30 = .ok (.istore_n 1, 1) := by decide +kernel
theorem dX12_pass_31 : decode cX12_pass 31 = .ok (.iload_n 1, 1) := by decide +kernel
theorem dX12_pass_32 : decode cX12_pass 32 = .ok (.aload_n 0, 1) := by decide +kernel
theorem dX12_pass_33 : decode cX12_pass 33 = .ok (.getfield 3, 3) := by decide +kernel
theorem dX12_pass_36 : decode cX12_pass 36 = .ok (.getfield 75, 3) := by decide +kernel
theorem dX12_pass_39 : decode cX12_pass 39 = .ok (.getfield 179, 3) := by decide +kernel
theorem dX12_pass_42 : decode cX12_pass 42 = .ok (.if_icmp .ge 46, 3) := by decide +kernel
theorem dX12_pass_45 : decode cX12_pass 45 = .ok (.aload_n 0, 1) := by decide +kernel
theorem dX12_pass_46 : decode cX12_pass 46 = .ok (.getfield 19, 3) := by decide +kernel
theorem dX12_pass_49 : decode cX12_pass 49 = .ok (.iload_n 1, 1) := by decide +kernel
theorem dX12_pass_50 : decode cX12_pass 50 = .ok (.iaload, 1) := by decide +kernel
theorem dX12_pass_51 : decode cX12_pass 51 = .ok (.iconst (-1), 1) := by decide +kernel
theorem dX12_pass_52 : decode cX12_pass 52 = .ok (.if_icmp .ne 30, 3) := by decide +kernel
theorem dX12_pass_55 : decode cX12_pass 55 = .ok (.aload_n 0, 1) := by decide +kernel
theorem dX12_pass_56 : decode cX12_pass 56 = .ok (.getfield 31, 3) := by decide +kernel
theorem dX12_pass_59 : decode cX12_pass 59 = .ok (.iload_n 1, 1) := by decide +kernel
theorem dX12_pass_60 : decode cX12_pass 60 = .ok (.iaload, 1) := by decide +kernel
theorem dX12_pass_61 : decode cX12_pass 61 = .ok (.ifCond .le 21, 3) := by decide +kernel
theorem dX12_pass_64 : decode cX12_pass 64 = .ok (.aload_n 0, 1) := by decide +kernel
theorem dX12_pass_65 : decode cX12_pass 65 = .ok (.getfield 3, 3) := by decide +kernel
theorem dX12_pass_68 : decode cX12_pass 68 = .ok (.getfield 75, 3) := by decide +kernel
theorem dX12_pass_71 : decode cX12_pass 71 = .ok (.getfield 169, 3) := by decide +kernel
theorem dX12_pass_74 : decode cX12_pass 74 = .ok (.ifCond .le 8, 3) := by decide +kernel
theorem dX12_pass_77 : decode cX12_pass 77 = .ok (.aload_n 0, 1) := by decide +kernel
theorem dX12_pass_78 : decode cX12_pass 78 = .ok (.iload_n 1, 1) := by decide +kernel
theorem dX12_pass_79 : decode cX12_pass 79 = .ok (.invokevirtual 189, 3) := by decide +kernel
theorem dX12_pass_82 : decode cX12_pass 82 = .ok (.iinc 1 1, 3) := by decide +kernel
theorem dX12_pass_85 : decode cX12_pass 85 = .ok (.goto (-54), 3) := by decide +kernel
theorem dX12_pass_88 : decode cX12_pass 88 = .ok (.iconst 0, 1) := by decide +kernel
theorem dX12_pass_89 : decode cX12_pass 89 = .ok (.istore_n 1, 1) := by decide +kernel
theorem dX12_pass_90 : decode cX12_pass 90 = .ok (.iload_n 1, 1) := by decide +kernel
theorem dX12_pass_91 : decode cX12_pass 91 = .ok (.aload_n 0, 1) := by decide +kernel
theorem dX12_pass_92 : decode cX12_pass 92 = .ok (.getfield 3, 3) := by decide +kernel
theorem dX12_pass_95 : decode cX12_pass 95 = .ok (.getfield 75, 3) := by decide +kernel
theorem dX12_pass_98 : decode cX12_pass 98 = .ok (.getfield 179, 3) := by decide +kernel
theorem dX12_pass_101 : decode cX12_pass 101 = .ok (.if_icmp .ge 44, 3) := by decide +kernel
theorem dX12_pass_104 : decode cX12_pass 104 = .ok (.aload_n 0, 1) := by decide +kernel
theorem dX12_pass_105 : decode cX12_pass 105 = .ok (.getfield 19, 3) := by decide +kernel
theorem dX12_pass_108 : decode cX12_pass 108 = .ok (.iload_n 1, 1) := by decide +kernel
theorem dX12_pass_109 : decode cX12_pass 109 = .ok (.iaload, 1) := by decide +kernel
theorem dX12_pass_110 : decode cX12_pass 110 = .ok (.iconst (-1), 1) := by decide +kernel
theorem dX12_pass_111 : decode cX12_pass 111 = .ok (.if_icmp .eq 28, 3) := by decide +kernel
theorem dX12_pass_114 : decode cX12_pass 114 = .ok (.aload_n 0, 1) := by decide +kernel
theorem dX12_pass_115 : decode cX12_pass 115 = .ok (.getfield 40, 3) := by decide +kernel
theorem dX12_pass_118 : decode cX12_pass 118 = .ok (.iload_n 1, 1) := by decide +kernel
theorem dX12_pass_119 : decode cX12_pass 119 = .ok (.iaload, 1) := by decide +kernel
theorem dX12_pass_120 : decode cX12_pass 120 = .ok (.iconst 1, 1) := by decide +kernel
theorem dX12_pass_121 : decode cX12_pass 121 = .ok (.if_icmp .ne 6, 3) := by decide +kernel
theorem dX12_pass_124 : decode cX12_pass 124 = .ok (.goto 15, 3) := by decide +kernel
theorem dX12_pass_127 : decode cX12_pass 127 = .ok (.aload_n 0, 1) := by decide +kernel
theorem dX12_pass_128 : decode cX12_pass 128 = .ok (.getfield 40, 3) := by decide +kernel
theorem dX12_pass_131 : decode cX12_pass 131 = .ok (.iload_n 1, 1) := by decide +kernel
theorem dX12_pass_132 : decode cX12_pass 132 = .ok (.iconst 1, 1) := by decide +kernel
theorem dX12_pass_133 : decode cX12_pass 133 = .ok (.iastore, 1) := by decide +kernel
theorem dX12_pass_134 : decode cX12_pass 134 = .ok (.aload_n 0, 1) := by decide +kernel
theorem dX12_pass_135 : decode cX12_pass 135 = .ok (.iload_n 1, 1) := by decide +kernel
theorem dX12_pass_136 : decode cX12_pass 136 = .ok (.invokevirtual 192, 3) := by decide +kernel
theorem dX12_pass_139 : decode cX12_pass 139 = .ok (.iinc 1 1, 3) := by decide +kernel
theorem dX12_pass_142 : decode cX12_pass 142 = .ok (.goto (-52), 3) := by decide +kernel
theorem dX12_pass_145 : decode cX12_pass 145 = .ok (.iconst 0, 1) := by decide +kernel
theorem dX12_pass_146 : decode cX12_pass 146 = .ok (.istore_n 1, 1) := by decide +kernel
theorem dX12_pass_147 : decode cX12_pass 147 = .ok (.iload_n 1, 1) := by decide +kernel
theorem dX12_pass_148 : decode cX12_pass 148 = .ok (.aload_n 0, 1) := by decide +kernel
theorem dX12_pass_149 : decode cX12_pass 149 = .ok (.getfield 3, 3) := by decide +kernel
theorem dX12_pass_152 : decode cX12_pass 152 = .ok (.getfield 75, 3) := by decide +kernel
theorem dX12_pass_155 : decode cX12_pass 155 = .ok (.getfield 169, 3) := by decide +kernel
theorem dX12_pass_158 : decode cX12_pass 158 = .ok (.if_icmp .ge 45, 3) := by decide +kernel
theorem dX12_pass_161 : decode cX12_pass 161 = .ok (.aload_n 0, 1) := by decide +kernel
theorem dX12_pass_162 : decode cX12_pass 162 = .ok (.getfield 61, 3) := by decide +kernel
theorem dX12_pass_165 : decode cX12_pass 165 = .ok (.bipush 6, 2) := by decide +kernel
theorem dX12_pass_167 : decode cX12_pass 167 = .ok (.irem, 1) := by decide +kernel
theorem dX12_pass_168 : decode cX12_pass 168 = .ok (.ifCond .ne 35, 3) := by decide +kernel
theorem dX12_pass_171 : decode cX12_pass 171 = .ok (.aload_n 0, 1) := by decide +kernel
theorem dX12_pass_172 : decode cX12_pass 172 = .ok (.getfield 15, 3) := by decide +kernel
theorem dX12_pass_175 : decode cX12_pass 175 = .ok (.iload_n 1, 1) := by decide +kernel
theorem dX12_pass_176 : decode cX12_pass 176 = .ok (.iconst 0, 1) := by decide +kernel
theorem dX12_pass_177 : decode cX12_pass 177 = .ok (.bipush 9, 2) := by decide +kernel
theorem dX12_pass_179 : decode cX12_pass 179 = .ok (.aload_n 0, 1) := by decide +kernel
theorem dX12_pass_180 : decode cX12_pass 180 = .ok (.getfield 15, 3) := by decide +kernel
theorem dX12_pass_183 : decode cX12_pass 183 = .ok (.iload_n 1, 1) := by decide +kernel
theorem dX12_pass_184 : decode cX12_pass 184 = .ok (.iaload, 1) := by decide +kernel
theorem dX12_pass_185 : decode cX12_pass 185 = .ok (.aload_n 0, 1) := by decide +kernel
theorem dX12_pass_186 : decode cX12_pass 186 = .ok (.getfield 65, 3) := by decide +kernel
theorem dX12_pass_189 : decode cX12_pass 189 = .ok (.iadd, 1) := by decide +kernel
theorem dX12_pass_190 : decode cX12_pass 190 = .ok (.invokestatic 160, 3) := by decide +kernel
theorem dX12_pass_193 : decode cX12_pass 193 = .ok (.invokestatic 101, 3) := by decide +kernel
theorem dX12_pass_196 : decode cX12_pass 196 = .ok (.iastore, 1) := by decide +kernel
theorem dX12_pass_197 : decode cX12_pass 197 = .ok (.iinc 1 1, 3) := by decide +kernel
theorem dX12_pass_200 : decode cX12_pass 200 = .ok (.goto (-53), 3) := by decide +kernel
theorem dX12_pass_203 : decode cX12_pass 203 = .ok (.aload_n 0, 1) := by decide +kernel
theorem dX12_pass_204 : decode cX12_pass 204 = .ok (.dup, 1) := by decide +kernel
theorem dX12_pass_205 : decode cX12_pass 205 = .ok (.getfield 61, 3) := by decide +kernel
theorem dX12_pass_208 : decode cX12_pass 208 = .ok (.iconst 1, 1) := by decide +kernel
theorem dX12_pass_209 : decode cX12_pass 209 = .ok (.iadd, 1) := by decide +kernel
theorem dX12_pass_210 : decode cX12_pass 210 = .ok (.putfield 61, 3) := by decide +kernel
theorem dX12_pass_213 : decode cX12_pass 213 = .ok (.return_, 1) := by decide +kernel
theorem dX12_pass__0 : decode cX12_pass_ 0 = .ok (.iconst 0, 1) := by decide +kernel
theorem dX12_pass__1 : decode cX12_pass_ 1 = .ok (.istore_n 2, 1) := by decide +kernel
theorem dX12_pass__2 : decode cX12_pass_ 2 = .ok (.iload_n 2, 1) := by decide +kernel
theorem dX12_pass__3 : decode cX12_pass_ 3 = .ok (.iload_n 1, 1) := by decide +kernel
theorem dX12_pass__4 : decode cX12_pass_ 4 = .ok (.if_icmp .ge 13, 3) := by decide +kernel
theorem dX12_pass__7 : decode cX12_pass_ 7 = .ok (.aload_n 0, 1) := by decide +kernel
theorem dX12_pass__8 : decode cX12_pass_ 8 = .ok (.invokevirtual 195, 3) := by decide +kernel
theorem dX12_pass__11 : decode cX12_pass_ 11 = .ok (.iinc 2 1, 3) := by decide +kernel
theorem dX12_pass__14 : decode cX12_pass_ 14 = .ok (.goto (-12), 3) := by decide +kernel
theorem dX12_pass__17 : decode cX12_pass_ 17 = .ok (.return_, 1) := by decide +kernel
theorem dX12_carryOut_0 : decode cX12_carryOut 0 = .ok (.iconst (-1), 1) := by decide +kernel
theorem dX12_carryOut_1 : decode cX12_carryOut 1 = .ok (.istore_n 3, 1) := by decide +kernel
theorem dX12_carryOut_2 : decode cX12_carryOut 2 = .ok (.iload_n 1, 1) := by decide +kernel
theorem dX12_carryOut_3 : decode cX12_carryOut 3 = .ok (.istore 4, 2) := by decide +kernel
theorem dX12_carryOut_5 : decode cX12_carryOut 5 = .ok (.iload 4, 2) := by decide +kernel
theorem dX12_carryOut_7 : decode cX12_carryOut 7 = .ok (.iload_n 2, 1) := by decide +kernel
theorem dX12_carryOut_8 : decode cX12_carryOut 8 = .ok (.if_icmp .ge 183, 3) := by decide +kernel
theorem dX12_carryOut_11 : decode cX12_carryOut 11 = .ok (.aload_n 0, 1) := by decide +kernel
theorem dX12_carryOut_12 : decode cX12_carryOut 12 = .ok (.getfield 3, 3) := by decide +kernel
theorem dX12_carryOut_15 : decode cX12_carryOut 15 = .ok (.getfield 75, 3) := by decide +kernel
theorem dX12_carryOut_18 : decode cX12_carryOut 18 = .ok (.getfield 198, 3) := by decide +kernel
theorem dX12_carryOut_21 : decode cX12_carryOut 21 = .ok (.iload 4, 2) := by decide +kernel
theorem dX12_carryOut_23 : decode cX12_carryOut 23 = .ok (.iaload, 1) := by decide +kernel
theorem dX12_carryOut_24 : decode cX12_carryOut 24 = .ok (.istore 5, 2) := by decide +kernel
theorem dX12_carryOut_26 : decode cX12_carryOut 26 = .ok (.iinc 4 1, 3) := by decide +kernel
theorem dX12_carryOut_29 : decode cX12_carryOut 29 = .ok (.iload 5, 2) := by decide +kernel
theorem dX12_carryOut_31 : decode cX12_carryOut 31 = .ok (.invokestatic 201, 3) := by decide +kernel
theorem dX12_carryOut_34 : decode cX12_carryOut 34 = .ok (.ifCond .eq 78, 3) := by decide +kernel
theorem dX12_carryOut_37 : decode cX12_carryOut 37 = .ok (.iinc 3 1, 3) := by decide +kernel
theorem dX12_carryOut_40 : decode cX12_carryOut 40 = .ok (.aload_n 0, 1) := by decide +kernel
theorem dX12_carryOut_41 : decode cX12_carryOut 41 = .ok (.getfield 52, 3) := by decide +kernel
theorem dX12_carryOut_44 : decode cX12_carryOut 44 = .ok (.iload_n 3, 1) := by decide +kernel
theorem dX12_carryOut_45 : decode cX12_carryOut 45 = .ok (.aload_n 0, 1) := by decide +kernel
theorem dX12_carryOut_46 : decode cX12_carryOut 46 = .ok (.iload 5, 2) := by decide +kernel
theorem dX12_carryOut_48 : decode cX12_carryOut 48 = .ok (.iload 5, 2) := by decide +kernel
theorem dX12_carryOut_50 : decode cX12_carryOut 50 = .ok (.bipush 30, 2) := by decide +kernel
theorem dX12_carryOut_52 : decode cX12_carryOut 52 = .ok (.if_icmp .eq 11, 3) := by decide +kernel
theorem dX12_carryOut_55 : decode cX12_carryOut 55 = .ok (.iload 5, 2) := by decide +kernel
theorem dX12_carryOut_57 : decode cX12_carryOut 57 = .ok (.invokestatic 204, 3) := by decide +kernel
theorem dX12_carryOut_60 : decode cX12_carryOut 60 = .ok (.ifCond .eq 19, 3) := by decide +kernel
theorem dX12_carryOut_63 : decode cX12_carryOut 63 = .ok (.aload_n 0, 1) := by decide +kernel
theorem dX12_carryOut_64 : decode cX12_carryOut 64 = .ok (.getfield 3, 3) := by decide +kernel
theorem dX12_carryOut_67 : decode cX12_carryOut 67 = .ok (.getfield 75, 3) := by decide +kernel
theorem dX12_carryOut_70 : decode cX12_carryOut 70 = .ok (.getfield 198, 3) := by decide +kernel
theorem dX12_carryOut_73 : decode cX12_carryOut 73 = .ok (.iload 4, 2) := by decide +kernel
theorem dX12_carryOut_75 : decode cX12_carryOut 75 = .ok (.iaload, 1) := by decide +kernel
theorem dX12_carryOut_76 : decode cX12_carryOut 76 = .ok (.goto 4, 3) := by decide +kernel
theorem dX12_carryOut_79 : decode cX12_carryOut 79 = .ok (.iconst (-1), 1) := by decide +kernel
theorem dX12_carryOut_80 : decode cX12_carryOut 80 = .ok (.invokevirtual 207, 3) := by decide +kernel
theorem dX12_carryOut_83 : decode cX12_carryOut 83 = .ok (.iastore, 1) := by decide +kernel
theorem dX12_carryOut_84 : decode cX12_carryOut 84 = .ok (.iload 4, 2) := by decide +kernel
theorem dX12_carryOut_86 : decode cX12_carryOut 86 = .ok (.iload 5, 2) := by decide +kernel
theorem dX12_carryOut_88 : decode cX12_carryOut 88 = .ok (.bipush 30, 2) := by decide +kernel
theorem dX12_carryOut_90 : decode cX12_carryOut 90 = .ok (.if_icmp .eq 11, 3) := by decide +kernel
theorem dX12_carryOut_93 : decode cX12_carryOut 93 = .ok (.iload 5, 2) := by decide +kernel
theorem dX12_carryOut_95 : decode cX12_carryOut 95 = .ok (.invokestatic 204, 3) := by decide +kernel
theorem dX12_carryOut_98 : decode cX12_carryOut 98 = .ok (.ifCond .eq 7, 3) := by decide +kernel
theorem dX12_carryOut_101 : decode cX12_carryOut 101 = .ok (.iconst 1, 1) := by decide +kernel
theorem dX12_carryOut_102 : decode cX12_carryOut 102 = .ok (.goto 4, 3) := by decide +kernel
theorem dX12_carryOut_105 : decode cX12_carryOut 105 = .ok (.iconst 0, 1) := by decide +kernel
theorem dX12_carryOut_106 : decode cX12_carryOut 106 = .ok (.iadd, 1) := by decide +kernel
theorem dX12_carryOut_107 : decode cX12_carryOut 107 = .ok (.istore 4, 2) := by decide +kernel
theorem dX12_carryOut_109 : decode cX12_carryOut 109 = .ok (.goto (-104), 3) := by decide +kernel
theorem dX12_carryOut_112 : decode cX12_carryOut 112 = .ok (.iload 5, 2) := by decide +kernel
theorem dX12_carryOut_114 : decode cX12_carryOut 114 = .ok (.bipush 31, 2) := by decide +kernel
theorem dX12_carryOut_116 : decode cX12_carryOut 116 = .ok (.if_icmp .eq 10, 3) := by decide +kernel
theorem dX12_carryOut_119 : decode cX12_carryOut 119 = .ok (.iload 5, 2) := by decide +kernel
theorem dX12_carryOut_121 : decode cX12_carryOut 121 = .ok (.bipush 23, 2) := by decide +kernel
theorem dX12_carryOut_123 : decode cX12_carryOut 123 = .ok (.if_icmp .ne 37, 3) := by decide +kernel
theorem dX12_carryOut_126 : decode cX12_carryOut 126 = .ok (.aload_n 0, 1) := by decide +kernel
theorem dX12_carryOut_127 : decode cX12_carryOut 127 = .ok (.getfield 52, 3) := by decide +kernel
theorem dX12_carryOut_130 : decode cX12_carryOut 130 = .ok (.iload_n 3, 1) := by decide +kernel
theorem dX12_carryOut_131 : decode cX12_carryOut 131 = .ok (.iload 5, 2) := by decide +kernel
theorem dX12_carryOut_133 : decode cX12_carryOut 133 = .ok (.bipush 31, 2) := by decide +kernel
theorem dX12_carryOut_135 : decode cX12_carryOut 135 = .ok (.if_icmp .ne 13, 3) := by decide +kernel
theorem dX12_carryOut_138 : decode cX12_carryOut 138 = .ok (.aload_n 0, 1) := by decide +kernel
theorem dX12_carryOut_139 : decode cX12_carryOut 139 = .ok (.getfield 52, 3) := by decide +kernel
theorem dX12_carryOut_142 : decode cX12_carryOut 142 = .ok (.iload_n 3, 1) := by decide +kernel
theorem dX12_carryOut_143 : decode cX12_carryOut 143 = .ok (.iaload, 1) := by decide +kernel
theorem dX12_carryOut_144 : decode cX12_carryOut 144 = .ok (.ineg, 1) := by decide +kernel
theorem dX12_carryOut_145 : decode cX12_carryOut 145 = .ok (.goto 11, 3) := by decide +kernel
theorem dX12_carryOut_148 : decode cX12_carryOut 148 = .ok (.iconst 1, 1) := by decide +kernel
theorem dX12_carryOut_149 : decode cX12_carryOut 149 = .ok (.aload_n 0, 1) := by decide +kernel
theorem dX12_carryOut_150 : decode cX12_carryOut 150 = .ok (.getfield 52, 3) := by decide +kernel
theorem dX12_carryOut_153 : decode cX12_carryOut 153 = .ok (.iload_n 3, 1) := by decide +kernel
theorem dX12_carryOut_154 : decode cX12_carryOut 154 = .ok (.iaload, 1) := by decide +kernel
theorem dX12_carryOut_155 : decode cX12_carryOut 155 = .ok (.isub, 1) := by decide +kernel
theorem dX12_carryOut_156 : decode cX12_carryOut 156 = .ok (.iastore, 1) := by decide +kernel
theorem dX12_carryOut_157 : decode cX12_carryOut 157 = .ok (.goto (-152), 3) := by decide +kernel
theorem dX12_carryOut_160 : decode cX12_carryOut 160 = .ok (.iinc 3 (-1), 3) := by decide +kernel
theorem dX12_carryOut_163 : decode cX12_carryOut 163 = .ok (.aload_n 0, 1) := by decide +kernel
theorem dX12_carryOut_164 : decode cX12_carryOut 164 = .ok (.getfield 52, 3) := by decide +kernel
theorem dX12_carryOut_167 : decode cX12_carryOut 167 = .ok (.iload_n 3, 1) := by decide +kernel
theorem dX12_carryOut_168 : decode cX12_carryOut 168 = .ok (.iload 5, 2) := by decide +kernel
theorem dX12_carryOut_170 : decode cX12_carryOut 170 = .ok (.aload_n 0, 1) := by decide +kernel
theorem dX12_carryOut_171 : decode cX12_carryOut 171 = .ok (.getfield 52, 3) := by decide +kernel
theorem dX12_carryOut_174 : decode cX12_carryOut 174 = .ok (.iload_n 3, 1) := by decide +kernel
theorem dX12_carryOut_175 : decode cX12_carryOut 175 = .ok (.iaload, 1) := by decide +kernel
theorem dX12_carryOut_176 : decode cX12_carryOut 176 = .ok (.aload_n 0, 1) := by decide +kernel
theorem dX12_carryOut_177 : decode cX12_carryOut 177 = .ok (.getfield 52, 3) := by decide +kernel
theorem dX12_carryOut_180 : decode cX12_carryOut 180 = .ok (.iload_n 3, 1) := by decide +kernel
theorem dX12_carryOut_181 : decode cX12_carryOut 181 = .ok (.iconst 1, 1) := by decide +kernel
theorem dX12_carryOut_182 : decode cX12_carryOut 182 = .ok (.iadd, 1) := by decide +kernel
theorem dX12_carryOut_183 : decode cX12_carryOut 183 = .ok (.iaload, 1) := by decide +kernel
theorem dX12_carryOut_184 : decode cX12_carryOut 184 = .ok (.invokestatic 210, 3) := by decide +kernel
theorem dX12_carryOut_187 : decode cX12_carryOut 187 = .ok (.iastore, 1) := by decide +kernel
theorem dX12_carryOut_188 : decode cX12_carryOut 188 = .ok (.goto (-183), 3) := by decide +kernel
theorem dX12_carryOut_191 : decode cX12_carryOut 191 = .ok (.aload_n 0, 1) := by decide +kernel
theorem dX12_carryOut_192 : decode cX12_carryOut 192 = .ok (.getfield 52, 3) := by decide +kernel
theorem dX12_carryOut_195 : decode cX12_carryOut 195 = .ok (.iconst 0, 1) := by decide +kernel
theorem dX12_carryOut_196 : decode cX12_carryOut 196 = .ok (.iaload, 1) := by decide +kernel
theorem dX12_carryOut_197 : decode cX12_carryOut 197 = .ok (.ireturn, 1) := by decide +kernel
theorem dX12_pushed_0 : decode cX12_pushed 0 = .ok (.iload_n 1, 1) := by decide +kernel
theorem dX12_pushed_1 : decode cX12_pushed 1 = .ok (.tableswitch 180 3 30 #[173, 180, 180, 166, 180, 180, 180, 180, 180, 180, 180, 180, 180, 129, 134, 139, 146, 153, 160, 180, 180, 180, 180, 180, 180, 180, 180, 127], 127) := by decide +kernel
theorem dX12_pushed_128 : decode cX12_pushed 128 = .ok (.iload_n 2, 1) := by decide +kernel
theorem dX12_pushed_129 : decode cX12_pushed 129 = .ok (.ireturn, 1) := by decide +kernel
theorem dX12_pushed_130 : decode cX12_pushed 130 = .ok (.aload_n 0, 1) := by decide +kernel
theorem dX12_pushed_131 : decode cX12_pushed 131 = .ok (.getfield 61, 3) := by decide +kernel
theorem dX12_pushed_134 : decode cX12_pushed 134 = .ok (.ireturn, 1) := by decide +kernel
theorem dX12_pushed_135 : decode cX12_pushed 135 = .ok (.aload_n 0, 1) := by decide +kernel
theorem dX12_pushed_136 : decode cX12_pushed 136 = .ok (.getfield 65, 3) := by decide +kernel
theorem dX12_pushed_139 : decode cX12_pushed 139 = .ok (.ireturn, 1) := by decide +kernel
theorem dX12_pushed_140 : decode cX12_pushed 140 = .ok (.aload_n 0, 1) := by decide +kernel
theorem dX12_pushed_141 : decode cX12_pushed 141 = .ok (.iconst 0, 1) := by decide +kernel
theorem dX12_pushed_142 : decode cX12_pushed 142 = .ok (.iconst (-1), 1) := by decide +kernel
theorem dX12_pushed_143 : decode cX12_pushed 143 = .ok (.invokevirtual 90, 3) := by decide +kernel
theorem dX12_pushed_146 : decode cX12_pushed 146 = .ok (.ireturn, 1) := by decide +kernel
theorem dX12_pushed_147 : decode cX12_pushed 147 = .ok (.aload_n 0, 1) := by decide +kernel
theorem dX12_pushed_148 : decode cX12_pushed 148 = .ok (.iconst 3, 1) := by decide +kernel
theorem dX12_pushed_149 : decode cX12_pushed 149 = .ok (.iconst (-1), 1) := by decide +kernel
theorem dX12_pushed_150 : decode cX12_pushed 150 = .ok (.invokevirtual 90, 3) := by decide +kernel
theorem dX12_pushed_153 : decode cX12_pushed 153 = .ok (.ireturn, 1) := by decide +kernel
theorem dX12_pushed_154 : decode cX12_pushed 154 = .ok (.aload_n 0, 1) := by decide +kernel
theorem dX12_pushed_155 : decode cX12_pushed 155 = .ok (.getfield 28, 3) := by decide +kernel
theorem dX12_pushed_158 : decode cX12_pushed 158 = .ok (.iload_n 2, 1) := by decide +kernel
theorem dX12_pushed_159 : decode cX12_pushed 159 = .ok (.iaload, 1) := by decide +kernel
theorem dX12_pushed_160 : decode cX12_pushed 160 = .ok (.ireturn, 1) := by decide +kernel
theorem dX12_pushed_161 : decode cX12_pushed 161 = .ok (.aload_n 0, 1) := by decide +kernel
theorem dX12_pushed_162 : decode cX12_pushed 162 = .ok (.iload_n 2, 1) := by decide +kernel
theorem dX12_pushed_163 : decode cX12_pushed 163 = .ok (.invokevirtual 94, 3) := by decide +kernel
theorem dX12_pushed_166 : decode cX12_pushed 166 = .ok (.ireturn, 1) := by decide +kernel
theorem dX12_pushed_167 : decode cX12_pushed 167 = .ok (.aload_n 0, 1) := by decide +kernel
theorem dX12_pushed_168 : decode cX12_pushed 168 = .ok (.getfield 31, 3) := by decide +kernel
theorem dX12_pushed_171 : decode cX12_pushed 171 = .ok (.iload_n 2, 1) := by decide +kernel
theorem dX12_pushed_172 : decode cX12_pushed 172 = .ok (.iaload, 1) := by decide +kernel
theorem dX12_pushed_173 : decode cX12_pushed 173 = .ok (.ireturn, 1) := by decide +kernel
theorem dX12_pushed_174 : decode cX12_pushed 174 = .ok (.aload_n 0, 1) := by decide +kernel
theorem dX12_pushed_175 : decode cX12_pushed 175 = .ok (.getfield 15, 3) := by decide +kernel
theorem dX12_pushed_178 : decode cX12_pushed 178 = .ok (.iload_n 2, 1) := by decide +kernel
theorem dX12_pushed_179 : decode cX12_pushed 179 = .ok (.iaload, 1) := by decide +kernel
theorem dX12_pushed_180 : decode cX12_pushed 180 = .ok (.ireturn, 1) := by decide +kernel
theorem dX12_pushed_181 : decode cX12_pushed 181 = .ok (.aload_n 0, 1) := by decide +kernel
theorem dX12_pushed_182 : decode cX12_pushed 182 = .ok (.iconst 2, 1) := by decide +kernel
theorem dX12_pushed_183 : decode cX12_pushed 183 = .ok (.iload_n 2, 1) := by decide +kernel
theorem dX12_pushed_184 : decode cX12_pushed 184 = .ok (.invokevirtual 214, 3) := by decide +kernel
theorem dX12_pushed_187 : decode cX12_pushed 187 = .ok (.ireturn, 1) := by decide +kernel
theorem dX13_init_0 : decode cX13_init 0 = .ok (.aload_n 0, 1) := by decide +kernel
theorem dX13_init_1 : decode cX13_init 1 = .ok (.invokespecial 1, 3) := by decide +kernel
theorem dX13_init_4 : decode cX13_init 4 = .ok (.aload_n 0, 1) := by decide +kernel
theorem dX13_init_5 : decode cX13_init 5 = .ok (.sipush 2000, 3) := by decide +kernel
theorem dX13_init_8 : decode cX13_init 8 = .ok (.newarray .int, 2) := by decide +kernel
theorem dX13_init_10 : decode cX13_init 10 = .ok (.putfield 9, 3) := by decide +kernel
theorem dX13_init_13 : decode cX13_init 13 = .ok (.aload_n 0, 1) := by decide +kernel
theorem dX13_init_14 : decode cX13_init 14 = .ok (.iconst (-1), 1) := by decide +kernel
theorem dX13_init_15 : decode cX13_init 15 = .ok (.putfield 13, 3) := by decide +kernel
theorem dX13_init_18 : decode cX13_init 18 = .ok (.aload_n 0, 1) := by decide +kernel
theorem dX13_init_19 : decode cX13_init 19 = .ok (.sipush 401, 3) := by decide +kernel
theorem dX13_init_22 : decode cX13_init 22 = .ok (.newarray .int, 2) := by decide +kernel
theorem dX13_init_24 : decode cX13_init 24 = .ok (.putfield 17, 3) := by decide +kernel
theorem dX13_init_27 : decode cX13_init 27 = .ok (.aload_n 0, 1) := by decide +kernel
theorem dX13_init_28 : decode cX13_init 28 = .ok (.sipush 401, 3) := by decide +kernel
theorem dX13_init_31 : decode cX13_init 31 = .ok (.newarray .int, 2) := by decide +kernel
theorem dX13_init_33 : decode cX13_init 33 = .ok (.putfield 20, 3) := by decide +kernel
theorem dX13_init_36 : decode cX13_init 36 = .ok (.aload_n 0, 1) := by decide +kernel
theorem dX13_init_37 : decode cX13_init 37 = .ok (.sipush 401, 3) := by decide +kernel
theorem dX13_init_40 : decode cX13_init 40 = .ok (.newarray .int, 2) := by decide +kernel
theorem dX13_init_42 : decode cX13_init 42 = .ok (.putfield 23, 3) := by decide +kernel
theorem dX13_init_45 : decode cX13_init 45 = .ok (.aload_n 0, 1) := by decide +kernel
theorem dX13_init_46 : decode cX13_init 46 = .ok (.sipush 401, 3) := by decide +kernel
theorem dX13_init_49 : decode cX13_init 49 = .ok (.newarray .int, 2) := by decide +kernel
theorem dX13_init_51 : decode cX13_init 51 = .ok (.putfield 26, 3) := by decide +kernel
theorem dX13_init_54 : decode cX13_init 54 = .ok (.aload_n 0, 1) := by decide +kernel
theorem dX13_init_55 : decode cX13_init 55 = .ok (.sipush 401, 3) := by decide +kernel
theorem dX13_init_58 : decode cX13_init 58 = .ok (.newarray .int, 2) := by decide +kernel
theorem dX13_init_60 : decode cX13_init 60 = .ok (.putfield 29, 3) := by decide +kernel
theorem dX13_init_63 : decode cX13_init 63 = .ok (.aload_n 0, 1) := by decide +kernel
theorem dX13_init_64 : decode cX13_init 64 = .ok (.new 32, 3) := by decide +kernel
theorem dX13_init_67 : decode cX13_init 67 = .ok (.dup, 1) := by decide +kernel
theorem dX13_init_68 : decode cX13_init 68 = .ok (.invokespecial 34, 3) := by decide +kernel
theorem dX13_init_71 : decode cX13_init 71 = .ok (.putfield 35, 3) := by decide +kernel
theorem dX13_init_74 : decode cX13_init 74 = .ok (.aload_n 0, 1) := by decide +kernel
theorem dX13_init_75 : decode cX13_init 75 = .ok (.aload_n 0, 1) := by decide +kernel
theorem dX13_init_76 : decode cX13_init 76 = .ok (.getfield 35, 3) := by decide +kernel
theorem dX13_init_79 : decode cX13_init 79 = .ok (.putfield 39, 3) := by decide +kernel
theorem dX13_init_82 : decode cX13_init 82 = .ok (.aload_n 0, 1) := by decide +kernel
theorem dX13_init_83 : decode cX13_init 83 = .ok (.new 42, 3) := by decide +kernel
theorem dX13_init_86 : decode cX13_init 86 = .ok (.dup, 1) := by decide +kernel
theorem dX13_init_87 : decode cX13_init 87 = .ok (.aload_n 0, 1) := by decide +kernel
theorem dX13_init_88 : decode cX13_init 88 = .ok (.invokespecial 44, 3) := by decide +kernel
theorem dX13_init_91 : decode cX13_init 91 = .ok (.putfield 47, 3) := by decide +kernel
theorem dX13_init_94 : decode cX13_init 94 = .ok (.aload_n 0, 1) := by decide +kernel
theorem dX13_init_95 : decode cX13_init 95 = .ok (.new 42, 3) := by decide +kernel
theorem dX13_init_98 : decode cX13_init 98 = .ok (.dup, 1) := by decide +kernel
theorem dX13_init_99 : decode cX13_init 99 = .ok (.aload_n 0, 1) := by decide +kernel
theorem dX13_init_100 : decode cX13_init 100 = .ok (.invokespecial 44, 3) := by decide +kernel
theorem dX13_init_103 : decode cX13_init 103 = .ok (.putfield 51, 3) := by decide +kernel
theorem dX13_init_106 : decode cX13_init 106 = .ok (.aload_n 0, 1) := by decide +kernel
theorem dX13_init_107 : decode cX13_init 107 = .ok (.getfield 47, 3) := by decide +kernel
theorem dX13_init_110 : decode cX13_init 110 = .ok (.invokevirtual 54, 3) := by decide +kernel
theorem dX13_init_113 : decode cX13_init 113 = .ok (.return_, 1) := by decide +kernel
theorem dX13_thrown_0 : decode cX13_thrown 0 = .ok (.aload_n 0, 1) := by decide +kernel
theorem dX13_thrown_1 : decode cX13_thrown 1 = .ok (.getfield 57, 3) := by decide +kernel
theorem dX13_thrown_4 : decode cX13_thrown 4 = .ok (.ireturn, 1) := by decide +kernel
theorem dX13_no_0 : decode cX13_no 0 = .ok (.aload_n 0, 1) := by decide +kernel
theorem dX13_no_1 : decode cX13_no 1 = .ok (.iload_n 1, 1) := by decide +kernel
theorem dX13_no_2 : decode cX13_no 2 = .ok (.putfield 57, 3) := by decide +kernel
theorem dX13_no_5 : decode cX13_no 5 = .ok (.iconst 0, 1) := by decide +kernel
theorem dX13_no_6 : decode cX13_no 6 = .ok (.ireturn, 1) := by decide +kernel
theorem dX13_isIn_0 : decode cX13_isIn 0 = .ok (.iload_n 0, 1) := by decide +kernel
theorem dX13_isIn_1 : decode cX13_isIn 1 = .ok (.iload_n 1, 1) := by decide +kernel
theorem dX13_isIn_2 : decode cX13_isIn 2 = .ok (.if_icmp .lt 12, 3) := by decide +kernel
theorem dX13_isIn_5 : decode cX13_isIn 5 = .ok (.iload_n 0, 1) := by decide +kernel
theorem dX13_isIn_6 : decode cX13_isIn 6 = .ok (.iload_n 2, 1) := by decide +kernel
theorem dX13_isIn_7 : decode cX13_isIn 7 = .ok (.if_icmp .gt 7, 3) := by decide +kernel
theorem dX13_isIn_10 : decode cX13_isIn 10 = .ok (.iconst 1, 1) := by decide +kernel
theorem dX13_isIn_11 : decode cX13_isIn 11 = .ok (.goto 4, 3) := by decide +kernel
theorem dX13_isIn_14 : decode cX13_isIn 14 = .ok (.iconst 0, 1) := by decide +kernel
theorem dX13_isIn_15 : decode cX13_isIn 15 = .ok (.ireturn, 1) := by decide +kernel
theorem dX13_isStretch_0 : decode cX13_isStretch 0 = .ok (.iload_n 1, 1) := by decide +kernel
theorem dX13_isStretch_1 : decode cX13_isStretch 1 = .ok (.iconst 0, 1) := by decide +kernel
theorem dX13_isStretch_2 : decode cX13_isStretch 2 = .ok (.aload_n 0, 1) := by decide +kernel
theorem dX13_isStretch_3 : decode cX13_isStretch 3 = .ok (.getfield 35, 3) := by decide +kernel
theorem dX13_isStretch_6 : decode cX13_isStretch 6 = .ok (.getfield 60, 3) := by decide +kernel
theorem dX13_isStretch_9 : decode cX13_isStretch 9 = .ok (.iconst 1, 1) := by decide +kernel
theorem dX13_isStretch_10 : decode cX13_isStretch 10 = .ok (.isub, 1) := by decide +kernel
theorem dX13_isStretch_11 : decode cX13_isStretch 11 = .ok (.invokestatic 63, 3) := by decide +kernel
theorem dX13_isStretch_14 : decode cX13_isStretch 14 = .ok (.ireturn, 1) := by decide +kernel
theorem dX13_isHorse_0 : decode cX13_isHorse 0 = .ok (.iload_n 1, 1) := by decide +kernel
theorem dX13_isHorse_1 : decode cX13_isHorse 1 = .ok (.iconst 0, 1) := by decide +kernel
theorem dX13_isHorse_2 : decode cX13_isHorse 2 = .ok (.aload_n 0, 1) := by decide +kernel
theorem dX13_isHorse_3 : decode cX13_isHorse 3 = .ok (.getfield 35, 3) := by decide +kernel
theorem dX13_isHorse_6 : decode cX13_isHorse 6 = .ok (.getfield 67, 3) := by decide +kernel
theorem dX13_isHorse_9 : decode cX13_isHorse 9 = .ok (.iconst 1, 1) := by decide +kernel
theorem dX13_isHorse_10 : decode cX13_isHorse 10 = .ok (.isub, 1) := by decide +kernel
theorem dX13_isHorse_11 : decode cX13_isHorse 11 = .ok (.invokestatic 63, 3) := by decide +kernel
theorem dX13_isHorse_14 : decode cX13_isHorse 14 = .ok (.ireturn, 1) := by decide +kernel
theorem dX13_isLog_0 : decode cX13_isLog 0 = .ok (.iload_n 1, 1) := by decide +kernel
theorem dX13_isLog_1 : decode cX13_isLog 1 = .ok (.iconst 0, 1) := by decide +kernel
theorem dX13_isLog_2 : decode cX13_isLog 2 = .ok (.aload_n 0, 1) := by decide +kernel
theorem dX13_isLog_3 : decode cX13_isLog 3 = .ok (.getfield 35, 3) := by decide +kernel
theorem dX13_isLog_6 : decode cX13_isLog 6 = .ok (.getfield 70, 3) := by decide +kernel
theorem dX13_isLog_9 : decode cX13_isLog 9 = .ok (.iconst 1, 1) := by decide +kernel
theorem dX13_isLog_10 : decode cX13_isLog 10 = .ok (.isub, 1) := by decide +kernel
theorem dX13_isLog_11 : decode cX13_isLog 11 = .ok (.invokestatic 63, 3) := by decide +kernel
theorem dX13_isLog_14 : decode cX13_isLog 14 = .ok (.ireturn, 1) := by decide +kernel
theorem dX13_isOf_0 : decode cX13_isOf 0 = .ok (.iload_n 0, 1) := by decide +kernel
theorem dX13_isOf_1 : decode cX13_isOf 1 = .ok (.bipush 6, 2) := by decide +kernel
theorem dX13_isOf_3 : decode cX13_isOf 3 = .ok (.if_icmp .eq 19, 3) := by decide +kernel
theorem dX13_isOf_6 : decode cX13_isOf 6 = .ok (.iload_n 0, 1) := by decide +kernel
theorem dX13_isOf_7 : decode cX13_isOf 7 = .ok (.iconst 3, 1) := by decide +kernel
theorem dX13_isOf_8 : decode cX13_isOf 8 = .ok (.if_icmp .eq 14, 3) := by decide +kernel
theorem dX13_isOf_11 : decode cX13_isOf 11 = .ok (.iload_n 0, 1) := by decide +kernel
theorem dX13_isOf_12 : decode cX13_isOf 12 = .ok (.bipush 20, 2) := by decide +kernel
theorem dX13_isOf_14 : decode cX13_isOf 14 = .ok (.bipush 22, 2) := by decide +kernel
theorem dX13_isOf_16 : decode cX13_isOf 16 = .ok (.invokestatic 63, 3) := by decide +kernel
theorem dX13_isOf_19 : decode cX13_isOf 19 = .ok (.ifCond .eq 7, 3) := by decide +kernel
theorem dX13_isOf_22 : decode cX13_isOf 22 = .ok (.iconst 1, 1) := by decide +kernel
theorem dX13_isOf_23 : decode cX13_isOf 23 = .ok (.goto 4, 3) := by decide +kernel
theorem dX13_isOf_26 : decode cX13_isOf 26 = .ok (.iconst 0, 1) := by decide +kernel
theorem dX13_isOf_27 : decode cX13_isOf 27 = .ok (.ireturn, 1) := by decide +kernel
theorem dX13_isPushed_0 : decode cX13_isPushed 0 = .ok (.iload_n 0, 1) := by decide +kernel
theorem dX13_isPushed_1 : decode cX13_isPushed 1 = .ok (.bipush 30, 2) := by decide +kernel
theorem dX13_isPushed_3 : decode cX13_isPushed 3 = .ok (.if_icmp .eq 21, 3) := by decide +kernel
theorem dX13_isPushed_6 : decode cX13_isPushed 6 = .ok (.iload_n 0, 1) := by decide +kernel
theorem dX13_isPushed_7 : decode cX13_isPushed 7 = .ok (.bipush 16, 2) := by decide +kernel
theorem dX13_isPushed_9 : decode cX13_isPushed 9 = .ok (.bipush 19, 2) := by decide +kernel
theorem dX13_isPushed_11 : decode cX13_isPushed 11 = .ok (.invokestatic 63, 3) := by decide +kernel
theorem dX13_isPushed_14 : decode cX13_isPushed 14 = .ok (.ifCond .ne 10, 3) := by decide +kernel
theorem dX13_isPushed_17 : decode cX13_isPushed 17 = .ok (.iload_n 0, 1) := by decide +kernel
theorem dX13_isPushed_18 : decode cX13_isPushed 18 = .ok (.invokestatic 73, 3) := by decide +kernel
theorem dX13_isPushed_21 : decode cX13_isPushed 21 = .ok (.ifCond .eq 7, 3) := by decide +kernel
theorem dX13_isPushed_24 : decode cX13_isPushed 24 = .ok (.iconst 1, 1) := by decide +kernel
theorem dX13_isPushed_25 : decode cX13_isPushed 25 = .ok (.goto 4, 3) := by decide +kernel
theorem dX13_isPushed_28 : decode cX13_isPushed 28 = .ok (.iconst 0, 1) := by decide +kernel
theorem dX13_isPushed_29 : decode cX13_isPushed 29 = .ok (.ireturn, 1) := by decide +kernel
theorem dX13_both_0 : decode cX13_both 0 = .ok (.iload_n 0, 1) := by decide +kernel
theorem dX13_both_1 : decode cX13_both 1 = .ok (.tableswitch 178 24 40 #[174, 178, 107, 113, 178, 178, 178, 178, 83, 87, 91, 95, 119, 130, 141, 152, 163], 83) := by decide +kernel
theorem dX13_both_84 : decode cX13_both 84 = .ok (.iload_n 1, 1) := by decide +kernel
theorem dX13_both_85 : decode cX13_both 85 = .ok (.iload_n 2, 1) := by decide +kernel
theorem dX13_both_86 : decode cX13_both 86 = .ok (.iadd, 1) := by decide +kernel
theorem dX13_both_87 : decode cX13_both 87 = .ok (.ireturn, 1) := by decide +kernel
theorem dX13_both_88 : decode cX13_both 88 = .ok (.iload_n 1, 1) := by decide +kernel
theorem dX13_both_89 : decode cX13_both 89 = .ok (.iload_n 2, 1) := by decide +kernel
theorem dX13_both_90 : decode cX13_both 90 = .ok (.isub, 1) := by decide +kernel
theorem dX13_both_91 : decode cX13_both 91 = .ok (.ireturn, 1) := by decide +kernel
theorem dX13_both_92 : decode cX13_both 92 = .ok (.iload_n 1, 1) := by decide +kernel
theorem dX13_both_93 : decode cX13_both 93 = .ok (.iload_n 2, 1) := by decide +kernel
theorem dX13_both_94 : decode cX13_both 94 = .ok (.imul, 1) := by decide +kernel
theorem dX13_both_95 : decode cX13_both 95 = .ok (.ireturn, 1) := by decide +kernel
theorem dX13_both_96 : decode cX13_both 96 = .ok (.iload_n 2, 1) := by decide +kernel
theorem dX13_both_97 : decode cX13_both 97 = .ok (.ifCond .ne 7, 3) := by decide +kernel
theorem dX13_both_100 : decode cX13_both 100 = .ok (.iconst 0, 1) := by decide +kernel
theorem dX13_both_101 : decode cX13_both 101 = .ok (.goto 6, 3) := by decide +kernel
theorem dX13_both_104 : decode cX13_both 104 = .ok (.iload_n 1, 1) := by decide +kernel
theorem dX13_both_105 : decode cX13_both 105 = .ok (.iload_n 2, 1) := by decide +kernel
theorem dX13_both_106 : decode cX13_both 106 = .ok (.idiv, 1) := by decide +kernel
