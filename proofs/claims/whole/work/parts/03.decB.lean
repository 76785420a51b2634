theorem dX9_init_0 : decode cX9_init 0 = .ok (.aload_n 0, 1) := by decide +kernel
theorem dX9_init_1 : decode cX9_init 1 = .ok (.invokespecial 3, 3) := by decide +kernel
theorem dX9_init_4 : decode cX9_init 4 = .ok (.aload_n 0, 1) := by decide +kernel
theorem dX9_init_5 : decode cX9_init 5 = .ok (.iconst (-1), 1) := by decide +kernel
theorem dX9_init_6 : decode cX9_init 6 = .ok (.putfield 9, 3) := by decide +kernel
theorem dX9_init_9 : decode cX9_init 9 = .ok (.aload_n 0, 1) := by decide +kernel
theorem dX9_init_10 : decode cX9_init 10 = .ok (.sipush 600, 3) := by decide +kernel
theorem dX9_init_13 : decode cX9_init 13 = .ok (.newarray .int, 2) := by decide +kernel
theorem dX9_init_15 : decode cX9_init 15 = .ok (.putfield 15, 3) := by decide +kernel
theorem dX9_init_18 : decode cX9_init 18 = .ok (.aload_n 0, 1) := by decide +kernel
theorem dX9_init_19 : decode cX9_init 19 = .ok (.bipush 24, 2) := by decide +kernel
theorem dX9_init_21 : decode cX9_init 21 = .ok (.newarray .int, 2) := by decide +kernel
theorem dX9_init_23 : decode cX9_init 23 = .ok (.putfield 19, 3) := by decide +kernel
theorem dX9_init_26 : decode cX9_init 26 = .ok (.aload_n 0, 1) := by decide +kernel
theorem dX9_init_27 : decode cX9_init 27 = .ok (.bipush 24, 2) := by decide +kernel
theorem dX9_init_29 : decode cX9_init 29 = .ok (.newarray .int, 2) := by decide +kernel
theorem dX9_init_31 : decode cX9_init 31 = .ok (.putfield 22, 3) := by decide +kernel
theorem dX9_init_34 : decode cX9_init 34 = .ok (.aload_n 0, 1) := by decide +kernel
theorem dX9_init_35 : decode cX9_init 35 = .ok (.sipush 600, 3) := by decide +kernel
theorem dX9_init_38 : decode cX9_init 38 = .ok (.newarray .int, 2) := by decide +kernel
theorem dX9_init_40 : decode cX9_init 40 = .ok (.putfield 25, 3) := by decide +kernel
theorem dX9_init_43 : decode cX9_init 43 = .ok (.aload_n 0, 1) := by decide +kernel
theorem dX9_init_44 : decode cX9_init 44 = .ok (.sipush 600, 3) := by decide +kernel
theorem dX9_init_47 : decode cX9_init 47 = .ok (.newarray .int, 2) := by decide +kernel
theorem dX9_init_49 : decode cX9_init 49 = .ok (.putfield 28, 3) := by decide +kernel
theorem dX9_init_52 : decode cX9_init 52 = .ok (.aload_n 0, 1) := by decide +kernel
theorem dX9_init_53 : decode cX9_init 53 = .ok (.sipush 600, 3) := by decide +kernel
theorem dX9_init_56 : decode cX9_init 56 = .ok (.newarray .int, 2) := by decide +kernel
theorem dX9_init_58 : decode cX9_init 58 = .ok (.putfield 31, 3) := by decide +kernel
theorem dX9_init_61 : decode cX9_init 61 = .ok (.aload_n 0, 1) := by decide +kernel
theorem dX9_init_62 : decode cX9_init 62 = .ok (.sipush 600, 3) := by decide +kernel
theorem dX9_init_65 : decode cX9_init 65 = .ok (.newarray .int, 2) := by decide +kernel
theorem dX9_init_67 : decode cX9_init 67 = .ok (.putfield 34, 3) := by decide +kernel
theorem dX9_init_70 : decode cX9_init 70 = .ok (.return_, 1) := by decide +kernel
theorem dX9_take_0 : decode cX9_take 0 = .ok (.bipush 24, 2) := by decide +kernel
theorem dX9_take_2 : decode cX9_take 2 = .ok (.istore_n 2, 1) := by decide +kernel
theorem dX9_take_3 : decode cX9_take 3 = .ok (.iload_n 2, 1) := by decide +kernel
theorem dX9_take_4 : decode cX9_take 4 = .ok (.ifCond .lt 45, 3) := by decide +kernel
theorem dX9_take_7 : decode cX9_take 7 = .ok (.aload_n 0, 1) := by decide +kernel
theorem dX9_take_8 : decode cX9_take 8 = .ok (.getfield 37, 3) := by decide +kernel
theorem dX9_take_11 : decode cX9_take 11 = .ok (.sipush 600, 3) := by decide +kernel
theorem dX9_take_14 : decode cX9_take 14 = .ok (.if_icmp .ge 35, 3) := by decide +kernel
theorem dX9_take_17 : decode cX9_take 17 = .ok (.aload_n 0, 1) := by decide +kernel
theorem dX9_take_18 : decode cX9_take 18 = .ok (.getfield 25, 3) := by decide +kernel
theorem dX9_take_21 : decode cX9_take 21 = .ok (.aload_n 0, 1) := by decide +kernel
theorem dX9_take_22 : decode cX9_take 22 = .ok (.getfield 37, 3) := by decide +kernel
theorem dX9_take_25 : decode cX9_take 25 = .ok (.iload_n 1, 1) := by decide +kernel
theorem dX9_take_26 : decode cX9_take 26 = .ok (.iload_n 2, 1) := by decide +kernel
theorem dX9_take_27 : decode cX9_take 27 = .ok (.iushr, 1) := by decide +kernel
theorem dX9_take_28 : decode cX9_take 28 = .ok (.sipush 255, 3) := by decide +kernel
theorem dX9_take_31 : decode cX9_take 31 = .ok (.iand, 1) := by decide +kernel
theorem dX9_take_32 : decode cX9_take 32 = .ok (.iastore, 1) := by decide +kernel
theorem dX9_take_33 : decode cX9_take 33 = .ok (.aload_n 0, 1) := by decide +kernel
theorem dX9_take_34 : decode cX9_take 34 = .ok (.dup, 1) := by decide +kernel
theorem dX9_take_35 : decode cX9_take 35 = .ok (.getfield 37, 3) := by decide +kernel
theorem dX9_take_38 : decode cX9_take 38 = .ok (.iconst 1, 1) := by decide +kernel
theorem dX9_take_39 : decode cX9_take 39 = .ok (.iadd, 1) := by decide +kernel
theorem dX9_take_40 : decode cX9_take 40 = .ok (.putfield 37, 3) := by decide +kernel
theorem dX9_take_43 : decode cX9_take 43 = .ok (.iinc 2 (-8), 3) := by decide +kernel
theorem dX9_take_46 : decode cX9_take 46 = .ok (.goto (-43), 3) := by decide +kernel
theorem dX9_take_49 : decode cX9_take 49 = .ok (.return_, 1) := by decide +kernel
theorem dX9_read_0 : decode cX9_read 0 = .ok (.aload_n 0, 1) := by decide +kernel
theorem dX9_read_1 : decode cX9_read 1 = .ok (.iconst 0, 1) := by decide +kernel
theorem dX9_read_2 : decode cX9_read 2 = .ok (.putfield 40, 3) := by decide +kernel
theorem dX9_read_5 : decode cX9_read 5 = .ok (.aload_n 0, 1) := by decide +kernel
theorem dX9_read_6 : decode cX9_read 6 = .ok (.iconst (-1), 1) := by decide +kernel
theorem dX9_read_7 : decode cX9_read 7 = .ok (.putfield 9, 3) := by decide +kernel
theorem dX9_read_10 : decode cX9_read 10 = .ok (.aload_n 0, 1) := by decide +kernel
theorem dX9_read_11 : decode cX9_read 11 = .ok (.iconst 0, 1) := by decide +kernel
theorem dX9_read_12 : decode cX9_read 12 = .ok (.putfield 43, 3) := by decide +kernel
theorem dX9_read_15 : decode cX9_read 15 = .ok (.aload_n 0, 1) := by decide +kernel
theorem dX9_read_16 : decode cX9_read 16 = .ok (.iconst 0, 1) := by decide +kernel
theorem dX9_read_17 : decode cX9_read 17 = .ok (.putfield 46, 3) := by decide +kernel
theorem dX9_read_20 : decode cX9_read 20 = .ok (.aload_n 0, 1) := by decide +kernel
theorem dX9_read_21 : decode cX9_read 21 = .ok (.iconst 0, 1) := by decide +kernel
theorem dX9_read_22 : decode cX9_read 22 = .ok (.putfield 49, 3) := by decide +kernel
theorem dX9_read_25 : decode cX9_read 25 = .ok (.aload_n 0, 1) := by decide +kernel
theorem dX9_read_26 : decode cX9_read 26 = .ok (.invokevirtual 52, 3) := by decide +kernel
theorem dX9_read_29 : decode cX9_read 29 = .ok (.iconst 0, 1) := by decide +kernel
theorem dX9_read_30 : decode cX9_read 30 = .ok (.istore_n 1, 1) := by decide +kernel
theorem dX9_read_31 : decode cX9_read 31 = .ok (.iload_n 1, 1) := by decide +kernel
theorem dX9_read_32 : decode cX9_read 32 = .ok (.bipush 24, 2) := by decide +kernel
theorem dX9_read_34 : decode cX9_read 34 = .ok (.if_icmp .gt 30, 3) := by decide +kernel
theorem dX9_read_37 : decode cX9_read 37 = .ok (.aload_n 0, 1) := by decide +kernel
theorem dX9_read_38 : decode cX9_read 38 = .ok (.getfield 40, 3) := by decide +kernel
theorem dX9_read_41 : decode cX9_read 41 = .ok (.ifCond .ne 23, 3) := by decide +kernel
theorem dX9_read_44 : decode cX9_read 44 = .ok (.aload_n 0, 1) := by decide +kernel
theorem dX9_read_45 : decode cX9_read 45 = .ok (.invokevirtual 55, 3) := by decide +kernel
theorem dX9_read_48 : decode cX9_read 48 = .ok (.bipush 24, 2) := by decide +kernel
theorem dX9_read_50 : decode cX9_read 50 = .ok (.if_icmp .eq 14, 3) := by decide +kernel
theorem dX9_read_53 : decode cX9_read 53 = .ok (.aload_n 0, 1) := by decide +kernel
theorem dX9_read_54 : decode cX9_read 54 = .ok (.invokevirtual 59, 3) := by decide +kernel
theorem dX9_read_57 : decode cX9_read 57 = .ok (.pop, 1) := by decide +kernel
theorem dX9_read_58 : decode cX9_read 58 = .ok (.iinc 1 1, 3) := by decide +kernel
theorem dX9_read_61 : decode cX9_read 61 = .ok (.goto (-30), 3) := by decide +kernel
theorem dX9_read_64 : decode cX9_read 64 = .ok (.aload_n 0, 1) := by decide +kernel
theorem dX9_read_65 : decode cX9_read 65 = .ok (.getfield 40, 3) := by decide +kernel
theorem dX9_read_68 : decode cX9_read 68 = .ok (.ifCond .ne 14, 3) := by decide +kernel
theorem dX9_read_71 : decode cX9_read 71 = .ok (.new 63, 3) := by decide +kernel
theorem dX9_read_74 : decode cX9_read 74 = .ok (.dup, 1) := by decide +kernel
theorem dX9_read_75 : decode cX9_read 75 = .ok (.aload_n 0, 1) := by decide +kernel
theorem dX9_read_76 : decode cX9_read 76 = .ok (.invokespecial 65, 3) := by decide +kernel
theorem dX9_read_79 : decode cX9_read 79 = .ok (.goto 4, 3) := by decide +kernel
theorem dX9_read_82 : decode cX9_read 82 = .ok (.aconst_null, 1) := by decide +kernel
theorem dX9_read_83 : decode cX9_read 83 = .ok (.areturn, 1) := by decide +kernel
theorem dX9_scan_0 : decode cX9_scan 0 = .ok (.aload_n 0, 1) := by decide +kernel
theorem dX9_scan_1 : decode cX9_scan 1 = .ok (.iconst 0, 1) := by decide +kernel
theorem dX9_scan_2 : decode cX9_scan 2 = .ok (.putfield 68, 3) := by decide +kernel
theorem dX9_scan_5 : decode cX9_scan 5 = .ok (.iconst 0, 1) := by decide +kernel
theorem dX9_scan_6 : decode cX9_scan 6 = .ok (.istore_n 1, 1) := by decide +kernel
theorem dX9_scan_7 : decode cX9_scan 7 = .ok (.iconst 0, 1) := by decide +kernel
theorem dX9_scan_8 : decode cX9_scan 8 = .ok (.istore_n 2, 1) := by decide +kernel
theorem dX9_scan_9 : decode cX9_scan 9 = .ok (.iload_n 2, 1) := by decide +kernel
theorem dX9_scan_10 : decode cX9_scan 10 = .ok (.aload_n 0, 1) := by decide +kernel
theorem dX9_scan_11 : decode cX9_scan 11 = .ok (.getfield 37, 3) := by decide +kernel
theorem dX9_scan_14 : decode cX9_scan 14 = .ok (.if_icmp .ge 144, 3) := by decide +kernel
theorem dX9_scan_17 : decode cX9_scan 17 = .ok (.aload_n 0, 1) := by decide +kernel
theorem dX9_scan_18 : decode cX9_scan 18 = .ok (.getfield 25, 3) := by decide +kernel
theorem dX9_scan_21 : decode cX9_scan 21 = .ok (.iload_n 2, 1) := by decide +kernel
theorem dX9_scan_22 : decode cX9_scan 22 = .ok (.iaload, 1) := by decide +kernel
theorem dX9_scan_23 : decode cX9_scan 23 = .ok (.invokestatic 71, 3) := by decide +kernel
theorem dX9_scan_26 : decode cX9_scan 26 = .ok (.istore_n 3, 1) := by decide +kernel
theorem dX9_scan_27 : decode cX9_scan 27 = .ok (.iload_n 1, 1) := by decide +kernel
theorem dX9_scan_28 : decode cX9_scan 28 = .ok (.iconst 1, 1) := by decide +kernel
theorem dX9_scan_29 : decode cX9_scan 29 = .ok (.if_icmp .eq 8, 3) := by decide +kernel
theorem dX9_scan_32 : decode cX9_scan 32 = .ok (.iload_n 1, 1) := by decide +kernel
theorem dX9_scan_33 : decode cX9_scan 33 = .ok (.iconst 2, 1) := by decide +kernel
theorem dX9_scan_34 : decode cX9_scan 34 = .ok (.if_icmp .ne 7, 3) := by decide +kernel
theorem dX9_scan_37 : decode cX9_scan 37 = .ok (.iconst 1, 1) := by decide +kernel
theorem dX9_scan_38 : decode cX9_scan 38 = .ok (.goto 4, 3) := by decide +kernel
theorem dX9_scan_41 : decode cX9_scan 41 = .ok (.iconst 0, 1) := by decide +kernel
theorem dX9_scan_42 : decode cX9_scan 42 = .ok (.istore 4, 2) := by decide +kernel
theorem dX9_scan_44 : decode cX9_scan 44 = .ok (.iload_n 3, 1) := by decide +kernel
theorem dX9_scan_45 : decode cX9_scan 45 = .ok (.iconst 3, 1) := by decide +kernel
theorem dX9_scan_46 : decode cX9_scan 46 = .ok (.if_icmp .ne 38, 3) := by decide +kernel
theorem dX9_scan_49 : decode cX9_scan 49 = .ok (.aload_n 0, 1) := by decide +kernel
theorem dX9_scan_50 : decode cX9_scan 50 = .ok (.ldc 75, 2) := by decide +kernel
theorem dX9_scan_52 : decode cX9_scan 52 = .ok (.aload_n 0, 1) := by decide +kernel
theorem dX9_scan_53 : decode cX9_scan 53 = .ok (.getfield 25, 3) := by decide +kernel
theorem dX9_scan_56 : decode cX9_scan 56 = .ok (.iload_n 2, 1) := by decide +kernel
theorem dX9_scan_57 : decode cX9_scan 57 = .ok (.iaload, 1) := by decide +kernel
theorem dX9_scan_58 : decode cX9_scan 58 = .ok (.i2c, 1) := by decide +kernel
theorem dX9_scan_59 : decode cX9_scan 59 = .ok (.invokevirtual 77, 3) := by decide +kernel
theorem dX9_scan_62 : decode cX9_scan 62 = .ok (.ifCond .lt 12, 3) := by decide +kernel
theorem dX9_scan_65 : decode cX9_scan 65 = .ok (.aload_n 0, 1) := by decide +kernel
theorem dX9_scan_66 : decode cX9_scan 66 = .ok (.getfield 25, 3) := by decide +kernel
theorem dX9_scan_69 : decode cX9_scan 69 = .ok (.iload_n 2, 1) := by decide +kernel
theorem dX9_scan_70 : decode cX9_scan 70 = .ok (.iaload, 1) := by decide +kernel
theorem dX9_scan_71 : decode cX9_scan 71 = .ok (.goto 5, 3) := by decide +kernel
theorem dX9_scan_74 : decode cX9_scan 74 = .ok (.bipush 25, 2) := by decide +kernel
theorem dX9_scan_76 : decode cX9_scan 76 = .ok (.iload_n 2, 1) := by decide +kernel
theorem dX9_scan_77 : decode cX9_scan 77 = .ok (.iconst 0, 1) := by decide +kernel
theorem dX9_scan_78 : decode cX9_scan 78 = .ok (.invokevirtual 82, 3) := by decide +kernel
theorem dX9_scan_81 : decode cX9_scan 81 = .ok (.goto 69, 3) := by decide +kernel
theorem dX9_scan_84 : decode cX9_scan 84 = .ok (.iload_n 3, 1) := by decide +kernel
theorem dX9_scan_85 : decode cX9_scan 85 = .ok (.iconst 1, 1) := by decide +kernel
theorem dX9_scan_86 : decode cX9_scan 86 = .ok (.if_icmp .ne 32, 3) := by decide +kernel
theorem dX9_scan_89 : decode cX9_scan 89 = .ok (.iload_n 1, 1) := by decide +kernel
theorem dX9_scan_90 : decode cX9_scan 90 = .ok (.iconst 1, 1) := by decide +kernel
theorem dX9_scan_91 : decode cX9_scan 91 = .ok (.if_icmp .eq 27, 3) := by decide +kernel
theorem dX9_scan_94 : decode cX9_scan 94 = .ok (.aload_n 0, 1) := by decide +kernel
theorem dX9_scan_95 : decode cX9_scan 95 = .ok (.iload 4, 2) := by decide +kernel
theorem dX9_scan_97 : decode cX9_scan 97 = .ok (.ifCond .eq 8, 3) := by decide +kernel
theorem dX9_scan_100 : decode cX9_scan 100 = .ok (.bipush 25, 2) := by decide +kernel
theorem dX9_scan_102 : decode cX9_scan 102 = .ok (.goto 8, 3) := by decide +kernel
theorem dX9_scan_105 : decode cX9_scan 105 = .ok (.aload_n 0, 1) := by decide +kernel
theorem dX9_scan_106 : decode cX9_scan 106 = .ok (.iload_n 2, 1) := by decide +kernel
theorem dX9_scan_107 : decode cX9_scan 107 = .ok (.invokevirtual 86, 3) := by decide +kernel
theorem dX9_scan_110 : decode cX9_scan 110 = .ok (.iload_n 2, 1) := by decide +kernel
theorem dX9_scan_111 : decode cX9_scan 111 = .ok (.iconst 0, 1) := by decide +kernel
theorem dX9_scan_112 : decode cX9_scan 112 = .ok (.invokevirtual 82, 3) := by decide +kernel
theorem dX9_scan_115 : decode cX9_scan 115 = .ok (.goto 35, 3) := by decide +kernel
theorem dX9_scan_118 : decode cX9_scan 118 = .ok (.iload_n 3, 1) := by decide +kernel
theorem dX9_scan_119 : decode cX9_scan 119 = .ok (.iconst 2, 1) := by decide +kernel
theorem dX9_scan_120 : decode cX9_scan 120 = .ok (.if_icmp .ne 30, 3) := by decide +kernel
theorem dX9_scan_123 : decode cX9_scan 123 = .ok (.iload_n 1, 1) := by decide +kernel
theorem dX9_scan_124 : decode cX9_scan 124 = .ok (.iconst 2, 1) := by decide +kernel
theorem dX9_scan_125 : decode cX9_scan 125 = .ok (.if_icmp .eq 25, 3) := by decide +kernel
theorem dX9_scan_128 : decode cX9_scan 128 = .ok (.aload_n 0, 1) := by decide +kernel
theorem dX9_scan_129 : decode cX9_scan 129 = .ok (.iload 4, 2) := by decide +kernel
theorem dX9_scan_131 : decode cX9_scan 131 = .ok (.ifCond .eq 8, 3) := by decide +kernel
theorem dX9_scan_134 : decode cX9_scan 134 = .ok (.bipush 25, 2) := by decide +kernel
theorem dX9_scan_136 : decode cX9_scan 136 = .ok (.goto 5, 3) := by decide +kernel
theorem dX9_scan_139 : decode cX9_scan 139 = .ok (.bipush 23, 2) := by decide +kernel
theorem dX9_scan_141 : decode cX9_scan 141 = .ok (.iload_n 2, 1) := by decide +kernel
theorem dX9_scan_142 : decode cX9_scan 142 = .ok (.aload_n 0, 1) := by decide +kernel
theorem dX9_scan_143 : decode cX9_scan 143 = .ok (.iload_n 2, 1) := by decide +kernel
theorem dX9_scan_144 : decode cX9_scan 144 = .ok (.invokevirtual 89, 3) := by decide +kernel
theorem dX9_scan_147 : decode cX9_scan 147 = .ok (.invokevirtual 82, 3) := by decide +kernel
theorem dX9_scan_150 : decode cX9_scan 150 = .ok (.iload_n 3, 1) := by decide +kernel
theorem dX9_scan_151 : decode cX9_scan 151 = .ok (.istore_n 1, 1) := by decide +kernel
theorem dX9_scan_152 : decode cX9_scan 152 = .ok (.iinc 2 1, 3) := by decide +kernel
theorem dX9_scan_155 : decode cX9_scan 155 = .ok (.goto (-146), 3) := by decide +kernel
theorem dX9_scan_158 : decode cX9_scan 158 = .ok (.return_, 1) := by decide +kernel
theorem dX9_sortOf_0 : decode cX9_sortOf 0 = .ok (.iload_n 0, 1) := by decide +kernel
theorem dX9_sortOf_1 : decode cX9_sortOf 1 = .ok (.bipush 10, 2) := by decide +kernel
theorem dX9_sortOf_3 : decode cX9_sortOf 3 = .ok (.if_icmp .eq 9, 3) := by decide +kernel
theorem dX9_sortOf_6 : decode cX9_sortOf 6 = .ok (.iload_n 0, 1) := by decide +kernel
theorem dX9_sortOf_7 : decode cX9_sortOf 7 = .ok (.bipush 32, 2) := by decide +kernel
theorem dX9_sortOf_9 : decode cX9_sortOf 9 = .ok (.if_icmp .ne 5, 3) := by decide +kernel
theorem dX9_sortOf_12 : decode cX9_sortOf 12 = .ok (.iconst 0, 1) := by decide +kernel
theorem dX9_sortOf_13 : decode cX9_sortOf 13 = .ok (.ireturn, 1) := by decide +kernel
theorem dX9_sortOf_14 : decode cX9_sortOf 14 = .ok (.iload_n 0, 1) := by decide +kernel
theorem dX9_sortOf_15 : decode cX9_sortOf 15 = .ok (.bipush 97, 2) := by decide +kernel
theorem dX9_sortOf_17 : decode cX9_sortOf 17 = .ok (.if_icmp .lt 11, 3) := by decide +kernel
theorem dX9_sortOf_20 : decode cX9_sortOf 20 = .ok (.iload_n 0, 1) := by decide +kernel
theorem dX9_sortOf_21 : decode cX9_sortOf 21 = .ok (.bipush 122, 2) := by decide +kernel
theorem dX9_sortOf_23 : decode cX9_sortOf 23 = .ok (.if_icmp .gt 5, 3) := by decide +kernel
theorem dX9_sortOf_26 : decode cX9_sortOf 26 = .ok (.iconst 1, 1) := by decide +kernel
theorem dX9_sortOf_27 : decode cX9_sortOf 27 = .ok (.ireturn, 1) := by decide +kernel
theorem dX9_sortOf_28 : decode cX9_sortOf 28 = .ok (.iload_n 0, 1) := by decide +kernel
theorem dX9_sortOf_29 : decode cX9_sortOf 29 = .ok (.bipush 48, 2) := by decide +kernel
theorem dX9_sortOf_31 : decode cX9_sortOf 31 = .ok (.if_icmp .lt 13, 3) := by decide +kernel
theorem dX9_sortOf_34 : decode cX9_sortOf 34 = .ok (.iload_n 0, 1) := by decide +kernel
theorem dX9_sortOf_35 : decode cX9_sortOf 35 = .ok (.bipush 57, 2) := by decide +kernel
theorem dX9_sortOf_37 : decode cX9_sortOf 37 = .ok (.if_icmp .gt 7, 3) := by decide +kernel
theorem dX9_sortOf_40 : decode cX9_sortOf 40 = .ok (.iconst 2, 1) := by decide +kernel
theorem dX9_sortOf_41 : decode cX9_sortOf 41 = .ok (.goto 4, 3) := by decide +kernel
theorem dX9_sortOf_44 : decode cX9_sortOf 44 = .ok (.iconst 3, 1) := by decide +kernel
theorem dX9_sortOf_45 : decode cX9_sortOf 45 = .ok (.ireturn, 1) := by decide +kernel
theorem dX9_addToken_0 : decode cX9_addToken 0 = .ok (.aload_n 0, 1) := by decide +kernel
theorem dX9_addToken_1 : decode cX9_addToken 1 = .ok (.getfield 68, 3) := by decide +kernel
theorem dX9_addToken_4 : decode cX9_addToken 4 = .ok (.sipush 600, 3) := by decide +kernel
theorem dX9_addToken_7 : decode cX9_addToken 7 = .ok (.if_icmp .lt 4, 3) := by decide +kernel
theorem dX9_addToken_10 : decode cX9_addToken 10 = .ok (.return_, 1) := by decide +kernel
theorem dX9_addToken_11 : decode cX9_addToken 11 = .ok (.aload_n 0, 1) := by decide +kernel
theorem dX9_addToken_12 : decode cX9_addToken 12 = .ok (.getfield 28, 3) := by decide +kernel
theorem dX9_addToken_15 : decode cX9_addToken 15 = .ok (.aload_n 0, 1) := by decide +kernel
theorem dX9_addToken_16 : decode cX9_addToken 16 = .ok (.getfield 68, 3) := by decide +kernel
theorem dX9_addToken_19 : decode cX9_addToken 19 = .ok (.iload_n 1, 1) := by decide +kernel
theorem dX9_addToken_20 : decode cX9_addToken 20 = .ok (.iastore, 1) := by decide +kernel
theorem dX9_addToken_21 : decode cX9_addToken 21 = .ok (.aload_n 0, 1) := by decide +kernel
theorem dX9_addToken_22 : decode cX9_addToken 22 = .ok (.getfield 31, 3) := by decide +kernel
theorem dX9_addToken_25 : decode cX9_addToken 25 = .ok (.aload_n 0, 1) := by decide +kernel
theorem dX9_addToken_26 : decode cX9_addToken 26 = .ok (.getfield 68, 3) := by decide +kernel
theorem dX9_addToken_29 : decode cX9_addToken 29 = .ok (.iload_n 2, 1) := by decide +kernel
theorem dX9_addToken_30 : decode cX9_addToken 30 = .ok (.iastore, 1) := by decide +kernel
theorem dX9_addToken_31 : decode cX9_addToken 31 = .ok (.aload_n 0, 1) := by decide +kernel
theorem dX9_addToken_32 : decode cX9_addToken 32 = .ok (.getfield 34, 3) := by decide +kernel
theorem dX9_addToken_35 : decode cX9_addToken 35 = .ok (.aload_n 0, 1) := by decide +kernel
theorem dX9_addToken_36 : decode cX9_addToken 36 = .ok (.getfield 68, 3) := by decide +kernel
theorem dX9_addToken_39 : decode cX9_addToken 39 = .ok (.iload_n 3, 1) := by decide +kernel
theorem dX9_addToken_40 : decode cX9_addToken 40 = .ok (.iastore, 1) := by decide +kernel
theorem dX9_addToken_41 : decode cX9_addToken 41 = .ok (.aload_n 0, 1) := by decide +kernel
theorem dX9_addToken_42 : decode cX9_addToken 42 = .ok (.dup, 1) := by decide +kernel
theorem dX9_addToken_43 : decode cX9_addToken 43 = .ok (.getfield 68, 3) := by decide +kernel
theorem dX9_addToken_46 : decode cX9_addToken 46 = .ok (.iconst 1, 1) := by decide +kernel
theorem dX9_addToken_47 : decode cX9_addToken 47 = .ok (.iadd, 1) := by decide +kernel
theorem dX9_addToken_48 : decode cX9_addToken 48 = .ok (.putfield 68, 3) := by decide +kernel
theorem dX9_addToken_51 : decode cX9_addToken 51 = .ok (.return_, 1) := by decide +kernel
theorem dX9_wordAt_0 : decode cX9_wordAt 0 = .ok (.iconst 0, 1) := by decide +kernel
theorem dX9_wordAt_1 : decode cX9_wordAt 1 = .ok (.istore_n 2, 1) := by decide +kernel
theorem dX9_wordAt_2 : decode cX9_wordAt 2 = .ok (.iload_n 1, 1) := by decide +kernel
theorem dX9_wordAt_3 : decode cX9_wordAt 3 = .ok (.istore_n 3, 1) := by decide +kernel
theorem dX9_wordAt_4 : decode cX9_wordAt 4 = .ok (.iconst 1, 1) := by decide +kernel
theorem dX9_wordAt_5 : decode cX9_wordAt 5 = .ok (.istore 4, 2) := by decide +kernel
theorem dX9_wordAt_7 : decode cX9_wordAt 7 = .ok (.iconst 0, 1) := by decide +kernel
theorem dX9_wordAt_8 : decode cX9_wordAt 8 = .ok (.istore 5, 2) := by decide +kernel
theorem dX9_wordAt_10 : decode cX9_wordAt 10 = .ok (.iload 5, 2) := by decide +kernel
theorem dX9_wordAt_12 : decode cX9_wordAt 12 = .ok (.ldc 92, 2) := by decide +kernel
theorem dX9_wordAt_14 : decode cX9_wordAt 14 = .ok (.invokevirtual 94, 3) := by decide +kernel
theorem dX9_wordAt_17 : decode cX9_wordAt 17 = .ok (.if_icmp .ge 108, 3) := by decide +kernel
theorem dX9_wordAt_20 : decode cX9_wordAt 20 = .ok (.iload_n 3, 1) := by decide +kernel
theorem dX9_wordAt_21 : decode cX9_wordAt 21 = .ok (.aload_n 0, 1) := by decide +kernel
theorem dX9_wordAt_22 : decode cX9_wordAt 22 = .ok (.getfield 37, 3) := by decide +kernel
theorem dX9_wordAt_25 : decode cX9_wordAt 25 = .ok (.if_icmp .ge 20, 3) := by decide +kernel
theorem dX9_wordAt_28 : decode cX9_wordAt 28 = .ok (.aload_n 0, 1) := by decide +kernel
theorem dX9_wordAt_29 : decode cX9_wordAt 29 = .ok (.getfield 25, 3) := by decide +kernel
theorem dX9_wordAt_32 : decode cX9_wordAt 32 = .ok (.iload_n 3, 1) := by decide +kernel
theorem dX9_wordAt_33 : decode cX9_wordAt 33 = .ok (.iaload, 1) := by decide +kernel
theorem dX9_wordAt_34 : decode cX9_wordAt 34 = .ok (.invokestatic 71, 3) := by decide +kernel
theorem dX9_wordAt_37 : decode cX9_wordAt 37 = .ok (.iconst 1, 1) := by decide +kernel
theorem dX9_wordAt_38 : decode cX9_wordAt 38 = .ok (.if_icmp .ne 7, 3) := by decide +kernel
theorem dX9_wordAt_41 : decode cX9_wordAt 41 = .ok (.iconst 1, 1) := by decide +kernel
theorem dX9_wordAt_42 : decode cX9_wordAt 42 = .ok (.goto 4, 3) := by decide +kernel
theorem dX9_wordAt_45 : decode cX9_wordAt 45 = .ok (.iconst 0, 1) := by decide +kernel
theorem dX9_wordAt_46 : decode cX9_wordAt 46 = .ok (.istore 6, 2) := by decide +kernel
theorem dX9_wordAt_48 : decode cX9_wordAt 48 = .ok (.ldc 92, 2) := by decide +kernel
theorem dX9_wordAt_50 : decode cX9_wordAt 50 = .ok (.iload 5, 2) := by decide +kernel
theorem dX9_wordAt_52 : decode cX9_wordAt 52 = .ok (.invokevirtual 96, 3) := by decide +kernel
theorem dX9_wordAt_55 : decode cX9_wordAt 55 = .ok (.bipush 32, 2) := by decide +kernel
theorem dX9_wordAt_57 : decode cX9_wordAt 57 = .ok (.if_icmp .eq 42, 3) := by decide +kernel
theorem dX9_wordAt_60 : decode cX9_wordAt 60 = .ok (.iload 4, 2) := by decide +kernel
theorem dX9_wordAt_62 : decode cX9_wordAt 62 = .ok (.ifCond .eq 28, 3) := by decide +kernel
theorem dX9_wordAt_65 : decode cX9_wordAt 65 = .ok (.iload 6, 2) := by decide +kernel
theorem dX9_wordAt_67 : decode cX9_wordAt 67 = .ok (.ifCond .eq 23, 3) := by decide +kernel
theorem dX9_wordAt_70 : decode cX9_wordAt 70 = .ok (.aload_n 0, 1) := by decide +kernel
theorem dX9_wordAt_71 : decode cX9_wordAt 71 = .ok (.getfield 25, 3) := by decide +kernel
theorem dX9_wordAt_74 : decode cX9_wordAt 74 = .ok (.iload_n 3, 1) := by decide +kernel
theorem dX9_wordAt_75 : decode cX9_wordAt 75 = .ok (.iaload, 1) := by decide +kernel
theorem dX9_wordAt_76 : decode cX9_wordAt 76 = .ok (.ldc 92, 2) := by decide +kernel
theorem dX9_wordAt_78 : decode cX9_wordAt 78 = .ok (.iload 5, 2) := by decide +kernel
theorem dX9_wordAt_80 : decode cX9_wordAt 80 = .ok (.invokevirtual 96, 3) := by decide +kernel
theorem dX9_wordAt_83 : decode cX9_wordAt 83 = .ok (.if_icmp .ne 7, 3) := by decide +kernel
theorem dX9_wordAt_86 : decode cX9_wordAt 86 = .ok (.iconst 1, 1) := by decide +kernel
theorem dX9_wordAt_87 : decode cX9_wordAt 87 = .ok (.goto 4, 3) := by decide +kernel
theorem dX9_wordAt_90 : decode cX9_wordAt 90 = .ok (.iconst 0, 1) := by decide +kernel
theorem dX9_wordAt_91 : decode cX9_wordAt 91 = .ok (.istore 4, 2) := by decide +kernel
theorem dX9_wordAt_93 : decode cX9_wordAt 93 = .ok (.iinc 3 1, 3) := by decide +kernel
theorem dX9_wordAt_96 : decode cX9_wordAt 96 = .ok (.goto 23, 3) := by decide +kernel
theorem dX9_wordAt_99 : decode cX9_wordAt 99 = .ok (.iload 4, 2) := by decide +kernel
theorem dX9_wordAt_101 : decode cX9_wordAt 101 = .ok (.ifCond .eq 10, 3) := by decide +kernel
theorem dX9_wordAt_104 : decode cX9_wordAt 104 = .ok (.iload 6, 2) := by decide +kernel
theorem dX9_wordAt_106 : decode cX9_wordAt 106 = .ok (.ifCond .ne 5, 3) := by decide +kernel
theorem dX9_wordAt_109 : decode cX9_wordAt 109 = .ok (.iload_n 2, 1) := by decide +kernel
theorem dX9_wordAt_110 : decode cX9_wordAt 110 = .ok (.ireturn, 1) := by decide +kernel
theorem dX9_wordAt_111 : decode cX9_wordAt 111 = .ok (.iinc 2 1, 3) := by decide +kernel
theorem dX9_wordAt_114 : decode cX9_wordAt 114 = .ok (.iload_n 1, 1) := by decide +kernel
theorem dX9_wordAt_115 : decode cX9_wordAt 115 = .ok (.istore_n 3, 1) := by decide +kernel
theorem dX9_wordAt_116 : decode cX9_wordAt 116 = .ok (.iconst 1, 1) := by decide +kernel
theorem dX9_wordAt_117 : decode cX9_wordAt 117 = .ok (.istore 4, 2) := by decide +kernel
theorem dX9_wordAt_119 : decode cX9_wordAt 119 = .ok (.iinc 5 1, 3) := by decide +kernel
theorem dX9_wordAt_122 : decode cX9_wordAt 122 = .ok (.goto (-112), 3) := by decide +kernel
theorem dX9_wordAt_125 : decode cX9_wordAt 125 = .ok (.bipush 25, 2) := by decide +kernel
theorem dX9_wordAt_127 : decode cX9_wordAt 127 = .ok (.ireturn, 1) := by decide +kernel
theorem dX9_numberAt_0 : decode cX9_numberAt 0 = .ok (.iconst 0, 1) := by decide +kernel
theorem dX9_numberAt_1 : decode cX9_numberAt 1 = .ok (.istore_n 2, 1) := by decide +kernel
theorem dX9_numberAt_2 : decode cX9_numberAt 2 = .ok (.iload_n 1, 1) := by decide +kernel
theorem dX9_numberAt_3 : decode cX9_numberAt 3 = .ok (.istore_n 3, 1) := by decide +kernel
theorem dX9_numberAt_4 : decode cX9_numberAt 4 = .ok (.iload_n 3, 1) := by decide +kernel
theorem dX9_numberAt_5 : decode cX9_numberAt 5 = .ok (.aload_n 0, 1) := by decide +kernel
theorem dX9_numberAt_6 : decode cX9_numberAt 6 = .ok (.getfield 37, 3) := by decide +kernel
theorem dX9_numberAt_9 : decode cX9_numberAt 9 = .ok (.if_icmp .ge 46, 3) := by decide +kernel
theorem dX9_numberAt_12 : decode cX9_numberAt 12 = .ok (.aload_n 0, 1) := by decide +kernel
theorem dX9_numberAt_13 : decode cX9_numberAt 13 = .ok (.getfield 25, 3) := by decide +kernel
theorem dX9_numberAt_16 : decode cX9_numberAt 16 = .ok (.iload_n 3, 1) := by decide +kernel
theorem dX9_numberAt_17 : decode cX9_numberAt 17 = .ok (.iaload, 1) := by decide +kernel
theorem dX9_numberAt_18 : decode cX9_numberAt 18 = .ok (.invokestatic 71, 3) := by decide +kernel
theorem dX9_numberAt_21 : decode cX9_numberAt 21 = .ok (.iconst 2, 1) := by decide +kernel
theorem dX9_numberAt_22 : decode cX9_numberAt 22 = .ok (.if_icmp .ne 33, 3) := by decide +kernel
theorem dX9_numberAt_25 : decode cX9_numberAt 25 = .ok (.iload_n 3, 1) := by decide +kernel
theorem dX9_numberAt_26 : decode cX9_numberAt 26 = .ok (.iload_n 1, 1) := by decide +kernel
theorem dX9_numberAt_27 : decode cX9_numberAt 27 = .ok (.isub, 1) := by decide +kernel
theorem dX9_numberAt_28 : decode cX9_numberAt 28 = .ok (.iconst 5, 1) := by decide +kernel
theorem dX9_numberAt_29 : decode cX9_numberAt 29 = .ok (.if_icmp .lt 5, 3) := by decide +kernel
theorem dX9_numberAt_32 : decode cX9_numberAt 32 = .ok (.iconst (-1), 1) := by decide +kernel
theorem dX9_numberAt_33 : decode cX9_numberAt 33 = .ok (.ireturn, 1) := by decide +kernel
theorem dX9_numberAt_34 : decode cX9_numberAt 34 = .ok (.iload_n 2, 1) := by decide +kernel
theorem dX9_numberAt_35 : decode cX9_numberAt 35 = .ok (.bipush 10, 2) := by decide +kernel
theorem dX9_numberAt_37 : decode cX9_numberAt 37 = .ok (.imul, 1) := by decide +kernel
theorem dX9_numberAt_38 : decode cX9_numberAt 38 = .ok (.aload_n 0, 1) := by decide +kernel
theorem dX9_numberAt_39 : decode cX9_numberAt 39 = .ok (.getfield 25, 3) := by decide +kernel
theorem dX9_numberAt_42 : decode cX9_numberAt 42 = .ok (.iload_n 3, 1) := by decide +kernel
theorem dX9_numberAt_43 : decode cX9_numberAt 43 = .ok (.iaload, 1) := by decide +kernel
theorem dX9_numberAt_44 : decode cX9_numberAt 44 = .ok (.iadd, 1) := by decide +kernel
theorem dX9_numberAt_45 : decode cX9_numberAt 45 = .ok (.bipush 48, 2) := by decide +kernel
theorem dX9_numberAt_47 : decode cX9_numberAt 47 = .ok (.isub, 1) := by decide +kernel
theorem dX9_numberAt_48 : decode cX9_numberAt 48 = .ok (.istore_n 2, 1) := by decide +kernel
theorem dX9_numberAt_49 : decode cX9_numberAt 49 = .ok (.iinc 3 1, 3) := by decide +kernel
theorem dX9_numberAt_52 : decode cX9_numberAt 52 = .ok (.goto (-48), 3) := by decide +kernel
theorem dX9_numberAt_55 : decode cX9_numberAt 55 = .ok (.iload_n 2, 1) := by decide +kernel
theorem dX9_numberAt_56 : decode cX9_numberAt 56 = .ok (.ireturn, 1) := by decide +kernel
theorem dX9_token_0 : decode cX9_token 0 = .ok (.aload_n 0, 1) := by decide +kernel
theorem dX9_token_1 : decode cX9_token 1 = .ok (.getfield 49, 3) := by decide +kernel
theorem dX9_token_4 : decode cX9_token 4 = .ok (.aload_n 0, 1) := by decide +kernel
theorem dX9_token_5 : decode cX9_token 5 = .ok (.getfield 68, 3) := by decide +kernel
theorem dX9_token_8 : decode cX9_token 8 = .ok (.if_icmp .ge 15, 3) := by decide +kernel
theorem dX9_token_11 : decode cX9_token 11 = .ok (.aload_n 0, 1) := by decide +kernel
theorem dX9_token_12 : decode cX9_token 12 = .ok (.getfield 28, 3) := by decide +kernel
theorem dX9_token_15 : decode cX9_token 15 = .ok (.aload_n 0, 1) := by decide +kernel
theorem dX9_token_16 : decode cX9_token 16 = .ok (.getfield 49, 3) := by decide +kernel
theorem dX9_token_19 : decode cX9_token 19 = .ok (.iaload, 1) := by decide +kernel
theorem dX9_token_20 : decode cX9_token 20 = .ok (.goto 5, 3) := by decide +kernel
theorem dX9_token_23 : decode cX9_token 23 = .ok (.bipush 24, 2) := by decide +kernel
theorem dX9_token_25 : decode cX9_token 25 = .ok (.ireturn, 1) := by decide +kernel
theorem dX9_here_0 : decode cX9_here 0 = .ok (.aload_n 0, 1) := by decide +kernel
theorem dX9_here_1 : decode cX9_here 1 = .ok (.getfield 49, 3) := by decide +kernel
theorem dX9_here_4 : decode cX9_here 4 = .ok (.aload_n 0, 1) := by decide +kernel
theorem dX9_here_5 : decode cX9_here 5 = .ok (.getfield 68, 3) := by decide +kernel
theorem dX9_here_8 : decode cX9_here 8 = .ok (.if_icmp .ge 15, 3) := by decide +kernel
theorem dX9_here_11 : decode cX9_here 11 = .ok (.aload_n 0, 1) := by decide +kernel
theorem dX9_here_12 : decode cX9_here 12 = .ok (.getfield 31, 3) := by decide +kernel
theorem dX9_here_15 : decode cX9_here 15 = .ok (.aload_n 0, 1) := by decide +kernel
theorem dX9_here_16 : decode cX9_here 16 = .ok (.getfield 49, 3) := by decide +kernel
theorem dX9_here_19 : decode cX9_here 19 = .ok (.iaload, 1) := by decide +kernel
theorem dX9_here_20 : decode cX9_here 20 = .ok (.goto 7, 3) := by decide +kernel
theorem dX9_here_23 : decode cX9_here 23 = .ok (.aload_n 0, 1) := by decide +kernel
theorem dX9_here_24 : decode cX9_here 24 = .ok (.getfield 37, 3) := by decide +kernel
theorem dX9_here_27 : decode cX9_here 27 = .ok (.ireturn, 1) := by decide +kernel
theorem dX9_refuse_0 : decode cX9_refuse 0 = .ok (.aload_n 0, 1) := by decide +kernel
theorem dX9_refuse_1 : decode cX9_refuse 1 = .ok (.iload_n 1, 1) := by decide +kernel
theorem dX9_refuse_2 : decode cX9_refuse 2 = .ok (.putfield 40, 3) := by decide +kernel
theorem dX9_refuse_5 : decode cX9_refuse 5 = .ok (.aload_n 0, 1) := by decide +kernel
theorem dX9_refuse_6 : decode cX9_refuse 6 = .ok (.iload_n 2, 1) := by decide +kernel
theorem dX9_refuse_7 : decode cX9_refuse 7 = .ok (.putfield 9, 3) := by decide +kernel
theorem dX9_refuse_10 : decode cX9_refuse 10 = .ok (.iconst 0, 1) := by decide +kernel
theorem dX9_refuse_11 : decode cX9_refuse 11 = .ok (.ireturn, 1) := by decide +kernel
theorem dX9_pass_0 : decode cX9_pass 0 = .ok (.aload_n 0, 1) := by decide +kernel
theorem dX9_pass_1 : decode cX9_pass 1 = .ok (.invokevirtual 55, 3) := by decide +kernel
theorem dX9_pass_4 : decode cX9_pass 4 = .ok (.iload_n 1, 1) := by decide +kernel
theorem dX9_pass_5 : decode cX9_pass 5 = .ok (.if_icmp .eq 13, 3) := by decide +kernel
theorem dX9_pass_8 : decode cX9_pass 8 = .ok (.aload_n 0, 1) := by decide +kernel
theorem dX9_pass_9 : decode cX9_pass 9 = .ok (.iconst 1, 1) := by decide +kernel
theorem dX9_pass_10 : decode cX9_pass 10 = .ok (.aload_n 0, 1) := by decide +kernel
theorem dX9_pass_11 : decode cX9_pass 11 = .ok (.invokevirtual 100, 3) := by decide +kernel
theorem dX9_pass_14 : decode cX9_pass 14 = .ok (.invokevirtual 103, 3) := by decide +kernel
theorem dX9_pass_17 : decode cX9_pass 17 = .ok (.ireturn, 1) := by decide +kernel
theorem dX9_pass_18 : decode cX9_pass 18 = .ok (.aload_n 0, 1) := by decide +kernel
theorem dX9_pass_19 : decode cX9_pass 19 = .ok (.dup, 1) := by decide +kernel
theorem dX9_pass_20 : decode cX9_pass 20 = .ok (.getfield 49, 3) := by decide +kernel
theorem dX9_pass_23 : decode cX9_pass 23 = .ok (.iconst 1, 1) := by decide +kernel
theorem dX9_pass_24 : decode cX9_pass 24 = .ok (.iadd, 1) := by decide +kernel
theorem dX9_pass_25 : decode cX9_pass 25 = .ok (.putfield 49, 3) := by decide +kernel
theorem dX9_pass_28 : decode cX9_pass 28 = .ok (.iconst 1, 1) := by decide +kernel
theorem dX9_pass_29 : decode cX9_pass 29 = .ok (.ireturn, 1) := by decide +kernel
theorem dX9_enter_0 : decode cX9_enter 0 = .ok (.aload_n 0, 1) := by decide +kernel
theorem dX9_enter_1 : decode cX9_enter 1 = .ok (.invokevirtual 55, 3) := by decide +kernel
theorem dX9_enter_4 : decode cX9_enter 4 = .ok (.iload_n 1, 1) := by decide +kernel
theorem dX9_enter_5 : decode cX9_enter 5 = .ok (.if_icmp .eq 13, 3) := by decide +kernel
theorem dX9_enter_8 : decode cX9_enter 8 = .ok (.aload_n 0, 1) := by decide +kernel
theorem dX9_enter_9 : decode cX9_enter 9 = .ok (.iconst 1, 1) := by decide +kernel
theorem dX9_enter_10 : decode cX9_enter 10 = .ok (.aload_n 0, 1) := by decide +kernel
theorem dX9_enter_11 : decode cX9_enter 11 = .ok (.invokevirtual 100, 3) := by decide +kernel
theorem dX9_enter_14 : decode cX9_enter 14 = .ok (.invokevirtual 103, 3) := by decide +kernel
theorem dX9_enter_17 : decode cX9_enter 17 = .ok (.ireturn, 1) := by decide +kernel
theorem dX9_enter_18 : decode cX9_enter 18 = .ok (.iload_n 2, 1) := by decide +kernel
theorem dX9_enter_19 : decode cX9_enter 19 = .ok (.bipush 6, 2) := by decide +kernel
theorem dX9_enter_21 : decode cX9_enter 21 = .ok (.if_icmp .lt 13, 3) := by decide +kernel
theorem dX9_enter_24 : decode cX9_enter 24 = .ok (.aload_n 0, 1) := by decide +kernel
theorem dX9_enter_25 : decode cX9_enter 25 = .ok (.iconst 3, 1) := by decide +kernel
theorem dX9_enter_26 : decode cX9_enter 26 = .ok (.aload_n 0, 1) := by decide +kernel
theorem dX9_enter_27 : decode cX9_enter 27 = .ok (.invokevirtual 100, 3) := by decide +kernel
theorem dX9_enter_30 : decode cX9_enter 30 = .ok (.invokevirtual 103, 3) := by decide +kernel
theorem dX9_enter_33 : decode cX9_enter 33 = .ok (.ireturn, 1) := by decide +kernel
theorem dX9_enter_34 : decode cX9_enter 34 = .ok (.aload_n 0, 1) := by decide +kernel
theorem dX9_enter_35 : decode cX9_enter 35 = .ok (.dup, 1) := by decide +kernel
theorem dX9_enter_36 : decode cX9_enter 36 = .ok (.getfield 49, 3) := by decide +kernel
theorem dX9_enter_39 : decode cX9_enter 39 = .ok (.iconst 1, 1) := by decide +kernel
theorem dX9_enter_40 : decode cX9_enter 40 = .ok (.iadd, 1) := by decide +kernel
theorem dX9_enter_41 : decode cX9_enter 41 = .ok (.putfield 49, 3) := by decide +kernel
theorem dX9_enter_44 : decode cX9_enter 44 = .ok (.iconst 1, 1) := by decide +kernel
theorem dX9_enter_45 : decode cX9_enter 45 = .ok (.ireturn, 1) := by decide +kernel
theorem dX9_emit_0 : decode cX9_emit 0 = .ok (.aload_n 0, 1) := by decide +kernel
theorem dX9_emit_1 : decode cX9_emit 1 = .ok (.getfield 46, 3) := by decide +kernel
theorem dX9_emit_4 : decode cX9_emit 4 = .ok (.sipush 600, 3) := by decide +kernel
theorem dX9_emit_7 : decode cX9_emit 7 = .ok (.if_icmp .ge 28, 3) := by decide +kernel
theorem dX9_emit_10 : decode cX9_emit 10 = .ok (.aload_n 0, 1) := by decide +kernel
theorem dX9_emit_11 : decode cX9_emit 11 = .ok (.getfield 15, 3) := by decide +kernel
theorem dX9_emit_14 : decode cX9_emit 14 = .ok (.aload_n 0, 1) := by decide +kernel
theorem dX9_emit_15 : decode cX9_emit 15 = .ok (.getfield 46, 3) := by decide +kernel
theorem dX9_emit_18 : decode cX9_emit 18 = .ok (.iload_n 1, 1) := by decide +kernel
theorem dX9_emit_19 : decode cX9_emit 19 = .ok (.iload_n 2, 1) := by decide +kernel
theorem dX9_emit_20 : decode cX9_emit 20 = .ok (.bipush 7, 2) := by decide +kernel
theorem dX9_emit_22 : decode cX9_emit 22 = .ok (.ishl, 1) := by decide +kernel
theorem dX9_emit_23 : decode cX9_emit 23 = .ok (.iadd, 1) := by decide +kernel
theorem dX9_emit_24 : decode cX9_emit 24 = .ok (.iastore, 1) := by decide +kernel
theorem dX9_emit_25 : decode cX9_emit 25 = .ok (.aload_n 0, 1) := by decide +kernel
theorem dX9_emit_26 : decode cX9_emit 26 = .ok (.dup, 1) := by decide +kernel
theorem dX9_emit_27 : decode cX9_emit 27 = .ok (.getfield 46, 3) := by decide +kernel
theorem dX9_emit_30 : decode cX9_emit 30 = .ok (.iconst 1, 1) := by decide +kernel
theorem dX9_emit_31 : decode cX9_emit 31 = .ok (.iadd, 1) := by decide +kernel
theorem dX9_emit_32 : decode cX9_emit 32 = .ok (.putfield 46, 3) := by decide +kernel
theorem dX9_emit_35 : decode cX9_emit 35 = .ok (.iconst 1, 1) := by decide +kernel
theorem dX9_emit_36 : decode cX9_emit 36 = .ok (.ireturn, 1) := by decide +kernel
theorem dX9_readStatement_0 : decode cX9_readStatement 0 = .ok (.aload_n 0, 1) := by decide +kernel
theorem dX9_readStatement_1 : decode cX9_readStatement 1 = .ok (.getfield 43, 3) := by decide +kernel
theorem dX9_readStatement_4 : decode cX9_readStatement 4 = .ok (.bipush 24, 2) := by decide +kernel
theorem dX9_readStatement_6 : decode cX9_readStatement 6 = .ok (.if_icmp .lt 13, 3) := by decide +kernel
theorem dX9_readStatement_9 : decode cX9_readStatement 9 = .ok (.aload_n 0, 1) := by decide +kernel
theorem dX9_readStatement_10 : decode cX9_readStatement 10 = .ok (.iconst 4, 1) := by decide +kernel
theorem dX9_readStatement_11 : decode cX9_readStatement 11 = .ok (.aload_n 0, 1) := by decide +kernel
theorem dX9_readStatement_12 : decode cX9_readStatement 12 = .ok (.invokevirtual 100, 3) := by decide +kernel
theorem dX9_readStatement_15 : decode cX9_readStatement 15 = .ok (.invokevirtual 103, 3) := by decide +kernel
theorem dX9_readStatement_18 : decode cX9_readStatement 18 = .ok (.ireturn, 1) := by decide +kernel
theorem dX9_readStatement_19 : decode cX9_readStatement 19 = .ok (.aload_n 0, 1) := by decide +kernel
theorem dX9_readStatement_20 : decode cX9_readStatement 20 = .ok (.invokevirtual 55, 3) := by decide +kernel
theorem dX9_readStatement_23 : decode cX9_readStatement 23 = .ok (.istore_n 1, 1) := by decide +kernel
theorem dX9_readStatement_24 : decode cX9_readStatement 24 = .ok (.iload_n 1, 1) := by decide +kernel
theorem dX9_readStatement_25 : decode cX9_readStatement 25 = .ok (.bipush 14, 2) := by decide +kernel
theorem dX9_readStatement_27 : decode cX9_readStatement 27 = .ok (.if_icmp .lt 9, 3) := by decide +kernel
theorem dX9_readStatement_30 : decode cX9_readStatement 30 = .ok (.iload_n 1, 1) := by decide +kernel
theorem dX9_readStatement_31 : decode cX9_readStatement 31 = .ok (.bipush 19, 2) := by decide +kernel
theorem dX9_readStatement_33 : decode cX9_readStatement 33 = .ok (.if_icmp .le 13, 3) := by decide +kernel
theorem dX9_readStatement_36 : decode cX9_readStatement 36 = .ok (.aload_n 0, 1) := by decide +kernel
theorem dX9_readStatement_37 : decode cX9_readStatement 37 = .ok (.iconst 1, 1) := by decide +kernel
theorem dX9_readStatement_38 : decode cX9_readStatement 38 = .ok (.aload_n 0, 1) := by decide +kernel
theorem dX9_readStatement_39 : decode cX9_readStatement 39 = .ok (.invokevirtual 100, 3) := by decide +kernel
theorem dX9_readStatement_42 : decode cX9_readStatement 42 = .ok (.invokevirtual 103, 3) := by decide +kernel
theorem dX9_readStatement_45 : decode cX9_readStatement 45 = .ok (.ireturn, 1) := by decide +kernel
theorem dX9_readStatement_46 : decode cX9_readStatement 46 = .ok (.aload_n 0, 1) := by decide +kernel
theorem dX9_readStatement_47 : decode cX9_readStatement 47 = .ok (.dup, 1) := by decide +kernel
theorem dX9_readStatement_48 : decode cX9_readStatement 48 = .ok (.getfield 49, 3) := by decide +kernel
theorem dX9_readStatement_51 : decode cX9_readStatement 51 = .ok (.iconst 1, 1) := by decide +kernel
theorem dX9_readStatement_52 : decode cX9_readStatement 52 = .ok (.iadd, 1) := by decide +kernel
theorem dX9_readStatement_53 : decode cX9_readStatement 53 = .ok (.putfield 49, 3) := by decide +kernel
theorem dX9_readStatement_56 : decode cX9_readStatement 56 = .ok (.aload_n 0, 1) := by decide +kernel
theorem dX9_readStatement_57 : decode cX9_readStatement 57 = .ok (.getfield 22, 3) := by decide +kernel
theorem dX9_readStatement_60 : decode cX9_readStatement 60 = .ok (.aload_n 0, 1) := by decide +kernel
theorem dX9_readStatement_61 : decode cX9_readStatement 61 = .ok (.getfield 43, 3) := by decide +kernel
theorem dX9_readStatement_64 : decode cX9_readStatement 64 = .ok (.aload_n 0, 1) := by decide +kernel
theorem dX9_readStatement_65 : decode cX9_readStatement 65 = .ok (.getfield 46, 3) := by decide +kernel
theorem dX9_readStatement_68 : decode cX9_readStatement 68 = .ok (.iastore, 1) := by decide +kernel
theorem dX9_readStatement_69 : decode cX9_readStatement 69 = .ok (.aload_n 0, 1) := by decide +kernel
theorem dX9_readStatement_70 : decode cX9_readStatement 70 = .ok (.getfield 19, 3) := by decide +kernel
theorem dX9_readStatement_73 : decode cX9_readStatement 73 = .ok (.aload_n 0, 1) := by decide +kernel
theorem dX9_readStatement_74 : decode cX9_readStatement 74 = .ok (.getfield 43, 3) := by decide +kernel
theorem dX9_readStatement_77 : decode cX9_readStatement 77 = .ok (.iload_n 1, 1) := by decide +kernel
theorem dX9_readStatement_78 : decode cX9_readStatement 78 = .ok (.bipush 19, 2) := by decide +kernel
theorem dX9_readStatement_80 : decode cX9_readStatement 80 = .ok (.if_icmp .ne 10, 3) := by decide +kernel
theorem dX9_readStatement_83 : decode cX9_readStatement 83 = .ok (.aload_n 0, 1) := by decide +kernel
theorem dX9_readStatement_84 : decode cX9_readStatement 84 = .ok (.invokevirtual 55, 3) := by decide +kernel
theorem dX9_readStatement_87 : decode cX9_readStatement 87 = .ok (.goto 4, 3) := by decide +kernel
theorem dX9_readStatement_90 : decode cX9_readStatement 90 = .ok (.iload_n 1, 1) := by decide +kernel
theorem dX9_readStatement_91 : decode cX9_readStatement 91 = .ok (.iastore, 1) := by decide +kernel
theorem dX9_readStatement_92 : decode cX9_readStatement 92 = .ok (.aload_n 0, 1) := by decide +kernel
theorem dX9_readStatement_93 : decode cX9_readStatement 93 = .ok (.dup, 1) := by decide +kernel
theorem dX9_readStatement_94 : decode cX9_readStatement 94 = .ok (.getfield 43, 3) := by decide +kernel
theorem dX9_readStatement_97 : decode cX9_readStatement 97 = .ok (.iconst 1, 1) := by decide +kernel
theorem dX9_readStatement_98 : decode cX9_readStatement 98 = .ok (.iadd, 1) := by decide +kernel
theorem dX9_readStatement_99 : decode cX9_readStatement 99 = .ok (.putfield 43, 3) := by decide +kernel
theorem dX9_readStatement_102 : decode cX9_readStatement 102 = .ok (.iload_n 1, 1) := by decide +kernel
theorem dX9_readStatement_103 : decode cX9_readStatement 103 = .ok (.bipush 19, 2) := by decide +kernel
theorem dX9_readStatement_105 : decode cX9_readStatement 105 = .ok (.if_icmp .eq 43, 3) := by decide +kernel
theorem dX9_readStatement_108 : decode cX9_readStatement 108 = .ok (.aload_n 0, 1) := by decide +kernel
theorem dX9_readStatement_109 : decode cX9_readStatement 109 = .ok (.iload_n 1, 1) := by decide +kernel
theorem dX9_readStatement_110 : decode cX9_readStatement 110 = .ok (.bipush 17, 2) := by decide +kernel
theorem dX9_readStatement_112 : decode cX9_readStatement 112 = .ok (.if_icmp .eq 9, 3) := by decide +kernel
theorem dX9_readStatement_115 : decode cX9_readStatement 115 = .ok (.iload_n 1, 1) := by decide +kernel
theorem dX9_readStatement_116 : decode cX9_readStatement 116 = .ok (.bipush 18, 2) := by decide +kernel
theorem dX9_readStatement_118 : decode cX9_readStatement 118 = .ok (.if_icmp .ne 7, 3) := by decide +kernel
theorem dX9_readStatement_121 : decode cX9_readStatement 121 = .ok (.iconst 2, 1) := by decide +kernel
theorem dX9_readStatement_122 : decode cX9_readStatement 122 = .ok (.goto 4, 3) := by decide +kernel
theorem dX9_readStatement_125 : decode cX9_readStatement 125 = .ok (.iconst 0, 1) := by decide +kernel
theorem dX9_readStatement_126 : decode cX9_readStatement 126 = .ok (.iconst 0, 1) := by decide +kernel
theorem dX9_readStatement_127 : decode cX9_readStatement 127 = .ok (.invokevirtual 107, 3) := by decide +kernel
theorem dX9_readStatement_130 : decode cX9_readStatement 130 = .ok (.ifCond .eq 16, 3) := by decide +kernel
theorem dX9_readStatement_133 : decode cX9_readStatement 133 = .ok (.aload_n 0, 1) := by decide +kernel
theorem dX9_readStatement_134 : decode cX9_readStatement 134 = .ok (.bipush 59, 2) := by decide +kernel
theorem dX9_readStatement_136 : decode cX9_readStatement 136 = .ok (.invokevirtual 110, 3) := by decide +kernel
theorem dX9_readStatement_139 : decode cX9_readStatement 139 = .ok (.ifCond .eq 7, 3) := by decide +kernel
theorem dX9_readStatement_142 : decode cX9_readStatement 142 = .ok (.iconst 1, 1) := by decide +kernel
theorem dX9_readStatement_143 : decode cX9_readStatement 143 = .ok (.goto 4, 3) := by decide +kernel
theorem dX9_readStatement_146 : decode cX9_readStatement 146 = .ok (.iconst 0, 1) := by decide +kernel
theorem dX9_readStatement_147 : decode cX9_readStatement 147 = .ok (.ireturn, 1) := by decide +kernel
theorem dX9_readStatement_148 : decode cX9_readStatement 148 = .ok (.aload_n 0, 1) := by decide +kernel
theorem dX9_readStatement_149 : decode cX9_readStatement 149 = .ok (.invokevirtual 55, 3) := by decide +kernel
theorem dX9_readStatement_152 : decode cX9_readStatement 152 = .ok (.bipush 20, 2) := by decide +kernel
theorem dX9_readStatement_154 : decode cX9_readStatement 154 = .ok (.if_icmp .lt 12, 3) := by decide +kernel
theorem dX9_readStatement_157 : decode cX9_readStatement 157 = .ok (.aload_n 0, 1) := by decide +kernel
theorem dX9_readStatement_158 : decode cX9_readStatement 158 = .ok (.invokevirtual 55, 3) := by decide +kernel
theorem dX9_readStatement_161 : decode cX9_readStatement 161 = .ok (.bipush 22, 2) := by decide +kernel
theorem dX9_readStatement_163 : decode cX9_readStatement 163 = .ok (.if_icmp .le 13, 3) := by decide +kernel
theorem dX9_readStatement_166 : decode cX9_readStatement 166 = .ok (.aload_n 0, 1) := by decide +kernel
theorem dX9_readStatement_167 : decode cX9_readStatement 167 = .ok (.iconst 1, 1) := by decide +kernel
theorem dX9_readStatement_168 : decode cX9_readStatement 168 = .ok (.aload_n 0, 1) := by decide +kernel
theorem dX9_readStatement_169 : decode cX9_readStatement 169 = .ok (.invokevirtual 100, 3) := by decide +kernel
theorem dX9_readStatement_172 : decode cX9_readStatement 172 = .ok (.invokevirtual 103, 3) := by decide +kernel
theorem dX9_readStatement_175 : decode cX9_readStatement 175 = .ok (.ireturn, 1) := by decide +kernel
theorem dX9_readStatement_176 : decode cX9_readStatement 176 = .ok (.aload_n 0, 1) := by decide +kernel
theorem dX9_readStatement_177 : decode cX9_readStatement 177 = .ok (.dup, 1) := by decide +kernel
theorem dX9_readStatement_178 : decode cX9_readStatement 178 = .ok (.getfield 49, 3) := by decide +kernel
theorem dX9_readStatement_181 : decode cX9_readStatement 181 = .ok (.iconst 1, 1) := by decide +kernel
theorem dX9_readStatement_182 : decode cX9_readStatement 182 = .ok (.iadd, 1) := by decide +kernel
theorem dX9_readStatement_183 : decode cX9_readStatement 183 = .ok (.putfield 49, 3) := by decide +kernel
theorem dX9_readStatement_186 : decode cX9_readStatement 186 = .ok (.aload_n 0, 1) := by decide +kernel
theorem dX9_readStatement_187 : decode cX9_readStatement 187 = .ok (.bipush 59, 2) := by decide +kernel
theorem dX9_readStatement_189 : decode cX9_readStatement 189 = .ok (.invokevirtual 110, 3) := by decide +kernel
theorem dX9_readStatement_192 : decode cX9_readStatement 192 = .ok (.ireturn, 1) := by decide +kernel
theorem dX9_readRow_0 : decode cX9_readRow 0 = .ok (.aload_n 0, 1) := by decide +kernel
theorem dX9_readRow_1 : decode cX9_readRow 1 = .ok (.iload_n 1, 1) := by decide +kernel
theorem dX9_readRow_2 : decode cX9_readRow 2 = .ok (.iload_n 2, 1) := by decide +kernel
theorem dX9_readRow_3 : decode cX9_readRow 3 = .ok (.invokevirtual 114, 3) := by decide +kernel
theorem dX9_readRow_6 : decode cX9_readRow 6 = .ok (.ifCond .ne 5, 3) := by decide +kernel
theorem dX9_readRow_9 : decode cX9_readRow 9 = .ok (.iconst 0, 1) := by decide +kernel
theorem dX9_readRow_10 : decode cX9_readRow 10 = .ok (.ireturn, 1) := by decide +kernel
theorem dX9_readRow_11 : decode cX9_readRow 11 = .ok (.iconst 0, 1) := by decide +kernel
theorem dX9_readRow_12 : decode cX9_readRow 12 = .ok (.istore_n 3, 1) := by decide +kernel
theorem dX9_readRow_13 : decode cX9_readRow 13 = .ok (.iload_n 3, 1) := by decide +kernel
theorem dX9_readRow_14 : decode cX9_readRow 14 = .ok (.sipush 600, 3) := by decide +kernel
theorem dX9_readRow_17 : decode cX9_readRow 17 = .ok (.if_icmp .ge 55, 3) := by decide +kernel
theorem dX9_readRow_20 : decode cX9_readRow 20 = .ok (.iload_n 1, 1) := by decide +kernel
theorem dX9_readRow_21 : decode cX9_readRow 21 = .ok (.aload_n 0, 1) := by decide +kernel
theorem dX9_readRow_22 : decode cX9_readRow 22 = .ok (.invokevirtual 55, 3) := by decide +kernel
theorem dX9_readRow_25 : decode cX9_readRow 25 = .ok (.invokestatic 117, 3) := by decide +kernel
theorem dX9_readRow_28 : decode cX9_readRow 28 = .ok (.ifCond .eq 44, 3) := by decide +kernel
theorem dX9_readRow_31 : decode cX9_readRow 31 = .ok (.aload_n 0, 1) := by decide +kernel
theorem dX9_readRow_32 : decode cX9_readRow 32 = .ok (.invokevirtual 55, 3) := by decide +kernel
theorem dX9_readRow_35 : decode cX9_readRow 35 = .ok (.istore 4, 2) := by decide +kernel
theorem dX9_readRow_37 : decode cX9_readRow 37 = .ok (.aload_n 0, 1) := by decide +kernel
theorem dX9_readRow_38 : decode cX9_readRow 38 = .ok (.dup, 1) := by decide +kernel
theorem dX9_readRow_39 : decode cX9_readRow 39 = .ok (.getfield 49, 3) := by decide +kernel
theorem dX9_readRow_42 : decode cX9_readRow 42 = .ok (.iconst 1, 1) := by decide +kernel
theorem dX9_readRow_43 : decode cX9_readRow 43 = .ok (.iadd, 1) := by decide +kernel
theorem dX9_readRow_44 : decode cX9_readRow 44 = .ok (.putfield 49, 3) := by decide +kernel
theorem dX9_readRow_47 : decode cX9_readRow 47 = .ok (.aload_n 0, 1) := by decide +kernel
theorem dX9_readRow_48 : decode cX9_readRow 48 = .ok (.iload_n 1, 1) := by decide +kernel
theorem dX9_readRow_49 : decode cX9_readRow 49 = .ok (.iload_n 2, 1) := by decide +kernel
theorem dX9_readRow_50 : decode cX9_readRow 50 = .ok (.invokevirtual 114, 3) := by decide +kernel
theorem dX9_readRow_53 : decode cX9_readRow 53 = .ok (.ifCond .ne 5, 3) := by decide +kernel
theorem dX9_readRow_56 : decode cX9_readRow 56 = .ok (.iconst 0, 1) := by decide +kernel
theorem dX9_readRow_57 : decode cX9_readRow 57 = .ok (.ireturn, 1) := by decide +kernel
theorem dX9_readRow_58 : decode cX9_readRow 58 = .ok (.aload_n 0, 1) := by decide +kernel
theorem dX9_readRow_59 : decode cX9_readRow 59 = .ok (.iload 4, 2) := by decide +kernel
theorem dX9_readRow_61 : decode cX9_readRow 61 = .ok (.iconst 0, 1) := by decide +kernel
theorem dX9_readRow_62 : decode cX9_readRow 62 = .ok (.invokevirtual 120, 3) := by decide +kernel
theorem dX9_readRow_65 : decode cX9_readRow 65 = .ok (.pop, 1) := by decide +kernel
theorem dX9_readRow_66 : decode cX9_readRow 66 = .ok (.iinc 3 1, 3) := by decide +kernel
theorem dX9_readRow_69 : decode cX9_readRow 69 = .ok (.goto (-56), 3) := by decide +kernel
theorem dX9_readRow_72 : decode cX9_readRow 72 = .ok (.iconst 1, 1) := by decide +kernel
theorem dX9_readRow_73 : decode cX9_readRow 73 = .ok (.ireturn, 1) := by decide +kernel
theorem dX9_joins_0 : decode cX9_joins 0 = .ok (.iload_n 0, 1) := by decide +kernel
theorem dX9_joins_1 : decode cX9_joins 1 = .ok (.tableswitch 69 0 2 #[27, 39, 51], 27) := by decide +kernel
theorem dX9_joins_28 : decode cX9_joins 28 = .ok (.iload_n 1, 1) := by decide +kernel
theorem dX9_joins_29 : decode cX9_joins 29 = .ok (.bipush 13, 2) := by decide +kernel
theorem dX9_joins_31 : decode cX9_joins 31 = .ok (.if_icmp .ne 7, 3) := by decide +kernel
theorem dX9_joins_34 : decode cX9_joins 34 = .ok (.iconst 1, 1) := by decide +kernel
theorem dX9_joins_35 : decode cX9_joins 35 = .ok (.goto 4, 3) := by decide +kernel
theorem dX9_joins_38 : decode cX9_joins 38 = .ok (.iconst 0, 1) := by decide +kernel
theorem dX9_joins_39 : decode cX9_joins 39 = .ok (.ireturn, 1) := by decide +kernel
theorem dX9_joins_40 : decode cX9_joins 40 = .ok (.iload_n 1, 1) := by decide +kernel
theorem dX9_joins_41 : decode cX9_joins 41 = .ok (.bipush 12, 2) := by decide +kernel
theorem dX9_joins_43 : decode cX9_joins 43 = .ok (.if_icmp .ne 7, 3) := by decide +kernel
theorem dX9_joins_46 : decode cX9_joins 46 = .ok (.iconst 1, 1) := by decide +kernel
theorem dX9_joins_47 : decode cX9_joins 47 = .ok (.goto 4, 3) := by decide +kernel
theorem dX9_joins_50 : decode cX9_joins 50 = .ok (.iconst 0, 1) := by decide +kernel
theorem dX9_joins_51 : decode cX9_joins 51 = .ok (.ireturn, 1) := by decide +kernel
theorem dX9_joins_52 : decode cX9_joins 52 = .ok (.iload_n 1, 1) := by decide +kernel
theorem dX9_joins_53 : decode cX9_joins 53 = .ok (.bipush 43, 2) := by decide +kernel
theorem dX9_joins_55 : decode cX9_joins 55 = .ok (.if_icmp .eq 9, 3) := by decide +kernel
theorem dX9_joins_58 : decode cX9_joins 58 = .ok (.iload_n 1, 1) := by decide +kernel
theorem dX9_joins_59 : decode cX9_joins 59 = .ok (.bipush 45, 2) := by decide +kernel
theorem dX9_joins_61 : decode cX9_joins 61 = .ok (.if_icmp .ne 7, 3) := by decide +kernel
theorem dX9_joins_64 : decode cX9_joins 64 = .ok (.iconst 1, 1) := by decide +kernel
theorem dX9_joins_65 : decode cX9_joins 65 = .ok (.goto 4, 3) := by decide +kernel
theorem dX9_joins_68 : decode cX9_joins 68 = .ok (.iconst 0, 1) := by decide +kernel
theorem dX9_joins_69 : decode cX9_joins 69 = .ok (.ireturn, 1) := by decide +kernel
theorem dX9_joins_70 : decode cX9_joins 70 = .ok (.iload_n 1, 1) := by decide +kernel
theorem dX9_joins_71 : decode cX9_joins 71 = .ok (.bipush 42, 2) := by decide +kernel
theorem dX9_joins_73 : decode cX9_joins 73 = .ok (.if_icmp .eq 9, 3) := by decide +kernel
theorem dX9_joins_76 : decode cX9_joins 76 = .ok (.iload_n 1, 1) := by decide +kernel
theorem dX9_joins_77 : decode cX9_joins 77 = .ok (.bipush 47, 2) := by decide +kernel
theorem dX9_joins_79 : decode cX9_joins 79 = .ok (.if_icmp .ne 7, 3) := by decide +kernel
theorem dX9_joins_82 : decode cX9_joins 82 = .ok (.iconst 1, 1) := by decide +kernel
theorem dX9_joins_83 : decode cX9_joins 83 = .ok (.goto 4, 3) := by decide +kernel
theorem dX9_joins_86 : decode cX9_joins 86 = .ok (.iconst 0, 1) := by decide +kernel
theorem dX9_joins_87 : decode cX9_joins 87 = .ok (.ireturn, 1) := by decide +kernel
theorem dX9_readItem_0 : decode cX9_readItem 0 = .ok (.iload_n 1, 1) := by decide +kernel
theorem dX9_readItem_1 : decode cX9_readItem 1 = .ok (.tableswitch 47 0 2 #[27, 34, 40], 27) := by decide +kernel
theorem dX9_readItem_28 : decode cX9_readItem 28 = .ok (.aload_n 0, 1) := by decide +kernel
theorem dX9_readItem_29 : decode cX9_readItem 29 = .ok (.iconst 1, 1) := by decide +kernel
theorem dX9_readItem_30 : decode cX9_readItem 30 = .ok (.iload_n 2, 1) := by decide +kernel
theorem dX9_readItem_31 : decode cX9_readItem 31 = .ok (.invokevirtual 107, 3) := by decide +kernel
theorem dX9_readItem_34 : decode cX9_readItem 34 = .ok (.ireturn, 1) := by decide +kernel
theorem dX9_readItem_35 : decode cX9_readItem 35 = .ok (.aload_n 0, 1) := by decide +kernel
theorem dX9_readItem_36 : decode cX9_readItem 36 = .ok (.iload_n 2, 1) := by decide +kernel
theorem dX9_readItem_37 : decode cX9_readItem 37 = .ok (.invokevirtual 123, 3) := by decide +kernel
theorem dX9_readItem_40 : decode cX9_readItem 40 = .ok (.ireturn, 1) := by decide +kernel
theorem dX9_readItem_41 : decode cX9_readItem 41 = .ok (.aload_n 0, 1) := by decide +kernel
theorem dX9_readItem_42 : decode cX9_readItem 42 = .ok (.iconst 3, 1) := by decide +kernel
theorem dX9_readItem_43 : decode cX9_readItem 43 = .ok (.iload_n 2, 1) := by decide +kernel
theorem dX9_readItem_44 : decode cX9_readItem 44 = .ok (.invokevirtual 107, 3) := by decide +kernel
theorem dX9_readItem_47 : decode cX9_readItem 47 = .ok (.ireturn, 1) := by decide +kernel
theorem dX9_readItem_48 : decode cX9_readItem 48 = .ok (.aload_n 0, 1) := by decide +kernel
theorem dX9_readItem_49 : decode cX9_readItem 49 = .ok (.iload_n 2, 1) := by decide +kernel
theorem dX9_readItem_50 : decode cX9_readItem 50 = .ok (.invokevirtual 126, 3) := by decide +kernel
theorem dX9_readItem_53 : decode cX9_readItem 53 = .ok (.ireturn, 1) := by decide +kernel
theorem dX9_readFact_0 : decode cX9_readFact 0 = .ok (.aload_n 0, 1) := by decide +kernel
theorem dX9_readFact_1 : decode cX9_readFact 1 = .ok (.invokevirtual 55, 3) := by decide +kernel
theorem dX9_readFact_4 : decode cX9_readFact 4 = .ok (.lookupswitch 167 #[(9, 116), (10, 141), (11, 44), (91, 80)], 44) := by decide +kernel
theorem dX9_readFact_48 : decode cX9_readFact 48 = .ok (.aload_n 0, 1) := by decide +kernel
theorem dX9_readFact_49 : decode cX9_readFact 49 = .ok (.bipush 11, 2) := by decide +kernel
theorem dX9_readFact_51 : decode cX9_readFact 51 = .ok (.iload_n 1, 1) := by decide +kernel
theorem dX9_readFact_52 : decode cX9_readFact 52 = .ok (.invokevirtual 129, 3) := by decide +kernel
theorem dX9_readFact_55 : decode cX9_readFact 55 = .ok (.ifCond .eq 27, 3) := by decide +kernel
theorem dX9_readFact_58 : decode cX9_readFact 58 = .ok (.aload_n 0, 1) := by decide +kernel
theorem dX9_readFact_59 : decode cX9_readFact 59 = .ok (.iload_n 1, 1) := by decide +kernel
theorem dX9_readFact_60 : decode cX9_readFact 60 = .ok (.iconst 1, 1) := by decide +kernel
theorem dX9_readFact_61 : decode cX9_readFact 61 = .ok (.iadd, 1) := by decide +kernel
theorem dX9_readFact_62 : decode cX9_readFact 62 = .ok (.invokevirtual 123, 3) := by decide +kernel
theorem dX9_readFact_65 : decode cX9_readFact 65 = .ok (.ifCond .eq 17, 3) := by decide +kernel
theorem dX9_readFact_68 : decode cX9_readFact 68 = .ok (.aload_n 0, 1) := by decide +kernel
theorem dX9_readFact_69 : decode cX9_readFact 69 = .ok (.bipush 11, 2) := by decide +kernel
theorem dX9_readFact_71 : decode cX9_readFact 71 = .ok (.iconst 0, 1) := by decide +kernel
theorem dX9_readFact_72 : decode cX9_readFact 72 = .ok (.invokevirtual 120, 3) := by decide +kernel
theorem dX9_readFact_75 : decode cX9_readFact 75 = .ok (.ifCond .eq 7, 3) := by decide +kernel
theorem dX9_readFact_78 : decode cX9_readFact 78 = .ok (.iconst 1, 1) := by decide +kernel
theorem dX9_readFact_79 : decode cX9_readFact 79 = .ok (.goto 4, 3) := by decide +kernel
theorem dX9_readFact_82 : decode cX9_readFact 82 = .ok (.iconst 0, 1) := by decide +kernel
theorem dX9_readFact_83 : decode cX9_readFact 83 = .ok (.ireturn, 1) := by decide +kernel
theorem dX9_readFact_84 : decode cX9_readFact 84 = .ok (.aload_n 0, 1) := by decide +kernel
theorem dX9_readFact_85 : decode cX9_readFact 85 = .ok (.bipush 91, 2) := by decide +kernel
theorem dX9_readFact_87 : decode cX9_readFact 87 = .ok (.iload_n 1, 1) := by decide +kernel
theorem dX9_readFact_88 : decode cX9_readFact 88 = .ok (.invokevirtual 129, 3) := by decide +kernel
theorem dX9_readFact_91 : decode cX9_readFact 91 = .ok (.ifCond .eq 27, 3) := by decide +kernel
theorem dX9_readFact_94 : decode cX9_readFact 94 = .ok (.aload_n 0, 1) := by decide +kernel
theorem dX9_readFact_95 : decode cX9_readFact 95 = .ok (.iconst 0, 1) := by decide +kernel
theorem dX9_readFact_96 : decode cX9_readFact 96 = .ok (.iload_n 1, 1) := by decide +kernel
theorem dX9_readFact_97 : decode cX9_readFact 97 = .ok (.iconst 1, 1) := by decide +kernel
theorem dX9_readFact_98 : decode cX9_readFact 98 = .ok (.iadd, 1) := by decide +kernel
theorem dX9_readFact_99 : decode cX9_readFact 99 = .ok (.invokevirtual 107, 3) := by decide +kernel
theorem dX9_readFact_102 : decode cX9_readFact 102 = .ok (.ifCond .eq 16, 3) := by decide +kernel
theorem dX9_readFact_105 : decode cX9_readFact 105 = .ok (.aload_n 0, 1) := by decide +kernel
theorem dX9_readFact_106 : decode cX9_readFact 106 = .ok (.bipush 93, 2) := by decide +kernel
theorem dX9_readFact_108 : decode cX9_readFact 108 = .ok (.invokevirtual 110, 3) := by decide +kernel
theorem dX9_readFact_111 : decode cX9_readFact 111 = .ok (.ifCond .eq 7, 3) := by decide +kernel
theorem dX9_readFact_114 : decode cX9_readFact 114 = .ok (.iconst 1, 1) := by decide +kernel
theorem dX9_readFact_115 : decode cX9_readFact 115 = .ok (.goto 4, 3) := by decide +kernel
theorem dX9_readFact_118 : decode cX9_readFact 118 = .ok (.iconst 0, 1) := by decide +kernel
theorem dX9_readFact_119 : decode cX9_readFact 119 = .ok (.ireturn, 1) := by decide +kernel
theorem dX9_readFact_120 : decode cX9_readFact 120 = .ok (.aload_n 0, 1) := by decide +kernel
theorem dX9_readFact_121 : decode cX9_readFact 121 = .ok (.bipush 9, 2) := by decide +kernel
theorem dX9_readFact_123 : decode cX9_readFact 123 = .ok (.invokevirtual 110, 3) := by decide +kernel
theorem dX9_readFact_126 : decode cX9_readFact 126 = .ok (.ifCond .eq 17, 3) := by decide +kernel
theorem dX9_readFact_129 : decode cX9_readFact 129 = .ok (.aload_n 0, 1) := by decide +kernel
theorem dX9_readFact_130 : decode cX9_readFact 130 = .ok (.bipush 9, 2) := by decide +kernel
theorem dX9_readFact_132 : decode cX9_readFact 132 = .ok (.iconst 0, 1) := by decide +kernel
theorem dX9_readFact_133 : decode cX9_readFact 133 = .ok (.invokevirtual 120, 3) := by decide +kernel
theorem dX9_readFact_136 : decode cX9_readFact 136 = .ok (.ifCond .eq 7, 3) := by decide +kernel
theorem dX9_readFact_139 : decode cX9_readFact 139 = .ok (.iconst 1, 1) := by decide +kernel
theorem dX9_readFact_140 : decode cX9_readFact 140 = .ok (.goto 4, 3) := by decide +kernel
theorem dX9_readFact_143 : decode cX9_readFact 143 = .ok (.iconst 0, 1) := by decide +kernel
theorem dX9_readFact_144 : decode cX9_readFact 144 = .ok (.ireturn, 1) := by decide +kernel
theorem dX9_readFact_145 : decode cX9_readFact 145 = .ok (.aload_n 0, 1) := by decide +kernel
theorem dX9_readFact_146 : decode cX9_readFact 146 = .ok (.bipush 10, 2) := by decide +kernel
theorem dX9_readFact_148 : decode cX9_readFact 148 = .ok (.invokevirtual 110, 3) := by decide +kernel
theorem dX9_readFact_151 : decode cX9_readFact 151 = .ok (.ifCond .eq 18, 3) := by decide +kernel
theorem dX9_readFact_154 : decode cX9_readFact 154 = .ok (.aload_n 0, 1) := by decide +kernel
theorem dX9_readFact_155 : decode cX9_readFact 155 = .ok (.bipush 10, 2) := by decide +kernel
theorem dX9_readFact_157 : decode cX9_readFact 157 = .ok (.bipush 8, 2) := by decide +kernel
theorem dX9_readFact_159 : decode cX9_readFact 159 = .ok (.invokevirtual 132, 3) := by decide +kernel
theorem dX9_readFact_162 : decode cX9_readFact 162 = .ok (.ifCond .eq 7, 3) := by decide +kernel
theorem dX9_readFact_165 : decode cX9_readFact 165 = .ok (.iconst 1, 1) := by decide +kernel
theorem dX9_readFact_166 : decode cX9_readFact 166 = .ok (.goto 4, 3) := by decide +kernel
theorem dX9_readFact_169 : decode cX9_readFact 169 = .ok (.iconst 0, 1) := by decide +kernel
theorem dX9_readFact_170 : decode cX9_readFact 170 = .ok (.ireturn, 1) := by decide +kernel
theorem dX9_readFact_171 : decode cX9_readFact 171 = .ok (.aload_n 0, 1) := by decide +kernel
theorem dX9_readFact_172 : decode cX9_readFact 172 = .ok (.iload_n 1, 1) := by decide +kernel
theorem dX9_readFact_173 : decode cX9_readFact 173 = .ok (.invokevirtual 135, 3) := by decide +kernel
theorem dX9_readFact_176 : decode cX9_readFact 176 = .ok (.ireturn, 1) := by decide +kernel
theorem dX9_readComparison_0 : decode cX9_readComparison 0 = .ok (.aload_n 0, 1) := by decide +kernel
theorem dX9_readComparison_1 : decode cX9_readComparison 1 = .ok (.iconst 2, 1) := by decide +kernel
theorem dX9_readComparison_2 : decode cX9_readComparison 2 = .ok (.iload_n 1, 1) := by decide +kernel
theorem dX9_readComparison_3 : decode cX9_readComparison 3 = .ok (.invokevirtual 107, 3) := by decide +kernel
theorem dX9_readComparison_6 : decode cX9_readComparison 6 = .ok (.ifCond .ne 5, 3) := by decide +kernel
theorem dX9_readComparison_9 : decode cX9_readComparison 9 = .ok (.iconst 0, 1) := by decide +kernel
theorem dX9_readComparison_10 : decode cX9_readComparison 10 = .ok (.ireturn, 1) := by decide +kernel
theorem dX9_readComparison_11 : decode cX9_readComparison 11 = .ok (.aload_n 0, 1) := by decide +kernel
theorem dX9_readComparison_12 : decode cX9_readComparison 12 = .ok (.invokevirtual 55, 3) := by decide +kernel
theorem dX9_readComparison_15 : decode cX9_readComparison 15 = .ok (.istore_n 2, 1) := by decide +kernel
theorem dX9_readComparison_16 : decode cX9_readComparison 16 = .ok (.iload_n 2, 1) := by decide +kernel
theorem dX9_readComparison_17 : decode cX9_readComparison 17 = .ok (.bipush 60, 2) := by decide +kernel
theorem dX9_readComparison_19 : decode cX9_readComparison 19 = .ok (.if_icmp .eq 25, 3) := by decide +kernel
theorem dX9_readComparison_22 : decode cX9_readComparison 22 = .ok (.iload_n 2, 1) := by decide +kernel
theorem dX9_readComparison_23 : decode cX9_readComparison 23 = .ok (.bipush 62, 2) := by decide +kernel
theorem dX9_readComparison_25 : decode cX9_readComparison 25 = .ok (.if_icmp .eq 19, 3) := by decide +kernel
theorem dX9_readComparison_28 : decode cX9_readComparison 28 = .ok (.iload_n 2, 1) := by decide +kernel
theorem dX9_readComparison_29 : decode cX9_readComparison 29 = .ok (.bipush 61, 2) := by decide +kernel
theorem dX9_readComparison_31 : decode cX9_readComparison 31 = .ok (.if_icmp .eq 13, 3) := by decide +kernel
theorem dX9_readComparison_34 : decode cX9_readComparison 34 = .ok (.aload_n 0, 1) := by decide +kernel
theorem dX9_readComparison_35 : decode cX9_readComparison 35 = .ok (.iconst 1, 1) := by decide +kernel
theorem dX9_readComparison_36 : decode cX9_readComparison 36 = .ok (.aload_n 0, 1) := by decide +kernel
theorem dX9_readComparison_37 : decode cX9_readComparison 37 = .ok (.invokevirtual 100, 3) := by decide +kernel
theorem dX9_readComparison_40 : decode cX9_readComparison 40 = .ok (.invokevirtual 103, 3) := by decide +kernel
theorem dX9_readComparison_43 : decode cX9_readComparison 43 = .ok (.ireturn, 1) := by decide +kernel
theorem dX9_readComparison_44 : decode cX9_readComparison 44 = .ok (.aload_n 0, 1) := by decide +kernel
theorem dX9_readComparison_45 : decode cX9_readComparison 45 = .ok (.iload_n 2, 1) := by decide +kernel
theorem dX9_readComparison_46 : decode cX9_readComparison 46 = .ok (.invokevirtual 110, 3) := by decide +kernel
theorem dX9_readComparison_49 : decode cX9_readComparison 49 = .ok (.ifCond .eq 25, 3) := by decide +kernel
theorem dX9_readComparison_52 : decode cX9_readComparison 52 = .ok (.aload_n 0, 1) := by decide +kernel
theorem dX9_readComparison_53 : decode cX9_readComparison 53 = .ok (.iconst 2, 1) := by decide +kernel
theorem dX9_readComparison_54 : decode cX9_readComparison 54 = .ok (.iload_n 1, 1) := by decide +kernel
theorem dX9_readComparison_55 : decode cX9_readComparison 55 = .ok (.invokevirtual 107, 3) := by decide +kernel
theorem dX9_readComparison_58 : decode cX9_readComparison 58 = .ok (.ifCond .eq 16, 3) := by decide +kernel
theorem dX9_readComparison_61 : decode cX9_readComparison 61 = .ok (.aload_n 0, 1) := by decide +kernel
theorem dX9_readComparison_62 : decode cX9_readComparison 62 = .ok (.iload_n 2, 1) := by decide +kernel
theorem dX9_readComparison_63 : decode cX9_readComparison 63 = .ok (.iconst 0, 1) := by decide +kernel
theorem dX9_readComparison_64 : decode cX9_readComparison 64 = .ok (.invokevirtual 120, 3) := by decide +kernel
theorem dX9_readComparison_67 : decode cX9_readComparison 67 = .ok (.ifCond .eq 7, 3) := by decide +kernel
theorem dX9_readComparison_70 : decode cX9_readComparison 70 = .ok (.iconst 1, 1) := by decide +kernel
theorem dX9_readComparison_71 : decode cX9_readComparison 71 = .ok (.goto 4, 3) := by decide +kernel
theorem dX9_readComparison_74 : decode cX9_readComparison 74 = .ok (.iconst 0, 1) := by decide +kernel
theorem dX9_readComparison_75 : decode cX9_readComparison 75 = .ok (.ireturn, 1) := by decide +kernel
theorem dX9_readPart_0 : decode cX9_readPart 0 = .ok (.aload_n 0, 1) := by decide +kernel
theorem dX9_readPart_1 : decode cX9_readPart 1 = .ok (.invokevirtual 55, 3) := by decide +kernel
theorem dX9_readPart_4 : decode cX9_readPart 4 = .ok (.istore_n 2, 1) := by decide +kernel
theorem dX9_readPart_5 : decode cX9_readPart 5 = .ok (.iload_n 2, 1) := by decide +kernel
theorem dX9_readPart_6 : decode cX9_readPart 6 = .ok (.bipush 23, 2) := by decide +kernel
theorem dX9_readPart_8 : decode cX9_readPart 8 = .ok (.if_icmp .ne 12, 3) := by decide +kernel
theorem dX9_readPart_11 : decode cX9_readPart 11 = .ok (.aload_n 0, 1) := by decide +kernel
theorem dX9_readPart_12 : decode cX9_readPart 12 = .ok (.bipush 23, 2) := by decide +kernel
theorem dX9_readPart_14 : decode cX9_readPart 14 = .ok (.ldc 138, 2) := by decide +kernel
theorem dX9_readPart_16 : decode cX9_readPart 16 = .ok (.invokevirtual 132, 3) := by decide +kernel
theorem dX9_readPart_19 : decode cX9_readPart 19 = .ok (.ireturn, 1) := by decide +kernel
theorem dX9_readPart_20 : decode cX9_readPart 20 = .ok (.iload_n 2, 1) := by decide +kernel
theorem dX9_readPart_21 : decode cX9_readPart 21 = .ok (.bipush 6, 2) := by decide +kernel
theorem dX9_readPart_23 : decode cX9_readPart 23 = .ok (.if_icmp .gt 26, 3) := by decide +kernel
theorem dX9_readPart_26 : decode cX9_readPart 26 = .ok (.aload_n 0, 1) := by decide +kernel
theorem dX9_readPart_27 : decode cX9_readPart 27 = .ok (.iload_n 2, 1) := by decide +kernel
theorem dX9_readPart_28 : decode cX9_readPart 28 = .ok (.invokevirtual 110, 3) := by decide +kernel
theorem dX9_readPart_31 : decode cX9_readPart 31 = .ok (.ifCond .eq 16, 3) := by decide +kernel
theorem dX9_readPart_34 : decode cX9_readPart 34 = .ok (.aload_n 0, 1) := by decide +kernel
theorem dX9_readPart_35 : decode cX9_readPart 35 = .ok (.iload_n 2, 1) := by decide +kernel
theorem dX9_readPart_36 : decode cX9_readPart 36 = .ok (.iconst 0, 1) := by decide +kernel
theorem dX9_readPart_37 : decode cX9_readPart 37 = .ok (.invokevirtual 120, 3) := by decide +kernel
theorem dX9_readPart_40 : decode cX9_readPart 40 = .ok (.ifCond .eq 7, 3) := by decide +kernel
theorem dX9_readPart_43 : decode cX9_readPart 43 = .ok (.iconst 1, 1) := by decide +kernel
theorem dX9_readPart_44 : decode cX9_readPart 44 = .ok (.goto 4, 3) := by decide +kernel
theorem dX9_readPart_47 : decode cX9_readPart 47 = .ok (.iconst 0, 1) := by decide +kernel
theorem dX9_readPart_48 : decode cX9_readPart 48 = .ok (.ireturn, 1) := by decide +kernel
theorem dX9_readPart_49 : decode cX9_readPart 49 = .ok (.iload_n 2, 1) := by decide +kernel
theorem dX9_readPart_50 : decode cX9_readPart 50 = .ok (.bipush 7, 2) := by decide +kernel
theorem dX9_readPart_52 : decode cX9_readPart 52 = .ok (.if_icmp .eq 9, 3) := by decide +kernel
theorem dX9_readPart_55 : decode cX9_readPart 55 = .ok (.iload_n 2, 1) := by decide +kernel
theorem dX9_readPart_56 : decode cX9_readPart 56 = .ok (.bipush 8, 2) := by decide +kernel
theorem dX9_readPart_58 : decode cX9_readPart 58 = .ok (.if_icmp .ne 76, 3) := by decide +kernel
theorem dX9_readPart_61 : decode cX9_readPart 61 = .ok (.aload_n 0, 1) := by decide +kernel
theorem dX9_readPart_62 : decode cX9_readPart 62 = .ok (.iload_n 2, 1) := by decide +kernel
theorem dX9_readPart_63 : decode cX9_readPart 63 = .ok (.invokevirtual 110, 3) := by decide +kernel
theorem dX9_readPart_66 : decode cX9_readPart 66 = .ok (.ifCond .eq 66, 3) := by decide +kernel
theorem dX9_readPart_69 : decode cX9_readPart 69 = .ok (.aload_n 0, 1) := by decide +kernel
theorem dX9_readPart_70 : decode cX9_readPart 70 = .ok (.bipush 40, 2) := by decide +kernel
theorem dX9_readPart_72 : decode cX9_readPart 72 = .ok (.iload_n 1, 1) := by decide +kernel
theorem dX9_readPart_73 : decode cX9_readPart 73 = .ok (.invokevirtual 129, 3) := by decide +kernel
theorem dX9_readPart_76 : decode cX9_readPart 76 = .ok (.ifCond .eq 56, 3) := by decide +kernel
theorem dX9_readPart_79 : decode cX9_readPart 79 = .ok (.aload_n 0, 1) := by decide +kernel
theorem dX9_readPart_80 : decode cX9_readPart 80 = .ok (.iconst 2, 1) := by decide +kernel
theorem dX9_readPart_81 : decode cX9_readPart 81 = .ok (.iload_n 1, 1) := by decide +kernel
theorem dX9_readPart_82 : decode cX9_readPart 82 = .ok (.iconst 1, 1) := by decide +kernel
theorem dX9_readPart_83 : decode cX9_readPart 83 = .ok (.iadd, 1) := by decide +kernel
theorem dX9_readPart_84 : decode cX9_readPart 84 = .ok (.invokevirtual 107, 3) := by decide +kernel
theorem dX9_readPart_87 : decode cX9_readPart 87 = .ok (.ifCond .eq 45, 3) := by decide +kernel
theorem dX9_readPart_90 : decode cX9_readPart 90 = .ok (.aload_n 0, 1) := by decide +kernel
theorem dX9_readPart_91 : decode cX9_readPart 91 = .ok (.bipush 44, 2) := by decide +kernel
theorem dX9_readPart_93 : decode cX9_readPart 93 = .ok (.invokevirtual 110, 3) := by decide +kernel
theorem dX9_readPart_96 : decode cX9_readPart 96 = .ok (.ifCond .eq 36, 3) := by decide +kernel
theorem dX9_readPart_99 : decode cX9_readPart 99 = .ok (.aload_n 0, 1) := by decide +kernel
theorem dX9_readPart_100 : decode cX9_readPart 100 = .ok (.iconst 2, 1) := by decide +kernel
theorem dX9_readPart_101 : decode cX9_readPart 101 = .ok (.iload_n 1, 1) := by decide +kernel
theorem dX9_readPart_102 : decode cX9_readPart 102 = .ok (.iconst 1, 1) := by decide +kernel
theorem dX9_readPart_103 : decode cX9_readPart 103 = .ok (.iadd, 1) := by decide +kernel
theorem dX9_readPart_104 : decode cX9_readPart 104 = .ok (.invokevirtual 107, 3) := by decide +kernel
theorem dX9_readPart_107 : decode cX9_readPart 107 = .ok (.ifCond .eq 25, 3) := by decide +kernel
theorem dX9_readPart_110 : decode cX9_readPart 110 = .ok (.aload_n 0, 1) := by decide +kernel
theorem dX9_readPart_111 : decode cX9_readPart 111 = .ok (.bipush 41, 2) := by decide +kernel
theorem dX9_readPart_113 : decode cX9_readPart 113 = .ok (.invokevirtual 110, 3) := by decide +kernel
theorem dX9_readPart_116 : decode cX9_readPart 116 = .ok (.ifCond .eq 16, 3) := by decide +kernel
theorem dX9_readPart_119 : decode cX9_readPart 119 = .ok (.aload_n 0, 1) := by decide +kernel
theorem dX9_readPart_120 : decode cX9_readPart 120 = .ok (.iload_n 2, 1) := by decide +kernel
theorem dX9_readPart_121 : decode cX9_readPart 121 = .ok (.iconst 0, 1) := by decide +kernel
theorem dX9_readPart_122 : decode cX9_readPart 122 = .ok (.invokevirtual 120, 3) := by decide +kernel
theorem dX9_readPart_125 : decode cX9_readPart 125 = .ok (.ifCond .eq 7, 3) := by decide +kernel
theorem dX9_readPart_128 : decode cX9_readPart 128 = .ok (.iconst 1, 1) := by decide +kernel
theorem dX9_readPart_129 : decode cX9_readPart 129 = .ok (.goto 4, 3) := by decide +kernel
theorem dX9_readPart_132 : decode cX9_readPart 132 = .ok (.iconst 0, 1) := by decide +kernel
theorem dX9_readPart_133 : decode cX9_readPart 133 = .ok (.ireturn, 1) := by decide +kernel
theorem dX9_readPart_134 : decode cX9_readPart 134 = .ok (.aload_n 0, 1) := by decide +kernel
theorem dX9_readPart_135 : decode cX9_readPart 135 = .ok (.bipush 40, 2) := by decide +kernel
theorem dX9_readPart_137 : decode cX9_readPart 137 = .ok (.iload_n 1, 1) := by decide +kernel
theorem dX9_readPart_138 : decode cX9_readPart 138 = .ok (.invokevirtual 129, 3) := by decide +kernel
theorem dX9_readPart_141 : decode cX9_readPart 141 = .ok (.ifCond .eq 27, 3) := by decide +kernel
theorem dX9_readPart_144 : decode cX9_readPart 144 = .ok (.aload_n 0, 1) := by decide +kernel
theorem dX9_readPart_145 : decode cX9_readPart 145 = .ok (.iconst 2, 1) := by decide +kernel
theorem dX9_readPart_146 : decode cX9_readPart 146 = .ok (.iload_n 1, 1) := by decide +kernel
theorem dX9_readPart_147 : decode cX9_readPart 147 = .ok (.iconst 1, 1) := by decide +kernel
theorem dX9_readPart_148 : decode cX9_readPart 148 = .ok (.iadd, 1) := by decide +kernel
theorem dX9_readPart_149 : decode cX9_readPart 149 = .ok (.invokevirtual 107, 3) := by decide +kernel
theorem dX9_readPart_152 : decode cX9_readPart 152 = .ok (.ifCond .eq 16, 3) := by decide +kernel
theorem dX9_readPart_155 : decode cX9_readPart 155 = .ok (.aload_n 0, 1) := by decide +kernel
theorem dX9_readPart_156 : decode cX9_readPart 156 = .ok (.bipush 41, 2) := by decide +kernel
theorem dX9_readPart_158 : decode cX9_readPart 158 = .ok (.invokevirtual 110, 3) := by decide +kernel
theorem dX9_readPart_161 : decode cX9_readPart 161 = .ok (.ifCond .eq 7, 3) := by decide +kernel
theorem dX9_readPart_164 : decode cX9_readPart 164 = .ok (.iconst 1, 1) := by decide +kernel
theorem dX9_readPart_165 : decode cX9_readPart 165 = .ok (.goto 4, 3) := by decide +kernel
theorem dX9_readPart_168 : decode cX9_readPart 168 = .ok (.iconst 0, 1) := by decide +kernel
theorem dX9_readPart_169 : decode cX9_readPart 169 = .ok (.ireturn, 1) := by decide +kernel
theorem dX9_readNumber_0 : decode cX9_readNumber 0 = .ok (.aload_n 0, 1) := by decide +kernel
theorem dX9_readNumber_1 : decode cX9_readNumber 1 = .ok (.getfield 49, 3) := by decide +kernel
theorem dX9_readNumber_4 : decode cX9_readNumber 4 = .ok (.aload_n 0, 1) := by decide +kernel
theorem dX9_readNumber_5 : decode cX9_readNumber 5 = .ok (.getfield 68, 3) := by decide +kernel
theorem dX9_readNumber_8 : decode cX9_readNumber 8 = .ok (.if_icmp .ge 15, 3) := by decide +kernel
theorem dX9_readNumber_11 : decode cX9_readNumber 11 = .ok (.aload_n 0, 1) := by decide +kernel
theorem dX9_readNumber_12 : decode cX9_readNumber 12 = .ok (.getfield 34, 3) := by decide +kernel
theorem dX9_readNumber_15 : decode cX9_readNumber 15 = .ok (.aload_n 0, 1) := by decide +kernel
theorem dX9_readNumber_16 : decode cX9_readNumber 16 = .ok (.getfield 49, 3) := by decide +kernel
theorem dX9_readNumber_19 : decode cX9_readNumber 19 = .ok (.iaload, 1) := by decide +kernel
theorem dX9_readNumber_20 : decode cX9_readNumber 20 = .ok (.goto 4, 3) := by decide +kernel
theorem dX9_readNumber_23 : decode cX9_readNumber 23 = .ok (.iconst 0, 1) := by decide +kernel
theorem dX9_readNumber_24 : decode cX9_readNumber 24 = .ok (.istore_n 3, 1) := by decide +kernel
theorem dX9_readNumber_25 : decode cX9_readNumber 25 = .ok (.aload_n 0, 1) := by decide +kernel
theorem dX9_readNumber_26 : decode cX9_readNumber 26 = .ok (.invokevirtual 55, 3) := by decide +kernel
theorem dX9_readNumber_29 : decode cX9_readNumber 29 = .ok (.bipush 23, 2) := by decide +kernel
theorem dX9_readNumber_31 : decode cX9_readNumber 31 = .ok (.if_icmp .ne 20, 3) := by decide +kernel
theorem dX9_readNumber_34 : decode cX9_readNumber 34 = .ok (.iload_n 3, 1) := by decide +kernel
theorem dX9_readNumber_35 : decode cX9_readNumber 35 = .ok (.iconst (-1), 1) := by decide +kernel
theorem dX9_readNumber_36 : decode cX9_readNumber 36 = .ok (.if_icmp .ne 15, 3) := by decide +kernel
theorem dX9_readNumber_39 : decode cX9_readNumber 39 = .ok (.aload_n 0, 1) := by decide +kernel
theorem dX9_readNumber_40 : decode cX9_readNumber 40 = .ok (.iconst 1, 1) := by decide +kernel
theorem dX9_readNumber_41 : decode cX9_readNumber 41 = .ok (.aload_n 0, 1) := by decide +kernel
theorem dX9_readNumber_42 : decode cX9_readNumber 42 = .ok (.invokevirtual 100, 3) := by decide +kernel
theorem dX9_readNumber_45 : decode cX9_readNumber 45 = .ok (.iconst 5, 1) := by decide +kernel
theorem dX9_readNumber_46 : decode cX9_readNumber 46 = .ok (.iadd, 1) := by decide +kernel
theorem dX9_readNumber_47 : decode cX9_readNumber 47 = .ok (.invokevirtual 103, 3) := by decide +kernel
theorem dX9_readNumber_50 : decode cX9_readNumber 50 = .ok (.ireturn, 1) := by decide +kernel
theorem dX9_readNumber_51 : decode cX9_readNumber 51 = .ok (.aload_n 0, 1) := by decide +kernel
theorem dX9_readNumber_52 : decode cX9_readNumber 52 = .ok (.invokevirtual 55, 3) := by decide +kernel
theorem dX9_readNumber_55 : decode cX9_readNumber 55 = .ok (.bipush 23, 2) := by decide +kernel
theorem dX9_readNumber_57 : decode cX9_readNumber 57 = .ok (.if_icmp .ne 18, 3) := by decide +kernel
theorem dX9_readNumber_60 : decode cX9_readNumber 60 = .ok (.iload_n 3, 1) := by decide +kernel
theorem dX9_readNumber_61 : decode cX9_readNumber 61 = .ok (.iload_n 2, 1) := by decide +kernel
theorem dX9_readNumber_62 : decode cX9_readNumber 62 = .ok (.if_icmp .le 13, 3) := by decide +kernel
theorem dX9_readNumber_65 : decode cX9_readNumber 65 = .ok (.aload_n 0, 1) := by decide +kernel
theorem dX9_readNumber_66 : decode cX9_readNumber 66 = .ok (.iconst 2, 1) := by decide +kernel
theorem dX9_readNumber_67 : decode cX9_readNumber 67 = .ok (.aload_n 0, 1) := by decide +kernel
theorem dX9_readNumber_68 : decode cX9_readNumber 68 = .ok (.invokevirtual 100, 3) := by decide +kernel
theorem dX9_readNumber_71 : decode cX9_readNumber 71 = .ok (.invokevirtual 103, 3) := by decide +kernel
theorem dX9_readNumber_74 : decode cX9_readNumber 74 = .ok (.ireturn, 1) := by decide +kernel
theorem dX9_readNumber_75 : decode cX9_readNumber 75 = .ok (.aload_n 0, 1) := by decide +kernel
theorem dX9_readNumber_76 : decode cX9_readNumber 76 = .ok (.bipush 23, 2) := by decide +kernel
theorem dX9_readNumber_78 : decode cX9_readNumber 78 = .ok (.invokevirtual 110, 3) := by decide +kernel
theorem dX9_readNumber_81 : decode cX9_readNumber 81 = .ok (.ifCond .eq 16, 3) := by decide +kernel
theorem dX9_readNumber_84 : decode cX9_readNumber 84 = .ok (.aload_n 0, 1) := by decide +kernel
theorem dX9_readNumber_85 : decode cX9_readNumber 85 = .ok (.iload_n 1, 1) := by decide +kernel
theorem dX9_readNumber_86 : decode cX9_readNumber 86 = .ok (.iload_n 3, 1) := by decide +kernel
theorem dX9_readNumber_87 : decode cX9_readNumber 87 = .ok (.invokevirtual 120, 3) := by decide +kernel
theorem dX9_readNumber_90 : decode cX9_readNumber 90 = .ok (.ifCond .eq 7, 3) := by decide +kernel
theorem dX9_readNumber_93 : decode cX9_readNumber 93 = .ok (.iconst 1, 1) := by decide +kernel
theorem dX9_readNumber_94 : decode cX9_readNumber 94 = .ok (.goto 4, 3) := by decide +kernel
theorem dX9_readNumber_97 : decode cX9_readNumber 97 = .ok (.iconst 0, 1) := by decide +kernel
theorem dX9_readNumber_98 : decode cX9_readNumber 98 = .ok (.ireturn, 1) := by decide +kernel
theorem dX11_init_0 : decode cX11_init 0 = .ok (.aload_n 0, 1) := by decide +kernel
theorem dX11_init_1 : decode cX11_init 1 = .ok (.invokespecial 1, 3) := by decide +kernel
theorem dX11_init_4 : decode cX11_init 4 = .ok (.aload_n 0, 1) := by decide +kernel
theorem dX11_init_5 : decode cX11_init 5 = .ok (.new 7, 3) := by decide +kernel
theorem dX11_init_8 : decode cX11_init 8 = .ok (.dup, 1) := by decide +kernel
theorem dX11_init_9 : decode cX11_init 9 = .ok (.invokespecial 9, 3) := by decide +kernel
theorem dX11_init_12 : decode cX11_init 12 = .ok (.putfield 10, 3) := by decide +kernel
theorem dX11_init_15 : decode cX11_init 15 = .ok (.aload_n 0, 1) := by decide +kernel
theorem dX11_init_16 : decode cX11_init 16 = .ok (.new 16, 3) := by decide +kernel
theorem dX11_init_19 : decode cX11_init 19 = .ok (.dup, 1) := by decide +kernel
theorem dX11_init_20 : decode cX11_init 20 = .ok (.invokespecial 18, 3) := by decide +kernel
theorem dX11_init_23 : decode cX11_init 23 = .ok (.putfield 19, 3) := by decide +kernel
theorem dX11_init_26 : decode cX11_init 26 = .ok (.aload_n 0, 1) := by decide +kernel
theorem dX11_init_27 : decode cX11_init 27 = .ok (.new 23, 3) := by decide +kernel
theorem dX11_init_30 : decode cX11_init 30 = .ok (.dup, 1) := by decide +kernel
theorem dX11_init_31 : decode cX11_init 31 = .ok (.invokespecial 25, 3) := by decide +kernel
theorem dX11_init_34 : decode cX11_init 34 = .ok (.putfield 26, 3) := by decide +kernel
theorem dX11_init_37 : decode cX11_init 37 = .ok (.aload_n 0, 1) := by decide +kernel
theorem dX11_init_38 : decode cX11_init 38 = .ok (.new 30, 3) := by decide +kernel
theorem dX11_init_41 : decode cX11_init 41 = .ok (.dup, 1) := by decide +kernel
theorem dX11_init_42 : decode cX11_init 42 = .ok (.invokespecial 32, 3) := by decide +kernel
theorem dX11_init_45 : decode cX11_init 45 = .ok (.putfield 33, 3) := by decide +kernel
theorem dX11_init_48 : decode cX11_init 48 = .ok (.aload_n 0, 1) := by decide +kernel
theorem dX11_init_49 : decode cX11_init 49 = .ok (.new 37, 3) := by decide +kernel
theorem dX11_init_52 : decode cX11_init 52 = .ok (.dup, 1) := by decide +kernel
theorem dX11_init_53 : decode cX11_init 53 = .ok (.invokespecial 39, 3) := by decide +kernel
theorem dX11_init_56 : decode cX11_init 56 = .ok (.putfield 40, 3) := by decide +kernel
theorem dX11_init_59 : decode cX11_init 59 = .ok (.aload_n 0, 1) := by decide +kernel
theorem dX11_init_60 : decode cX11_init 60 = .ok (.new 44, 3) := by decide +kernel
theorem dX11_init_63 : decode cX11_init 63 = .ok (.dup, 1) := by decide +kernel
theorem dX11_init_64 : decode cX11_init 64 = .ok (.aload_n 0, 1) := by decide +kernel
theorem dX11_init_65 : decode cX11_init 65 = .ok (.getfield 10, 3) := by decide +kernel
theorem dX11_init_68 : decode cX11_init 68 = .ok (.aload_n 0, 1) := by decide +kernel
theorem dX11_init_69 : decode cX11_init 69 = .ok (.getfield 40, 3) := by decide +kernel
theorem dX11_init_72 : decode cX11_init 72 = .ok (.invokespecial 46, 3) := by decide +kernel
theorem dX11_init_75 : decode cX11_init 75 = .ok (.putfield 49, 3) := by decide +kernel
theorem dX11_init_78 : decode cX11_init 78 = .ok (.aload_n 0, 1) := by decide +kernel
theorem dX11_init_79 : decode cX11_init 79 = .ok (.new 53, 3) := by decide +kernel
theorem dX11_init_82 : decode cX11_init 82 = .ok (.dup, 1) := by decide +kernel
theorem dX11_init_83 : decode cX11_init 83 = .ok (.aload_n 0, 1) := by decide +kernel
theorem dX11_init_84 : decode cX11_init 84 = .ok (.getfield 10, 3) := by decide +kernel
theorem dX11_init_87 : decode cX11_init 87 = .ok (.aload_n 0, 1) := by decide +kernel
theorem dX11_init_88 : decode cX11_init 88 = .ok (.getfield 19, 3) := by decide +kernel
theorem dX11_init_91 : decode cX11_init 91 = .ok (.invokespecial 55, 3) := by decide +kernel
theorem dX11_init_94 : decode cX11_init 94 = .ok (.putfield 58, 3) := by decide +kernel
theorem dX11_init_97 : decode cX11_init 97 = .ok (.aload_n 0, 1) := by decide +kernel
theorem dX11_init_98 : decode cX11_init 98 = .ok (.new 62, 3) := by decide +kernel
theorem dX11_init_101 : decode cX11_init 101 = .ok (.dup, 1) := by decide +kernel
theorem dX11_init_102 : decode cX11_init 102 = .ok (.aload_n 0, 1) := by decide +kernel
theorem dX11_init_103 : decode cX11_init 103 = .ok (.getfield 33, 3) := by decide +kernel
theorem dX11_init_106 : decode cX11_init 106 = .ok (.aload_n 0, 1) := by decide +kernel
theorem dX11_init_107 : decode cX11_init 107 = .ok (.getfield 40, 3) := by decide +kernel
theorem dX11_init_110 : decode cX11_init 110 = .ok (.aload_n 0, 1) := by decide +kernel
theorem dX11_init_111 : decode cX11_init 111 = .ok (.getfield 49, 3) := by decide +kernel
theorem dX11_init_114 : decode cX11_init 114 = .ok (.invokespecial 64, 3) := by decide +kernel
theorem dX11_init_117 : decode cX11_init 117 = .ok (.putfield 67, 3) := by decide +kernel
theorem dX11_init_120 : decode cX11_init 120 = .ok (.aload_n 0, 1) := by decide +kernel
theorem dX11_init_121 : decode cX11_init 121 = .ok (.new 53, 3) := by decide +kernel
theorem dX11_init_124 : decode cX11_init 124 = .ok (.dup, 1) := by decide +kernel
theorem dX11_init_125 : decode cX11_init 125 = .ok (.aload_n 0, 1) := by decide +kernel
theorem dX11_init_126 : decode cX11_init 126 = .ok (.getfield 10, 3) := by decide +kernel
theorem dX11_init_129 : decode cX11_init 129 = .ok (.aload_n 0, 1) := by decide +kernel
theorem dX11_init_130 : decode cX11_init 130 = .ok (.getfield 19, 3) := by decide +kernel
theorem dX11_init_133 : decode cX11_init 133 = .ok (.invokespecial 55, 3) := by decide +kernel
theorem dX11_init_136 : decode cX11_init 136 = .ok (.putfield 71, 3) := by decide +kernel
theorem dX11_init_139 : decode cX11_init 139 = .ok (.aload_n 0, 1) := by decide +kernel
theorem dX11_init_140 : decode cX11_init 140 = .ok (.new 62, 3) := by decide +kernel
theorem dX11_init_143 : decode cX11_init 143 = .ok (.dup, 1) := by decide +kernel
theorem dX11_init_144 : decode cX11_init 144 = .ok (.aload_n 0, 1) := by decide +kernel
theorem dX11_init_145 : decode cX11_init 145 = .ok (.getfield 33, 3) := by decide +kernel
theorem dX11_init_148 : decode cX11_init 148 = .ok (.aload_n 0, 1) := by decide +kernel
theorem dX11_init_149 : decode cX11_init 149 = .ok (.getfield 40, 3) := by decide +kernel
theorem dX11_init_152 : decode cX11_init 152 = .ok (.aload_n 0, 1) := by decide +kernel
theorem dX11_init_153 : decode cX11_init 153 = .ok (.getfield 49, 3) := by decide +kernel
theorem dX11_init_156 : decode cX11_init 156 = .ok (.invokespecial 64, 3) := by decide +kernel
theorem dX11_init_159 : decode cX11_init 159 = .ok (.putfield 74, 3) := by decide +kernel
theorem dX11_init_162 : decode cX11_init 162 = .ok (.aload_n 0, 1) := by decide +kernel
theorem dX11_init_163 : decode cX11_init 163 = .ok (.new 77, 3) := by decide +kernel
theorem dX11_init_166 : decode cX11_init 166 = .ok (.dup, 1) := by decide +kernel
theorem dX11_init_167 : decode cX11_init 167 = .ok (.invokespecial 79, 3) := by decide +kernel
theorem dX11_init_170 : decode cX11_init 170 = .ok (.putfield 80, 3) := by decide +kernel
theorem dX11_init_173 : decode cX11_init 173 = .ok (.aload_n 0, 1) := by decide +kernel
theorem dX11_init_174 : decode cX11_init 174 = .ok (.new 84, 3) := by decide +kernel
theorem dX11_init_177 : decode cX11_init 177 = .ok (.dup, 1) := by decide +kernel
theorem dX11_init_178 : decode cX11_init 178 = .ok (.aload_n 0, 1) := by decide +kernel
theorem dX11_init_179 : decode cX11_init 179 = .ok (.getfield 19, 3) := by decide +kernel
theorem dX11_init_182 : decode cX11_init 182 = .ok (.aload_n 0, 1) := by decide +kernel
theorem dX11_init_183 : decode cX11_init 183 = .ok (.getfield 71, 3) := by decide +kernel
theorem dX11_init_186 : decode cX11_init 186 = .ok (.invokespecial 86, 3) := by decide +kernel
theorem dX11_init_189 : decode cX11_init 189 = .ok (.putfield 89, 3) := by decide +kernel
theorem dX11_init_192 : decode cX11_init 192 = .ok (.aload_n 0, 1) := by decide +kernel
theorem dX11_init_193 : decode cX11_init 193 = .ok (.getfield 10, 3) := by decide +kernel
theorem dX11_init_196 : decode cX11_init 196 = .ok (.iconst 1, 1) := by decide +kernel
theorem dX11_init_197 : decode cX11_init 197 = .ok (.iconst 1, 1) := by decide +kernel
theorem dX11_init_198 : decode cX11_init 198 = .ok (.invokevirtual 93, 3) := by decide +kernel
theorem dX11_init_201 : decode cX11_init 201 = .ok (.return_, 1) := by decide +kernel
theorem dX11_feed_0 : decode cX11_feed 0 = .ok (.aload_n 0, 1) := by decide +kernel
theorem dX11_feed_1 : decode cX11_feed 1 = .ok (.getfield 26, 3) := by decide +kernel
theorem dX11_feed_4 : decode cX11_feed 4 = .ok (.getfield 97, 3) := by decide +kernel
theorem dX11_feed_7 : decode cX11_feed 7 = .ok (.bipush 20, 2) := by decide +kernel
theorem dX11_feed_9 : decode cX11_feed 9 = .ok (.iadd, 1) := by decide +kernel
theorem dX11_feed_10 : decode cX11_feed 10 = .ok (.sipush 600, 3) := by decide +kernel
theorem dX11_feed_13 : decode cX11_feed 13 = .ok (.if_icmp .le 5, 3) := by decide +kernel
theorem dX11_feed_16 : decode cX11_feed 16 = .ok (.iconst (-1), 1) := by decide +kernel
theorem dX11_feed_17 : decode cX11_feed 17 = .ok (.ireturn, 1) := by decide +kernel
theorem dX11_feed_18 : decode cX11_feed 18 = .ok (.aload_n 0, 1) := by decide +kernel
theorem dX11_feed_19 : decode cX11_feed 19 = .ok (.getfield 26, 3) := by decide +kernel
theorem dX11_feed_22 : decode cX11_feed 22 = .ok (.iload_n 1, 1) := by decide +kernel
theorem dX11_feed_23 : decode cX11_feed 23 = .ok (.invokevirtual 101, 3) := by decide +kernel
theorem dX11_feed_26 : decode cX11_feed 26 = .ok (.aload_n 0, 1) := by decide +kernel
theorem dX11_feed_27 : decode cX11_feed 27 = .ok (.getfield 26, 3) := by decide +kernel
theorem dX11_feed_30 : decode cX11_feed 30 = .ok (.iload_n 2, 1) := by decide +kernel
theorem dX11_feed_31 : decode cX11_feed 31 = .ok (.invokevirtual 101, 3) := by decide +kernel
theorem dX11_feed_34 : decode cX11_feed 34 = .ok (.aload_n 0, 1) := by decide +kernel
theorem dX11_feed_35 : decode cX11_feed 35 = .ok (.getfield 26, 3) := by decide +kernel
theorem dX11_feed_38 : decode cX11_feed 38 = .ok (.iload_n 3, 1) := by decide +kernel
theorem dX11_feed_39 : decode cX11_feed 39 = .ok (.invokevirtual 101, 3) := by decide +kernel
theorem dX11_feed_42 : decode cX11_feed 42 = .ok (.aload_n 0, 1) := by decide +kernel
theorem dX11_feed_43 : decode cX11_feed 43 = .ok (.getfield 26, 3) := by decide +kernel
theorem dX11_feed_46 : decode cX11_feed 46 = .ok (.iload 4, 2) := by decide +kernel
theorem dX11_feed_48 : decode cX11_feed 48 = .ok (.invokevirtual 101, 3) := by decide +kernel
theorem dX11_feed_51 : decode cX11_feed 51 = .ok (.aload_n 0, 1) := by decide +kernel
theorem dX11_feed_52 : decode cX11_feed 52 = .ok (.getfield 26, 3) := by decide +kernel
theorem dX11_feed_55 : decode cX11_feed 55 = .ok (.iload 5, 2) := by decide +kernel
theorem dX11_feed_57 : decode cX11_feed 57 = .ok (.invokevirtual 101, 3) := by decide +kernel
theorem dX11_feed_60 : decode cX11_feed 60 = .ok (.aload_n 0, 1) := by decide +kernel
theorem dX11_feed_61 : decode cX11_feed 61 = .ok (.getfield 26, 3) := by decide +kernel
theorem dX11_feed_64 : decode cX11_feed 64 = .ok (.getfield 97, 3) := by decide +kernel
theorem dX11_feed_67 : decode cX11_feed 67 = .ok (.ireturn, 1) := by decide +kernel
theorem dX11_end_0 : decode cX11_end 0 = .ok (.iload_n 1, 1) := by decide +kernel
theorem dX11_end_1 : decode cX11_end 1 = .ok (.ifCond .lt 14, 3) := by decide +kernel
theorem dX11_end_4 : decode cX11_end 4 = .ok (.iload_n 1, 1) := by decide +kernel
theorem dX11_end_5 : decode cX11_end 5 = .ok (.aload_n 0, 1) := by decide +kernel
theorem dX11_end_6 : decode cX11_end 6 = .ok (.getfield 26, 3) := by decide +kernel
theorem dX11_end_9 : decode cX11_end 9 = .ok (.getfield 97, 3) := by decide +kernel
theorem dX11_end_12 : decode cX11_end 12 = .ok (.if_icmp .le 5, 3) := by decide +kernel
theorem dX11_end_15 : decode cX11_end 15 = .ok (.iconst 0, 1) := by decide +kernel
theorem dX11_end_16 : decode cX11_end 16 = .ok (.ireturn, 1) := by decide +kernel
theorem dX11_end_17 : decode cX11_end 17 = .ok (.aload_n 0, 1) := by decide +kernel
theorem dX11_end_18 : decode cX11_end 18 = .ok (.getfield 26, 3) := by decide +kernel
theorem dX11_end_21 : decode cX11_end 21 = .ok (.iload_n 1, 1) := by decide +kernel
theorem dX11_end_22 : decode cX11_end 22 = .ok (.putfield 97, 3) := by decide +kernel
theorem dX11_end_25 : decode cX11_end 25 = .ok (.iconst 1, 1) := by decide +kernel
theorem dX11_end_26 : decode cX11_end 26 = .ok (.ireturn, 1) := by decide +kernel
theorem dX11_city_0 : decode cX11_city 0 = .ok (.iload_n 1, 1) := by decide +kernel
theorem dX11_city_1 : decode cX11_city 1 = .ok (.iconst 1, 1) := by decide +kernel
theorem dX11_city_2 : decode cX11_city 2 = .ok (.bipush 12, 2) := by decide +kernel
theorem dX11_city_4 : decode cX11_city 4 = .ok (.invokestatic 105, 3) := by decide +kernel
theorem dX11_city_7 : decode cX11_city 7 = .ok (.ifCond .eq 13, 3) := by decide +kernel
theorem dX11_city_10 : decode cX11_city 10 = .ok (.iload_n 2, 1) := by decide +kernel
theorem dX11_city_11 : decode cX11_city 11 = .ok (.iconst 1, 1) := by decide +kernel
theorem dX11_city_12 : decode cX11_city 12 = .ok (.bipush 10, 2) := by decide +kernel
theorem dX11_city_14 : decode cX11_city 14 = .ok (.invokestatic 105, 3) := by decide +kernel
theorem dX11_city_17 : decode cX11_city 17 = .ok (.ifCond .ne 5, 3) := by decide +kernel
theorem dX11_city_20 : decode cX11_city 20 = .ok (.iconst 0, 1) := by decide +kernel
theorem dX11_city_21 : decode cX11_city 21 = .ok (.ireturn, 1) := by decide +kernel
theorem dX11_city_22 : decode cX11_city 22 = .ok (.aload_n 0, 1) := by decide +kernel
theorem dX11_city_23 : decode cX11_city 23 = .ok (.getfield 10, 3) := by decide +kernel
theorem dX11_city_26 : decode cX11_city 26 = .ok (.iload_n 1, 1) := by decide +kernel
theorem dX11_city_27 : decode cX11_city 27 = .ok (.iload_n 2, 1) := by decide +kernel
theorem dX11_city_28 : decode cX11_city 28 = .ok (.invokevirtual 93, 3) := by decide +kernel
theorem dX11_city_31 : decode cX11_city 31 = .ok (.aload_n 0, 1) := by decide +kernel
theorem dX11_city_32 : decode cX11_city 32 = .ok (.getfield 19, 3) := by decide +kernel
theorem dX11_city_35 : decode cX11_city 35 = .ok (.iconst 0, 1) := by decide +kernel
theorem dX11_city_36 : decode cX11_city 36 = .ok (.putfield 109, 3) := by decide +kernel
theorem dX11_city_39 : decode cX11_city 39 = .ok (.aload_n 0, 1) := by decide +kernel
theorem dX11_city_40 : decode cX11_city 40 = .ok (.getfield 33, 3) := by decide +kernel
theorem dX11_city_43 : decode cX11_city 43 = .ok (.invokevirtual 112, 3) := by decide +kernel
theorem dX11_city_46 : decode cX11_city 46 = .ok (.aload_n 0, 1) := by decide +kernel
theorem dX11_city_47 : decode cX11_city 47 = .ok (.getfield 58, 3) := by decide +kernel
theorem dX11_city_50 : decode cX11_city 50 = .ok (.iconst 0, 1) := by decide +kernel
theorem dX11_city_51 : decode cX11_city 51 = .ok (.putfield 115, 3) := by decide +kernel
theorem dX11_city_54 : decode cX11_city 54 = .ok (.aload_n 0, 1) := by decide +kernel
theorem dX11_city_55 : decode cX11_city 55 = .ok (.getfield 89, 3) := by decide +kernel
theorem dX11_city_58 : decode cX11_city 58 = .ok (.invokevirtual 119, 3) := by decide +kernel
theorem dX11_city_61 : decode cX11_city 61 = .ok (.iconst 1, 1) := by decide +kernel
theorem dX11_city_62 : decode cX11_city 62 = .ok (.ireturn, 1) := by decide +kernel
theorem dX11_house_0 : decode cX11_house 0 = .ok (.aload_n 0, 1) := by decide +kernel
theorem dX11_house_1 : decode cX11_house 1 = .ok (.getfield 10, 3) := by decide +kernel
theorem dX11_house_4 : decode cX11_house 4 = .ok (.iload_n 1, 1) := by decide +kernel
theorem dX11_house_5 : decode cX11_house 5 = .ok (.invokevirtual 120, 3) := by decide +kernel
theorem dX11_house_8 : decode cX11_house 8 = .ok (.ifCond .eq 38, 3) := by decide +kernel
theorem dX11_house_11 : decode cX11_house 11 = .ok (.iload_n 2, 1) := by decide +kernel
theorem dX11_house_12 : decode cX11_house 12 = .ok (.iconst 0, 1) := by decide +kernel
theorem dX11_house_13 : decode cX11_house 13 = .ok (.getstatic 124, 3) := by decide +kernel
theorem dX11_house_16 : decode cX11_house 16 = .ok (.arraylength, 1) := by decide +kernel
theorem dX11_house_17 : decode cX11_house 17 = .ok (.iconst 1, 1) := by decide +kernel
theorem dX11_house_18 : decode cX11_house 18 = .ok (.isub, 1) := by decide +kernel
theorem dX11_house_19 : decode cX11_house 19 = .ok (.invokestatic 105, 3) := by decide +kernel
theorem dX11_house_22 : decode cX11_house 22 = .ok (.ifCond .eq 24, 3) := by decide +kernel
theorem dX11_house_25 : decode cX11_house 25 = .ok (.iload_n 3, 1) := by decide +kernel
theorem dX11_house_26 : decode cX11_house 26 = .ok (.iconst 0, 1) := by decide +kernel
theorem dX11_house_27 : decode cX11_house 27 = .ok (.iconst 5, 1) := by decide +kernel
theorem dX11_house_28 : decode cX11_house 28 = .ok (.invokestatic 105, 3) := by decide +kernel
theorem dX11_house_31 : decode cX11_house 31 = .ok (.ifCond .eq 15, 3) := by decide +kernel
theorem dX11_house_34 : decode cX11_house 34 = .ok (.iload 4, 2) := by decide +kernel
theorem dX11_house_36 : decode cX11_house 36 = .ok (.iconst 0, 1) := by decide +kernel
theorem dX11_house_37 : decode cX11_house 37 = .ok (.sipush 9999, 3) := by decide +kernel
theorem dX11_house_40 : decode cX11_house 40 = .ok (.invokestatic 105, 3) := by decide +kernel
theorem dX11_house_43 : decode cX11_house 43 = .ok (.ifCond .ne 5, 3) := by decide +kernel
theorem dX11_house_46 : decode cX11_house 46 = .ok (.iconst 0, 1) := by decide +kernel
theorem dX11_house_47 : decode cX11_house 47 = .ok (.ireturn, 1) := by decide +kernel
theorem dX11_house_48 : decode cX11_house 48 = .ok (.aload_n 0, 1) := by decide +kernel
theorem dX11_house_49 : decode cX11_house 49 = .ok (.getfield 10, 3) := by decide +kernel
theorem dX11_house_52 : decode cX11_house 52 = .ok (.iload_n 1, 1) := by decide +kernel
theorem dX11_house_53 : decode cX11_house 53 = .ok (.iload_n 2, 1) := by decide +kernel
theorem dX11_house_54 : decode cX11_house 54 = .ok (.iload_n 3, 1) := by decide +kernel
theorem dX11_house_55 : decode cX11_house 55 = .ok (.iload 4, 2) := by decide +kernel
theorem dX11_house_57 : decode cX11_house 57 = .ok (.invokevirtual 128, 3) := by decide +kernel
theorem dX11_house_60 : decode cX11_house 60 = .ok (.iconst 1, 1) := by decide +kernel
theorem dX11_house_61 : decode cX11_house 61 = .ok (.ireturn, 1) := by decide +kernel
theorem dX11_plug_0 : decode cX11_plug 0 = .ok (.aload_n 0, 1) := by decide +kernel
theorem dX11_plug_1 : decode cX11_plug 1 = .ok (.getfield 10, 3) := by decide +kernel
theorem dX11_plug_4 : decode cX11_plug 4 = .ok (.iload_n 1, 1) := by decide +kernel
theorem dX11_plug_5 : decode cX11_plug 5 = .ok (.invokevirtual 120, 3) := by decide +kernel
theorem dX11_plug_8 : decode cX11_plug 8 = .ok (.ifCond .ne 5, 3) := by decide +kernel
theorem dX11_plug_11 : decode cX11_plug 11 = .ok (.iconst 0, 1) := by decide +kernel
theorem dX11_plug_12 : decode cX11_plug 12 = .ok (.ireturn, 1) := by decide +kernel
theorem dX11_plug_13 : decode cX11_plug 13 = .ok (.aload_n 0, 1) := by decide +kernel
theorem dX11_plug_14 : decode cX11_plug 14 = .ok (.getfield 10, 3) := by decide +kernel
theorem dX11_plug_17 : decode cX11_plug 17 = .ok (.getfield 132, 3) := by decide +kernel
theorem dX11_plug_20 : decode cX11_plug 20 = .ok (.iload_n 1, 1) := by decide +kernel
theorem dX11_plug_21 : decode cX11_plug 21 = .ok (.iload_n 2, 1) := by decide +kernel
theorem dX11_plug_22 : decode cX11_plug 22 = .ok (.bastore, 1) := by decide +kernel
theorem dX11_plug_23 : decode cX11_plug 23 = .ok (.iconst 1, 1) := by decide +kernel
theorem dX11_plug_24 : decode cX11_plug 24 = .ok (.ireturn, 1) := by decide +kernel
theorem dX11_hazard_0 : decode cX11_hazard 0 = .ok (.iload_n 1, 1) := by decide +kernel
theorem dX11_hazard_1 : decode cX11_hazard 1 = .ok (.iconst 0, 1) := by decide +kernel
theorem dX11_hazard_2 : decode cX11_hazard 2 = .ok (.iconst 5, 1) := by decide +kernel
theorem dX11_hazard_3 : decode cX11_hazard 3 = .ok (.invokestatic 105, 3) := by decide +kernel
theorem dX11_hazard_6 : decode cX11_hazard 6 = .ok (.ifCond .eq 13, 3) := by decide +kernel
theorem dX11_hazard_9 : decode cX11_hazard 9 = .ok (.iload_n 2, 1) := by decide +kernel
theorem dX11_hazard_10 : decode cX11_hazard 10 = .ok (.iconst 0, 1) := by decide +kernel
theorem dX11_hazard_11 : decode cX11_hazard 11 = .ok (.bipush 9, 2) := by decide +kernel
theorem dX11_hazard_13 : decode cX11_hazard 13 = .ok (.invokestatic 105, 3) := by decide +kernel
theorem dX11_hazard_16 : decode cX11_hazard 16 = .ok (.ifCond .ne 5, 3) := by decide +kernel
theorem dX11_hazard_19 : decode cX11_hazard 19 = .ok (.iconst 0, 1) := by decide +kernel
theorem dX11_hazard_20 : decode cX11_hazard 20 = .ok (.ireturn, 1) := by decide +kernel
theorem dX11_hazard_21 : decode cX11_hazard 21 = .ok (.aload_n 0, 1) := by decide +kernel
theorem dX11_hazard_22 : decode cX11_hazard 22 = .ok (.getfield 10, 3) := by decide +kernel
theorem dX11_hazard_25 : decode cX11_hazard 25 = .ok (.getfield 136, 3) := by decide +kernel
theorem dX11_hazard_28 : decode cX11_hazard 28 = .ok (.iload_n 1, 1) := by decide +kernel
theorem dX11_hazard_29 : decode cX11_hazard 29 = .ok (.iload_n 2, 1) := by decide +kernel
theorem dX11_hazard_30 : decode cX11_hazard 30 = .ok (.iastore, 1) := by decide +kernel
theorem dX11_hazard_31 : decode cX11_hazard 31 = .ok (.iconst 1, 1) := by decide +kernel
theorem dX11_hazard_32 : decode cX11_hazard 32 = .ok (.ireturn, 1) := by decide +kernel
theorem dX11_wind_0 : decode cX11_wind 0 = .ok (.iload_n 1, 1) := by decide +kernel
theorem dX11_wind_1 : decode cX11_wind 1 = .ok (.iconst 1, 1) := by decide +kernel
theorem dX11_wind_2 : decode cX11_wind 2 = .ok (.bipush 120, 2) := by decide +kernel
theorem dX11_wind_4 : decode cX11_wind 4 = .ok (.invokestatic 105, 3) := by decide +kernel
theorem dX11_wind_7 : decode cX11_wind 7 = .ok (.ifCond .eq 23, 3) := by decide +kernel
theorem dX11_wind_10 : decode cX11_wind 10 = .ok (.iload_n 2, 1) := by decide +kernel
theorem dX11_wind_11 : decode cX11_wind 11 = .ok (.iconst 0, 1) := by decide +kernel
theorem dX11_wind_12 : decode cX11_wind 12 = .ok (.bipush 7, 2) := by decide +kernel
theorem dX11_wind_14 : decode cX11_wind 14 = .ok (.invokestatic 105, 3) := by decide +kernel
theorem dX11_wind_17 : decode cX11_wind 17 = .ok (.ifCond .eq 13, 3) := by decide +kernel
theorem dX11_wind_20 : decode cX11_wind 20 = .ok (.iload_n 3, 1) := by decide +kernel
theorem dX11_wind_21 : decode cX11_wind 21 = .ok (.iconst 0, 1) := by decide +kernel
theorem dX11_wind_22 : decode cX11_wind 22 = .ok (.bipush 20, 2) := by decide +kernel
theorem dX11_wind_24 : decode cX11_wind 24 = .ok (.invokestatic 105, 3) := by decide +kernel
theorem dX11_wind_27 : decode cX11_wind 27 = .ok (.ifCond .ne 5, 3) := by decide +kernel
theorem dX11_wind_30 : decode cX11_wind 30 = .ok (.iconst 0, 1) := by decide +kernel
theorem dX11_wind_31 : decode cX11_wind 31 = .ok (.ireturn, 1) := by decide +kernel
theorem dX11_wind_32 : decode cX11_wind 32 = .ok (.aload_n 0, 1) := by decide +kernel
theorem dX11_wind_33 : decode cX11_wind 33 = .ok (.getfield 10, 3) := by decide +kernel
theorem dX11_wind_36 : decode cX11_wind 36 = .ok (.iload_n 1, 1) := by decide +kernel
theorem dX11_wind_37 : decode cX11_wind 37 = .ok (.iload_n 2, 1) := by decide +kernel
theorem dX11_wind_38 : decode cX11_wind 38 = .ok (.iload_n 3, 1) := by decide +kernel
theorem dX11_wind_39 : decode cX11_wind 39 = .ok (.invokevirtual 139, 3) := by decide +kernel
theorem dX11_wind_42 : decode cX11_wind 42 = .ok (.iconst 1, 1) := by decide +kernel
theorem dX11_wind_43 : decode cX11_wind 43 = .ok (.ireturn, 1) := by decide +kernel
theorem dX11_coin_0 : decode cX11_coin 0 = .ok (.iload_n 1, 1) := by decide +kernel
theorem dX11_coin_1 : decode cX11_coin 1 = .ok (.invokestatic 143, 3) := by decide +kernel
theorem dX11_coin_4 : decode cX11_coin 4 = .ok (.ifCond .eq 13, 3) := by decide +kernel
theorem dX11_coin_7 : decode cX11_coin 7 = .ok (.iload_n 2, 1) := by decide +kernel
theorem dX11_coin_8 : decode cX11_coin 8 = .ok (.iconst 0, 1) := by decide +kernel
theorem dX11_coin_9 : decode cX11_coin 9 = .ok (.ldc 146, 2) := by decide +kernel
theorem dX11_coin_11 : decode cX11_coin 11 = .ok (.invokestatic 105, 3) := by decide +kernel
theorem dX11_coin_14 : decode cX11_coin 14 = .ok (.ifCond .ne 5, 3) := by decide +kernel
theorem dX11_coin_17 : decode cX11_coin 17 = .ok (.iconst 0, 1) := by decide +kernel
theorem dX11_coin_18 : decode cX11_coin 18 = .ok (.ireturn, 1) := by decide +kernel
theorem dX11_coin_19 : decode cX11_coin 19 = .ok (.aload_n 0, 1) := by decide +kernel
theorem dX11_coin_20 : decode cX11_coin 20 = .ok (.getfield 10, 3) := by decide +kernel
theorem dX11_coin_23 : decode cX11_coin 23 = .ok (.getfield 147, 3) := by decide +kernel
theorem dX11_coin_26 : decode cX11_coin 26 = .ok (.iload_n 1, 1) := by decide +kernel
theorem dX11_coin_27 : decode cX11_coin 27 = .ok (.iload_n 2, 1) := by decide +kernel
theorem dX11_coin_28 : decode cX11_coin 28 = .ok (.iastore, 1) := by decide +kernel
theorem dX11_coin_29 : decode cX11_coin 29 = .ok (.iconst 1, 1) := by decide +kernel
theorem dX11_coin_30 : decode cX11_coin 30 = .ok (.ireturn, 1) := by decide +kernel
theorem dX11_engine_0 : decode cX11_engine 0 = .ok (.iload_n 1, 1) := by decide +kernel
theorem dX11_engine_1 : decode cX11_engine 1 = .ok (.iload_n 3, 1) := by decide +kernel
theorem dX11_engine_2 : decode cX11_engine 2 = .ok (.iload 4, 2) := by decide +kernel
theorem dX11_engine_4 : decode cX11_engine 4 = .ok (.invokestatic 150, 3) := by decide +kernel
theorem dX11_engine_7 : decode cX11_engine 7 = .ok (.ifCond .eq 26, 3) := by decide +kernel
theorem dX11_engine_10 : decode cX11_engine 10 = .ok (.aload_n 0, 1) := by decide +kernel
theorem dX11_engine_11 : decode cX11_engine 11 = .ok (.getfield 10, 3) := by decide +kernel
theorem dX11_engine_14 : decode cX11_engine 14 = .ok (.iload_n 2, 1) := by decide +kernel
theorem dX11_engine_15 : decode cX11_engine 15 = .ok (.invokevirtual 120, 3) := by decide +kernel
theorem dX11_engine_18 : decode cX11_engine 18 = .ok (.ifCond .eq 15, 3) := by decide +kernel
theorem dX11_engine_21 : decode cX11_engine 21 = .ok (.aload_n 0, 1) := by decide +kernel
theorem dX11_engine_22 : decode cX11_engine 22 = .ok (.getfield 19, 3) := by decide +kernel
theorem dX11_engine_25 : decode cX11_engine 25 = .ok (.getfield 109, 3) := by decide +kernel
theorem dX11_engine_28 : decode cX11_engine 28 = .ok (.bipush 12, 2) := by decide +kernel
theorem dX11_engine_30 : decode cX11_engine 30 = .ok (.if_icmp .lt 5, 3) := by decide +kernel
theorem dX11_engine_33 : decode cX11_engine 33 = .ok (.iconst (-1), 1) := by decide +kernel
theorem dX11_engine_34 : decode cX11_engine 34 = .ok (.ireturn, 1) := by decide +kernel
theorem dX11_engine_35 : decode cX11_engine 35 = .ok (.aload_n 0, 1) := by decide +kernel
theorem dX11_engine_36 : decode cX11_engine 36 = .ok (.getfield 19, 3) := by decide +kernel
theorem dX11_engine_39 : decode cX11_engine 39 = .ok (.iload_n 1, 1) := by decide +kernel
theorem dX11_engine_40 : decode cX11_engine 40 = .ok (.iload_n 2, 1) := by decide +kernel
theorem dX11_engine_41 : decode cX11_engine 41 = .ok (.iload_n 3, 1) := by decide +kernel
theorem dX11_engine_42 : decode cX11_engine 42 = .ok (.iload 4, 2) := by decide +kernel
theorem dX11_engine_44 : decode cX11_engine 44 = .ok (.invokevirtual 153, 3) := by decide +kernel
theorem dX11_engine_47 : decode cX11_engine 47 = .ok (.aload_n 0, 1) := by decide +kernel
theorem dX11_engine_48 : decode cX11_engine 48 = .ok (.getfield 19, 3) := by decide +kernel
theorem dX11_engine_51 : decode cX11_engine 51 = .ok (.getfield 109, 3) := by decide +kernel
theorem dX11_engine_54 : decode cX11_engine 54 = .ok (.iconst 1, 1) := by decide +kernel
theorem dX11_engine_55 : decode cX11_engine 55 = .ok (.isub, 1) := by decide +kernel
theorem dX11_engine_56 : decode cX11_engine 56 = .ok (.ireturn, 1) := by decide +kernel
theorem dX11_deal_0 : decode cX11_deal 0 = .ok (.iload_n 1, 1) := by decide +kernel
theorem dX11_deal_1 : decode cX11_deal 1 = .ok (.invokestatic 143, 3) := by decide +kernel
theorem dX11_deal_4 : decode cX11_deal 4 = .ok (.ifCond .eq 26, 3) := by decide +kernel
theorem dX11_deal_7 : decode cX11_deal 7 = .ok (.iload_n 2, 1) := by decide +kernel
theorem dX11_deal_8 : decode cX11_deal 8 = .ok (.invokestatic 143, 3) := by decide +kernel
theorem dX11_deal_11 : decode cX11_deal 11 = .ok (.ifCond .eq 19, 3) := by decide +kernel
theorem dX11_deal_14 : decode cX11_deal 14 = .ok (.iload_n 1, 1) := by decide +kernel
theorem dX11_deal_15 : decode cX11_deal 15 = .ok (.iload_n 2, 1) := by decide +kernel
theorem dX11_deal_16 : decode cX11_deal 16 = .ok (.if_icmp .eq 14, 3) := by decide +kernel
theorem dX11_deal_19 : decode cX11_deal 19 = .ok (.iload_n 3, 1) := by decide +kernel
theorem dX11_deal_20 : decode cX11_deal 20 = .ok (.iconst 0, 1) := by decide +kernel
theorem dX11_deal_21 : decode cX11_deal 21 = .ok (.sipush 1000, 3) := by decide +kernel
theorem dX11_deal_24 : decode cX11_deal 24 = .ok (.invokestatic 105, 3) := by decide +kernel
theorem dX11_deal_27 : decode cX11_deal 27 = .ok (.ifCond .ne 5, 3) := by decide +kernel
theorem dX11_deal_30 : decode cX11_deal 30 = .ok (.iconst 0, 1) := by decide +kernel
theorem dX11_deal_31 : decode cX11_deal 31 = .ok (.ireturn, 1) := by decide +kernel
theorem dX11_deal_32 : decode cX11_deal 32 = .ok (.aload_n 0, 1) := by decide +kernel
theorem dX11_deal_33 : decode cX11_deal 33 = .ok (.getfield 10, 3) := by decide +kernel
theorem dX11_deal_36 : decode cX11_deal 36 = .ok (.getfield 156, 3) := by decide +kernel
theorem dX11_deal_39 : decode cX11_deal 39 = .ok (.iload_n 1, 1) := by decide +kernel
theorem dX11_deal_40 : decode cX11_deal 40 = .ok (.aaload, 1) := by decide +kernel
theorem dX11_deal_41 : decode cX11_deal 41 = .ok (.iload_n 2, 1) := by decide +kernel
theorem dX11_deal_42 : decode cX11_deal 42 = .ok (.iload_n 3, 1) := by decide +kernel
theorem dX11_deal_43 : decode cX11_deal 43 = .ok (.iastore, 1) := by decide +kernel
theorem dX11_deal_44 : decode cX11_deal 44 = .ok (.iconst 1, 1) := by decide +kernel
theorem dX11_deal_45 : decode cX11_deal 45 = .ok (.ireturn, 1) := by decide +kernel
theorem dX11_terms_0 : decode cX11_terms 0 = .ok (.iload_n 1, 1) := by decide +kernel
theorem dX11_terms_1 : decode cX11_terms 1 = .ok (.invokestatic 143, 3) := by decide +kernel
theorem dX11_terms_4 : decode cX11_terms 4 = .ok (.ifCond .eq 13, 3) := by decide +kernel
theorem dX11_terms_7 : decode cX11_terms 7 = .ok (.aload_n 0, 1) := by decide +kernel
theorem dX11_terms_8 : decode cX11_terms 8 = .ok (.getfield 33, 3) := by decide +kernel
theorem dX11_terms_11 : decode cX11_terms 11 = .ok (.invokevirtual 160, 3) := by decide +kernel
theorem dX11_terms_14 : decode cX11_terms 14 = .ok (.ifCond .eq 14, 3) := by decide +kernel
theorem dX11_terms_17 : decode cX11_terms 17 = .ok (.aload_n 0, 1) := by decide +kernel
theorem dX11_terms_18 : decode cX11_terms 18 = .ok (.getfield 26, 3) := by decide +kernel
theorem dX11_terms_21 : decode cX11_terms 21 = .ok (.iconst 0, 1) := by decide +kernel
theorem dX11_terms_22 : decode cX11_terms 22 = .ok (.putfield 97, 3) := by decide +kernel
theorem dX11_terms_25 : decode cX11_terms 25 = .ok (.bipush (-2), 2) := by decide +kernel
theorem dX11_terms_27 : decode cX11_terms 27 = .ok (.ireturn, 1) := by decide +kernel
theorem dX11_terms_28 : decode cX11_terms 28 = .ok (.aload_n 0, 1) := by decide +kernel
theorem dX11_terms_29 : decode cX11_terms 29 = .ok (.getfield 26, 3) := by decide +kernel
theorem dX11_terms_32 : decode cX11_terms 32 = .ok (.invokevirtual 164, 3) := by decide +kernel
theorem dX11_terms_35 : decode cX11_terms 35 = .ok (.astore_n 2, 1) := by decide +kernel
theorem dX11_terms_36 : decode cX11_terms 36 = .ok (.aload_n 0, 1) := by decide +kernel
theorem dX11_terms_37 : decode cX11_terms 37 = .ok (.getfield 26, 3) := by decide +kernel
theorem dX11_terms_40 : decode cX11_terms 40 = .ok (.iconst 0, 1) := by decide +kernel
theorem dX11_terms_41 : decode cX11_terms 41 = .ok (.putfield 97, 3) := by decide +kernel
theorem dX11_terms_44 : decode cX11_terms 44 = .ok (.aload_n 2, 1) := by decide +kernel
theorem dX11_terms_45 : decode cX11_terms 45 = .ok (.ifnonnull 5, 3) := by decide +kernel
theorem dX11_terms_48 : decode cX11_terms 48 = .ok (.iconst (-1), 1) := by decide +kernel
theorem dX11_terms_49 : decode cX11_terms 49 = .ok (.ireturn, 1) := by decide +kernel
theorem dX11_terms_50 : decode cX11_terms 50 = .ok (.aload_n 0, 1) := by decide +kernel
theorem dX11_terms_51 : decode cX11_terms 51 = .ok (.getfield 33, 3) := by decide +kernel
theorem dX11_terms_54 : decode cX11_terms 54 = .ok (.iload_n 1, 1) := by decide +kernel
theorem dX11_terms_55 : decode cX11_terms 55 = .ok (.aload_n 2, 1) := by decide +kernel
theorem dX11_terms_56 : decode cX11_terms 56 = .ok (.invokevirtual 168, 3) := by decide +kernel
theorem dX11_terms_59 : decode cX11_terms 59 = .ok (.ireturn, 1) := by decide +kernel
theorem dX11_fault_0 : decode cX11_fault 0 = .ok (.iload_n 1, 1) := by decide +kernel
theorem dX11_fault_1 : decode cX11_fault 1 = .ok (.ifCond .ne 11, 3) := by decide +kernel
theorem dX11_fault_4 : decode cX11_fault 4 = .ok (.aload_n 0, 1) := by decide +kernel
theorem dX11_fault_5 : decode cX11_fault 5 = .ok (.getfield 26, 3) := by decide +kernel
theorem dX11_fault_8 : decode cX11_fault 8 = .ok (.getfield 172, 3) := by decide +kernel
theorem dX11_fault_11 : decode cX11_fault 11 = .ok (.ireturn, 1) := by decide +kernel
theorem dX11_fault_12 : decode cX11_fault 12 = .ok (.iload_n 1, 1) := by decide +kernel
theorem dX11_fault_13 : decode cX11_fault 13 = .ok (.iconst 1, 1) := by decide +kernel
theorem dX11_fault_14 : decode cX11_fault 14 = .ok (.if_icmp .ne 13, 3) := by decide +kernel
theorem dX11_fault_17 : decode cX11_fault 17 = .ok (.aload_n 0, 1) := by decide +kernel
theorem dX11_fault_18 : decode cX11_fault 18 = .ok (.getfield 26, 3) := by decide +kernel
theorem dX11_fault_21 : decode cX11_fault 21 = .ok (.getfield 175, 3) := by decide +kernel
theorem dX11_fault_24 : decode cX11_fault 24 = .ok (.goto 4, 3) := by decide +kernel
theorem dX11_fault_27 : decode cX11_fault 27 = .ok (.iconst (-1), 1) := by decide +kernel
theorem dX11_fault_28 : decode cX11_fault 28 = .ok (.ireturn, 1) := by decide +kernel
theorem dX11_policy_0 : decode cX11_policy 0 = .ok (.aload_n 0, 1) := by decide +kernel
theorem dX11_policy_1 : decode cX11_policy 1 = .ok (.getfield 10, 3) := by decide +kernel
theorem dX11_policy_4 : decode cX11_policy 4 = .ok (.iload_n 1, 1) := by decide +kernel
theorem dX11_policy_5 : decode cX11_policy 5 = .ok (.invokevirtual 178, 3) := by decide +kernel
theorem dX11_policy_8 : decode cX11_policy 8 = .ok (.ifCond .eq 30, 3) := by decide +kernel
theorem dX11_policy_11 : decode cX11_policy 11 = .ok (.iload_n 2, 1) := by decide +kernel
theorem dX11_policy_12 : decode cX11_policy 12 = .ok (.invokestatic 143, 3) := by decide +kernel
theorem dX11_policy_15 : decode cX11_policy 15 = .ok (.ifCond .eq 23, 3) := by decide +kernel
theorem dX11_policy_18 : decode cX11_policy 18 = .ok (.iload_n 3, 1) := by decide +kernel
theorem dX11_policy_19 : decode cX11_policy 19 = .ok (.iconst 1, 1) := by decide +kernel
theorem dX11_policy_20 : decode cX11_policy 20 = .ok (.ldc 181, 2) := by decide +kernel
theorem dX11_policy_22 : decode cX11_policy 22 = .ok (.invokestatic 105, 3) := by decide +kernel
theorem dX11_policy_25 : decode cX11_policy 25 = .ok (.ifCond .eq 13, 3) := by decide +kernel
theorem dX11_policy_28 : decode cX11_policy 28 = .ok (.aload_n 0, 1) := by decide +kernel
theorem dX11_policy_29 : decode cX11_policy 29 = .ok (.getfield 33, 3) := by decide +kernel
theorem dX11_policy_32 : decode cX11_policy 32 = .ok (.invokevirtual 160, 3) := by decide +kernel
theorem dX11_policy_35 : decode cX11_policy 35 = .ok (.ifCond .eq 5, 3) := by decide +kernel
theorem dX11_policy_38 : decode cX11_policy 38 = .ok (.iconst (-1), 1) := by decide +kernel
theorem dX11_policy_39 : decode cX11_policy 39 = .ok (.ireturn, 1) := by decide +kernel
theorem dX11_policy_40 : decode cX11_policy 40 = .ok (.aload_n 0, 1) := by decide +kernel
theorem dX11_policy_41 : decode cX11_policy 41 = .ok (.getfield 33, 3) := by decide +kernel
theorem dX11_policy_44 : decode cX11_policy 44 = .ok (.iload_n 1, 1) := by decide +kernel
theorem dX11_policy_45 : decode cX11_policy 45 = .ok (.iload_n 2, 1) := by decide +kernel
theorem dX11_policy_46 : decode cX11_policy 46 = .ok (.iload_n 3, 1) := by decide +kernel
theorem dX11_policy_47 : decode cX11_policy 47 = .ok (.invokevirtual 182, 3) := by decide +kernel
theorem dX11_policy_50 : decode cX11_policy 50 = .ok (.ireturn, 1) := by decide +kernel
theorem dX11_annul_0 : decode cX11_annul 0 = .ok (.aload_n 0, 1) := by decide +kernel
theorem dX11_annul_1 : decode cX11_annul 1 = .ok (.getfield 33, 3) := by decide +kernel
theorem dX11_annul_4 : decode cX11_annul 4 = .ok (.iload_n 1, 1) := by decide +kernel
theorem dX11_annul_5 : decode cX11_annul 5 = .ok (.invokevirtual 186, 3) := by decide +kernel
theorem dX11_annul_8 : decode cX11_annul 8 = .ok (.ifCond .eq 13, 3) := by decide +kernel
theorem dX11_annul_11 : decode cX11_annul 11 = .ok (.aload_n 0, 1) := by decide +kernel
theorem dX11_annul_12 : decode cX11_annul 12 = .ok (.getfield 33, 3) := by decide +kernel
theorem dX11_annul_15 : decode cX11_annul 15 = .ok (.invokevirtual 160, 3) := by decide +kernel
theorem dX11_annul_18 : decode cX11_annul 18 = .ok (.ifCond .eq 5, 3) := by decide +kernel
theorem dX11_annul_21 : decode cX11_annul 21 = .ok (.iconst (-1), 1) := by decide +kernel
theorem dX11_annul_22 : decode cX11_annul 22 = .ok (.ireturn, 1) := by decide +kernel
theorem dX11_annul_23 : decode cX11_annul 23 = .ok (.aload_n 0, 1) := by decide +kernel
theorem dX11_annul_24 : decode cX11_annul 24 = .ok (.getfield 33, 3) := by decide +kernel
theorem dX11_annul_27 : decode cX11_annul 27 = .ok (.iload_n 1, 1) := by decide +kernel
theorem dX11_annul_28 : decode cX11_annul 28 = .ok (.invokevirtual 189, 3) := by decide +kernel
theorem dX11_annul_31 : decode cX11_annul 31 = .ok (.ireturn, 1) := by decide +kernel
theorem dX11_as_0 : decode cX11_as 0 = .ok (.iload_n 1, 1) := by decide +kernel
theorem dX11_as_1 : decode cX11_as 1 = .ok (.iconst (-1), 1) := by decide +kernel
theorem dX11_as_2 : decode cX11_as 2 = .ok (.aload_n 0, 1) := by decide +kernel
theorem dX11_as_3 : decode cX11_as 3 = .ok (.getfield 33, 3) := by decide +kernel
theorem dX11_as_6 : decode cX11_as 6 = .ok (.getfield 193, 3) := by decide +kernel
theorem dX11_as_9 : decode cX11_as 9 = .ok (.invokestatic 105, 3) := by decide +kernel
theorem dX11_as_12 : decode cX11_as 12 = .ok (.ifCond .ne 5, 3) := by decide +kernel
theorem dX11_as_15 : decode cX11_as 15 = .ok (.iconst 0, 1) := by decide +kernel
theorem dX11_as_16 : decode cX11_as 16 = .ok (.ireturn, 1) := by decide +kernel
theorem dX11_as_17 : decode cX11_as 17 = .ok (.aload_n 0, 1) := by decide +kernel
theorem dX11_as_18 : decode cX11_as 18 = .ok (.getfield 33, 3) := by decide +kernel
theorem dX11_as_21 : decode cX11_as 21 = .ok (.iload_n 1, 1) := by decide +kernel
theorem dX11_as_22 : decode cX11_as 22 = .ok (.putfield 194, 3) := by decide +kernel
theorem dX11_as_25 : decode cX11_as 25 = .ok (.iconst 1, 1) := by decide +kernel
theorem dX11_as_26 : decode cX11_as 26 = .ok (.ireturn, 1) := by decide +kernel
theorem dX11_force_0 : decode cX11_force 0 = .ok (.iload_n 1, 1) := by decide +kernel
theorem dX11_force_1 : decode cX11_force 1 = .ok (.invokestatic 143, 3) := by decide +kernel
theorem dX11_force_4 : decode cX11_force 4 = .ok (.ifCond .ne 5, 3) := by decide +kernel
theorem dX11_force_7 : decode cX11_force 7 = .ok (.iconst (-1), 1) := by decide +kernel
theorem dX11_force_8 : decode cX11_force 8 = .ok (.ireturn, 1) := by decide +kernel
theorem dX11_force_9 : decode cX11_force 9 = .ok (.aload_n 0, 1) := by decide +kernel
theorem dX11_force_10 : decode cX11_force 10 = .ok (.getfield 40, 3) := by decide +kernel
theorem dX11_force_13 : decode cX11_force 13 = .ok (.aload_n 0, 1) := by decide +kernel
theorem dX11_force_14 : decode cX11_force 14 = .ok (.getfield 33, 3) := by decide +kernel
theorem dX11_force_17 : decode cX11_force 17 = .ok (.invokevirtual 197, 3) := by decide +kernel
theorem dX11_force_20 : decode cX11_force 20 = .ok (.aload_n 0, 1) := by decide +kernel
theorem dX11_force_21 : decode cX11_force 21 = .ok (.getfield 40, 3) := by decide +kernel
theorem dX11_force_24 : decode cX11_force 24 = .ok (.getfield 201, 3) := by decide +kernel
theorem dX11_force_27 : decode cX11_force 27 = .ok (.iload_n 1, 1) := by decide +kernel
theorem dX11_force_28 : decode cX11_force 28 = .ok (.aaload, 1) := by decide +kernel
theorem dX11_force_29 : decode cX11_force 29 = .ok (.astore_n 2, 1) := by decide +kernel
theorem dX11_force_30 : decode cX11_force 30 = .ok (.aload_n 2, 1) := by decide +kernel
theorem dX11_force_31 : decode cX11_force 31 = .ok (.ifnonnull 7, 3) := by decide +kernel
theorem dX11_force_34 : decode cX11_force 34 = .ok (.iconst (-1), 1) := by decide +kernel
theorem dX11_force_35 : decode cX11_force 35 = .ok (.goto 7, 3) := by decide +kernel
theorem dX11_force_38 : decode cX11_force 38 = .ok (.aload_n 2, 1) := by decide +kernel
theorem dX11_force_39 : decode cX11_force 39 = .ok (.getfield 205, 3) := by decide +kernel
theorem dX11_force_42 : decode cX11_force 42 = .ok (.ireturn, 1) := by decide +kernel
theorem dX11_premium_0 : decode cX11_premium 0 = .ok (.aload_n 0, 1) := by decide +kernel
theorem dX11_premium_1 : decode cX11_premium 1 = .ok (.getfield 33, 3) := by decide +kernel
theorem dX11_premium_4 : decode cX11_premium 4 = .ok (.iload_n 1, 1) := by decide +kernel
theorem dX11_premium_5 : decode cX11_premium 5 = .ok (.invokevirtual 208, 3) := by decide +kernel
theorem dX11_premium_8 : decode cX11_premium 8 = .ok (.ifCond .eq 21, 3) := by decide +kernel
theorem dX11_premium_11 : decode cX11_premium 11 = .ok (.aload_n 0, 1) := by decide +kernel
theorem dX11_premium_12 : decode cX11_premium 12 = .ok (.getfield 33, 3) := by decide +kernel
theorem dX11_premium_15 : decode cX11_premium 15 = .ok (.iload_n 1, 1) := by decide +kernel
theorem dX11_premium_16 : decode cX11_premium 16 = .ok (.aload_n 0, 1) := by decide +kernel
theorem dX11_premium_17 : decode cX11_premium 17 = .ok (.getfield 33, 3) := by decide +kernel
theorem dX11_premium_20 : decode cX11_premium 20 = .ok (.invokevirtual 211, 3) := by decide +kernel
theorem dX11_premium_23 : decode cX11_premium 23 = .ok (.invokevirtual 215, 3) := by decide +kernel
theorem dX11_premium_26 : decode cX11_premium 26 = .ok (.ifCond .ne 5, 3) := by decide +kernel
theorem dX11_premium_29 : decode cX11_premium 29 = .ok (.iconst (-1), 1) := by decide +kernel
theorem dX11_premium_30 : decode cX11_premium 30 = .ok (.ireturn, 1) := by decide +kernel
theorem dX11_premium_31 : decode cX11_premium 31 = .ok (.aload_n 0, 1) := by decide +kernel
theorem dX11_premium_32 : decode cX11_premium 32 = .ok (.getfield 40, 3) := by decide +kernel
theorem dX11_premium_35 : decode cX11_premium 35 = .ok (.aload_n 0, 1) := by decide +kernel
theorem dX11_premium_36 : decode cX11_premium 36 = .ok (.getfield 33, 3) := by decide +kernel
theorem dX11_premium_39 : decode cX11_premium 39 = .ok (.invokevirtual 197, 3) := by decide +kernel
theorem dX11_premium_42 : decode cX11_premium 42 = .ok (.aload_n 0, 1) := by decide +kernel
theorem dX11_premium_43 : decode cX11_premium 43 = .ok (.getfield 33, 3) := by decide +kernel
theorem dX11_premium_46 : decode cX11_premium 46 = .ok (.getfield 219, 3) := by decide +kernel
theorem dX11_premium_49 : decode cX11_premium 49 = .ok (.iload_n 1, 1) := by decide +kernel
theorem dX11_premium_50 : decode cX11_premium 50 = .ok (.iaload, 1) := by decide +kernel
theorem dX11_premium_51 : decode cX11_premium 51 = .ok (.istore_n 2, 1) := by decide +kernel
theorem dX11_premium_52 : decode cX11_premium 52 = .ok (.aload_n 0, 1) := by decide +kernel
theorem dX11_premium_53 : decode cX11_premium 53 = .ok (.getfield 49, 3) := by decide +kernel
theorem dX11_premium_56 : decode cX11_premium 56 = .ok (.iload_n 2, 1) := by decide +kernel
theorem dX11_premium_57 : decode cX11_premium 57 = .ok (.invokevirtual 222, 3) := by decide +kernel
theorem dX11_premium_60 : decode cX11_premium 60 = .ok (.aload_n 0, 1) := by decide +kernel
theorem dX11_premium_61 : decode cX11_premium 61 = .ok (.getfield 49, 3) := by decide +kernel
theorem dX11_premium_64 : decode cX11_premium 64 = .ok (.aload_n 0, 1) := by decide +kernel
theorem dX11_premium_65 : decode cX11_premium 65 = .ok (.getfield 33, 3) := by decide +kernel
theorem dX11_premium_68 : decode cX11_premium 68 = .ok (.getfield 225, 3) := by decide +kernel
theorem dX11_premium_71 : decode cX11_premium 71 = .ok (.iload_n 1, 1) := by decide +kernel
theorem dX11_premium_72 : decode cX11_premium 72 = .ok (.iaload, 1) := by decide +kernel
theorem dX11_premium_73 : decode cX11_premium 73 = .ok (.aload_n 0, 1) := by decide +kernel
theorem dX11_premium_74 : decode cX11_premium 74 = .ok (.getfield 40, 3) := by decide +kernel
theorem dX11_premium_77 : decode cX11_premium 77 = .ok (.getfield 228, 3) := by decide +kernel
theorem dX11_premium_80 : decode cX11_premium 80 = .ok (.iload_n 2, 1) := by decide +kernel
theorem dX11_premium_81 : decode cX11_premium 81 = .ok (.iaload, 1) := by decide +kernel
theorem dX11_premium_82 : decode cX11_premium 82 = .ok (.iconst 1, 1) := by decide +kernel
theorem dX11_premium_83 : decode cX11_premium 83 = .ok (.isub, 1) := by decide +kernel
theorem dX11_premium_84 : decode cX11_premium 84 = .ok (.iconst 0, 1) := by decide +kernel
theorem dX11_premium_85 : decode cX11_premium 85 = .ok (.invokevirtual 231, 3) := by decide +kernel
theorem dX11_premium_88 : decode cX11_premium 88 = .ok (.aload_n 0, 1) := by decide +kernel
theorem dX11_premium_89 : decode cX11_premium 89 = .ok (.getfield 49, 3) := by decide +kernel
theorem dX11_premium_92 : decode cX11_premium 92 = .ok (.aload_n 0, 1) := by decide +kernel
theorem dX11_premium_93 : decode cX11_premium 93 = .ok (.getfield 40, 3) := by decide +kernel
theorem dX11_premium_96 : decode cX11_premium 96 = .ok (.getfield 201, 3) := by decide +kernel
theorem dX11_premium_99 : decode cX11_premium 99 = .ok (.aload_n 0, 1) := by decide +kernel
theorem dX11_premium_100 : decode cX11_premium 100 = .ok (.getfield 33, 3) := by decide +kernel
theorem dX11_premium_103 : decode cX11_premium 103 = .ok (.getfield 234, 3) := by decide +kernel
theorem dX11_premium_106 : decode cX11_premium 106 = .ok (.iload_n 1, 1) := by decide +kernel
theorem dX11_premium_107 : decode cX11_premium 107 = .ok (.iaload, 1) := by decide +kernel
theorem dX11_premium_108 : decode cX11_premium 108 = .ok (.aaload, 1) := by decide +kernel
theorem dX11_premium_109 : decode cX11_premium 109 = .ok (.invokevirtual 237, 3) := by decide +kernel
theorem dX11_premium_112 : decode cX11_premium 112 = .ok (.ireturn, 1) := by decide +kernel
theorem dX11_helps_0 : decode cX11_helps 0 = .ok (.aload_n 0, 1) := by decide +kernel
theorem dX11_helps_1 : decode cX11_helps 1 = .ok (.getfield 10, 3) := by decide +kernel
theorem dX11_helps_4 : decode cX11_helps 4 = .ok (.iload_n 1, 1) := by decide +kernel
theorem dX11_helps_5 : decode cX11_helps 5 = .ok (.invokevirtual 178, 3) := by decide +kernel
theorem dX11_helps_8 : decode cX11_helps 8 = .ok (.ifCond .ne 5, 3) := by decide +kernel
theorem dX11_helps_11 : decode cX11_helps 11 = .ok (.iconst (-1), 1) := by decide +kernel
theorem dX11_helps_12 : decode cX11_helps 12 = .ok (.ireturn, 1) := by decide +kernel
theorem dX11_helps_13 : decode cX11_helps 13 = .ok (.aload_n 0, 1) := by decide +kernel
theorem dX11_helps_14 : decode cX11_helps 14 = .ok (.getfield 40, 3) := by decide +kernel
theorem dX11_helps_17 : decode cX11_helps 17 = .ok (.aload_n 0, 1) := by decide +kernel
theorem dX11_helps_18 : decode cX11_helps 18 = .ok (.getfield 33, 3) := by decide +kernel
theorem dX11_helps_21 : decode cX11_helps 21 = .ok (.invokevirtual 197, 3) := by decide +kernel
theorem dX11_helps_24 : decode cX11_helps 24 = .ok (.aload_n 0, 1) := by decide +kernel
theorem dX11_helps_25 : decode cX11_helps 25 = .ok (.getfield 49, 3) := by decide +kernel
theorem dX11_helps_28 : decode cX11_helps 28 = .ok (.iload_n 1, 1) := by decide +kernel
theorem dX11_helps_29 : decode cX11_helps 29 = .ok (.invokevirtual 241, 3) := by decide +kernel
theorem dX11_helps_32 : decode cX11_helps 32 = .ok (.ireturn, 1) := by decide +kernel
theorem dX11_run_0 : decode cX11_run 0 = .ok (.aload_n 0, 1) := by decide +kernel
theorem dX11_run_1 : decode cX11_run 1 = .ok (.getfield 10, 3) := by decide +kernel
theorem dX11_run_4 : decode cX11_run 4 = .ok (.iload_n 1, 1) := by decide +kernel
theorem dX11_run_5 : decode cX11_run 5 = .ok (.invokevirtual 178, 3) := by decide +kernel
theorem dX11_run_8 : decode cX11_run 8 = .ok (.ifCond .eq 13, 3) := by decide +kernel
theorem dX11_run_11 : decode cX11_run 11 = .ok (.iload_n 2, 1) := by decide +kernel
theorem dX11_run_12 : decode cX11_run 12 = .ok (.iconst 1, 1) := by decide +kernel
theorem dX11_run_13 : decode cX11_run 13 = .ok (.bipush 120, 2) := by decide +kernel
theorem dX11_run_15 : decode cX11_run 15 = .ok (.invokestatic 105, 3) := by decide +kernel
theorem dX11_run_18 : decode cX11_run 18 = .ok (.ifCond .ne 5, 3) := by decide +kernel
theorem dX11_run_21 : decode cX11_run 21 = .ok (.iconst (-1), 1) := by decide +kernel
theorem dX11_run_22 : decode cX11_run 22 = .ok (.ireturn, 1) := by decide +kernel
theorem dX11_run_23 : decode cX11_run 23 = .ok (.aload_n 0, 1) := by decide +kernel
theorem dX11_run_24 : decode cX11_run 24 = .ok (.invokevirtual 244, 3) := by decide +kernel
theorem dX11_run_27 : decode cX11_run 27 = .ok (.aload_n 0, 1) := by decide +kernel
theorem dX11_run_28 : decode cX11_run 28 = .ok (.getfield 58, 3) := by decide +kernel
theorem dX11_run_31 : decode cX11_run 31 = .ok (.iload_n 1, 1) := by decide +kernel
theorem dX11_run_32 : decode cX11_run 32 = .ok (.iload_n 2, 1) := by decide +kernel
theorem dX11_run_33 : decode cX11_run 33 = .ok (.aload_n 0, 1) := by decide +kernel
theorem dX11_run_34 : decode cX11_run 34 = .ok (.getfield 40, 3) := by decide +kernel
theorem dX11_run_37 : decode cX11_run 37 = .ok (.getfield 247, 3) := by decide +kernel
theorem dX11_run_40 : decode cX11_run 40 = .ok (.invokevirtual 250, 3) := by decide +kernel
theorem dX11_run_43 : decode cX11_run 43 = .ok (.aload_n 0, 1) := by decide +kernel
theorem dX11_run_44 : decode cX11_run 44 = .ok (.getfield 67, 3) := by decide +kernel
theorem dX11_run_47 : decode cX11_run 47 = .ok (.aload_n 0, 1) := by decide +kernel
theorem dX11_run_48 : decode cX11_run 48 = .ok (.getfield 58, 3) := by decide +kernel
theorem dX11_run_51 : decode cX11_run 51 = .ok (.invokevirtual 254, 3) := by decide +kernel
theorem dX11_run_54 : decode cX11_run 54 = .ok (.aload_n 0, 1) := by decide +kernel
theorem dX11_run_55 : decode cX11_run 55 = .ok (.getfield 58, 3) := by decide +kernel
theorem dX11_run_58 : decode cX11_run 58 = .ok (.invokevirtual 258, 3) := by decide +kernel
theorem dX11_run_61 : decode cX11_run 61 = .ok (.ireturn, 1) := by decide +kernel
theorem dX11_burnt_0 : decode cX11_burnt 0 = .ok (.aload_n 0, 1) := by decide +kernel
theorem dX11_burnt_1 : decode cX11_burnt 1 = .ok (.getfield 58, 3) := by decide +kernel
theorem dX11_burnt_4 : decode cX11_burnt 4 = .ok (.getfield 115, 3) := by decide +kernel
theorem dX11_burnt_7 : decode cX11_burnt 7 = .ok (.ifCond .eq 26, 3) := by decide +kernel
theorem dX11_burnt_10 : decode cX11_burnt 10 = .ok (.aload_n 0, 1) := by decide +kernel
theorem dX11_burnt_11 : decode cX11_burnt 11 = .ok (.getfield 10, 3) := by decide +kernel
theorem dX11_burnt_14 : decode cX11_burnt 14 = .ok (.iload_n 1, 1) := by decide +kernel
theorem dX11_burnt_15 : decode cX11_burnt 15 = .ok (.invokevirtual 120, 3) := by decide +kernel
theorem dX11_burnt_18 : decode cX11_burnt 18 = .ok (.ifCond .eq 15, 3) := by decide +kernel
theorem dX11_burnt_21 : decode cX11_burnt 21 = .ok (.aload_n 0, 1) := by decide +kernel
theorem dX11_burnt_22 : decode cX11_burnt 22 = .ok (.getfield 58, 3) := by decide +kernel
theorem dX11_burnt_25 : decode cX11_burnt 25 = .ok (.getfield 261, 3) := by decide +kernel
theorem dX11_burnt_28 : decode cX11_burnt 28 = .ok (.iload_n 1, 1) := by decide +kernel
theorem dX11_burnt_29 : decode cX11_burnt 29 = .ok (.baload, 1) := by decide +kernel
theorem dX11_burnt_30 : decode cX11_burnt 30 = .ok (.ifCond .ne 5, 3) := by decide +kernel
theorem dX11_burnt_33 : decode cX11_burnt 33 = .ok (.iconst (-1), 1) := by decide +kernel
theorem dX11_burnt_34 : decode cX11_burnt 34 = .ok (.ireturn, 1) := by decide +kernel
theorem dX11_burnt_35 : decode cX11_burnt 35 = .ok (.aload_n 0, 1) := by decide +kernel
theorem dX11_burnt_36 : decode cX11_burnt 36 = .ok (.getfield 58, 3) := by decide +kernel
theorem dX11_burnt_39 : decode cX11_burnt 39 = .ok (.iload_n 1, 1) := by decide +kernel
theorem dX11_burnt_40 : decode cX11_burnt 40 = .ok (.iload_n 2, 1) := by decide +kernel
theorem dX11_burnt_41 : decode cX11_burnt 41 = .ok (.invokevirtual 264, 3) := by decide +kernel
theorem dX11_burnt_44 : decode cX11_burnt 44 = .ok (.ireturn, 1) := by decide +kernel
theorem dX11_came_0 : decode cX11_came 0 = .ok (.aload_n 0, 1) := by decide +kernel
theorem dX11_came_1 : decode cX11_came 1 = .ok (.getfield 58, 3) := by decide +kernel
theorem dX11_came_4 : decode cX11_came 4 = .ok (.getfield 115, 3) := by decide +kernel
theorem dX11_came_7 : decode cX11_came 7 = .ok (.ifCond .eq 20, 3) := by decide +kernel
theorem dX11_came_10 : decode cX11_came 10 = .ok (.iload_n 1, 1) := by decide +kernel
theorem dX11_came_11 : decode cX11_came 11 = .ok (.iconst 0, 1) := by decide +kernel
theorem dX11_came_12 : decode cX11_came 12 = .ok (.aload_n 0, 1) := by decide +kernel
theorem dX11_came_13 : decode cX11_came 13 = .ok (.getfield 58, 3) := by decide +kernel
theorem dX11_came_16 : decode cX11_came 16 = .ok (.getfield 268, 3) := by decide +kernel
theorem dX11_came_19 : decode cX11_came 19 = .ok (.iconst 1, 1) := by decide +kernel
theorem dX11_came_20 : decode cX11_came 20 = .ok (.isub, 1) := by decide +kernel
theorem dX11_came_21 : decode cX11_came 21 = .ok (.invokestatic 105, 3) := by decide +kernel
theorem dX11_came_24 : decode cX11_came 24 = .ok (.ifCond .ne 5, 3) := by decide +kernel
theorem dX11_came_27 : decode cX11_came 27 = .ok (.iconst (-1), 1) := by decide +kernel
theorem dX11_came_28 : decode cX11_came 28 = .ok (.ireturn, 1) := by decide +kernel
theorem dX11_came_29 : decode cX11_came 29 = .ok (.aload_n 0, 1) := by decide +kernel
theorem dX11_came_30 : decode cX11_came 30 = .ok (.getfield 58, 3) := by decide +kernel
theorem dX11_came_33 : decode cX11_came 33 = .ok (.iload_n 1, 1) := by decide +kernel
theorem dX11_came_34 : decode cX11_came 34 = .ok (.iload_n 2, 1) := by decide +kernel
theorem dX11_came_35 : decode cX11_came 35 = .ok (.invokevirtual 271, 3) := by decide +kernel
theorem dX11_came_38 : decode cX11_came 38 = .ok (.ireturn, 1) := by decide +kernel
theorem dX11_lost_0 : decode cX11_lost 0 = .ok (.aload_n 0, 1) := by decide +kernel
theorem dX11_lost_1 : decode cX11_lost 1 = .ok (.getfield 58, 3) := by decide +kernel
theorem dX11_lost_4 : decode cX11_lost 4 = .ok (.getfield 115, 3) := by decide +kernel
theorem dX11_lost_7 : decode cX11_lost 7 = .ok (.ifCond .eq 13, 3) := by decide +kernel
theorem dX11_lost_10 : decode cX11_lost 10 = .ok (.aload_n 0, 1) := by decide +kernel
theorem dX11_lost_11 : decode cX11_lost 11 = .ok (.getfield 58, 3) := by decide +kernel
theorem dX11_lost_14 : decode cX11_lost 14 = .ok (.getfield 274, 3) := by decide +kernel
theorem dX11_lost_17 : decode cX11_lost 17 = .ok (.goto 4, 3) := by decide +kernel
theorem dX11_lost_20 : decode cX11_lost 20 = .ok (.iconst (-1), 1) := by decide +kernel
theorem dX11_lost_21 : decode cX11_lost 21 = .ok (.ireturn, 1) := by decide +kernel
theorem dX11_claim_0 : decode cX11_claim 0 = .ok (.aload_n 0, 1) := by decide +kernel
theorem dX11_claim_1 : decode cX11_claim 1 = .ok (.getfield 58, 3) := by decide +kernel
theorem dX11_claim_4 : decode cX11_claim 4 = .ok (.getfield 115, 3) := by decide +kernel
theorem dX11_claim_7 : decode cX11_claim 7 = .ok (.ifCond .eq 26, 3) := by decide +kernel
theorem dX11_claim_10 : decode cX11_claim 10 = .ok (.iload_n 1, 1) := by decide +kernel
theorem dX11_claim_11 : decode cX11_claim 11 = .ok (.iconst 1, 1) := by decide +kernel
theorem dX11_claim_12 : decode cX11_claim 12 = .ok (.sipush 200, 3) := by decide +kernel
theorem dX11_claim_15 : decode cX11_claim 15 = .ok (.invokestatic 105, 3) := by decide +kernel
theorem dX11_claim_18 : decode cX11_claim 18 = .ok (.ifCond .eq 15, 3) := by decide +kernel
theorem dX11_claim_21 : decode cX11_claim 21 = .ok (.aload_n 0, 1) := by decide +kernel
theorem dX11_claim_22 : decode cX11_claim 22 = .ok (.getfield 67, 3) := by decide +kernel
theorem dX11_claim_25 : decode cX11_claim 25 = .ok (.getfield 277, 3) := by decide +kernel
theorem dX11_claim_28 : decode cX11_claim 28 = .ok (.iload_n 1, 1) := by decide +kernel
theorem dX11_claim_29 : decode cX11_claim 29 = .ok (.baload, 1) := by decide +kernel
theorem dX11_claim_30 : decode cX11_claim 30 = .ok (.ifCond .ne 5, 3) := by decide +kernel
theorem dX11_claim_33 : decode cX11_claim 33 = .ok (.iconst (-1), 1) := by decide +kernel
theorem dX11_claim_34 : decode cX11_claim 34 = .ok (.ireturn, 1) := by decide +kernel
theorem dX11_claim_35 : decode cX11_claim 35 = .ok (.iload_n 2, 1) := by decide +kernel
theorem dX11_claim_36 : decode cX11_claim 36 = .ok (.ifCond .ne 13, 3) := by decide +kernel
theorem dX11_claim_39 : decode cX11_claim 39 = .ok (.aload_n 0, 1) := by decide +kernel
theorem dX11_claim_40 : decode cX11_claim 40 = .ok (.getfield 67, 3) := by decide +kernel
theorem dX11_claim_43 : decode cX11_claim 43 = .ok (.getfield 280, 3) := by decide +kernel
theorem dX11_claim_46 : decode cX11_claim 46 = .ok (.iload_n 1, 1) := by decide +kernel
theorem dX11_claim_47 : decode cX11_claim 47 = .ok (.iaload, 1) := by decide +kernel
theorem dX11_claim_48 : decode cX11_claim 48 = .ok (.ireturn, 1) := by decide +kernel
theorem dX11_claim_49 : decode cX11_claim 49 = .ok (.iload_n 2, 1) := by decide +kernel
theorem dX11_claim_50 : decode cX11_claim 50 = .ok (.iconst 1, 1) := by decide +kernel
theorem dX11_claim_51 : decode cX11_claim 51 = .ok (.if_icmp .ne 15, 3) := by decide +kernel
theorem dX11_claim_54 : decode cX11_claim 54 = .ok (.aload_n 0, 1) := by decide +kernel
theorem dX11_claim_55 : decode cX11_claim 55 = .ok (.getfield 67, 3) := by decide +kernel
theorem dX11_claim_58 : decode cX11_claim 58 = .ok (.getfield 283, 3) := by decide +kernel
theorem dX11_claim_61 : decode cX11_claim 61 = .ok (.iload_n 1, 1) := by decide +kernel
theorem dX11_claim_62 : decode cX11_claim 62 = .ok (.iaload, 1) := by decide +kernel
theorem dX11_claim_63 : decode cX11_claim 63 = .ok (.goto 4, 3) := by decide +kernel
theorem dX11_claim_66 : decode cX11_claim 66 = .ok (.iconst (-1), 1) := by decide +kernel
theorem dX11_claim_67 : decode cX11_claim 67 = .ok (.ireturn, 1) := by decide +kernel
theorem dX11_settled_0 : decode cX11_settled 0 = .ok (.aload_n 0, 1) := by decide +kernel
theorem dX11_settled_1 : decode cX11_settled 1 = .ok (.getfield 58, 3) := by decide +kernel
theorem dX11_settled_4 : decode cX11_settled 4 = .ok (.getfield 115, 3) := by decide +kernel
theorem dX11_settled_7 : decode cX11_settled 7 = .ok (.ifCond .eq 22, 3) := by decide +kernel
theorem dX11_settled_10 : decode cX11_settled 10 = .ok (.iload_n 1, 1) := by decide +kernel
theorem dX11_settled_11 : decode cX11_settled 11 = .ok (.invokestatic 143, 3) := by decide +kernel
theorem dX11_settled_14 : decode cX11_settled 14 = .ok (.ifCond .eq 15, 3) := by decide +kernel
theorem dX11_settled_17 : decode cX11_settled 17 = .ok (.aload_n 0, 1) := by decide +kernel
theorem dX11_settled_18 : decode cX11_settled 18 = .ok (.getfield 67, 3) := by decide +kernel
theorem dX11_settled_21 : decode cX11_settled 21 = .ok (.getfield 286, 3) := by decide +kernel
theorem dX11_settled_24 : decode cX11_settled 24 = .ok (.iload_n 1, 1) := by decide +kernel
theorem dX11_settled_25 : decode cX11_settled 25 = .ok (.iaload, 1) := by decide +kernel
theorem dX11_settled_26 : decode cX11_settled 26 = .ok (.goto 4, 3) := by decide +kernel
theorem dX11_settled_29 : decode cX11_settled 29 = .ok (.iconst (-1), 1) := by decide +kernel
theorem dX11_settled_30 : decode cX11_settled 30 = .ok (.ireturn, 1) := by decide +kernel
theorem dX11_fall_0 : decode cX11_fall 0 = .ok (.aload_n 0, 1) := by decide +kernel
theorem dX11_fall_1 : decode cX11_fall 1 = .ok (.getfield 58, 3) := by decide +kernel
theorem dX11_fall_4 : decode cX11_fall 4 = .ok (.getfield 115, 3) := by decide +kernel
theorem dX11_fall_7 : decode cX11_fall 7 = .ok (.ifCond .eq 10, 3) := by decide +kernel
theorem dX11_fall_10 : decode cX11_fall 10 = .ok (.iload_n 1, 1) := by decide +kernel
theorem dX11_fall_11 : decode cX11_fall 11 = .ok (.invokestatic 143, 3) := by decide +kernel
theorem dX11_fall_14 : decode cX11_fall 14 = .ok (.ifCond .ne 7, 3) := by decide +kernel
theorem dX11_fall_17 : decode cX11_fall 17 = .ok (.ldc2_w 289, 3) := by decide +kernel
theorem dX11_fall_20 : decode cX11_fall 20 = .ok (.lreturn, 1) := by decide +kernel
theorem dX11_fall_21 : decode cX11_fall 21 = .ok (.aload_n 0, 1) := by decide +kernel
theorem dX11_fall_22 : decode cX11_fall 22 = .ok (.getfield 80, 3) := by decide +kernel
theorem dX11_fall_25 : decode cX11_fall 25 = .ok (.aload_n 0, 1) := by decide +kernel
theorem dX11_fall_26 : decode cX11_fall 26 = .ok (.getfield 10, 3) := by decide +kernel
theorem dX11_fall_29 : decode cX11_fall 29 = .ok (.aload_n 0, 1) := by decide +kernel
theorem dX11_fall_30 : decode cX11_fall 30 = .ok (.getfield 67, 3) := by decide +kernel
theorem dX11_fall_33 : decode cX11_fall 33 = .ok (.getfield 286, 3) := by decide +kernel
theorem dX11_fall_36 : decode cX11_fall 36 = .ok (.invokevirtual 291, 3) := by decide +kernel
theorem dX11_fall_39 : decode cX11_fall 39 = .ok (.aload_n 0, 1) := by decide +kernel
theorem dX11_fall_40 : decode cX11_fall 40 = .ok (.getfield 80, 3) := by decide +kernel
theorem dX11_fall_43 : decode cX11_fall 43 = .ok (.iload_n 1, 1) := by decide +kernel
theorem dX11_fall_44 : decode cX11_fall 44 = .ok (.iload_n 2, 1) := by decide +kernel
theorem dX11_fall_45 : decode cX11_fall 45 = .ok (.invokevirtual 295, 3) := by decide +kernel
theorem dX11_fall_48 : decode cX11_fall 48 = .ok (.lreturn, 1) := by decide +kernel
theorem dX11_rounds_0 : decode cX11_rounds 0 = .ok (.aload_n 0, 1) := by decide +kernel
theorem dX11_rounds_1 : decode cX11_rounds 1 = .ok (.getfield 58, 3) := by decide +kernel
theorem dX11_rounds_4 : decode cX11_rounds 4 = .ok (.getfield 115, 3) := by decide +kernel
theorem dX11_rounds_7 : decode cX11_rounds 7 = .ok (.ifCond .ne 5, 3) := by decide +kernel
theorem dX11_rounds_10 : decode cX11_rounds 10 = .ok (.iconst (-1), 1) := by decide +kernel
theorem dX11_rounds_11 : decode cX11_rounds 11 = .ok (.ireturn, 1) := by decide +kernel
theorem dX11_rounds_12 : decode cX11_rounds 12 = .ok (.aload_n 0, 1) := by decide +kernel
theorem dX11_rounds_13 : decode cX11_rounds 13 = .ok (.getfield 80, 3) := by decide +kernel
theorem dX11_rounds_16 : decode cX11_rounds 16 = .ok (.aload_n 0, 1) := by decide +kernel
theorem dX11_rounds_17 : decode cX11_rounds 17 = .ok (.getfield 10, 3) := by decide +kernel
theorem dX11_rounds_20 : decode cX11_rounds 20 = .ok (.aload_n 0, 1) := by decide +kernel
theorem dX11_rounds_21 : decode cX11_rounds 21 = .ok (.getfield 67, 3) := by decide +kernel
theorem dX11_rounds_24 : decode cX11_rounds 24 = .ok (.getfield 286, 3) := by decide +kernel
theorem dX11_rounds_27 : decode cX11_rounds 27 = .ok (.invokevirtual 291, 3) := by decide +kernel
theorem dX11_rounds_30 : decode cX11_rounds 30 = .ok (.aload_n 0, 1) := by decide +kernel
theorem dX11_rounds_31 : decode cX11_rounds 31 = .ok (.getfield 80, 3) := by decide +kernel
theorem dX11_rounds_34 : decode cX11_rounds 34 = .ok (.getfield 299, 3) := by decide +kernel
theorem dX11_rounds_37 : decode cX11_rounds 37 = .ok (.ireturn, 1) := by decide +kernel
theorem dX11_worst_0 : decode cX11_worst 0 = .ok (.iload_n 1, 1) := by decide +kernel
theorem dX11_worst_1 : decode cX11_worst 1 = .ok (.invokestatic 143, 3) := by decide +kernel
theorem dX11_worst_4 : decode cX11_worst 4 = .ok (.ifCond .eq 13, 3) := by decide +kernel
theorem dX11_worst_7 : decode cX11_worst 7 = .ok (.iload_n 2, 1) := by decide +kernel
theorem dX11_worst_8 : decode cX11_worst 8 = .ok (.iconst 1, 1) := by decide +kernel
theorem dX11_worst_9 : decode cX11_worst 9 = .ok (.bipush 60, 2) := by decide +kernel
theorem dX11_worst_11 : decode cX11_worst 11 = .ok (.invokestatic 105, 3) := by decide +kernel
theorem dX11_worst_14 : decode cX11_worst 14 = .ok (.ifCond .ne 5, 3) := by decide +kernel
theorem dX11_worst_17 : decode cX11_worst 17 = .ok (.iconst (-1), 1) := by decide +kernel
theorem dX11_worst_18 : decode cX11_worst 18 = .ok (.ireturn, 1) := by decide +kernel
theorem dX11_worst_19 : decode cX11_worst 19 = .ok (.aload_n 0, 1) := by decide +kernel
theorem dX11_worst_20 : decode cX11_worst 20 = .ok (.invokevirtual 244, 3) := by decide +kernel
theorem dX11_worst_23 : decode cX11_worst 23 = .ok (.iconst 0, 1) := by decide +kernel
theorem dX11_worst_24 : decode cX11_worst 24 = .ok (.istore_n 3, 1) := by decide +kernel
theorem dX11_worst_25 : decode cX11_worst 25 = .ok (.iconst (-1), 1) := by decide +kernel
theorem dX11_worst_26 : decode cX11_worst 26 = .ok (.istore 4, 2) := by decide +kernel
theorem dX11_worst_28 : decode cX11_worst 28 = .ok (.iconst 0, 1) := by decide +kernel
theorem dX11_worst_29 : decode cX11_worst 29 = .ok (.istore 5, 2) := by decide +kernel
theorem dX11_worst_31 : decode cX11_worst 31 = .ok (.iload 5, 2) := by decide +kernel
theorem dX11_worst_33 : decode cX11_worst 33 = .ok (.aload_n 0, 1) := by decide +kernel
theorem dX11_worst_34 : decode cX11_worst 34 = .ok (.getfield 10, 3) := by decide +kernel
theorem dX11_worst_37 : decode cX11_worst 37 = .ok (.getfield 302, 3) := by decide +kernel
theorem dX11_worst_40 : decode cX11_worst 40 = .ok (.if_icmp .ge 77, 3) := by decide +kernel
theorem dX11_worst_43 : decode cX11_worst 43 = .ok (.aload_n 0, 1) := by decide +kernel
theorem dX11_worst_44 : decode cX11_worst 44 = .ok (.getfield 10, 3) := by decide +kernel
theorem dX11_worst_47 : decode cX11_worst 47 = .ok (.getfield 305, 3) := by decide +kernel
theorem dX11_worst_50 : decode cX11_worst 50 = .ok (.iload 5, 2) := by decide +kernel
theorem dX11_worst_52 : decode cX11_worst 52 = .ok (.baload, 1) := by decide +kernel
theorem dX11_worst_53 : decode cX11_worst 53 = .ok (.ifCond .eq 58, 3) := by decide +kernel
theorem dX11_worst_56 : decode cX11_worst 56 = .ok (.aload_n 0, 1) := by decide +kernel
theorem dX11_worst_57 : decode cX11_worst 57 = .ok (.getfield 71, 3) := by decide +kernel
theorem dX11_worst_60 : decode cX11_worst 60 = .ok (.iload 5, 2) := by decide +kernel
theorem dX11_worst_62 : decode cX11_worst 62 = .ok (.iload_n 2, 1) := by decide +kernel
theorem dX11_worst_63 : decode cX11_worst 63 = .ok (.aload_n 0, 1) := by decide +kernel
theorem dX11_worst_64 : decode cX11_worst 64 = .ok (.getfield 40, 3) := by decide +kernel
theorem dX11_worst_67 : decode cX11_worst 67 = .ok (.getfield 247, 3) := by decide +kernel
theorem dX11_worst_70 : decode cX11_worst 70 = .ok (.invokevirtual 250, 3) := by decide +kernel
theorem dX11_worst_73 : decode cX11_worst 73 = .ok (.aload_n 0, 1) := by decide +kernel
theorem dX11_worst_74 : decode cX11_worst 74 = .ok (.getfield 74, 3) := by decide +kernel
theorem dX11_worst_77 : decode cX11_worst 77 = .ok (.aload_n 0, 1) := by decide +kernel
theorem dX11_worst_78 : decode cX11_worst 78 = .ok (.getfield 71, 3) := by decide +kernel
theorem dX11_worst_81 : decode cX11_worst 81 = .ok (.invokevirtual 254, 3) := by decide +kernel
theorem dX11_worst_84 : decode cX11_worst 84 = .ok (.aload_n 0, 1) := by decide +kernel
theorem dX11_worst_85 : decode cX11_worst 85 = .ok (.getfield 74, 3) := by decide +kernel
theorem dX11_worst_88 : decode cX11_worst 88 = .ok (.getfield 286, 3) := by decide +kernel
theorem dX11_worst_91 : decode cX11_worst 91 = .ok (.iload_n 1, 1) := by decide +kernel
theorem dX11_worst_92 : decode cX11_worst 92 = .ok (.iaload, 1) := by decide +kernel
theorem dX11_worst_93 : decode cX11_worst 93 = .ok (.iload_n 3, 1) := by decide +kernel
theorem dX11_worst_94 : decode cX11_worst 94 = .ok (.if_icmp .le 17, 3) := by decide +kernel
theorem dX11_worst_97 : decode cX11_worst 97 = .ok (.aload_n 0, 1) := by decide +kernel
theorem dX11_worst_98 : decode cX11_worst 98 = .ok (.getfield 74, 3) := by decide +kernel
theorem dX11_worst_101 : decode cX11_worst 101 = .ok (.getfield 286, 3) := by decide +kernel
theorem dX11_worst_104 : decode cX11_worst 104 = .ok (.iload_n 1, 1) := by decide +kernel
theorem dX11_worst_105 : decode cX11_worst 105 = .ok (.iaload, 1) := by decide +kernel
theorem dX11_worst_106 : decode cX11_worst 106 = .ok (.istore_n 3, 1) := by decide +kernel
theorem dX11_worst_107 : decode cX11_worst 107 = .ok (.iload 5, 2) := by decide +kernel
theorem dX11_worst_109 : decode cX11_worst 109 = .ok (.istore 4, 2) := by decide +kernel
theorem dX11_worst_111 : decode cX11_worst 111 = .ok (.iinc 5 1, 3) := by decide +kernel
theorem dX11_worst_114 : decode cX11_worst 114 = .ok (.goto (-83), 3) := by decide +kernel
theorem dX11_worst_117 : decode cX11_worst 117 = .ok (.iload 4, 2) := by decide +kernel
theorem dX11_worst_119 : decode cX11_worst 119 = .ok (.ireturn, 1) := by decide +kernel
theorem dX11_place_0 : decode cX11_place 0 = .ok (.aload_n 0, 1) := by decide +kernel
theorem dX11_place_1 : decode cX11_place 1 = .ok (.getfield 10, 3) := by decide +kernel
theorem dX11_place_4 : decode cX11_place 4 = .ok (.iload_n 1, 1) := by decide +kernel
theorem dX11_place_5 : decode cX11_place 5 = .ok (.invokevirtual 120, 3) := by decide +kernel
theorem dX11_place_8 : decode cX11_place 8 = .ok (.ifCond .eq 26, 3) := by decide +kernel
theorem dX11_place_11 : decode cX11_place 11 = .ok (.aload_n 0, 1) := by decide +kernel
theorem dX11_place_12 : decode cX11_place 12 = .ok (.getfield 89, 3) := by decide +kernel
theorem dX11_place_15 : decode cX11_place 15 = .ok (.iload_n 1, 1) := by decide +kernel
theorem dX11_place_16 : decode cX11_place 16 = .ok (.invokevirtual 308, 3) := by decide +kernel
theorem dX11_place_19 : decode cX11_place 19 = .ok (.ifCond .ne 15, 3) := by decide +kernel
theorem dX11_place_22 : decode cX11_place 22 = .ok (.aload_n 0, 1) := by decide +kernel
theorem dX11_place_23 : decode cX11_place 23 = .ok (.getfield 89, 3) := by decide +kernel
theorem dX11_place_26 : decode cX11_place 26 = .ok (.getfield 311, 3) := by decide +kernel
theorem dX11_place_29 : decode cX11_place 29 = .ok (.bipush 8, 2) := by decide +kernel
theorem dX11_place_31 : decode cX11_place 31 = .ok (.if_icmp .lt 5, 3) := by decide +kernel
theorem dX11_place_34 : decode cX11_place 34 = .ok (.iconst (-1), 1) := by decide +kernel
theorem dX11_place_35 : decode cX11_place 35 = .ok (.ireturn, 1) := by decide +kernel
theorem dX11_place_36 : decode cX11_place 36 = .ok (.aload_n 0, 1) := by decide +kernel
theorem dX11_place_37 : decode cX11_place 37 = .ok (.getfield 89, 3) := by decide +kernel
theorem dX11_place_40 : decode cX11_place 40 = .ok (.getfield 314, 3) := by decide +kernel
theorem dX11_place_43 : decode cX11_place 43 = .ok (.aload_n 0, 1) := by decide +kernel
theorem dX11_place_44 : decode cX11_place 44 = .ok (.getfield 89, 3) := by decide +kernel
theorem dX11_place_47 : decode cX11_place 47 = .ok (.getfield 311, 3) := by decide +kernel
theorem dX11_place_50 : decode cX11_place 50 = .ok (.iload_n 1, 1) := by decide +kernel
theorem dX11_place_51 : decode cX11_place 51 = .ok (.iastore, 1) := by decide +kernel
theorem dX11_place_52 : decode cX11_place 52 = .ok (.aload_n 0, 1) := by decide +kernel
theorem dX11_place_53 : decode cX11_place 53 = .ok (.getfield 89, 3) := by decide +kernel
theorem dX11_place_56 : decode cX11_place 56 = .ok (.dup, 1) := by decide +kernel
theorem dX11_place_57 : decode cX11_place 57 = .ok (.getfield 311, 3) := by decide +kernel
theorem dX11_place_60 : decode cX11_place 60 = .ok (.iconst 1, 1) := by decide +kernel
theorem dX11_place_61 : decode cX11_place 61 = .ok (.iadd, 1) := by decide +kernel
theorem dX11_place_62 : decode cX11_place 62 = .ok (.putfield 311, 3) := by decide +kernel
theorem dX11_place_65 : decode cX11_place 65 = .ok (.aload_n 0, 1) := by decide +kernel
theorem dX11_place_66 : decode cX11_place 66 = .ok (.getfield 89, 3) := by decide +kernel
theorem dX11_place_69 : decode cX11_place 69 = .ok (.getfield 311, 3) := by decide +kernel
theorem dX11_place_72 : decode cX11_place 72 = .ok (.ireturn, 1) := by decide +kernel
theorem dX11_plan_0 : decode cX11_plan 0 = .ok (.iload_n 1, 1) := by decide +kernel
theorem dX11_plan_1 : decode cX11_plan 1 = .ok (.iconst 1, 1) := by decide +kernel
theorem dX11_plan_2 : decode cX11_plan 2 = .ok (.iconst 3, 1) := by decide +kernel
theorem dX11_plan_3 : decode cX11_plan 3 = .ok (.invokestatic 105, 3) := by decide +kernel
theorem dX11_plan_6 : decode cX11_plan 6 = .ok (.ifCond .eq 61, 3) := by decide +kernel
theorem dX11_plan_9 : decode cX11_plan 9 = .ok (.iload_n 1, 1) := by decide +kernel
theorem dX11_plan_10 : decode cX11_plan 10 = .ok (.aload_n 0, 1) := by decide +kernel
theorem dX11_plan_11 : decode cX11_plan 11 = .ok (.getfield 89, 3) := by decide +kernel
theorem dX11_plan_14 : decode cX11_plan 14 = .ok (.getfield 311, 3) := by decide +kernel
theorem dX11_plan_17 : decode cX11_plan 17 = .ok (.if_icmp .gt 50, 3) := by decide +kernel
theorem dX11_plan_20 : decode cX11_plan 20 = .ok (.aload_n 0, 1) := by decide +kernel
theorem dX11_plan_21 : decode cX11_plan 21 = .ok (.getfield 19, 3) := by decide +kernel
theorem dX11_plan_24 : decode cX11_plan 24 = .ok (.getfield 109, 3) := by decide +kernel
theorem dX11_plan_27 : decode cX11_plan 27 = .ok (.iload_n 1, 1) := by decide +kernel
theorem dX11_plan_28 : decode cX11_plan 28 = .ok (.iadd, 1) := by decide +kernel
theorem dX11_plan_29 : decode cX11_plan 29 = .ok (.bipush 12, 2) := by decide +kernel
theorem dX11_plan_31 : decode cX11_plan 31 = .ok (.if_icmp .gt 36, 3) := by decide +kernel
theorem dX11_plan_34 : decode cX11_plan 34 = .ok (.iload_n 2, 1) := by decide +kernel
theorem dX11_plan_35 : decode cX11_plan 35 = .ok (.iload_n 3, 1) := by decide +kernel
theorem dX11_plan_36 : decode cX11_plan 36 = .ok (.iload 4, 2) := by decide +kernel
theorem dX11_plan_38 : decode cX11_plan 38 = .ok (.invokestatic 150, 3) := by decide +kernel
theorem dX11_plan_41 : decode cX11_plan 41 = .ok (.ifCond .eq 26, 3) := by decide +kernel
theorem dX11_plan_44 : decode cX11_plan 44 = .ok (.aload_n 0, 1) := by decide +kernel
theorem dX11_plan_45 : decode cX11_plan 45 = .ok (.getfield 10, 3) := by decide +kernel
theorem dX11_plan_48 : decode cX11_plan 48 = .ok (.iload 5, 2) := by decide +kernel
theorem dX11_plan_50 : decode cX11_plan 50 = .ok (.invokevirtual 178, 3) := by decide +kernel
theorem dX11_plan_53 : decode cX11_plan 53 = .ok (.ifCond .eq 14, 3) := by decide +kernel
theorem dX11_plan_56 : decode cX11_plan 56 = .ok (.iload 6, 2) := by decide +kernel
theorem dX11_plan_58 : decode cX11_plan 58 = .ok (.iconst 1, 1) := by decide +kernel
theorem dX11_plan_59 : decode cX11_plan 59 = .ok (.bipush 60, 2) := by decide +kernel
theorem dX11_plan_61 : decode cX11_plan 61 = .ok (.invokestatic 105, 3) := by decide +kernel
theorem dX11_plan_64 : decode cX11_plan 64 = .ok (.ifCond .ne 5, 3) := by decide +kernel
theorem dX11_plan_67 : decode cX11_plan 67 = .ok (.iconst (-1), 1) := by decide +kernel
theorem dX11_plan_68 : decode cX11_plan 68 = .ok (.ireturn, 1) := by decide +kernel
theorem dX11_plan_69 : decode cX11_plan 69 = .ok (.aload_n 0, 1) := by decide +kernel
theorem dX11_plan_70 : decode cX11_plan 70 = .ok (.invokevirtual 244, 3) := by decide +kernel
theorem dX11_plan_73 : decode cX11_plan 73 = .ok (.aload_n 0, 1) := by decide +kernel
theorem dX11_plan_74 : decode cX11_plan 74 = .ok (.getfield 89, 3) := by decide +kernel
theorem dX11_plan_77 : decode cX11_plan 77 = .ok (.iload_n 2, 1) := by decide +kernel
theorem dX11_plan_78 : decode cX11_plan 78 = .ok (.iload_n 3, 1) := by decide +kernel
theorem dX11_plan_79 : decode cX11_plan 79 = .ok (.iload 4, 2) := by decide +kernel
theorem dX11_plan_81 : decode cX11_plan 81 = .ok (.invokevirtual 317, 3) := by decide +kernel
theorem dX11_plan_84 : decode cX11_plan 84 = .ok (.aload_n 0, 1) := by decide +kernel
theorem dX11_plan_85 : decode cX11_plan 85 = .ok (.getfield 89, 3) := by decide +kernel
theorem dX11_plan_88 : decode cX11_plan 88 = .ok (.iload_n 1, 1) := by decide +kernel
theorem dX11_plan_89 : decode cX11_plan 89 = .ok (.iload 5, 2) := by decide +kernel
theorem dX11_plan_91 : decode cX11_plan 91 = .ok (.iload 6, 2) := by decide +kernel
theorem dX11_plan_93 : decode cX11_plan 93 = .ok (.aload_n 0, 1) := by decide +kernel
theorem dX11_plan_94 : decode cX11_plan 94 = .ok (.getfield 40, 3) := by decide +kernel
theorem dX11_plan_97 : decode cX11_plan 97 = .ok (.getfield 247, 3) := by decide +kernel
theorem dX11_plan_100 : decode cX11_plan 100 = .ok (.invokevirtual 320, 3) := by decide +kernel
theorem dX11_plan_103 : decode cX11_plan 103 = .ok (.ireturn, 1) := by decide +kernel
theorem dX11_planned_0 : decode cX11_planned 0 = .ok (.iload_n 1, 1) := by decide +kernel
theorem dX11_planned_1 : decode cX11_planned 1 = .ok (.iconst 0, 1) := by decide +kernel
theorem dX11_planned_2 : decode cX11_planned 2 = .ok (.aload_n 0, 1) := by decide +kernel
theorem dX11_planned_3 : decode cX11_planned 3 = .ok (.getfield 89, 3) := by decide +kernel
theorem dX11_planned_6 : decode cX11_planned 6 = .ok (.getfield 324, 3) := by decide +kernel
theorem dX11_planned_9 : decode cX11_planned 9 = .ok (.iconst 1, 1) := by decide +kernel
theorem dX11_planned_10 : decode cX11_planned 10 = .ok (.isub, 1) := by decide +kernel
theorem dX11_planned_11 : decode cX11_planned 11 = .ok (.invokestatic 105, 3) := by decide +kernel
theorem dX11_planned_14 : decode cX11_planned 14 = .ok (.ifCond .eq 15, 3) := by decide +kernel
theorem dX11_planned_17 : decode cX11_planned 17 = .ok (.aload_n 0, 1) := by decide +kernel
theorem dX11_planned_18 : decode cX11_planned 18 = .ok (.getfield 89, 3) := by decide +kernel
theorem dX11_planned_21 : decode cX11_planned 21 = .ok (.getfield 327, 3) := by decide +kernel
theorem dX11_planned_24 : decode cX11_planned 24 = .ok (.iload_n 1, 1) := by decide +kernel
theorem dX11_planned_25 : decode cX11_planned 25 = .ok (.iaload, 1) := by decide +kernel
theorem dX11_planned_26 : decode cX11_planned 26 = .ok (.goto 4, 3) := by decide +kernel
theorem dX11_planned_29 : decode cX11_planned 29 = .ok (.iconst (-1), 1) := by decide +kernel
theorem dX11_planned_30 : decode cX11_planned 30 = .ok (.ireturn, 1) := by decide +kernel
theorem dX11_all_0 : decode cX11_all 0 = .ok (.iload_n 1, 1) := by decide +kernel
theorem dX11_all_1 : decode cX11_all 1 = .ok (.tableswitch 113 0 6 #[43, 51, 66, 74, 82, 90, 98], 43) := by decide +kernel
theorem dX11_all_44 : decode cX11_all 44 = .ok (.aload_n 0, 1) := by decide +kernel
theorem dX11_all_45 : decode cX11_all 45 = .ok (.getfield 10, 3) := by decide +kernel
theorem dX11_all_48 : decode cX11_all 48 = .ok (.getfield 302, 3) := by decide +kernel
theorem dX11_all_51 : decode cX11_all 51 = .ok (.ireturn, 1) := by decide +kernel
theorem dX11_all_52 : decode cX11_all 52 = .ok (.aload_n 0, 1) := by decide +kernel
theorem dX11_all_53 : decode cX11_all 53 = .ok (.getfield 10, 3) := by decide +kernel
theorem dX11_all_56 : decode cX11_all 56 = .ok (.aload_n 0, 1) := by decide +kernel
theorem dX11_all_57 : decode cX11_all 57 = .ok (.getfield 10, 3) := by decide +kernel
theorem dX11_all_60 : decode cX11_all 60 = .ok (.getfield 305, 3) := by decide +kernel
theorem dX11_all_63 : decode cX11_all 63 = .ok (.invokevirtual 330, 3) := by decide +kernel
theorem dX11_all_66 : decode cX11_all 66 = .ok (.ireturn, 1) := by decide +kernel
theorem dX11_all_67 : decode cX11_all 67 = .ok (.aload_n 0, 1) := by decide +kernel
theorem dX11_all_68 : decode cX11_all 68 = .ok (.getfield 19, 3) := by decide +kernel
theorem dX11_all_71 : decode cX11_all 71 = .ok (.getfield 109, 3) := by decide +kernel
theorem dX11_all_74 : decode cX11_all 74 = .ok (.ireturn, 1) := by decide +kernel
theorem dX11_all_75 : decode cX11_all 75 = .ok (.aload_n 0, 1) := by decide +kernel
theorem dX11_all_76 : decode cX11_all 76 = .ok (.getfield 33, 3) := by decide +kernel
theorem dX11_all_79 : decode cX11_all 79 = .ok (.getfield 193, 3) := by decide +kernel
theorem dX11_all_82 : decode cX11_all 82 = .ok (.ireturn, 1) := by decide +kernel
theorem dX11_all_83 : decode cX11_all 83 = .ok (.aload_n 0, 1) := by decide +kernel
theorem dX11_all_84 : decode cX11_all 84 = .ok (.getfield 33, 3) := by decide +kernel
theorem dX11_all_87 : decode cX11_all 87 = .ok (.invokevirtual 211, 3) := by decide +kernel
theorem dX11_all_90 : decode cX11_all 90 = .ok (.ireturn, 1) := by decide +kernel
theorem dX11_all_91 : decode cX11_all 91 = .ok (.aload_n 0, 1) := by decide +kernel
theorem dX11_all_92 : decode cX11_all 92 = .ok (.getfield 89, 3) := by decide +kernel
theorem dX11_all_95 : decode cX11_all 95 = .ok (.getfield 311, 3) := by decide +kernel
theorem dX11_all_98 : decode cX11_all 98 = .ok (.ireturn, 1) := by decide +kernel
theorem dX11_all_99 : decode cX11_all 99 = .ok (.aload_n 0, 1) := by decide +kernel
theorem dX11_all_100 : decode cX11_all 100 = .ok (.getfield 10, 3) := by decide +kernel
theorem dX11_all_103 : decode cX11_all 103 = .ok (.aload_n 0, 1) := by decide +kernel
theorem dX11_all_104 : decode cX11_all 104 = .ok (.getfield 10, 3) := by decide +kernel
theorem dX11_all_107 : decode cX11_all 107 = .ok (.getfield 132, 3) := by decide +kernel
theorem dX11_all_110 : decode cX11_all 110 = .ok (.invokevirtual 330, 3) := by decide +kernel
theorem dX11_all_113 : decode cX11_all 113 = .ok (.ireturn, 1) := by decide +kernel
theorem dX11_all_114 : decode cX11_all 114 = .ok (.iconst (-1), 1) := by decide +kernel
theorem dX11_all_115 : decode cX11_all 115 = .ok (.ireturn, 1) := by decide +kernel
theorem dX11_learn_0 : decode cX11_learn 0 = .ok (.aload_n 0, 1) := by decide +kernel
theorem dX11_learn_1 : decode cX11_learn 1 = .ok (.getfield 40, 3) := by decide +kernel
theorem dX11_learn_4 : decode cX11_learn 4 = .ok (.aload_n 0, 1) := by decide +kernel
theorem dX11_learn_5 : decode cX11_learn 5 = .ok (.getfield 33, 3) := by decide +kernel
theorem dX11_learn_8 : decode cX11_learn 8 = .ok (.invokevirtual 197, 3) := by decide +kernel
theorem dX11_learn_11 : decode cX11_learn 11 = .ok (.aload_n 0, 1) := by decide +kernel
theorem dX11_learn_12 : decode cX11_learn 12 = .ok (.getfield 49, 3) := by decide +kernel
theorem dX11_learn_15 : decode cX11_learn 15 = .ok (.invokevirtual 334, 3) := by decide +kernel
theorem dX11_learn_18 : decode cX11_learn 18 = .ok (.return_, 1) := by decide +kernel
theorem dX11_within_0 : decode cX11_within 0 = .ok (.iload_n 0, 1) := by decide +kernel
theorem dX11_within_1 : decode cX11_within 1 = .ok (.iload_n 1, 1) := by decide +kernel
theorem dX11_within_2 : decode cX11_within 2 = .ok (.if_icmp .lt 12, 3) := by decide +kernel
theorem dX11_within_5 : decode cX11_within 5 = .ok (.iload_n 0, 1) := by decide +kernel
theorem dX11_within_6 : decode cX11_within 6 = .ok (.iload_n 2, 1) := by decide +kernel
theorem dX11_within_7 : decode cX11_within 7 = .ok (.if_icmp .gt 7, 3) := by decide +kernel
theorem dX11_within_10 : decode cX11_within 10 = .ok (.iconst 1, 1) := by decide +kernel
theorem dX11_within_11 : decode cX11_within 11 = .ok (.goto 4, 3) := by decide +kernel
theorem dX11_within_14 : decode cX11_within 14 = .ok (.iconst 0, 1) := by decide +kernel
theorem dX11_within_15 : decode cX11_within 15 = .ok (.ireturn, 1) := by decide +kernel
theorem dX11_isOffice_0 : decode cX11_isOffice 0 = .ok (.iload_n 0, 1) := by decide +kernel
theorem dX11_isOffice_1 : decode cX11_isOffice 1 = .ok (.iconst 0, 1) := by decide +kernel
theorem dX11_isOffice_2 : decode cX11_isOffice 2 = .ok (.bipush 8, 2) := by decide +kernel
theorem dX11_isOffice_4 : decode cX11_isOffice 4 = .ok (.invokestatic 105, 3) := by decide +kernel
theorem dX11_isOffice_7 : decode cX11_isOffice 7 = .ok (.ireturn, 1) := by decide +kernel
theorem dX11_mayServe_0 : decode cX11_mayServe 0 = .ok (.iload_n 0, 1) := by decide +kernel
theorem dX11_mayServe_1 : decode cX11_mayServe 1 = .ok (.invokestatic 143, 3) := by decide +kernel
theorem dX11_mayServe_4 : decode cX11_mayServe 4 = .ok (.ifCond .eq 27, 3) := by decide +kernel
theorem dX11_mayServe_7 : decode cX11_mayServe 7 = .ok (.iload_n 1, 1) := by decide +kernel
theorem dX11_mayServe_8 : decode cX11_mayServe 8 = .ok (.iconst 1, 1) := by decide +kernel
theorem dX11_mayServe_9 : decode cX11_mayServe 9 = .ok (.bipush 9, 2) := by decide +kernel
theorem dX11_mayServe_11 : decode cX11_mayServe 11 = .ok (.invokestatic 105, 3) := by decide +kernel
theorem dX11_mayServe_14 : decode cX11_mayServe 14 = .ok (.ifCond .eq 17, 3) := by decide +kernel
theorem dX11_mayServe_17 : decode cX11_mayServe 17 = .ok (.iload_n 2, 1) := by decide +kernel
theorem dX11_mayServe_18 : decode cX11_mayServe 18 = .ok (.iconst 1, 1) := by decide +kernel
theorem dX11_mayServe_19 : decode cX11_mayServe 19 = .ok (.bipush 9, 2) := by decide +kernel
theorem dX11_mayServe_21 : decode cX11_mayServe 21 = .ok (.invokestatic 105, 3) := by decide +kernel
theorem dX11_mayServe_24 : decode cX11_mayServe 24 = .ok (.ifCond .eq 7, 3) := by decide +kernel
theorem dX11_mayServe_27 : decode cX11_mayServe 27 = .ok (.iconst 1, 1) := by decide +kernel
theorem dX11_mayServe_28 : decode cX11_mayServe 28 = .ok (.goto 4, 3) := by decide +kernel
theorem dX11_mayServe_31 : decode cX11_mayServe 31 = .ok (.iconst 0, 1) := by decide +kernel
theorem dX11_mayServe_32 : decode cX11_mayServe 32 = .ok (.ireturn, 1) := by decide +kernel
