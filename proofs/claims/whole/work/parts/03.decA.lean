theorem dX0_init_0 : decode cX0_init 0 = .ok (.aload_n 0, 1) := by decide +kernel
theorem dX0_init_1 : decode cX0_init 1 = .ok (.invokespecial 3, 3) := by decide +kernel
theorem dX0_init_4 : decode cX0_init 4 = .ok (.aload_n 0, 1) := by decide +kernel
theorem dX0_init_5 : decode cX0_init 5 = .ok (.iconst (-1), 1) := by decide +kernel
theorem dX0_init_6 : decode cX0_init 6 = .ok (.putfield 9, 3) := by decide +kernel
theorem dX0_init_9 : decode cX0_init 9 = .ok (.aload_n 0, 1) := by decide +kernel
theorem dX0_init_10 : decode cX0_init 10 = .ok (.sipush 201, 3) := by decide +kernel
theorem dX0_init_13 : decode cX0_init 13 = .ok (.newarray .int, 2) := by decide +kernel
theorem dX0_init_15 : decode cX0_init 15 = .ok (.putfield 15, 3) := by decide +kernel
theorem dX0_init_18 : decode cX0_init 18 = .ok (.aload_n 0, 1) := by decide +kernel
theorem dX0_init_19 : decode cX0_init 19 = .ok (.sipush 201, 3) := by decide +kernel
theorem dX0_init_22 : decode cX0_init 22 = .ok (.newarray .int, 2) := by decide +kernel
theorem dX0_init_24 : decode cX0_init 24 = .ok (.putfield 19, 3) := by decide +kernel
theorem dX0_init_27 : decode cX0_init 27 = .ok (.aload_n 0, 1) := by decide +kernel
theorem dX0_init_28 : decode cX0_init 28 = .ok (.sipush 201, 3) := by decide +kernel
theorem dX0_init_31 : decode cX0_init 31 = .ok (.newarray .int, 2) := by decide +kernel
theorem dX0_init_33 : decode cX0_init 33 = .ok (.putfield 22, 3) := by decide +kernel
theorem dX0_init_36 : decode cX0_init 36 = .ok (.aload_n 0, 1) := by decide +kernel
theorem dX0_init_37 : decode cX0_init 37 = .ok (.sipush 201, 3) := by decide +kernel
theorem dX0_init_40 : decode cX0_init 40 = .ok (.anewarray 25, 3) := by decide +kernel
theorem dX0_init_43 : decode cX0_init 43 = .ok (.putfield 27, 3) := by decide +kernel
theorem dX0_init_46 : decode cX0_init 46 = .ok (.aload_n 0, 1) := by decide +kernel
theorem dX0_init_47 : decode cX0_init 47 = .ok (.sipush 201, 3) := by decide +kernel
theorem dX0_init_50 : decode cX0_init 50 = .ok (.newarray .int, 2) := by decide +kernel
theorem dX0_init_52 : decode cX0_init 52 = .ok (.putfield 31, 3) := by decide +kernel
theorem dX0_init_55 : decode cX0_init 55 = .ok (.aload_n 0, 1) := by decide +kernel
theorem dX0_init_56 : decode cX0_init 56 = .ok (.sipush 201, 3) := by decide +kernel
theorem dX0_init_59 : decode cX0_init 59 = .ok (.newarray .int, 2) := by decide +kernel
theorem dX0_init_61 : decode cX0_init 61 = .ok (.putfield 34, 3) := by decide +kernel
theorem dX0_init_64 : decode cX0_init 64 = .ok (.return_, 1) := by decide +kernel
theorem dX0_forget_0 : decode cX0_forget 0 = .ok (.aload_n 0, 1) := by decide +kernel
theorem dX0_forget_1 : decode cX0_forget 1 = .ok (.iconst 0, 1) := by decide +kernel
theorem dX0_forget_2 : decode cX0_forget 2 = .ok (.putfield 37, 3) := by decide +kernel
theorem dX0_forget_5 : decode cX0_forget 5 = .ok (.aload_n 0, 1) := by decide +kernel
theorem dX0_forget_6 : decode cX0_forget 6 = .ok (.iconst (-1), 1) := by decide +kernel
theorem dX0_forget_7 : decode cX0_forget 7 = .ok (.putfield 9, 3) := by decide +kernel
theorem dX0_forget_10 : decode cX0_forget 10 = .ok (.return_, 1) := by decide +kernel
theorem dX0_full_0 : decode cX0_full 0 = .ok (.aload_n 0, 1) := by decide +kernel
theorem dX0_full_1 : decode cX0_full 1 = .ok (.getfield 37, 3) := by decide +kernel
theorem dX0_full_4 : decode cX0_full 4 = .ok (.sipush 200, 3) := by decide +kernel
theorem dX0_full_7 : decode cX0_full 7 = .ok (.if_icmp .lt 7, 3) := by decide +kernel
theorem dX0_full_10 : decode cX0_full 10 = .ok (.iconst 1, 1) := by decide +kernel
theorem dX0_full_11 : decode cX0_full 11 = .ok (.goto 4, 3) := by decide +kernel
theorem dX0_full_14 : decode cX0_full 14 = .ok (.iconst 0, 1) := by decide +kernel
theorem dX0_full_15 : decode cX0_full 15 = .ok (.ireturn, 1) := by decide +kernel
theorem dX0_addTerms_0 : decode cX0_addTerms 0 = .ok (.aload_n 0, 1) := by decide +kernel
theorem dX0_addTerms_1 : decode cX0_addTerms 1 = .ok (.iconst 1, 1) := by decide +kernel
theorem dX0_addTerms_2 : decode cX0_addTerms 2 = .ok (.invokevirtual 40, 3) := by decide +kernel
theorem dX0_addTerms_5 : decode cX0_addTerms 5 = .ok (.ifCond .eq 23, 3) := by decide +kernel
theorem dX0_addTerms_8 : decode cX0_addTerms 8 = .ok (.aload_n 0, 1) := by decide +kernel
theorem dX0_addTerms_9 : decode cX0_addTerms 9 = .ok (.getfield 15, 3) := by decide +kernel
theorem dX0_addTerms_12 : decode cX0_addTerms 12 = .ok (.aload_n 0, 1) := by decide +kernel
theorem dX0_addTerms_13 : decode cX0_addTerms 13 = .ok (.getfield 37, 3) := by decide +kernel
theorem dX0_addTerms_16 : decode cX0_addTerms 16 = .ok (.iload_n 1, 1) := by decide +kernel
theorem dX0_addTerms_17 : decode cX0_addTerms 17 = .ok (.iastore, 1) := by decide +kernel
theorem dX0_addTerms_18 : decode cX0_addTerms 18 = .ok (.aload_n 0, 1) := by decide +kernel
theorem dX0_addTerms_19 : decode cX0_addTerms 19 = .ok (.getfield 27, 3) := by decide +kernel
theorem dX0_addTerms_22 : decode cX0_addTerms 22 = .ok (.aload_n 0, 1) := by decide +kernel
theorem dX0_addTerms_23 : decode cX0_addTerms 23 = .ok (.getfield 37, 3) := by decide +kernel
theorem dX0_addTerms_26 : decode cX0_addTerms 26 = .ok (.aload_n 2, 1) := by decide +kernel
theorem dX0_addTerms_27 : decode cX0_addTerms 27 = .ok (.aastore, 1) := by decide +kernel
theorem dX0_addTerms_28 : decode cX0_addTerms 28 = .ok (.aload_n 0, 1) := by decide +kernel
theorem dX0_addTerms_29 : decode cX0_addTerms 29 = .ok (.getfield 37, 3) := by decide +kernel
theorem dX0_addTerms_32 : decode cX0_addTerms 32 = .ok (.ireturn, 1) := by decide +kernel
theorem dX0_addPolicy_0 : decode cX0_addPolicy 0 = .ok (.aload_n 0, 1) := by decide +kernel
theorem dX0_addPolicy_1 : decode cX0_addPolicy 1 = .ok (.iconst 2, 1) := by decide +kernel
theorem dX0_addPolicy_2 : decode cX0_addPolicy 2 = .ok (.invokevirtual 40, 3) := by decide +kernel
theorem dX0_addPolicy_5 : decode cX0_addPolicy 5 = .ok (.ifCond .eq 33, 3) := by decide +kernel
theorem dX0_addPolicy_8 : decode cX0_addPolicy 8 = .ok (.aload_n 0, 1) := by decide +kernel
theorem dX0_addPolicy_9 : decode cX0_addPolicy 9 = .ok (.getfield 19, 3) := by decide +kernel
theorem dX0_addPolicy_12 : decode cX0_addPolicy 12 = .ok (.aload_n 0, 1) := by decide +kernel
theorem dX0_addPolicy_13 : decode cX0_addPolicy 13 = .ok (.getfield 37, 3) := by decide +kernel
theorem dX0_addPolicy_16 : decode cX0_addPolicy 16 = .ok (.iload_n 1, 1) := by decide +kernel
theorem dX0_addPolicy_17 : decode cX0_addPolicy 17 = .ok (.iastore, 1) := by decide +kernel
theorem dX0_addPolicy_18 : decode cX0_addPolicy 18 = .ok (.aload_n 0, 1) := by decide +kernel
theorem dX0_addPolicy_19 : decode cX0_addPolicy 19 = .ok (.getfield 15, 3) := by decide +kernel
theorem dX0_addPolicy_22 : decode cX0_addPolicy 22 = .ok (.aload_n 0, 1) := by decide +kernel
theorem dX0_addPolicy_23 : decode cX0_addPolicy 23 = .ok (.getfield 37, 3) := by decide +kernel
theorem dX0_addPolicy_26 : decode cX0_addPolicy 26 = .ok (.iload_n 2, 1) := by decide +kernel
theorem dX0_addPolicy_27 : decode cX0_addPolicy 27 = .ok (.iastore, 1) := by decide +kernel
theorem dX0_addPolicy_28 : decode cX0_addPolicy 28 = .ok (.aload_n 0, 1) := by decide +kernel
theorem dX0_addPolicy_29 : decode cX0_addPolicy 29 = .ok (.getfield 22, 3) := by decide +kernel
theorem dX0_addPolicy_32 : decode cX0_addPolicy 32 = .ok (.aload_n 0, 1) := by decide +kernel
theorem dX0_addPolicy_33 : decode cX0_addPolicy 33 = .ok (.getfield 37, 3) := by decide +kernel
theorem dX0_addPolicy_36 : decode cX0_addPolicy 36 = .ok (.iload_n 3, 1) := by decide +kernel
theorem dX0_addPolicy_37 : decode cX0_addPolicy 37 = .ok (.iastore, 1) := by decide +kernel
theorem dX0_addPolicy_38 : decode cX0_addPolicy 38 = .ok (.aload_n 0, 1) := by decide +kernel
theorem dX0_addPolicy_39 : decode cX0_addPolicy 39 = .ok (.getfield 37, 3) := by decide +kernel
theorem dX0_addPolicy_42 : decode cX0_addPolicy 42 = .ok (.ireturn, 1) := by decide +kernel
theorem dX0_addVoid_0 : decode cX0_addVoid 0 = .ok (.aload_n 0, 1) := by decide +kernel
theorem dX0_addVoid_1 : decode cX0_addVoid 1 = .ok (.iload_n 1, 1) := by decide +kernel
theorem dX0_addVoid_2 : decode cX0_addVoid 2 = .ok (.invokevirtual 44, 3) := by decide +kernel
theorem dX0_addVoid_5 : decode cX0_addVoid 5 = .ok (.ifCond .eq 21, 3) := by decide +kernel
theorem dX0_addVoid_8 : decode cX0_addVoid 8 = .ok (.aload_n 0, 1) := by decide +kernel
theorem dX0_addVoid_9 : decode cX0_addVoid 9 = .ok (.iconst 3, 1) := by decide +kernel
theorem dX0_addVoid_10 : decode cX0_addVoid 10 = .ok (.invokevirtual 40, 3) := by decide +kernel
theorem dX0_addVoid_13 : decode cX0_addVoid 13 = .ok (.ifCond .eq 13, 3) := by decide +kernel
theorem dX0_addVoid_16 : decode cX0_addVoid 16 = .ok (.aload_n 0, 1) := by decide +kernel
theorem dX0_addVoid_17 : decode cX0_addVoid 17 = .ok (.getfield 34, 3) := by decide +kernel
theorem dX0_addVoid_20 : decode cX0_addVoid 20 = .ok (.iload_n 1, 1) := by decide +kernel
theorem dX0_addVoid_21 : decode cX0_addVoid 21 = .ok (.aload_n 0, 1) := by decide +kernel
theorem dX0_addVoid_22 : decode cX0_addVoid 22 = .ok (.getfield 37, 3) := by decide +kernel
theorem dX0_addVoid_25 : decode cX0_addVoid 25 = .ok (.iastore, 1) := by decide +kernel
theorem dX0_addVoid_26 : decode cX0_addVoid 26 = .ok (.aload_n 0, 1) := by decide +kernel
theorem dX0_addVoid_27 : decode cX0_addVoid 27 = .ok (.getfield 37, 3) := by decide +kernel
theorem dX0_addVoid_30 : decode cX0_addVoid 30 = .ok (.ireturn, 1) := by decide +kernel
theorem dX0_add_0 : decode cX0_add 0 = .ok (.aload_n 0, 1) := by decide +kernel
theorem dX0_add_1 : decode cX0_add 1 = .ok (.invokevirtual 47, 3) := by decide +kernel
theorem dX0_add_4 : decode cX0_add 4 = .ok (.ifCond .eq 5, 3) := by decide +kernel
theorem dX0_add_7 : decode cX0_add 7 = .ok (.iconst 0, 1) := by decide +kernel
theorem dX0_add_8 : decode cX0_add 8 = .ok (.ireturn, 1) := by decide +kernel
theorem dX0_add_9 : decode cX0_add 9 = .ok (.aload_n 0, 1) := by decide +kernel
theorem dX0_add_10 : decode cX0_add 10 = .ok (.dup, 1) := by decide +kernel
theorem dX0_add_11 : decode cX0_add 11 = .ok (.getfield 37, 3) := by decide +kernel
theorem dX0_add_14 : decode cX0_add 14 = .ok (.iconst 1, 1) := by decide +kernel
theorem dX0_add_15 : decode cX0_add 15 = .ok (.iadd, 1) := by decide +kernel
theorem dX0_add_16 : decode cX0_add 16 = .ok (.putfield 37, 3) := by decide +kernel
theorem dX0_add_19 : decode cX0_add 19 = .ok (.aload_n 0, 1) := by decide +kernel
theorem dX0_add_20 : decode cX0_add 20 = .ok (.getfield 31, 3) := by decide +kernel
theorem dX0_add_23 : decode cX0_add 23 = .ok (.aload_n 0, 1) := by decide +kernel
theorem dX0_add_24 : decode cX0_add 24 = .ok (.getfield 37, 3) := by decide +kernel
theorem dX0_add_27 : decode cX0_add 27 = .ok (.iload_n 1, 1) := by decide +kernel
theorem dX0_add_28 : decode cX0_add 28 = .ok (.iastore, 1) := by decide +kernel
theorem dX0_add_29 : decode cX0_add 29 = .ok (.aload_n 0, 1) := by decide +kernel
theorem dX0_add_30 : decode cX0_add 30 = .ok (.getfield 34, 3) := by decide +kernel
theorem dX0_add_33 : decode cX0_add 33 = .ok (.aload_n 0, 1) := by decide +kernel
theorem dX0_add_34 : decode cX0_add 34 = .ok (.getfield 37, 3) := by decide +kernel
theorem dX0_add_37 : decode cX0_add 37 = .ok (.iconst 0, 1) := by decide +kernel
theorem dX0_add_38 : decode cX0_add 38 = .ok (.iastore, 1) := by decide +kernel
theorem dX0_add_39 : decode cX0_add 39 = .ok (.aload_n 0, 1) := by decide +kernel
theorem dX0_add_40 : decode cX0_add 40 = .ok (.getfield 27, 3) := by decide +kernel
theorem dX0_add_43 : decode cX0_add 43 = .ok (.aload_n 0, 1) := by decide +kernel
theorem dX0_add_44 : decode cX0_add 44 = .ok (.getfield 37, 3) := by decide +kernel
theorem dX0_add_47 : decode cX0_add 47 = .ok (.aconst_null, 1) := by decide +kernel
theorem dX0_add_48 : decode cX0_add 48 = .ok (.aastore, 1) := by decide +kernel
theorem dX0_add_49 : decode cX0_add 49 = .ok (.iconst 1, 1) := by decide +kernel
theorem dX0_add_50 : decode cX0_add 50 = .ok (.ireturn, 1) := by decide +kernel
theorem dX0_mayBeVoid_0 : decode cX0_mayBeVoid 0 = .ok (.iload_n 1, 1) := by decide +kernel
theorem dX0_mayBeVoid_1 : decode cX0_mayBeVoid 1 = .ok (.iconst 1, 1) := by decide +kernel
theorem dX0_mayBeVoid_2 : decode cX0_mayBeVoid 2 = .ok (.aload_n 0, 1) := by decide +kernel
theorem dX0_mayBeVoid_3 : decode cX0_mayBeVoid 3 = .ok (.getfield 37, 3) := by decide +kernel
theorem dX0_mayBeVoid_6 : decode cX0_mayBeVoid 6 = .ok (.invokestatic 51, 3) := by decide +kernel
theorem dX0_mayBeVoid_9 : decode cX0_mayBeVoid 9 = .ok (.ifCond .eq 26, 3) := by decide +kernel
theorem dX0_mayBeVoid_12 : decode cX0_mayBeVoid 12 = .ok (.aload_n 0, 1) := by decide +kernel
theorem dX0_mayBeVoid_13 : decode cX0_mayBeVoid 13 = .ok (.getfield 31, 3) := by decide +kernel
theorem dX0_mayBeVoid_16 : decode cX0_mayBeVoid 16 = .ok (.iload_n 1, 1) := by decide +kernel
theorem dX0_mayBeVoid_17 : decode cX0_mayBeVoid 17 = .ok (.iaload, 1) := by decide +kernel
theorem dX0_mayBeVoid_18 : decode cX0_mayBeVoid 18 = .ok (.iconst 3, 1) := by decide +kernel
theorem dX0_mayBeVoid_19 : decode cX0_mayBeVoid 19 = .ok (.if_icmp .eq 16, 3) := by decide +kernel
theorem dX0_mayBeVoid_22 : decode cX0_mayBeVoid 22 = .ok (.aload_n 0, 1) := by decide +kernel
theorem dX0_mayBeVoid_23 : decode cX0_mayBeVoid 23 = .ok (.getfield 34, 3) := by decide +kernel
theorem dX0_mayBeVoid_26 : decode cX0_mayBeVoid 26 = .ok (.iload_n 1, 1) := by decide +kernel
theorem dX0_mayBeVoid_27 : decode cX0_mayBeVoid 27 = .ok (.iaload, 1) := by decide +kernel
theorem dX0_mayBeVoid_28 : decode cX0_mayBeVoid 28 = .ok (.ifCond .ne 7, 3) := by decide +kernel
theorem dX0_mayBeVoid_31 : decode cX0_mayBeVoid 31 = .ok (.iconst 1, 1) := by decide +kernel
theorem dX0_mayBeVoid_32 : decode cX0_mayBeVoid 32 = .ok (.goto 4, 3) := by decide +kernel
theorem dX0_mayBeVoid_35 : decode cX0_mayBeVoid 35 = .ok (.iconst 0, 1) := by decide +kernel
theorem dX0_mayBeVoid_36 : decode cX0_mayBeVoid 36 = .ok (.ireturn, 1) := by decide +kernel
theorem dX0_isPolicy_0 : decode cX0_isPolicy 0 = .ok (.iload_n 1, 1) := by decide +kernel
theorem dX0_isPolicy_1 : decode cX0_isPolicy 1 = .ok (.iconst 1, 1) := by decide +kernel
theorem dX0_isPolicy_2 : decode cX0_isPolicy 2 = .ok (.aload_n 0, 1) := by decide +kernel
theorem dX0_isPolicy_3 : decode cX0_isPolicy 3 = .ok (.getfield 37, 3) := by decide +kernel
theorem dX0_isPolicy_6 : decode cX0_isPolicy 6 = .ok (.invokestatic 51, 3) := by decide +kernel
theorem dX0_isPolicy_9 : decode cX0_isPolicy 9 = .ok (.ifCond .eq 17, 3) := by decide +kernel
theorem dX0_isPolicy_12 : decode cX0_isPolicy 12 = .ok (.aload_n 0, 1) := by decide +kernel
theorem dX0_isPolicy_13 : decode cX0_isPolicy 13 = .ok (.getfield 31, 3) := by decide +kernel
theorem dX0_isPolicy_16 : decode cX0_isPolicy 16 = .ok (.iload_n 1, 1) := by decide +kernel
theorem dX0_isPolicy_17 : decode cX0_isPolicy 17 = .ok (.iaload, 1) := by decide +kernel
theorem dX0_isPolicy_18 : decode cX0_isPolicy 18 = .ok (.iconst 2, 1) := by decide +kernel
theorem dX0_isPolicy_19 : decode cX0_isPolicy 19 = .ok (.if_icmp .ne 7, 3) := by decide +kernel
theorem dX0_isPolicy_22 : decode cX0_isPolicy 22 = .ok (.iconst 1, 1) := by decide +kernel
theorem dX0_isPolicy_23 : decode cX0_isPolicy 23 = .ok (.goto 4, 3) := by decide +kernel
theorem dX0_isPolicy_26 : decode cX0_isPolicy 26 = .ok (.iconst 0, 1) := by decide +kernel
theorem dX0_isPolicy_27 : decode cX0_isPolicy 27 = .ok (.ireturn, 1) := by decide +kernel
theorem dX0_isTerms_0 : decode cX0_isTerms 0 = .ok (.iload_n 1, 1) := by decide +kernel
theorem dX0_isTerms_1 : decode cX0_isTerms 1 = .ok (.iconst 1, 1) := by decide +kernel
theorem dX0_isTerms_2 : decode cX0_isTerms 2 = .ok (.aload_n 0, 1) := by decide +kernel
theorem dX0_isTerms_3 : decode cX0_isTerms 3 = .ok (.getfield 37, 3) := by decide +kernel
theorem dX0_isTerms_6 : decode cX0_isTerms 6 = .ok (.invokestatic 51, 3) := by decide +kernel
theorem dX0_isTerms_9 : decode cX0_isTerms 9 = .ok (.ifCond .eq 17, 3) := by decide +kernel
theorem dX0_isTerms_12 : decode cX0_isTerms 12 = .ok (.aload_n 0, 1) := by decide +kernel
theorem dX0_isTerms_13 : decode cX0_isTerms 13 = .ok (.getfield 31, 3) := by decide +kernel
theorem dX0_isTerms_16 : decode cX0_isTerms 16 = .ok (.iload_n 1, 1) := by decide +kernel
theorem dX0_isTerms_17 : decode cX0_isTerms 17 = .ok (.iaload, 1) := by decide +kernel
theorem dX0_isTerms_18 : decode cX0_isTerms 18 = .ok (.iconst 1, 1) := by decide +kernel
theorem dX0_isTerms_19 : decode cX0_isTerms 19 = .ok (.if_icmp .ne 7, 3) := by decide +kernel
theorem dX0_isTerms_22 : decode cX0_isTerms 22 = .ok (.iconst 1, 1) := by decide +kernel
theorem dX0_isTerms_23 : decode cX0_isTerms 23 = .ok (.goto 4, 3) := by decide +kernel
theorem dX0_isTerms_26 : decode cX0_isTerms 26 = .ok (.iconst 0, 1) := by decide +kernel
theorem dX0_isTerms_27 : decode cX0_isTerms 27 = .ok (.ireturn, 1) := by decide +kernel
theorem dX0_knownAt_0 : decode cX0_knownAt 0 = .ok (.iload_n 1, 1) := by decide +kernel
theorem dX0_knownAt_1 : decode cX0_knownAt 1 = .ok (.iconst 1, 1) := by decide +kernel
theorem dX0_knownAt_2 : decode cX0_knownAt 2 = .ok (.iload_n 2, 1) := by decide +kernel
theorem dX0_knownAt_3 : decode cX0_knownAt 3 = .ok (.aload_n 0, 1) := by decide +kernel
theorem dX0_knownAt_4 : decode cX0_knownAt 4 = .ok (.getfield 37, 3) := by decide +kernel
theorem dX0_knownAt_7 : decode cX0_knownAt 7 = .ok (.invokestatic 55, 3) := by decide +kernel
theorem dX0_knownAt_10 : decode cX0_knownAt 10 = .ok (.invokestatic 51, 3) := by decide +kernel
theorem dX0_knownAt_13 : decode cX0_knownAt 13 = .ok (.ifCond .eq 26, 3) := by decide +kernel
theorem dX0_knownAt_16 : decode cX0_knownAt 16 = .ok (.aload_n 0, 1) := by decide +kernel
theorem dX0_knownAt_17 : decode cX0_knownAt 17 = .ok (.getfield 34, 3) := by decide +kernel
theorem dX0_knownAt_20 : decode cX0_knownAt 20 = .ok (.iload_n 1, 1) := by decide +kernel
theorem dX0_knownAt_21 : decode cX0_knownAt 21 = .ok (.iaload, 1) := by decide +kernel
theorem dX0_knownAt_22 : decode cX0_knownAt 22 = .ok (.ifCond .eq 13, 3) := by decide +kernel
theorem dX0_knownAt_25 : decode cX0_knownAt 25 = .ok (.aload_n 0, 1) := by decide +kernel
theorem dX0_knownAt_26 : decode cX0_knownAt 26 = .ok (.getfield 34, 3) := by decide +kernel
theorem dX0_knownAt_29 : decode cX0_knownAt 29 = .ok (.iload_n 1, 1) := by decide +kernel
theorem dX0_knownAt_30 : decode cX0_knownAt 30 = .ok (.iaload, 1) := by decide +kernel
theorem dX0_knownAt_31 : decode cX0_knownAt 31 = .ok (.iload_n 2, 1) := by decide +kernel
theorem dX0_knownAt_32 : decode cX0_knownAt 32 = .ok (.if_icmp .le 7, 3) := by decide +kernel
theorem dX0_knownAt_35 : decode cX0_knownAt 35 = .ok (.iconst 1, 1) := by decide +kernel
theorem dX0_knownAt_36 : decode cX0_knownAt 36 = .ok (.goto 4, 3) := by decide +kernel
theorem dX0_knownAt_39 : decode cX0_knownAt 39 = .ok (.iconst 0, 1) := by decide +kernel
theorem dX0_knownAt_40 : decode cX0_knownAt 40 = .ok (.ireturn, 1) := by decide +kernel
theorem dX0_horizon_0 : decode cX0_horizon 0 = .ok (.aload_n 0, 1) := by decide +kernel
theorem dX0_horizon_1 : decode cX0_horizon 1 = .ok (.getfield 9, 3) := by decide +kernel
theorem dX0_horizon_4 : decode cX0_horizon 4 = .ok (.iconst (-1), 1) := by decide +kernel
theorem dX0_horizon_5 : decode cX0_horizon 5 = .ok (.if_icmp .ne 10, 3) := by decide +kernel
theorem dX0_horizon_8 : decode cX0_horizon 8 = .ok (.aload_n 0, 1) := by decide +kernel
theorem dX0_horizon_9 : decode cX0_horizon 9 = .ok (.getfield 37, 3) := by decide +kernel
theorem dX0_horizon_12 : decode cX0_horizon 12 = .ok (.goto 7, 3) := by decide +kernel
theorem dX0_horizon_15 : decode cX0_horizon 15 = .ok (.aload_n 0, 1) := by decide +kernel
theorem dX0_horizon_16 : decode cX0_horizon 16 = .ok (.getfield 9, 3) := by decide +kernel
theorem dX0_horizon_19 : decode cX0_horizon 19 = .ok (.ireturn, 1) := by decide +kernel
theorem dX1_init_0 : decode cX1_init 0 = .ok (.aload_n 0, 1) := by decide +kernel
theorem dX1_init_1 : decode cX1_init 1 = .ok (.invokespecial 3, 3) := by decide +kernel
theorem dX1_init_4 : decode cX1_init 4 = .ok (.aload_n 0, 1) := by decide +kernel
theorem dX1_init_5 : decode cX1_init 5 = .ok (.bipush 120, 2) := by decide +kernel
theorem dX1_init_7 : decode cX1_init 7 = .ok (.newarray .boolean, 2) := by decide +kernel
theorem dX1_init_9 : decode cX1_init 9 = .ok (.putfield 9, 3) := by decide +kernel
theorem dX1_init_12 : decode cX1_init 12 = .ok (.aload_n 0, 1) := by decide +kernel
theorem dX1_init_13 : decode cX1_init 13 = .ok (.bipush 120, 2) := by decide +kernel
theorem dX1_init_15 : decode cX1_init 15 = .ok (.newarray .int, 2) := by decide +kernel
theorem dX1_init_17 : decode cX1_init 17 = .ok (.putfield 15, 3) := by decide +kernel
theorem dX1_init_20 : decode cX1_init 20 = .ok (.aload_n 0, 1) := by decide +kernel
theorem dX1_init_21 : decode cX1_init 21 = .ok (.bipush 120, 2) := by decide +kernel
theorem dX1_init_23 : decode cX1_init 23 = .ok (.newarray .int, 2) := by decide +kernel
theorem dX1_init_25 : decode cX1_init 25 = .ok (.putfield 19, 3) := by decide +kernel
theorem dX1_init_28 : decode cX1_init 28 = .ok (.aload_n 0, 1) := by decide +kernel
theorem dX1_init_29 : decode cX1_init 29 = .ok (.bipush 120, 2) := by decide +kernel
theorem dX1_init_31 : decode cX1_init 31 = .ok (.newarray .int, 2) := by decide +kernel
theorem dX1_init_33 : decode cX1_init 33 = .ok (.putfield 22, 3) := by decide +kernel
theorem dX1_init_36 : decode cX1_init 36 = .ok (.aload_n 0, 1) := by decide +kernel
theorem dX1_init_37 : decode cX1_init 37 = .ok (.bipush 120, 2) := by decide +kernel
theorem dX1_init_39 : decode cX1_init 39 = .ok (.newarray .boolean, 2) := by decide +kernel
theorem dX1_init_41 : decode cX1_init 41 = .ok (.putfield 25, 3) := by decide +kernel
theorem dX1_init_44 : decode cX1_init 44 = .ok (.aload_n 0, 1) := by decide +kernel
theorem dX1_init_45 : decode cX1_init 45 = .ok (.bipush 120, 2) := by decide +kernel
theorem dX1_init_47 : decode cX1_init 47 = .ok (.newarray .int, 2) := by decide +kernel
theorem dX1_init_49 : decode cX1_init 49 = .ok (.putfield 28, 3) := by decide +kernel
theorem dX1_init_52 : decode cX1_init 52 = .ok (.aload_n 0, 1) := by decide +kernel
theorem dX1_init_53 : decode cX1_init 53 = .ok (.bipush 120, 2) := by decide +kernel
theorem dX1_init_55 : decode cX1_init 55 = .ok (.newarray .int, 2) := by decide +kernel
theorem dX1_init_57 : decode cX1_init 57 = .ok (.putfield 31, 3) := by decide +kernel
theorem dX1_init_60 : decode cX1_init 60 = .ok (.aload_n 0, 1) := by decide +kernel
theorem dX1_init_61 : decode cX1_init 61 = .ok (.bipush 120, 2) := by decide +kernel
theorem dX1_init_63 : decode cX1_init 63 = .ok (.bipush 8, 2) := by decide +kernel
theorem dX1_init_65 : decode cX1_init 65 = .ok (.multianewarray 34 2, 4) := by decide +kernel
theorem dX1_init_69 : decode cX1_init 69 = .ok (.putfield 36, 3) := by decide +kernel
theorem dX1_init_72 : decode cX1_init 72 = .ok (.aload_n 0, 1) := by decide +kernel
theorem dX1_init_73 : decode cX1_init 73 = .ok (.bipush 6, 2) := by decide +kernel
theorem dX1_init_75 : decode cX1_init 75 = .ok (.newarray .int, 2) := by decide +kernel
theorem dX1_init_77 : decode cX1_init 77 = .ok (.putfield 39, 3) := by decide +kernel
theorem dX1_init_80 : decode cX1_init 80 = .ok (.aload_n 0, 1) := by decide +kernel
theorem dX1_init_81 : decode cX1_init 81 = .ok (.bipush 121, 2) := by decide +kernel
theorem dX1_init_83 : decode cX1_init 83 = .ok (.newarray .boolean, 2) := by decide +kernel
theorem dX1_init_85 : decode cX1_init 85 = .ok (.putfield 42, 3) := by decide +kernel
theorem dX1_init_88 : decode cX1_init 88 = .ok (.aload_n 0, 1) := by decide +kernel
theorem dX1_init_89 : decode cX1_init 89 = .ok (.bipush 121, 2) := by decide +kernel
theorem dX1_init_91 : decode cX1_init 91 = .ok (.newarray .int, 2) := by decide +kernel
theorem dX1_init_93 : decode cX1_init 93 = .ok (.putfield 45, 3) := by decide +kernel
theorem dX1_init_96 : decode cX1_init 96 = .ok (.aload_n 0, 1) := by decide +kernel
theorem dX1_init_97 : decode cX1_init 97 = .ok (.bipush 121, 2) := by decide +kernel
theorem dX1_init_99 : decode cX1_init 99 = .ok (.newarray .int, 2) := by decide +kernel
theorem dX1_init_101 : decode cX1_init 101 = .ok (.putfield 48, 3) := by decide +kernel
theorem dX1_init_104 : decode cX1_init 104 = .ok (.aload_n 0, 1) := by decide +kernel
theorem dX1_init_105 : decode cX1_init 105 = .ok (.bipush 9, 2) := by decide +kernel
theorem dX1_init_107 : decode cX1_init 107 = .ok (.newarray .int, 2) := by decide +kernel
theorem dX1_init_109 : decode cX1_init 109 = .ok (.putfield 51, 3) := by decide +kernel
theorem dX1_init_112 : decode cX1_init 112 = .ok (.aload_n 0, 1) := by decide +kernel
theorem dX1_init_113 : decode cX1_init 113 = .ok (.bipush 9, 2) := by decide +kernel
theorem dX1_init_115 : decode cX1_init 115 = .ok (.bipush 9, 2) := by decide +kernel
theorem dX1_init_117 : decode cX1_init 117 = .ok (.multianewarray 34 2, 4) := by decide +kernel
theorem dX1_init_121 : decode cX1_init 121 = .ok (.putfield 54, 3) := by decide +kernel
theorem dX1_init_124 : decode cX1_init 124 = .ok (.return_, 1) := by decide +kernel
theorem dX1_lay_0 : decode cX1_lay 0 = .ok (.aload_n 0, 1) := by decide +kernel
theorem dX1_lay_1 : decode cX1_lay 1 = .ok (.iload_n 1, 1) := by decide +kernel
theorem dX1_lay_2 : decode cX1_lay 2 = .ok (.putfield 57, 3) := by decide +kernel
theorem dX1_lay_5 : decode cX1_lay 5 = .ok (.aload_n 0, 1) := by decide +kernel
theorem dX1_lay_6 : decode cX1_lay 6 = .ok (.iload_n 2, 1) := by decide +kernel
theorem dX1_lay_7 : decode cX1_lay 7 = .ok (.putfield 61, 3) := by decide +kernel
theorem dX1_lay_10 : decode cX1_lay 10 = .ok (.aload_n 0, 1) := by decide +kernel
theorem dX1_lay_11 : decode cX1_lay 11 = .ok (.iload_n 1, 1) := by decide +kernel
theorem dX1_lay_12 : decode cX1_lay 12 = .ok (.iload_n 2, 1) := by decide +kernel
theorem dX1_lay_13 : decode cX1_lay 13 = .ok (.imul, 1) := by decide +kernel
theorem dX1_lay_14 : decode cX1_lay 14 = .ok (.putfield 64, 3) := by decide +kernel
theorem dX1_lay_17 : decode cX1_lay 17 = .ok (.iconst 0, 1) := by decide +kernel
theorem dX1_lay_18 : decode cX1_lay 18 = .ok (.istore_n 3, 1) := by decide +kernel
theorem dX1_lay_19 : decode cX1_lay 19 = .ok (.iload_n 3, 1) := by decide +kernel
theorem dX1_lay_20 : decode cX1_lay 20 = .ok (.bipush 120, 2) := by decide +kernel
theorem dX1_lay_22 : decode cX1_lay 22 = .ok (.if_icmp .ge 23, 3) := by decide +kernel
theorem dX1_lay_25 : decode cX1_lay 25 = .ok (.aload_n 0, 1) := by decide +kernel
theorem dX1_lay_26 : decode cX1_lay 26 = .ok (.getfield 9, 3) := by decide +kernel
theorem dX1_lay_29 : decode cX1_lay 29 = .ok (.iload_n 3, 1) := by decide +kernel
theorem dX1_lay_30 : decode cX1_lay 30 = .ok (.iconst 0, 1) := by decide +kernel
theorem dX1_lay_31 : decode cX1_lay 31 = .ok (.bastore, 1) := by decide +kernel
theorem dX1_lay_32 : decode cX1_lay 32 = .ok (.aload_n 0, 1) := by decide +kernel
theorem dX1_lay_33 : decode cX1_lay 33 = .ok (.getfield 25, 3) := by decide +kernel
theorem dX1_lay_36 : decode cX1_lay 36 = .ok (.iload_n 3, 1) := by decide +kernel
theorem dX1_lay_37 : decode cX1_lay 37 = .ok (.iconst 0, 1) := by decide +kernel
theorem dX1_lay_38 : decode cX1_lay 38 = .ok (.bastore, 1) := by decide +kernel
theorem dX1_lay_39 : decode cX1_lay 39 = .ok (.iinc 3 1, 3) := by decide +kernel
theorem dX1_lay_42 : decode cX1_lay 42 = .ok (.goto (-23), 3) := by decide +kernel
theorem dX1_lay_45 : decode cX1_lay 45 = .ok (.iconst 0, 1) := by decide +kernel
theorem dX1_lay_46 : decode cX1_lay 46 = .ok (.istore_n 3, 1) := by decide +kernel
theorem dX1_lay_47 : decode cX1_lay 47 = .ok (.iload_n 3, 1) := by decide +kernel
theorem dX1_lay_48 : decode cX1_lay 48 = .ok (.aload_n 0, 1) := by decide +kernel
theorem dX1_lay_49 : decode cX1_lay 49 = .ok (.getfield 61, 3) := by decide +kernel
theorem dX1_lay_52 : decode cX1_lay 52 = .ok (.if_icmp .ge 34, 3) := by decide +kernel
theorem dX1_lay_55 : decode cX1_lay 55 = .ok (.iconst 0, 1) := by decide +kernel
theorem dX1_lay_56 : decode cX1_lay 56 = .ok (.istore 4, 2) := by decide +kernel
theorem dX1_lay_58 : decode cX1_lay 58 = .ok (.iload 4, 2) := by decide +kernel
theorem dX1_lay_60 : decode cX1_lay 60 = .ok (.aload_n 0, 1) := by decide +kernel
theorem dX1_lay_61 : decode cX1_lay 61 = .ok (.getfield 57, 3) := by decide +kernel
theorem dX1_lay_64 : decode cX1_lay 64 = .ok (.if_icmp .ge 16, 3) := by decide +kernel
theorem dX1_lay_67 : decode cX1_lay 67 = .ok (.aload_n 0, 1) := by decide +kernel
theorem dX1_lay_68 : decode cX1_lay 68 = .ok (.iload_n 3, 1) := by decide +kernel
theorem dX1_lay_69 : decode cX1_lay 69 = .ok (.iload 4, 2) := by decide +kernel
theorem dX1_lay_71 : decode cX1_lay 71 = .ok (.invokevirtual 67, 3) := by decide +kernel
theorem dX1_lay_74 : decode cX1_lay 74 = .ok (.iinc 4 1, 3) := by decide +kernel
theorem dX1_lay_77 : decode cX1_lay 77 = .ok (.goto (-19), 3) := by decide +kernel
theorem dX1_lay_80 : decode cX1_lay 80 = .ok (.iinc 3 1, 3) := by decide +kernel
theorem dX1_lay_83 : decode cX1_lay 83 = .ok (.goto (-36), 3) := by decide +kernel
theorem dX1_lay_86 : decode cX1_lay 86 = .ok (.iconst 0, 1) := by decide +kernel
theorem dX1_lay_87 : decode cX1_lay 87 = .ok (.istore_n 3, 1) := by decide +kernel
theorem dX1_lay_88 : decode cX1_lay 88 = .ok (.iload_n 3, 1) := by decide +kernel
theorem dX1_lay_89 : decode cX1_lay 89 = .ok (.bipush 120, 2) := by decide +kernel
theorem dX1_lay_91 : decode cX1_lay 91 = .ok (.if_icmp .gt 30, 3) := by decide +kernel
theorem dX1_lay_94 : decode cX1_lay 94 = .ok (.aload_n 0, 1) := by decide +kernel
theorem dX1_lay_95 : decode cX1_lay 95 = .ok (.getfield 42, 3) := by decide +kernel
theorem dX1_lay_98 : decode cX1_lay 98 = .ok (.iload_n 3, 1) := by decide +kernel
theorem dX1_lay_99 : decode cX1_lay 99 = .ok (.iconst 0, 1) := by decide +kernel
theorem dX1_lay_100 : decode cX1_lay 100 = .ok (.bastore, 1) := by decide +kernel
theorem dX1_lay_101 : decode cX1_lay 101 = .ok (.aload_n 0, 1) := by decide +kernel
theorem dX1_lay_102 : decode cX1_lay 102 = .ok (.getfield 45, 3) := by decide +kernel
theorem dX1_lay_105 : decode cX1_lay 105 = .ok (.iload_n 3, 1) := by decide +kernel
theorem dX1_lay_106 : decode cX1_lay 106 = .ok (.iconst 0, 1) := by decide +kernel
theorem dX1_lay_107 : decode cX1_lay 107 = .ok (.iastore, 1) := by decide +kernel
theorem dX1_lay_108 : decode cX1_lay 108 = .ok (.aload_n 0, 1) := by decide +kernel
theorem dX1_lay_109 : decode cX1_lay 109 = .ok (.getfield 48, 3) := by decide +kernel
theorem dX1_lay_112 : decode cX1_lay 112 = .ok (.iload_n 3, 1) := by decide +kernel
theorem dX1_lay_113 : decode cX1_lay 113 = .ok (.iconst 0, 1) := by decide +kernel
theorem dX1_lay_114 : decode cX1_lay 114 = .ok (.iastore, 1) := by decide +kernel
theorem dX1_lay_115 : decode cX1_lay 115 = .ok (.iinc 3 1, 3) := by decide +kernel
theorem dX1_lay_118 : decode cX1_lay 118 = .ok (.goto (-30), 3) := by decide +kernel
theorem dX1_lay_121 : decode cX1_lay 121 = .ok (.iconst 0, 1) := by decide +kernel
theorem dX1_lay_122 : decode cX1_lay 122 = .ok (.istore_n 3, 1) := by decide +kernel
theorem dX1_lay_123 : decode cX1_lay 123 = .ok (.iload_n 3, 1) := by decide +kernel
theorem dX1_lay_124 : decode cX1_lay 124 = .ok (.bipush 9, 2) := by decide +kernel
theorem dX1_lay_126 : decode cX1_lay 126 = .ok (.if_icmp .ge 19, 3) := by decide +kernel
theorem dX1_lay_129 : decode cX1_lay 129 = .ok (.aload_n 0, 1) := by decide +kernel
theorem dX1_lay_130 : decode cX1_lay 130 = .ok (.getfield 54, 3) := by decide +kernel
theorem dX1_lay_133 : decode cX1_lay 133 = .ok (.iload_n 3, 1) := by decide +kernel
theorem dX1_lay_134 : decode cX1_lay 134 = .ok (.aaload, 1) := by decide +kernel
theorem dX1_lay_135 : decode cX1_lay 135 = .ok (.iconst 0, 1) := by decide +kernel
theorem dX1_lay_136 : decode cX1_lay 136 = .ok (.invokestatic 71, 3) := by decide +kernel
theorem dX1_lay_139 : decode cX1_lay 139 = .ok (.iinc 3 1, 3) := by decide +kernel
theorem dX1_lay_142 : decode cX1_lay 142 = .ok (.goto (-19), 3) := by decide +kernel
theorem dX1_lay_145 : decode cX1_lay 145 = .ok (.return_, 1) := by decide +kernel
theorem dX1_layCell_0 : decode cX1_layCell 0 = .ok (.iload_n 1, 1) := by decide +kernel
theorem dX1_layCell_1 : decode cX1_layCell 1 = .ok (.aload_n 0, 1) := by decide +kernel
theorem dX1_layCell_2 : decode cX1_layCell 2 = .ok (.getfield 57, 3) := by decide +kernel
theorem dX1_layCell_5 : decode cX1_layCell 5 = .ok (.imul, 1) := by decide +kernel
theorem dX1_layCell_6 : decode cX1_layCell 6 = .ok (.iload_n 2, 1) := by decide +kernel
theorem dX1_layCell_7 : decode cX1_layCell 7 = .ok (.iadd, 1) := by decide +kernel
theorem dX1_layCell_8 : decode cX1_layCell 8 = .ok (.istore_n 3, 1) := by decide +kernel
theorem dX1_layCell_9 : decode cX1_layCell 9 = .ok (.aload_n 0, 1) := by decide +kernel
theorem dX1_layCell_10 : decode cX1_layCell 10 = .ok (.getfield 28, 3) := by decide +kernel
theorem dX1_layCell_13 : decode cX1_layCell 13 = .ok (.iload_n 3, 1) := by decide +kernel
theorem dX1_layCell_14 : decode cX1_layCell 14 = .ok (.iload_n 1, 1) := by decide +kernel
theorem dX1_layCell_15 : decode cX1_layCell 15 = .ok (.iastore, 1) := by decide +kernel
theorem dX1_layCell_16 : decode cX1_layCell 16 = .ok (.aload_n 0, 1) := by decide +kernel
theorem dX1_layCell_17 : decode cX1_layCell 17 = .ok (.getfield 31, 3) := by decide +kernel
theorem dX1_layCell_20 : decode cX1_layCell 20 = .ok (.iload_n 3, 1) := by decide +kernel
theorem dX1_layCell_21 : decode cX1_layCell 21 = .ok (.iload_n 2, 1) := by decide +kernel
theorem dX1_layCell_22 : decode cX1_layCell 22 = .ok (.iastore, 1) := by decide +kernel
theorem dX1_layCell_23 : decode cX1_layCell 23 = .ok (.iconst 0, 1) := by decide +kernel
theorem dX1_layCell_24 : decode cX1_layCell 24 = .ok (.istore 4, 2) := by decide +kernel
theorem dX1_layCell_26 : decode cX1_layCell 26 = .ok (.iload 4, 2) := by decide +kernel
theorem dX1_layCell_28 : decode cX1_layCell 28 = .ok (.bipush 8, 2) := by decide +kernel
theorem dX1_layCell_30 : decode cX1_layCell 30 = .ok (.if_icmp .ge 94, 3) := by decide +kernel
theorem dX1_layCell_33 : decode cX1_layCell 33 = .ok (.iload_n 1, 1) := by decide +kernel
theorem dX1_layCell_34 : decode cX1_layCell 34 = .ok (.getstatic 77, 3) := by decide +kernel
theorem dX1_layCell_37 : decode cX1_layCell 37 = .ok (.iload 4, 2) := by decide +kernel
theorem dX1_layCell_39 : decode cX1_layCell 39 = .ok (.iaload, 1) := by decide +kernel
theorem dX1_layCell_40 : decode cX1_layCell 40 = .ok (.iadd, 1) := by decide +kernel
theorem dX1_layCell_41 : decode cX1_layCell 41 = .ok (.istore 5, 2) := by decide +kernel
theorem dX1_layCell_43 : decode cX1_layCell 43 = .ok (.iload_n 2, 1) := by decide +kernel
theorem dX1_layCell_44 : decode cX1_layCell 44 = .ok (.getstatic 80, 3) := by decide +kernel
theorem dX1_layCell_47 : decode cX1_layCell 47 = .ok (.iload 4, 2) := by decide +kernel
theorem dX1_layCell_49 : decode cX1_layCell 49 = .ok (.iaload, 1) := by decide +kernel
theorem dX1_layCell_50 : decode cX1_layCell 50 = .ok (.iadd, 1) := by decide +kernel
theorem dX1_layCell_51 : decode cX1_layCell 51 = .ok (.istore 6, 2) := by decide +kernel
theorem dX1_layCell_53 : decode cX1_layCell 53 = .ok (.iload 5, 2) := by decide +kernel
theorem dX1_layCell_55 : decode cX1_layCell 55 = .ok (.iconst 0, 1) := by decide +kernel
theorem dX1_layCell_56 : decode cX1_layCell 56 = .ok (.aload_n 0, 1) := by decide +kernel
theorem dX1_layCell_57 : decode cX1_layCell 57 = .ok (.getfield 61, 3) := by decide +kernel
theorem dX1_layCell_60 : decode cX1_layCell 60 = .ok (.iconst 1, 1) := by decide +kernel
theorem dX1_layCell_61 : decode cX1_layCell 61 = .ok (.isub, 1) := by decide +kernel
theorem dX1_layCell_62 : decode cX1_layCell 62 = .ok (.invokestatic 83, 3) := by decide +kernel
theorem dX1_layCell_65 : decode cX1_layCell 65 = .ok (.ifCond .eq 22, 3) := by decide +kernel
theorem dX1_layCell_68 : decode cX1_layCell 68 = .ok (.iload 6, 2) := by decide +kernel
theorem dX1_layCell_70 : decode cX1_layCell 70 = .ok (.iconst 0, 1) := by decide +kernel
theorem dX1_layCell_71 : decode cX1_layCell 71 = .ok (.aload_n 0, 1) := by decide +kernel
theorem dX1_layCell_72 : decode cX1_layCell 72 = .ok (.getfield 57, 3) := by decide +kernel
theorem dX1_layCell_75 : decode cX1_layCell 75 = .ok (.iconst 1, 1) := by decide +kernel
theorem dX1_layCell_76 : decode cX1_layCell 76 = .ok (.isub, 1) := by decide +kernel
theorem dX1_layCell_77 : decode cX1_layCell 77 = .ok (.invokestatic 83, 3) := by decide +kernel
theorem dX1_layCell_80 : decode cX1_layCell 80 = .ok (.ifCond .eq 7, 3) := by decide +kernel
theorem dX1_layCell_83 : decode cX1_layCell 83 = .ok (.iconst 1, 1) := by decide +kernel
theorem dX1_layCell_84 : decode cX1_layCell 84 = .ok (.goto 4, 3) := by decide +kernel
theorem dX1_layCell_87 : decode cX1_layCell 87 = .ok (.iconst 0, 1) := by decide +kernel
theorem dX1_layCell_88 : decode cX1_layCell 88 = .ok (.istore 7, 2) := by decide +kernel
theorem dX1_layCell_90 : decode cX1_layCell 90 = .ok (.aload_n 0, 1) := by decide +kernel
theorem dX1_layCell_91 : decode cX1_layCell 91 = .ok (.getfield 36, 3) := by decide +kernel
theorem dX1_layCell_94 : decode cX1_layCell 94 = .ok (.iload_n 3, 1) := by decide +kernel
theorem dX1_layCell_95 : decode cX1_layCell 95 = .ok (.aaload, 1) := by decide +kernel
theorem dX1_layCell_96 : decode cX1_layCell 96 = .ok (.iload 4, 2) := by decide +kernel
theorem dX1_layCell_98 : decode cX1_layCell 98 = .ok (.iload 7, 2) := by decide +kernel
theorem dX1_layCell_100 : decode cX1_layCell 100 = .ok (.ifCond .eq 16, 3) := by decide +kernel
theorem dX1_layCell_103 : decode cX1_layCell 103 = .ok (.iload 5, 2) := by decide +kernel
theorem dX1_layCell_105 : decode cX1_layCell 105 = .ok (.aload_n 0, 1) := by decide +kernel
theorem dX1_layCell_106 : decode cX1_layCell 106 = .ok (.getfield 57, 3) := by decide +kernel
theorem dX1_layCell_109 : decode cX1_layCell 109 = .ok (.imul, 1) := by decide +kernel
theorem dX1_layCell_110 : decode cX1_layCell 110 = .ok (.iload 6, 2) := by decide +kernel
theorem dX1_layCell_112 : decode cX1_layCell 112 = .ok (.iadd, 1) := by decide +kernel
theorem dX1_layCell_113 : decode cX1_layCell 113 = .ok (.goto 4, 3) := by decide +kernel
theorem dX1_layCell_116 : decode cX1_layCell 116 = .ok (.iconst (-1), 1) := by decide +kernel
theorem dX1_layCell_117 : decode cX1_layCell 117 = .ok (.iastore, 1) := by decide +kernel
theorem dX1_layCell_118 : decode cX1_layCell 118 = .ok (.iinc 4 1, 3) := by decide +kernel
theorem dX1_layCell_121 : decode cX1_layCell 121 = .ok (.goto (-95), 3) := by decide +kernel
theorem dX1_layCell_124 : decode cX1_layCell 124 = .ok (.return_, 1) := by decide +kernel
theorem dX1_has_0 : decode cX1_has 0 = .ok (.iload_n 1, 1) := by decide +kernel
theorem dX1_has_1 : decode cX1_has 1 = .ok (.ifCond .lt 15, 3) := by decide +kernel
theorem dX1_has_4 : decode cX1_has 4 = .ok (.iload_n 1, 1) := by decide +kernel
theorem dX1_has_5 : decode cX1_has 5 = .ok (.aload_n 0, 1) := by decide +kernel
theorem dX1_has_6 : decode cX1_has 6 = .ok (.getfield 64, 3) := by decide +kernel
theorem dX1_has_9 : decode cX1_has 9 = .ok (.if_icmp .ge 7, 3) := by decide +kernel
theorem dX1_has_12 : decode cX1_has 12 = .ok (.iconst 1, 1) := by decide +kernel
theorem dX1_has_13 : decode cX1_has 13 = .ok (.goto 4, 3) := by decide +kernel
theorem dX1_has_16 : decode cX1_has 16 = .ok (.iconst 0, 1) := by decide +kernel
theorem dX1_has_17 : decode cX1_has 17 = .ok (.ireturn, 1) := by decide +kernel
theorem dX1_hasHouse_0 : decode cX1_hasHouse 0 = .ok (.aload_n 0, 1) := by decide +kernel
theorem dX1_hasHouse_1 : decode cX1_hasHouse 1 = .ok (.iload_n 1, 1) := by decide +kernel
theorem dX1_hasHouse_2 : decode cX1_hasHouse 2 = .ok (.invokevirtual 87, 3) := by decide +kernel
theorem dX1_hasHouse_5 : decode cX1_hasHouse 5 = .ok (.ifCond .eq 16, 3) := by decide +kernel
theorem dX1_hasHouse_8 : decode cX1_hasHouse 8 = .ok (.aload_n 0, 1) := by decide +kernel
theorem dX1_hasHouse_9 : decode cX1_hasHouse 9 = .ok (.getfield 9, 3) := by decide +kernel
theorem dX1_hasHouse_12 : decode cX1_hasHouse 12 = .ok (.iload_n 1, 1) := by decide +kernel
theorem dX1_hasHouse_13 : decode cX1_hasHouse 13 = .ok (.baload, 1) := by decide +kernel
theorem dX1_hasHouse_14 : decode cX1_hasHouse 14 = .ok (.ifCond .eq 7, 3) := by decide +kernel
theorem dX1_hasHouse_17 : decode cX1_hasHouse 17 = .ok (.iconst 1, 1) := by decide +kernel
theorem dX1_hasHouse_18 : decode cX1_hasHouse 18 = .ok (.goto 4, 3) := by decide +kernel
theorem dX1_hasHouse_21 : decode cX1_hasHouse 21 = .ok (.iconst 0, 1) := by decide +kernel
theorem dX1_hasHouse_22 : decode cX1_hasHouse 22 = .ok (.ireturn, 1) := by decide +kernel
theorem dX1_build_0 : decode cX1_build 0 = .ok (.aload_n 0, 1) := by decide +kernel
theorem dX1_build_1 : decode cX1_build 1 = .ok (.getfield 9, 3) := by decide +kernel
theorem dX1_build_4 : decode cX1_build 4 = .ok (.iload_n 1, 1) := by decide +kernel
theorem dX1_build_5 : decode cX1_build 5 = .ok (.iconst 1, 1) := by decide +kernel
theorem dX1_build_6 : decode cX1_build 6 = .ok (.bastore, 1) := by decide +kernel
theorem dX1_build_7 : decode cX1_build 7 = .ok (.aload_n 0, 1) := by decide +kernel
theorem dX1_build_8 : decode cX1_build 8 = .ok (.getfield 15, 3) := by decide +kernel
theorem dX1_build_11 : decode cX1_build 11 = .ok (.iload_n 1, 1) := by decide +kernel
theorem dX1_build_12 : decode cX1_build 12 = .ok (.iload_n 2, 1) := by decide +kernel
theorem dX1_build_13 : decode cX1_build 13 = .ok (.iastore, 1) := by decide +kernel
theorem dX1_build_14 : decode cX1_build 14 = .ok (.aload_n 0, 1) := by decide +kernel
theorem dX1_build_15 : decode cX1_build 15 = .ok (.getfield 19, 3) := by decide +kernel
theorem dX1_build_18 : decode cX1_build 18 = .ok (.iload_n 1, 1) := by decide +kernel
theorem dX1_build_19 : decode cX1_build 19 = .ok (.iload_n 3, 1) := by decide +kernel
theorem dX1_build_20 : decode cX1_build 20 = .ok (.iastore, 1) := by decide +kernel
theorem dX1_build_21 : decode cX1_build 21 = .ok (.aload_n 0, 1) := by decide +kernel
theorem dX1_build_22 : decode cX1_build 22 = .ok (.getfield 22, 3) := by decide +kernel
theorem dX1_build_25 : decode cX1_build 25 = .ok (.iload_n 1, 1) := by decide +kernel
theorem dX1_build_26 : decode cX1_build 26 = .ok (.iload 4, 2) := by decide +kernel
theorem dX1_build_28 : decode cX1_build 28 = .ok (.iastore, 1) := by decide +kernel
theorem dX1_build_29 : decode cX1_build 29 = .ok (.return_, 1) := by decide +kernel
theorem dX1_tellWind_0 : decode cX1_tellWind 0 = .ok (.aload_n 0, 1) := by decide +kernel
theorem dX1_tellWind_1 : decode cX1_tellWind 1 = .ok (.getfield 42, 3) := by decide +kernel
theorem dX1_tellWind_4 : decode cX1_tellWind 4 = .ok (.iload_n 1, 1) := by decide +kernel
theorem dX1_tellWind_5 : decode cX1_tellWind 5 = .ok (.iconst 1, 1) := by decide +kernel
theorem dX1_tellWind_6 : decode cX1_tellWind 6 = .ok (.bastore, 1) := by decide +kernel
theorem dX1_tellWind_7 : decode cX1_tellWind 7 = .ok (.aload_n 0, 1) := by decide +kernel
theorem dX1_tellWind_8 : decode cX1_tellWind 8 = .ok (.getfield 45, 3) := by decide +kernel
theorem dX1_tellWind_11 : decode cX1_tellWind 11 = .ok (.iload_n 1, 1) := by decide +kernel
theorem dX1_tellWind_12 : decode cX1_tellWind 12 = .ok (.iload_n 2, 1) := by decide +kernel
theorem dX1_tellWind_13 : decode cX1_tellWind 13 = .ok (.iastore, 1) := by decide +kernel
theorem dX1_tellWind_14 : decode cX1_tellWind 14 = .ok (.aload_n 0, 1) := by decide +kernel
theorem dX1_tellWind_15 : decode cX1_tellWind 15 = .ok (.getfield 48, 3) := by decide +kernel
theorem dX1_tellWind_18 : decode cX1_tellWind 18 = .ok (.iload_n 1, 1) := by decide +kernel
theorem dX1_tellWind_19 : decode cX1_tellWind 19 = .ok (.iload_n 3, 1) := by decide +kernel
theorem dX1_tellWind_20 : decode cX1_tellWind 20 = .ok (.iastore, 1) := by decide +kernel
theorem dX1_tellWind_21 : decode cX1_tellWind 21 = .ok (.iload_n 1, 1) := by decide +kernel
theorem dX1_tellWind_22 : decode cX1_tellWind 22 = .ok (.iconst 1, 1) := by decide +kernel
theorem dX1_tellWind_23 : decode cX1_tellWind 23 = .ok (.iadd, 1) := by decide +kernel
theorem dX1_tellWind_24 : decode cX1_tellWind 24 = .ok (.istore 4, 2) := by decide +kernel
theorem dX1_tellWind_26 : decode cX1_tellWind 26 = .ok (.iload 4, 2) := by decide +kernel
theorem dX1_tellWind_28 : decode cX1_tellWind 28 = .ok (.bipush 120, 2) := by decide +kernel
theorem dX1_tellWind_30 : decode cX1_tellWind 30 = .ok (.if_icmp .gt 35, 3) := by decide +kernel
theorem dX1_tellWind_33 : decode cX1_tellWind 33 = .ok (.aload_n 0, 1) := by decide +kernel
theorem dX1_tellWind_34 : decode cX1_tellWind 34 = .ok (.getfield 42, 3) := by decide +kernel
theorem dX1_tellWind_37 : decode cX1_tellWind 37 = .ok (.iload 4, 2) := by decide +kernel
theorem dX1_tellWind_39 : decode cX1_tellWind 39 = .ok (.baload, 1) := by decide +kernel
theorem dX1_tellWind_40 : decode cX1_tellWind 40 = .ok (.ifCond .ne 25, 3) := by decide +kernel
theorem dX1_tellWind_43 : decode cX1_tellWind 43 = .ok (.aload_n 0, 1) := by decide +kernel
theorem dX1_tellWind_44 : decode cX1_tellWind 44 = .ok (.getfield 45, 3) := by decide +kernel
theorem dX1_tellWind_47 : decode cX1_tellWind 47 = .ok (.iload 4, 2) := by decide +kernel
theorem dX1_tellWind_49 : decode cX1_tellWind 49 = .ok (.iload_n 2, 1) := by decide +kernel
theorem dX1_tellWind_50 : decode cX1_tellWind 50 = .ok (.iastore, 1) := by decide +kernel
theorem dX1_tellWind_51 : decode cX1_tellWind 51 = .ok (.aload_n 0, 1) := by decide +kernel
theorem dX1_tellWind_52 : decode cX1_tellWind 52 = .ok (.getfield 48, 3) := by decide +kernel
theorem dX1_tellWind_55 : decode cX1_tellWind 55 = .ok (.iload 4, 2) := by decide +kernel
theorem dX1_tellWind_57 : decode cX1_tellWind 57 = .ok (.iload_n 3, 1) := by decide +kernel
theorem dX1_tellWind_58 : decode cX1_tellWind 58 = .ok (.iastore, 1) := by decide +kernel
theorem dX1_tellWind_59 : decode cX1_tellWind 59 = .ok (.iinc 4 1, 3) := by decide +kernel
theorem dX1_tellWind_62 : decode cX1_tellWind 62 = .ok (.goto (-36), 3) := by decide +kernel
theorem dX1_tellWind_65 : decode cX1_tellWind 65 = .ok (.return_, 1) := by decide +kernel
theorem dX1_resistOf_0 : decode cX1_resistOf 0 = .ok (.getstatic 91, 3) := by decide +kernel
theorem dX1_resistOf_3 : decode cX1_resistOf 3 = .ok (.aload_n 0, 1) := by decide +kernel
theorem dX1_resistOf_4 : decode cX1_resistOf 4 = .ok (.getfield 15, 3) := by decide +kernel
theorem dX1_resistOf_7 : decode cX1_resistOf 7 = .ok (.iload_n 1, 1) := by decide +kernel
theorem dX1_resistOf_8 : decode cX1_resistOf 8 = .ok (.iaload, 1) := by decide +kernel
theorem dX1_resistOf_9 : decode cX1_resistOf 9 = .ok (.iaload, 1) := by decide +kernel
theorem dX1_resistOf_10 : decode cX1_resistOf 10 = .ok (.ireturn, 1) := by decide +kernel
theorem dX1_fuelOf_0 : decode cX1_fuelOf 0 = .ok (.getstatic 94, 3) := by decide +kernel
theorem dX1_fuelOf_3 : decode cX1_fuelOf 3 = .ok (.aload_n 0, 1) := by decide +kernel
theorem dX1_fuelOf_4 : decode cX1_fuelOf 4 = .ok (.getfield 15, 3) := by decide +kernel
theorem dX1_fuelOf_7 : decode cX1_fuelOf 7 = .ok (.iload_n 1, 1) := by decide +kernel
theorem dX1_fuelOf_8 : decode cX1_fuelOf 8 = .ok (.iaload, 1) := by decide +kernel
theorem dX1_fuelOf_9 : decode cX1_fuelOf 9 = .ok (.iaload, 1) := by decide +kernel
theorem dX1_fuelOf_10 : decode cX1_fuelOf 10 = .ok (.ireturn, 1) := by decide +kernel
theorem dX1_apart_0 : decode cX1_apart 0 = .ok (.aload_n 0, 1) := by decide +kernel
theorem dX1_apart_1 : decode cX1_apart 1 = .ok (.getfield 28, 3) := by decide +kernel
theorem dX1_apart_4 : decode cX1_apart 4 = .ok (.iload_n 1, 1) := by decide +kernel
theorem dX1_apart_5 : decode cX1_apart 5 = .ok (.iaload, 1) := by decide +kernel
theorem dX1_apart_6 : decode cX1_apart 6 = .ok (.aload_n 0, 1) := by decide +kernel
theorem dX1_apart_7 : decode cX1_apart 7 = .ok (.getfield 28, 3) := by decide +kernel
theorem dX1_apart_10 : decode cX1_apart 10 = .ok (.iload_n 2, 1) := by decide +kernel
theorem dX1_apart_11 : decode cX1_apart 11 = .ok (.iaload, 1) := by decide +kernel
theorem dX1_apart_12 : decode cX1_apart 12 = .ok (.isub, 1) := by decide +kernel
theorem dX1_apart_13 : decode cX1_apart 13 = .ok (.invokestatic 97, 3) := by decide +kernel
theorem dX1_apart_16 : decode cX1_apart 16 = .ok (.aload_n 0, 1) := by decide +kernel
theorem dX1_apart_17 : decode cX1_apart 17 = .ok (.getfield 31, 3) := by decide +kernel
theorem dX1_apart_20 : decode cX1_apart 20 = .ok (.iload_n 1, 1) := by decide +kernel
theorem dX1_apart_21 : decode cX1_apart 21 = .ok (.iaload, 1) := by decide +kernel
theorem dX1_apart_22 : decode cX1_apart 22 = .ok (.aload_n 0, 1) := by decide +kernel
theorem dX1_apart_23 : decode cX1_apart 23 = .ok (.getfield 31, 3) := by decide +kernel
theorem dX1_apart_26 : decode cX1_apart 26 = .ok (.iload_n 2, 1) := by decide +kernel
theorem dX1_apart_27 : decode cX1_apart 27 = .ok (.iaload, 1) := by decide +kernel
theorem dX1_apart_28 : decode cX1_apart 28 = .ok (.isub, 1) := by decide +kernel
theorem dX1_apart_29 : decode cX1_apart 29 = .ok (.invokestatic 97, 3) := by decide +kernel
theorem dX1_apart_32 : decode cX1_apart 32 = .ok (.iadd, 1) := by decide +kernel
theorem dX1_apart_33 : decode cX1_apart 33 = .ok (.ireturn, 1) := by decide +kernel
theorem dX1_plugNear_0 : decode cX1_plugNear 0 = .ok (.iconst 0, 1) := by decide +kernel
theorem dX1_plugNear_1 : decode cX1_plugNear 1 = .ok (.istore_n 2, 1) := by decide +kernel
theorem dX1_plugNear_2 : decode cX1_plugNear 2 = .ok (.iload_n 2, 1) := by decide +kernel
theorem dX1_plugNear_3 : decode cX1_plugNear 3 = .ok (.aload_n 0, 1) := by decide +kernel
theorem dX1_plugNear_4 : decode cX1_plugNear 4 = .ok (.getfield 64, 3) := by decide +kernel
theorem dX1_plugNear_7 : decode cX1_plugNear 7 = .ok (.if_icmp .ge 30, 3) := by decide +kernel
theorem dX1_plugNear_10 : decode cX1_plugNear 10 = .ok (.aload_n 0, 1) := by decide +kernel
theorem dX1_plugNear_11 : decode cX1_plugNear 11 = .ok (.getfield 25, 3) := by decide +kernel
theorem dX1_plugNear_14 : decode cX1_plugNear 14 = .ok (.iload_n 2, 1) := by decide +kernel
theorem dX1_plugNear_15 : decode cX1_plugNear 15 = .ok (.baload, 1) := by decide +kernel
theorem dX1_plugNear_16 : decode cX1_plugNear 16 = .ok (.ifCond .eq 15, 3) := by decide +kernel
theorem dX1_plugNear_19 : decode cX1_plugNear 19 = .ok (.aload_n 0, 1) := by decide +kernel
theorem dX1_plugNear_20 : decode cX1_plugNear 20 = .ok (.iload_n 1, 1) := by decide +kernel
theorem dX1_plugNear_21 : decode cX1_plugNear 21 = .ok (.iload_n 2, 1) := by decide +kernel
theorem dX1_plugNear_22 : decode cX1_plugNear 22 = .ok (.invokevirtual 103, 3) := by decide +kernel
theorem dX1_plugNear_25 : decode cX1_plugNear 25 = .ok (.iconst 3, 1) := by decide +kernel
theorem dX1_plugNear_26 : decode cX1_plugNear 26 = .ok (.if_icmp .gt 5, 3) := by decide +kernel
theorem dX1_plugNear_29 : decode cX1_plugNear 29 = .ok (.iconst 1, 1) := by decide +kernel
theorem dX1_plugNear_30 : decode cX1_plugNear 30 = .ok (.ireturn, 1) := by decide +kernel
theorem dX1_plugNear_31 : decode cX1_plugNear 31 = .ok (.iinc 2 1, 3) := by decide +kernel
theorem dX1_plugNear_34 : decode cX1_plugNear 34 = .ok (.goto (-32), 3) := by decide +kernel
theorem dX1_plugNear_37 : decode cX1_plugNear 37 = .ok (.iconst 0, 1) := by decide +kernel
theorem dX1_plugNear_38 : decode cX1_plugNear 38 = .ok (.ireturn, 1) := by decide +kernel
theorem dX1_housesAround_0 : decode cX1_housesAround 0 = .ok (.iconst 0, 1) := by decide +kernel
theorem dX1_housesAround_1 : decode cX1_housesAround 1 = .ok (.istore_n 2, 1) := by decide +kernel
theorem dX1_housesAround_2 : decode cX1_housesAround 2 = .ok (.iconst 0, 1) := by decide +kernel
theorem dX1_housesAround_3 : decode cX1_housesAround 3 = .ok (.istore_n 3, 1) := by decide +kernel
theorem dX1_housesAround_4 : decode cX1_housesAround 4 = .ok (.iload_n 3, 1) := by decide +kernel
theorem dX1_housesAround_5 : decode cX1_housesAround 5 = .ok (.bipush 8, 2) := by decide +kernel
theorem dX1_housesAround_7 : decode cX1_housesAround 7 = .ok (.if_icmp .ge 38, 3) := by decide +kernel
theorem dX1_housesAround_10 : decode cX1_housesAround 10 = .ok (.aload_n 0, 1) := by decide +kernel
theorem dX1_housesAround_11 : decode cX1_housesAround 11 = .ok (.getfield 36, 3) := by decide +kernel
theorem dX1_housesAround_14 : decode cX1_housesAround 14 = .ok (.iload_n 1, 1) := by decide +kernel
theorem dX1_housesAround_15 : decode cX1_housesAround 15 = .ok (.aaload, 1) := by decide +kernel
theorem dX1_housesAround_16 : decode cX1_housesAround 16 = .ok (.iload_n 3, 1) := by decide +kernel
theorem dX1_housesAround_17 : decode cX1_housesAround 17 = .ok (.iaload, 1) := by decide +kernel
theorem dX1_housesAround_18 : decode cX1_housesAround 18 = .ok (.istore 4, 2) := by decide +kernel
theorem dX1_housesAround_20 : decode cX1_housesAround 20 = .ok (.iload 4, 2) := by decide +kernel
theorem dX1_housesAround_22 : decode cX1_housesAround 22 = .ok (.iconst (-1), 1) := by decide +kernel
theorem dX1_housesAround_23 : decode cX1_housesAround 23 = .ok (.if_icmp .eq 16, 3) := by decide +kernel
theorem dX1_housesAround_26 : decode cX1_housesAround 26 = .ok (.aload_n 0, 1) := by decide +kernel
theorem dX1_housesAround_27 : decode cX1_housesAround 27 = .ok (.getfield 9, 3) := by decide +kernel
theorem dX1_housesAround_30 : decode cX1_housesAround 30 = .ok (.iload 4, 2) := by decide +kernel
theorem dX1_housesAround_32 : decode cX1_housesAround 32 = .ok (.baload, 1) := by decide +kernel
theorem dX1_housesAround_33 : decode cX1_housesAround 33 = .ok (.ifCond .eq 6, 3) := by decide +kernel
theorem dX1_housesAround_36 : decode cX1_housesAround 36 = .ok (.iinc 2 1, 3) := by decide +kernel
theorem dX1_housesAround_39 : decode cX1_housesAround 39 = .ok (.iinc 3 1, 3) := by decide +kernel
theorem dX1_housesAround_42 : decode cX1_housesAround 42 = .ok (.goto (-38), 3) := by decide +kernel
theorem dX1_housesAround_45 : decode cX1_housesAround 45 = .ok (.iload_n 2, 1) := by decide +kernel
theorem dX1_housesAround_46 : decode cX1_housesAround 46 = .ok (.ireturn, 1) := by decide +kernel
theorem dX1_many_0 : decode cX1_many 0 = .ok (.iconst 0, 1) := by decide +kernel
theorem dX1_many_1 : decode cX1_many 1 = .ok (.istore_n 2, 1) := by decide +kernel
theorem dX1_many_2 : decode cX1_many 2 = .ok (.iconst 0, 1) := by decide +kernel
theorem dX1_many_3 : decode cX1_many 3 = .ok (.istore_n 3, 1) := by decide +kernel
theorem dX1_many_4 : decode cX1_many 4 = .ok (.iload_n 3, 1) := by decide +kernel
theorem dX1_many_5 : decode cX1_many 5 = .ok (.aload_n 0, 1) := by decide +kernel
theorem dX1_many_6 : decode cX1_many 6 = .ok (.getfield 64, 3) := by decide +kernel
theorem dX1_many_9 : decode cX1_many 9 = .ok (.if_icmp .ge 24, 3) := by decide +kernel
theorem dX1_many_12 : decode cX1_many 12 = .ok (.iload_n 3, 1) := by decide +kernel
theorem dX1_many_13 : decode cX1_many 13 = .ok (.aload_n 1, 1) := by decide +kernel
theorem dX1_many_14 : decode cX1_many 14 = .ok (.arraylength, 1) := by decide +kernel
theorem dX1_many_15 : decode cX1_many 15 = .ok (.if_icmp .ge 18, 3) := by decide +kernel
theorem dX1_many_18 : decode cX1_many 18 = .ok (.aload_n 1, 1) := by decide +kernel
theorem dX1_many_19 : decode cX1_many 19 = .ok (.iload_n 3, 1) := by decide +kernel
theorem dX1_many_20 : decode cX1_many 20 = .ok (.baload, 1) := by decide +kernel
theorem dX1_many_21 : decode cX1_many 21 = .ok (.ifCond .eq 6, 3) := by decide +kernel
theorem dX1_many_24 : decode cX1_many 24 = .ok (.iinc 2 1, 3) := by decide +kernel
theorem dX1_many_27 : decode cX1_many 27 = .ok (.iinc 3 1, 3) := by decide +kernel
theorem dX1_many_30 : decode cX1_many 30 = .ok (.goto (-26), 3) := by decide +kernel
theorem dX1_many_33 : decode cX1_many 33 = .ok (.iload_n 2, 1) := by decide +kernel
theorem dX1_many_34 : decode cX1_many 34 = .ok (.ireturn, 1) := by decide +kernel
theorem dX2_init_0 : decode cX2_init 0 = .ok (.aload_n 0, 1) := by decide +kernel
theorem dX2_init_1 : decode cX2_init 1 = .ok (.invokespecial 3, 3) := by decide +kernel
theorem dX2_init_4 : decode cX2_init 4 = .ok (.aload_n 0, 1) := by decide +kernel
theorem dX2_init_5 : decode cX2_init 5 = .ok (.sipush 201, 3) := by decide +kernel
theorem dX2_init_8 : decode cX2_init 8 = .ok (.newarray .boolean, 2) := by decide +kernel
theorem dX2_init_10 : decode cX2_init 10 = .ok (.putfield 9, 3) := by decide +kernel
theorem dX2_init_13 : decode cX2_init 13 = .ok (.aload_n 0, 1) := by decide +kernel
theorem dX2_init_14 : decode cX2_init 14 = .ok (.sipush 201, 3) := by decide +kernel
theorem dX2_init_17 : decode cX2_init 17 = .ok (.newarray .int, 2) := by decide +kernel
theorem dX2_init_19 : decode cX2_init 19 = .ok (.putfield 15, 3) := by decide +kernel
theorem dX2_init_22 : decode cX2_init 22 = .ok (.aload_n 0, 1) := by decide +kernel
theorem dX2_init_23 : decode cX2_init 23 = .ok (.sipush 201, 3) := by decide +kernel
theorem dX2_init_26 : decode cX2_init 26 = .ok (.newarray .int, 2) := by decide +kernel
theorem dX2_init_28 : decode cX2_init 28 = .ok (.putfield 19, 3) := by decide +kernel
theorem dX2_init_31 : decode cX2_init 31 = .ok (.aload_n 0, 1) := by decide +kernel
theorem dX2_init_32 : decode cX2_init 32 = .ok (.bipush 9, 2) := by decide +kernel
theorem dX2_init_34 : decode cX2_init 34 = .ok (.newarray .int, 2) := by decide +kernel
theorem dX2_init_36 : decode cX2_init 36 = .ok (.putfield 22, 3) := by decide +kernel
theorem dX2_init_39 : decode cX2_init 39 = .ok (.aload_n 0, 1) := by decide +kernel
theorem dX2_init_40 : decode cX2_init 40 = .ok (.sipush 200, 3) := by decide +kernel
theorem dX2_init_43 : decode cX2_init 43 = .ok (.newarray .int, 2) := by decide +kernel
theorem dX2_init_45 : decode cX2_init 45 = .ok (.putfield 25, 3) := by decide +kernel
theorem dX2_init_48 : decode cX2_init 48 = .ok (.aload_n 0, 1) := by decide +kernel
theorem dX2_init_49 : decode cX2_init 49 = .ok (.sipush 200, 3) := by decide +kernel
theorem dX2_init_52 : decode cX2_init 52 = .ok (.newarray .long, 2) := by decide +kernel
theorem dX2_init_54 : decode cX2_init 54 = .ok (.putfield 28, 3) := by decide +kernel
theorem dX2_init_57 : decode cX2_init 57 = .ok (.aload_n 0, 1) := by decide +kernel
theorem dX2_init_58 : decode cX2_init 58 = .ok (.aload_n 1, 1) := by decide +kernel
theorem dX2_init_59 : decode cX2_init 59 = .ok (.putfield 32, 3) := by decide +kernel
theorem dX2_init_62 : decode cX2_init 62 = .ok (.aload_n 0, 1) := by decide +kernel
theorem dX2_init_63 : decode cX2_init 63 = .ok (.aload_n 2, 1) := by decide +kernel
theorem dX2_init_64 : decode cX2_init 64 = .ok (.putfield 36, 3) := by decide +kernel
theorem dX2_init_67 : decode cX2_init 67 = .ok (.aload_n 0, 1) := by decide +kernel
theorem dX2_init_68 : decode cX2_init 68 = .ok (.aload_n 3, 1) := by decide +kernel
theorem dX2_init_69 : decode cX2_init 69 = .ok (.putfield 40, 3) := by decide +kernel
theorem dX2_init_72 : decode cX2_init 72 = .ok (.return_, 1) := by decide +kernel
theorem dX2_settleAll_0 : decode cX2_settleAll 0 = .ok (.aload_n 0, 1) := by decide +kernel
theorem dX2_settleAll_1 : decode cX2_settleAll 1 = .ok (.getfield 22, 3) := by decide +kernel
theorem dX2_settleAll_4 : decode cX2_settleAll 4 = .ok (.iconst 0, 1) := by decide +kernel
theorem dX2_settleAll_5 : decode cX2_settleAll 5 = .ok (.invokestatic 44, 3) := by decide +kernel
theorem dX2_settleAll_8 : decode cX2_settleAll 8 = .ok (.iconst 0, 1) := by decide +kernel
theorem dX2_settleAll_9 : decode cX2_settleAll 9 = .ok (.istore_n 2, 1) := by decide +kernel
theorem dX2_settleAll_10 : decode cX2_settleAll 10 = .ok (.iload_n 2, 1) := by decide +kernel
theorem dX2_settleAll_11 : decode cX2_settleAll 11 = .ok (.sipush 200, 3) := by decide +kernel
theorem dX2_settleAll_14 : decode cX2_settleAll 14 = .ok (.if_icmp .gt 30, 3) := by decide +kernel
theorem dX2_settleAll_17 : decode cX2_settleAll 17 = .ok (.aload_n 0, 1) := by decide +kernel
theorem dX2_settleAll_18 : decode cX2_settleAll 18 = .ok (.getfield 9, 3) := by decide +kernel
theorem dX2_settleAll_21 : decode cX2_settleAll 21 = .ok (.iload_n 2, 1) := by decide +kernel
theorem dX2_settleAll_22 : decode cX2_settleAll 22 = .ok (.iconst 0, 1) := by decide +kernel
theorem dX2_settleAll_23 : decode cX2_settleAll 23 = .ok (.bastore, 1) := by decide +kernel
theorem dX2_settleAll_24 : decode cX2_settleAll 24 = .ok (.aload_n 0, 1) := by decide +kernel
theorem dX2_settleAll_25 : decode cX2_settleAll 25 = .ok (.getfield 15, 3) := by decide +kernel
theorem dX2_settleAll_28 : decode cX2_settleAll 28 = .ok (.iload_n 2, 1) := by decide +kernel
theorem dX2_settleAll_29 : decode cX2_settleAll 29 = .ok (.iconst 0, 1) := by decide +kernel
theorem dX2_settleAll_30 : decode cX2_settleAll 30 = .ok (.iastore, 1) := by decide +kernel
theorem dX2_settleAll_31 : decode cX2_settleAll 31 = .ok (.aload_n 0, 1) := by decide +kernel
theorem dX2_settleAll_32 : decode cX2_settleAll 32 = .ok (.getfield 19, 3) := by decide +kernel
theorem dX2_settleAll_35 : decode cX2_settleAll 35 = .ok (.iload_n 2, 1) := by decide +kernel
theorem dX2_settleAll_36 : decode cX2_settleAll 36 = .ok (.iconst 0, 1) := by decide +kernel
theorem dX2_settleAll_37 : decode cX2_settleAll 37 = .ok (.iastore, 1) := by decide +kernel
theorem dX2_settleAll_38 : decode cX2_settleAll 38 = .ok (.iinc 2 1, 3) := by decide +kernel
theorem dX2_settleAll_41 : decode cX2_settleAll 41 = .ok (.goto (-31), 3) := by decide +kernel
theorem dX2_settleAll_44 : decode cX2_settleAll 44 = .ok (.iconst 0, 1) := by decide +kernel
theorem dX2_settleAll_45 : decode cX2_settleAll 45 = .ok (.istore_n 2, 1) := by decide +kernel
theorem dX2_settleAll_46 : decode cX2_settleAll 46 = .ok (.iload_n 2, 1) := by decide +kernel
theorem dX2_settleAll_47 : decode cX2_settleAll 47 = .ok (.aload_n 0, 1) := by decide +kernel
theorem dX2_settleAll_48 : decode cX2_settleAll 48 = .ok (.getfield 36, 3) := by decide +kernel
theorem dX2_settleAll_51 : decode cX2_settleAll 51 = .ok (.getfield 50, 3) := by decide +kernel
theorem dX2_settleAll_54 : decode cX2_settleAll 54 = .ok (.if_icmp .ge 24, 3) := by decide +kernel
theorem dX2_settleAll_57 : decode cX2_settleAll 57 = .ok (.aload_n 0, 1) := by decide +kernel
theorem dX2_settleAll_58 : decode cX2_settleAll 58 = .ok (.getfield 9, 3) := by decide +kernel
theorem dX2_settleAll_61 : decode cX2_settleAll 61 = .ok (.aload_n 0, 1) := by decide +kernel
theorem dX2_settleAll_62 : decode cX2_settleAll 62 = .ok (.getfield 36, 3) := by decide +kernel
theorem dX2_settleAll_65 : decode cX2_settleAll 65 = .ok (.getfield 56, 3) := by decide +kernel
theorem dX2_settleAll_68 : decode cX2_settleAll 68 = .ok (.iload_n 2, 1) := by decide +kernel
theorem dX2_settleAll_69 : decode cX2_settleAll 69 = .ok (.iaload, 1) := by decide +kernel
theorem dX2_settleAll_70 : decode cX2_settleAll 70 = .ok (.iconst 1, 1) := by decide +kernel
theorem dX2_settleAll_71 : decode cX2_settleAll 71 = .ok (.bastore, 1) := by decide +kernel
theorem dX2_settleAll_72 : decode cX2_settleAll 72 = .ok (.iinc 2 1, 3) := by decide +kernel
theorem dX2_settleAll_75 : decode cX2_settleAll 75 = .ok (.goto (-29), 3) := by decide +kernel
theorem dX2_settleAll_78 : decode cX2_settleAll 78 = .ok (.iconst 0, 1) := by decide +kernel
theorem dX2_settleAll_79 : decode cX2_settleAll 79 = .ok (.istore_n 2, 1) := by decide +kernel
theorem dX2_settleAll_80 : decode cX2_settleAll 80 = .ok (.iload_n 2, 1) := by decide +kernel
theorem dX2_settleAll_81 : decode cX2_settleAll 81 = .ok (.bipush 120, 2) := by decide +kernel
theorem dX2_settleAll_83 : decode cX2_settleAll 83 = .ok (.if_icmp .ge 41, 3) := by decide +kernel
theorem dX2_settleAll_86 : decode cX2_settleAll 86 = .ok (.aload_n 0, 1) := by decide +kernel
theorem dX2_settleAll_87 : decode cX2_settleAll 87 = .ok (.getfield 36, 3) := by decide +kernel
theorem dX2_settleAll_90 : decode cX2_settleAll 90 = .ok (.getfield 59, 3) := by decide +kernel
theorem dX2_settleAll_93 : decode cX2_settleAll 93 = .ok (.iload_n 2, 1) := by decide +kernel
theorem dX2_settleAll_94 : decode cX2_settleAll 94 = .ok (.iaload, 1) := by decide +kernel
theorem dX2_settleAll_95 : decode cX2_settleAll 95 = .ok (.ifCond .le 23, 3) := by decide +kernel
theorem dX2_settleAll_98 : decode cX2_settleAll 98 = .ok (.aload_n 1, 1) := by decide +kernel
theorem dX2_settleAll_99 : decode cX2_settleAll 99 = .ok (.getfield 62, 3) := by decide +kernel
theorem dX2_settleAll_102 : decode cX2_settleAll 102 = .ok (.iload_n 2, 1) := by decide +kernel
theorem dX2_settleAll_103 : decode cX2_settleAll 103 = .ok (.iaload, 1) := by decide +kernel
theorem dX2_settleAll_104 : decode cX2_settleAll 104 = .ok (.ifCond .le 14, 3) := by decide +kernel
theorem dX2_settleAll_107 : decode cX2_settleAll 107 = .ok (.aload_n 0, 1) := by decide +kernel
theorem dX2_settleAll_108 : decode cX2_settleAll 108 = .ok (.iload_n 2, 1) := by decide +kernel
theorem dX2_settleAll_109 : decode cX2_settleAll 109 = .ok (.aload_n 1, 1) := by decide +kernel
theorem dX2_settleAll_110 : decode cX2_settleAll 110 = .ok (.getfield 62, 3) := by decide +kernel
theorem dX2_settleAll_113 : decode cX2_settleAll 113 = .ok (.iload_n 2, 1) := by decide +kernel
theorem dX2_settleAll_114 : decode cX2_settleAll 114 = .ok (.iaload, 1) := by decide +kernel
theorem dX2_settleAll_115 : decode cX2_settleAll 115 = .ok (.invokevirtual 67, 3) := by decide +kernel
theorem dX2_settleAll_118 : decode cX2_settleAll 118 = .ok (.iinc 2 1, 3) := by decide +kernel
theorem dX2_settleAll_121 : decode cX2_settleAll 121 = .ok (.goto (-41), 3) := by decide +kernel
theorem dX2_settleAll_124 : decode cX2_settleAll 124 = .ok (.iconst 0, 1) := by decide +kernel
theorem dX2_settleAll_125 : decode cX2_settleAll 125 = .ok (.istore_n 2, 1) := by decide +kernel
theorem dX2_settleAll_126 : decode cX2_settleAll 126 = .ok (.iload_n 2, 1) := by decide +kernel
theorem dX2_settleAll_127 : decode cX2_settleAll 127 = .ok (.aload_n 0, 1) := by decide +kernel
theorem dX2_settleAll_128 : decode cX2_settleAll 128 = .ok (.getfield 36, 3) := by decide +kernel
theorem dX2_settleAll_131 : decode cX2_settleAll 131 = .ok (.getfield 50, 3) := by decide +kernel
theorem dX2_settleAll_134 : decode cX2_settleAll 134 = .ok (.if_icmp .ge 42, 3) := by decide +kernel
theorem dX2_settleAll_137 : decode cX2_settleAll 137 = .ok (.aload_n 0, 1) := by decide +kernel
theorem dX2_settleAll_138 : decode cX2_settleAll 138 = .ok (.getfield 36, 3) := by decide +kernel
theorem dX2_settleAll_141 : decode cX2_settleAll 141 = .ok (.getfield 56, 3) := by decide +kernel
theorem dX2_settleAll_144 : decode cX2_settleAll 144 = .ok (.iload_n 2, 1) := by decide +kernel
theorem dX2_settleAll_145 : decode cX2_settleAll 145 = .ok (.iaload, 1) := by decide +kernel
theorem dX2_settleAll_146 : decode cX2_settleAll 146 = .ok (.istore_n 3, 1) := by decide +kernel
theorem dX2_settleAll_147 : decode cX2_settleAll 147 = .ok (.aload_n 0, 1) := by decide +kernel
theorem dX2_settleAll_148 : decode cX2_settleAll 148 = .ok (.getfield 22, 3) := by decide +kernel
theorem dX2_settleAll_151 : decode cX2_settleAll 151 = .ok (.aload_n 0, 1) := by decide +kernel
theorem dX2_settleAll_152 : decode cX2_settleAll 152 = .ok (.getfield 32, 3) := by decide +kernel
theorem dX2_settleAll_155 : decode cX2_settleAll 155 = .ok (.getfield 71, 3) := by decide +kernel
theorem dX2_settleAll_158 : decode cX2_settleAll 158 = .ok (.iload_n 3, 1) := by decide +kernel
theorem dX2_settleAll_159 : decode cX2_settleAll 159 = .ok (.iaload, 1) := by decide +kernel
theorem dX2_settleAll_160 : decode cX2_settleAll 160 = .ok (.dup2, 1) := by decide +kernel
theorem dX2_settleAll_161 : decode cX2_settleAll 161 = .ok (.iaload, 1) := by decide +kernel
theorem dX2_settleAll_162 : decode cX2_settleAll 162 = .ok (.aload_n 0, 1) := by decide +kernel
theorem dX2_settleAll_163 : decode cX2_settleAll 163 = .ok (.getfield 19, 3) := by decide +kernel
theorem dX2_settleAll_166 : decode cX2_settleAll 166 = .ok (.iload_n 3, 1) := by decide +kernel
theorem dX2_settleAll_167 : decode cX2_settleAll 167 = .ok (.iaload, 1) := by decide +kernel
theorem dX2_settleAll_168 : decode cX2_settleAll 168 = .ok (.iadd, 1) := by decide +kernel
theorem dX2_settleAll_169 : decode cX2_settleAll 169 = .ok (.iastore, 1) := by decide +kernel
theorem dX2_settleAll_170 : decode cX2_settleAll 170 = .ok (.iinc 2 1, 3) := by decide +kernel
theorem dX2_settleAll_173 : decode cX2_settleAll 173 = .ok (.goto (-47), 3) := by decide +kernel
theorem dX2_settleAll_176 : decode cX2_settleAll 176 = .ok (.return_, 1) := by decide +kernel
theorem dX2_settleHouse_0 : decode cX2_settleHouse 0 = .ok (.aload_n 0, 1) := by decide +kernel
theorem dX2_settleHouse_1 : decode cX2_settleHouse 1 = .ok (.getfield 40, 3) := by decide +kernel
theorem dX2_settleHouse_4 : decode cX2_settleHouse 4 = .ok (.iload_n 1, 1) := by decide +kernel
theorem dX2_settleHouse_5 : decode cX2_settleHouse 5 = .ok (.invokevirtual 76, 3) := by decide +kernel
theorem dX2_settleHouse_8 : decode cX2_settleHouse 8 = .ok (.aload_n 0, 1) := by decide +kernel
theorem dX2_settleHouse_9 : decode cX2_settleHouse 9 = .ok (.iconst 0, 1) := by decide +kernel
theorem dX2_settleHouse_10 : decode cX2_settleHouse 10 = .ok (.putfield 82, 3) := by decide +kernel
theorem dX2_settleHouse_13 : decode cX2_settleHouse 13 = .ok (.iconst 0, 1) := by decide +kernel
theorem dX2_settleHouse_14 : decode cX2_settleHouse 14 = .ok (.istore_n 3, 1) := by decide +kernel
theorem dX2_settleHouse_15 : decode cX2_settleHouse 15 = .ok (.iload_n 3, 1) := by decide +kernel
theorem dX2_settleHouse_16 : decode cX2_settleHouse 16 = .ok (.aload_n 0, 1) := by decide +kernel
theorem dX2_settleHouse_17 : decode cX2_settleHouse 17 = .ok (.getfield 36, 3) := by decide +kernel
theorem dX2_settleHouse_20 : decode cX2_settleHouse 20 = .ok (.getfield 50, 3) := by decide +kernel
theorem dX2_settleHouse_23 : decode cX2_settleHouse 23 = .ok (.if_icmp .ge 116, 3) := by decide +kernel
theorem dX2_settleHouse_26 : decode cX2_settleHouse 26 = .ok (.aload_n 0, 1) := by decide +kernel
theorem dX2_settleHouse_27 : decode cX2_settleHouse 27 = .ok (.getfield 36, 3) := by decide +kernel
theorem dX2_settleHouse_30 : decode cX2_settleHouse 30 = .ok (.getfield 56, 3) := by decide +kernel
theorem dX2_settleHouse_33 : decode cX2_settleHouse 33 = .ok (.iload_n 3, 1) := by decide +kernel
theorem dX2_settleHouse_34 : decode cX2_settleHouse 34 = .ok (.iaload, 1) := by decide +kernel
theorem dX2_settleHouse_35 : decode cX2_settleHouse 35 = .ok (.istore 4, 2) := by decide +kernel
theorem dX2_settleHouse_37 : decode cX2_settleHouse 37 = .ok (.aload_n 0, 1) := by decide +kernel
theorem dX2_settleHouse_38 : decode cX2_settleHouse 38 = .ok (.getfield 32, 3) := by decide +kernel
theorem dX2_settleHouse_41 : decode cX2_settleHouse 41 = .ok (.getfield 85, 3) := by decide +kernel
theorem dX2_settleHouse_44 : decode cX2_settleHouse 44 = .ok (.iload 4, 2) := by decide +kernel
theorem dX2_settleHouse_46 : decode cX2_settleHouse 46 = .ok (.iaload, 1) := by decide +kernel
theorem dX2_settleHouse_47 : decode cX2_settleHouse 47 = .ok (.iload_n 1, 1) := by decide +kernel
theorem dX2_settleHouse_48 : decode cX2_settleHouse 48 = .ok (.if_icmp .ne 85, 3) := by decide +kernel
theorem dX2_settleHouse_51 : decode cX2_settleHouse 51 = .ok (.aload_n 0, 1) := by decide +kernel
theorem dX2_settleHouse_52 : decode cX2_settleHouse 52 = .ok (.getfield 40, 3) := by decide +kernel
theorem dX2_settleHouse_55 : decode cX2_settleHouse 55 = .ok (.aload_n 0, 1) := by decide +kernel
theorem dX2_settleHouse_56 : decode cX2_settleHouse 56 = .ok (.getfield 32, 3) := by decide +kernel
theorem dX2_settleHouse_59 : decode cX2_settleHouse 59 = .ok (.getfield 88, 3) := by decide +kernel
theorem dX2_settleHouse_62 : decode cX2_settleHouse 62 = .ok (.iload 4, 2) := by decide +kernel
theorem dX2_settleHouse_64 : decode cX2_settleHouse 64 = .ok (.iaload, 1) := by decide +kernel
theorem dX2_settleHouse_65 : decode cX2_settleHouse 65 = .ok (.aload_n 0, 1) := by decide +kernel
theorem dX2_settleHouse_66 : decode cX2_settleHouse 66 = .ok (.getfield 36, 3) := by decide +kernel
theorem dX2_settleHouse_69 : decode cX2_settleHouse 69 = .ok (.getfield 59, 3) := by decide +kernel
theorem dX2_settleHouse_72 : decode cX2_settleHouse 72 = .ok (.iload_n 1, 1) := by decide +kernel
theorem dX2_settleHouse_73 : decode cX2_settleHouse 73 = .ok (.iaload, 1) := by decide +kernel
theorem dX2_settleHouse_74 : decode cX2_settleHouse 74 = .ok (.iconst 1, 1) := by decide +kernel
theorem dX2_settleHouse_75 : decode cX2_settleHouse 75 = .ok (.isub, 1) := by decide +kernel
theorem dX2_settleHouse_76 : decode cX2_settleHouse 76 = .ok (.iload_n 2, 1) := by decide +kernel
theorem dX2_settleHouse_77 : decode cX2_settleHouse 77 = .ok (.invokevirtual 91, 3) := by decide +kernel
theorem dX2_settleHouse_80 : decode cX2_settleHouse 80 = .ok (.aload_n 0, 1) := by decide +kernel
theorem dX2_settleHouse_81 : decode cX2_settleHouse 81 = .ok (.getfield 15, 3) := by decide +kernel
theorem dX2_settleHouse_84 : decode cX2_settleHouse 84 = .ok (.iload 4, 2) := by decide +kernel
theorem dX2_settleHouse_86 : decode cX2_settleHouse 86 = .ok (.aload_n 0, 1) := by decide +kernel
theorem dX2_settleHouse_87 : decode cX2_settleHouse 87 = .ok (.getfield 40, 3) := by decide +kernel
theorem dX2_settleHouse_90 : decode cX2_settleHouse 90 = .ok (.aload_n 0, 1) := by decide +kernel
theorem dX2_settleHouse_91 : decode cX2_settleHouse 91 = .ok (.getfield 36, 3) := by decide +kernel
theorem dX2_settleHouse_94 : decode cX2_settleHouse 94 = .ok (.getfield 95, 3) := by decide +kernel
theorem dX2_settleHouse_97 : decode cX2_settleHouse 97 = .ok (.aload_n 0, 1) := by decide +kernel
theorem dX2_settleHouse_98 : decode cX2_settleHouse 98 = .ok (.getfield 32, 3) := by decide +kernel
theorem dX2_settleHouse_101 : decode cX2_settleHouse 101 = .ok (.getfield 71, 3) := by decide +kernel
theorem dX2_settleHouse_104 : decode cX2_settleHouse 104 = .ok (.iload 4, 2) := by decide +kernel
theorem dX2_settleHouse_106 : decode cX2_settleHouse 106 = .ok (.iaload, 1) := by decide +kernel
theorem dX2_settleHouse_107 : decode cX2_settleHouse 107 = .ok (.aaload, 1) := by decide +kernel
theorem dX2_settleHouse_108 : decode cX2_settleHouse 108 = .ok (.invokevirtual 99, 3) := by decide +kernel
theorem dX2_settleHouse_111 : decode cX2_settleHouse 111 = .ok (.iastore, 1) := by decide +kernel
theorem dX2_settleHouse_112 : decode cX2_settleHouse 112 = .ok (.aload_n 0, 1) := by decide +kernel
theorem dX2_settleHouse_113 : decode cX2_settleHouse 113 = .ok (.getfield 25, 3) := by decide +kernel
theorem dX2_settleHouse_116 : decode cX2_settleHouse 116 = .ok (.aload_n 0, 1) := by decide +kernel
theorem dX2_settleHouse_117 : decode cX2_settleHouse 117 = .ok (.getfield 82, 3) := by decide +kernel
theorem dX2_settleHouse_120 : decode cX2_settleHouse 120 = .ok (.iload 4, 2) := by decide +kernel
theorem dX2_settleHouse_122 : decode cX2_settleHouse 122 = .ok (.iastore, 1) := by decide +kernel
theorem dX2_settleHouse_123 : decode cX2_settleHouse 123 = .ok (.aload_n 0, 1) := by decide +kernel
theorem dX2_settleHouse_124 : decode cX2_settleHouse 124 = .ok (.dup, 1) := by decide +kernel
theorem dX2_settleHouse_125 : decode cX2_settleHouse 125 = .ok (.getfield 82, 3) := by decide +kernel
theorem dX2_settleHouse_128 : decode cX2_settleHouse 128 = .ok (.iconst 1, 1) := by decide +kernel
theorem dX2_settleHouse_129 : decode cX2_settleHouse 129 = .ok (.iadd, 1) := by decide +kernel
theorem dX2_settleHouse_130 : decode cX2_settleHouse 130 = .ok (.putfield 82, 3) := by decide +kernel
theorem dX2_settleHouse_133 : decode cX2_settleHouse 133 = .ok (.iinc 3 1, 3) := by decide +kernel
theorem dX2_settleHouse_136 : decode cX2_settleHouse 136 = .ok (.goto (-121), 3) := by decide +kernel
theorem dX2_settleHouse_139 : decode cX2_settleHouse 139 = .ok (.aload_n 0, 1) := by decide +kernel
theorem dX2_settleHouse_140 : decode cX2_settleHouse 140 = .ok (.bipush 20, 2) := by decide +kernel
theorem dX2_settleHouse_142 : decode cX2_settleHouse 142 = .ok (.iload_n 2, 1) := by decide +kernel
theorem dX2_settleHouse_143 : decode cX2_settleHouse 143 = .ok (.invokevirtual 103, 3) := by decide +kernel
theorem dX2_settleHouse_146 : decode cX2_settleHouse 146 = .ok (.istore_n 3, 1) := by decide +kernel
theorem dX2_settleHouse_147 : decode cX2_settleHouse 147 = .ok (.aload_n 0, 1) := by decide +kernel
theorem dX2_settleHouse_148 : decode cX2_settleHouse 148 = .ok (.iload_n 3, 1) := by decide +kernel
theorem dX2_settleHouse_149 : decode cX2_settleHouse 149 = .ok (.invokevirtual 107, 3) := by decide +kernel
theorem dX2_settleHouse_152 : decode cX2_settleHouse 152 = .ok (.istore_n 3, 1) := by decide +kernel
theorem dX2_settleHouse_153 : decode cX2_settleHouse 153 = .ok (.aload_n 0, 1) := by decide +kernel
theorem dX2_settleHouse_154 : decode cX2_settleHouse 154 = .ok (.bipush 22, 2) := by decide +kernel
theorem dX2_settleHouse_156 : decode cX2_settleHouse 156 = .ok (.iload_n 3, 1) := by decide +kernel
theorem dX2_settleHouse_157 : decode cX2_settleHouse 157 = .ok (.invokevirtual 103, 3) := by decide +kernel
theorem dX2_settleHouse_160 : decode cX2_settleHouse 160 = .ok (.pop, 1) := by decide +kernel
theorem dX2_settleHouse_161 : decode cX2_settleHouse 161 = .ok (.return_, 1) := by decide +kernel
theorem dX2_isBeside_0 : decode cX2_isBeside 0 = .ok (.aload_n 0, 1) := by decide +kernel
theorem dX2_isBeside_1 : decode cX2_isBeside 1 = .ok (.getfield 36, 3) := by decide +kernel
theorem dX2_isBeside_4 : decode cX2_isBeside 4 = .ok (.getfield 95, 3) := by decide +kernel
theorem dX2_isBeside_7 : decode cX2_isBeside 7 = .ok (.aload_n 0, 1) := by decide +kernel
theorem dX2_isBeside_8 : decode cX2_isBeside 8 = .ok (.getfield 32, 3) := by decide +kernel
theorem dX2_isBeside_11 : decode cX2_isBeside 11 = .ok (.getfield 71, 3) := by decide +kernel
theorem dX2_isBeside_14 : decode cX2_isBeside 14 = .ok (.iload_n 1, 1) := by decide +kernel
theorem dX2_isBeside_15 : decode cX2_isBeside 15 = .ok (.iaload, 1) := by decide +kernel
theorem dX2_isBeside_16 : decode cX2_isBeside 16 = .ok (.aaload, 1) := by decide +kernel
theorem dX2_isBeside_17 : decode cX2_isBeside 17 = .ok (.astore_n 3, 1) := by decide +kernel
theorem dX2_isBeside_18 : decode cX2_isBeside 18 = .ok (.aload_n 3, 1) := by decide +kernel
theorem dX2_isBeside_19 : decode cX2_isBeside 19 = .ok (.ifnull 15, 3) := by decide +kernel
theorem dX2_isBeside_22 : decode cX2_isBeside 22 = .ok (.aload_n 3, 1) := by decide +kernel
theorem dX2_isBeside_23 : decode cX2_isBeside 23 = .ok (.getfield 111, 3) := by decide +kernel
theorem dX2_isBeside_26 : decode cX2_isBeside 26 = .ok (.iload_n 2, 1) := by decide +kernel
theorem dX2_isBeside_27 : decode cX2_isBeside 27 = .ok (.if_icmp .ne 7, 3) := by decide +kernel
theorem dX2_isBeside_30 : decode cX2_isBeside 30 = .ok (.iconst 1, 1) := by decide +kernel
theorem dX2_isBeside_31 : decode cX2_isBeside 31 = .ok (.goto 4, 3) := by decide +kernel
theorem dX2_isBeside_34 : decode cX2_isBeside 34 = .ok (.iconst 0, 1) := by decide +kernel
theorem dX2_isBeside_35 : decode cX2_isBeside 35 = .ok (.ireturn, 1) := by decide +kernel
theorem dX2_payInTurn_0 : decode cX2_payInTurn 0 = .ok (.iload_n 2, 1) := by decide +kernel
theorem dX2_payInTurn_1 : decode cX2_payInTurn 1 = .ok (.istore_n 3, 1) := by decide +kernel
theorem dX2_payInTurn_2 : decode cX2_payInTurn 2 = .ok (.iconst 0, 1) := by decide +kernel
theorem dX2_payInTurn_3 : decode cX2_payInTurn 3 = .ok (.istore 4, 2) := by decide +kernel
theorem dX2_payInTurn_5 : decode cX2_payInTurn 5 = .ok (.iload 4, 2) := by decide +kernel
theorem dX2_payInTurn_7 : decode cX2_payInTurn 7 = .ok (.aload_n 0, 1) := by decide +kernel
theorem dX2_payInTurn_8 : decode cX2_payInTurn 8 = .ok (.getfield 82, 3) := by decide +kernel
theorem dX2_payInTurn_11 : decode cX2_payInTurn 11 = .ok (.if_icmp .ge 67, 3) := by decide +kernel
theorem dX2_payInTurn_14 : decode cX2_payInTurn 14 = .ok (.aload_n 0, 1) := by decide +kernel
theorem dX2_payInTurn_15 : decode cX2_payInTurn 15 = .ok (.aload_n 0, 1) := by decide +kernel
theorem dX2_payInTurn_16 : decode cX2_payInTurn 16 = .ok (.getfield 25, 3) := by decide +kernel
theorem dX2_payInTurn_19 : decode cX2_payInTurn 19 = .ok (.iload 4, 2) := by decide +kernel
theorem dX2_payInTurn_21 : decode cX2_payInTurn 21 = .ok (.iaload, 1) := by decide +kernel
theorem dX2_payInTurn_22 : decode cX2_payInTurn 22 = .ok (.iload_n 1, 1) := by decide +kernel
theorem dX2_payInTurn_23 : decode cX2_payInTurn 23 = .ok (.invokevirtual 116, 3) := by decide +kernel
theorem dX2_payInTurn_26 : decode cX2_payInTurn 26 = .ok (.ifCond .eq 46, 3) := by decide +kernel
theorem dX2_payInTurn_29 : decode cX2_payInTurn 29 = .ok (.aload_n 0, 1) := by decide +kernel
theorem dX2_payInTurn_30 : decode cX2_payInTurn 30 = .ok (.getfield 19, 3) := by decide +kernel
theorem dX2_payInTurn_33 : decode cX2_payInTurn 33 = .ok (.aload_n 0, 1) := by decide +kernel
theorem dX2_payInTurn_34 : decode cX2_payInTurn 34 = .ok (.getfield 25, 3) := by decide +kernel
theorem dX2_payInTurn_37 : decode cX2_payInTurn 37 = .ok (.iload 4, 2) := by decide +kernel
theorem dX2_payInTurn_39 : decode cX2_payInTurn 39 = .ok (.iaload, 1) := by decide +kernel
theorem dX2_payInTurn_40 : decode cX2_payInTurn 40 = .ok (.aload_n 0, 1) := by decide +kernel
theorem dX2_payInTurn_41 : decode cX2_payInTurn 41 = .ok (.getfield 15, 3) := by decide +kernel
theorem dX2_payInTurn_44 : decode cX2_payInTurn 44 = .ok (.aload_n 0, 1) := by decide +kernel
theorem dX2_payInTurn_45 : decode cX2_payInTurn 45 = .ok (.getfield 25, 3) := by decide +kernel
theorem dX2_payInTurn_48 : decode cX2_payInTurn 48 = .ok (.iload 4, 2) := by decide +kernel
theorem dX2_payInTurn_50 : decode cX2_payInTurn 50 = .ok (.iaload, 1) := by decide +kernel
theorem dX2_payInTurn_51 : decode cX2_payInTurn 51 = .ok (.iaload, 1) := by decide +kernel
theorem dX2_payInTurn_52 : decode cX2_payInTurn 52 = .ok (.iload_n 3, 1) := by decide +kernel
theorem dX2_payInTurn_53 : decode cX2_payInTurn 53 = .ok (.invokestatic 120, 3) := by decide +kernel
theorem dX2_payInTurn_56 : decode cX2_payInTurn 56 = .ok (.iastore, 1) := by decide +kernel
theorem dX2_payInTurn_57 : decode cX2_payInTurn 57 = .ok (.iload_n 3, 1) := by decide +kernel
theorem dX2_payInTurn_58 : decode cX2_payInTurn 58 = .ok (.aload_n 0, 1) := by decide +kernel
theorem dX2_payInTurn_59 : decode cX2_payInTurn 59 = .ok (.getfield 19, 3) := by decide +kernel
theorem dX2_payInTurn_62 : decode cX2_payInTurn 62 = .ok (.aload_n 0, 1) := by decide +kernel
theorem dX2_payInTurn_63 : decode cX2_payInTurn 63 = .ok (.getfield 25, 3) := by decide +kernel
theorem dX2_payInTurn_66 : decode cX2_payInTurn 66 = .ok (.iload 4, 2) := by decide +kernel
theorem dX2_payInTurn_68 : decode cX2_payInTurn 68 = .ok (.iaload, 1) := by decide +kernel
theorem dX2_payInTurn_69 : decode cX2_payInTurn 69 = .ok (.iaload, 1) := by decide +kernel
theorem dX2_payInTurn_70 : decode cX2_payInTurn 70 = .ok (.isub, 1) := by decide +kernel
theorem dX2_payInTurn_71 : decode cX2_payInTurn 71 = .ok (.istore_n 3, 1) := by decide +kernel
theorem dX2_payInTurn_72 : decode cX2_payInTurn 72 = .ok (.iinc 4 1, 3) := by decide +kernel
theorem dX2_payInTurn_75 : decode cX2_payInTurn 75 = .ok (.goto (-70), 3) := by decide +kernel
theorem dX2_payInTurn_78 : decode cX2_payInTurn 78 = .ok (.iload_n 3, 1) := by decide +kernel
theorem dX2_payInTurn_79 : decode cX2_payInTurn 79 = .ok (.ireturn, 1) := by decide +kernel
theorem dX2_payByParts_0 : decode cX2_payByParts 0 = .ok (.iconst 0, 1) := by decide +kernel
theorem dX2_payByParts_1 : decode cX2_payByParts 1 = .ok (.istore_n 2, 1) := by decide +kernel
theorem dX2_payByParts_2 : decode cX2_payByParts 2 = .ok (.iconst 0, 1) := by decide +kernel
theorem dX2_payByParts_3 : decode cX2_payByParts 3 = .ok (.istore_n 3, 1) := by decide +kernel
theorem dX2_payByParts_4 : decode cX2_payByParts 4 = .ok (.iload_n 3, 1) := by decide +kernel
theorem dX2_payByParts_5 : decode cX2_payByParts 5 = .ok (.aload_n 0, 1) := by decide +kernel
theorem dX2_payByParts_6 : decode cX2_payByParts 6 = .ok (.getfield 82, 3) := by decide +kernel
theorem dX2_payByParts_9 : decode cX2_payByParts 9 = .ok (.if_icmp .ge 38, 3) := by decide +kernel
theorem dX2_payByParts_12 : decode cX2_payByParts 12 = .ok (.aload_n 0, 1) := by decide +kernel
theorem dX2_payByParts_13 : decode cX2_payByParts 13 = .ok (.aload_n 0, 1) := by decide +kernel
theorem dX2_payByParts_14 : decode cX2_payByParts 14 = .ok (.getfield 25, 3) := by decide +kernel
theorem dX2_payByParts_17 : decode cX2_payByParts 17 = .ok (.iload_n 3, 1) := by decide +kernel
theorem dX2_payByParts_18 : decode cX2_payByParts 18 = .ok (.iaload, 1) := by decide +kernel
theorem dX2_payByParts_19 : decode cX2_payByParts 19 = .ok (.bipush 21, 2) := by decide +kernel
theorem dX2_payByParts_21 : decode cX2_payByParts 21 = .ok (.invokevirtual 116, 3) := by decide +kernel
theorem dX2_payByParts_24 : decode cX2_payByParts 24 = .ok (.ifCond .eq 17, 3) := by decide +kernel
theorem dX2_payByParts_27 : decode cX2_payByParts 27 = .ok (.iload_n 2, 1) := by decide +kernel
theorem dX2_payByParts_28 : decode cX2_payByParts 28 = .ok (.aload_n 0, 1) := by decide +kernel
theorem dX2_payByParts_29 : decode cX2_payByParts 29 = .ok (.getfield 15, 3) := by decide +kernel
theorem dX2_payByParts_32 : decode cX2_payByParts 32 = .ok (.aload_n 0, 1) := by decide +kernel
theorem dX2_payByParts_33 : decode cX2_payByParts 33 = .ok (.getfield 25, 3) := by decide +kernel
theorem dX2_payByParts_36 : decode cX2_payByParts 36 = .ok (.iload_n 3, 1) := by decide +kernel
theorem dX2_payByParts_37 : decode cX2_payByParts 37 = .ok (.iaload, 1) := by decide +kernel
theorem dX2_payByParts_38 : decode cX2_payByParts 38 = .ok (.iaload, 1) := by decide +kernel
theorem dX2_payByParts_39 : decode cX2_payByParts 39 = .ok (.iadd, 1) := by decide +kernel
theorem dX2_payByParts_40 : decode cX2_payByParts 40 = .ok (.istore_n 2, 1) := by decide +kernel
theorem dX2_payByParts_41 : decode cX2_payByParts 41 = .ok (.iinc 3 1, 3) := by decide +kernel
theorem dX2_payByParts_44 : decode cX2_payByParts 44 = .ok (.goto (-40), 3) := by decide +kernel
theorem dX2_payByParts_47 : decode cX2_payByParts 47 = .ok (.iload_n 2, 1) := by decide +kernel
theorem dX2_payByParts_48 : decode cX2_payByParts 48 = .ok (.iload_n 1, 1) := by decide +kernel
theorem dX2_payByParts_49 : decode cX2_payByParts 49 = .ok (.if_icmp .gt 11, 3) := by decide +kernel
theorem dX2_payByParts_52 : decode cX2_payByParts 52 = .ok (.aload_n 0, 1) := by decide +kernel
theorem dX2_payByParts_53 : decode cX2_payByParts 53 = .ok (.bipush 21, 2) := by decide +kernel
theorem dX2_payByParts_55 : decode cX2_payByParts 55 = .ok (.iload_n 1, 1) := by decide +kernel
theorem dX2_payByParts_56 : decode cX2_payByParts 56 = .ok (.invokevirtual 103, 3) := by decide +kernel
theorem dX2_payByParts_59 : decode cX2_payByParts 59 = .ok (.ireturn, 1) := by decide +kernel
theorem dX2_payByParts_60 : decode cX2_payByParts 60 = .ok (.aload_n 0, 1) := by decide +kernel
theorem dX2_payByParts_61 : decode cX2_payByParts 61 = .ok (.iload_n 1, 1) := by decide +kernel
theorem dX2_payByParts_62 : decode cX2_payByParts 62 = .ok (.iload_n 2, 1) := by decide +kernel
theorem dX2_payByParts_63 : decode cX2_payByParts 63 = .ok (.invokevirtual 125, 3) := by decide +kernel
theorem dX2_payByParts_66 : decode cX2_payByParts 66 = .ok (.istore_n 3, 1) := by decide +kernel
theorem dX2_payByParts_67 : decode cX2_payByParts 67 = .ok (.aload_n 0, 1) := by decide +kernel
theorem dX2_payByParts_68 : decode cX2_payByParts 68 = .ok (.iload_n 3, 1) := by decide +kernel
theorem dX2_payByParts_69 : decode cX2_payByParts 69 = .ok (.invokevirtual 128, 3) := by decide +kernel
theorem dX2_payByParts_72 : decode cX2_payByParts 72 = .ok (.iconst 0, 1) := by decide +kernel
theorem dX2_payByParts_73 : decode cX2_payByParts 73 = .ok (.ireturn, 1) := by decide +kernel
theorem dX2_payFloors_0 : decode cX2_payFloors 0 = .ok (.iload_n 1, 1) := by decide +kernel
theorem dX2_payFloors_1 : decode cX2_payFloors 1 = .ok (.istore_n 3, 1) := by decide +kernel
theorem dX2_payFloors_2 : decode cX2_payFloors 2 = .ok (.iconst 0, 1) := by decide +kernel
theorem dX2_payFloors_3 : decode cX2_payFloors 3 = .ok (.istore 4, 2) := by decide +kernel
theorem dX2_payFloors_5 : decode cX2_payFloors 5 = .ok (.iload 4, 2) := by decide +kernel
theorem dX2_payFloors_7 : decode cX2_payFloors 7 = .ok (.aload_n 0, 1) := by decide +kernel
theorem dX2_payFloors_8 : decode cX2_payFloors 8 = .ok (.getfield 82, 3) := by decide +kernel
theorem dX2_payFloors_11 : decode cX2_payFloors 11 = .ok (.if_icmp .ge 102, 3) := by decide +kernel
theorem dX2_payFloors_14 : decode cX2_payFloors 14 = .ok (.aload_n 0, 1) := by decide +kernel
theorem dX2_payFloors_15 : decode cX2_payFloors 15 = .ok (.getfield 28, 3) := by decide +kernel
theorem dX2_payFloors_18 : decode cX2_payFloors 18 = .ok (.iload 4, 2) := by decide +kernel
theorem dX2_payFloors_20 : decode cX2_payFloors 20 = .ok (.ldc2_w 131, 3) := by decide +kernel
theorem dX2_payFloors_23 : decode cX2_payFloors 23 = .ok (.lastore, 1) := by decide +kernel
theorem dX2_payFloors_24 : decode cX2_payFloors 24 = .ok (.iload_n 2, 1) := by decide +kernel
theorem dX2_payFloors_25 : decode cX2_payFloors 25 = .ok (.ifCond .le 82, 3) := by decide +kernel
theorem dX2_payFloors_28 : decode cX2_payFloors 28 = .ok (.aload_n 0, 1) := by decide +kernel
theorem dX2_payFloors_29 : decode cX2_payFloors 29 = .ok (.aload_n 0, 1) := by decide +kernel
theorem dX2_payFloors_30 : decode cX2_payFloors 30 = .ok (.getfield 25, 3) := by decide +kernel
theorem dX2_payFloors_33 : decode cX2_payFloors 33 = .ok (.iload 4, 2) := by decide +kernel
theorem dX2_payFloors_35 : decode cX2_payFloors 35 = .ok (.iaload, 1) := by decide +kernel
theorem dX2_payFloors_36 : decode cX2_payFloors 36 = .ok (.bipush 21, 2) := by decide +kernel
theorem dX2_payFloors_38 : decode cX2_payFloors 38 = .ok (.invokevirtual 116, 3) := by decide +kernel
theorem dX2_payFloors_41 : decode cX2_payFloors 41 = .ok (.ifCond .eq 66, 3) := by decide +kernel
theorem dX2_payFloors_44 : decode cX2_payFloors 44 = .ok (.iload_n 1, 1) := by decide +kernel
theorem dX2_payFloors_45 : decode cX2_payFloors 45 = .ok (.i2l, 1) := by decide +kernel
theorem dX2_payFloors_46 : decode cX2_payFloors 46 = .ok (.aload_n 0, 1) := by decide +kernel
theorem dX2_payFloors_47 : decode cX2_payFloors 47 = .ok (.getfield 15, 3) := by decide +kernel
theorem dX2_payFloors_50 : decode cX2_payFloors 50 = .ok (.aload_n 0, 1) := by decide +kernel
theorem dX2_payFloors_51 : decode cX2_payFloors 51 = .ok (.getfield 25, 3) := by decide +kernel
theorem dX2_payFloors_54 : decode cX2_payFloors 54 = .ok (.iload 4, 2) := by decide +kernel
theorem dX2_payFloors_56 : decode cX2_payFloors 56 = .ok (.iaload, 1) := by decide +kernel
theorem dX2_payFloors_57 : decode cX2_payFloors 57 = .ok (.iaload, 1) := by decide +kernel
theorem dX2_payFloors_58 : decode cX2_payFloors 58 = .ok (.i2l, 1) := by decide +kernel
theorem dX2_payFloors_59 : decode cX2_payFloors 59 = .ok (.lmul, 1) := by decide +kernel
theorem dX2_payFloors_60 : decode cX2_payFloors 60 = .ok (.lstore 5, 2) := by decide +kernel
theorem dX2_payFloors_62 : decode cX2_payFloors 62 = .ok (.aload_n 0, 1) := by decide +kernel
theorem dX2_payFloors_63 : decode cX2_payFloors 63 = .ok (.getfield 19, 3) := by decide +kernel
theorem dX2_payFloors_66 : decode cX2_payFloors 66 = .ok (.aload_n 0, 1) := by decide +kernel
theorem dX2_payFloors_67 : decode cX2_payFloors 67 = .ok (.getfield 25, 3) := by decide +kernel
theorem dX2_payFloors_70 : decode cX2_payFloors 70 = .ok (.iload 4, 2) := by decide +kernel
theorem dX2_payFloors_72 : decode cX2_payFloors 72 = .ok (.iaload, 1) := by decide +kernel
theorem dX2_payFloors_73 : decode cX2_payFloors 73 = .ok (.lload 5, 2) := by decide +kernel
theorem dX2_payFloors_75 : decode cX2_payFloors 75 = .ok (.iload_n 2, 1) := by decide +kernel
theorem dX2_payFloors_76 : decode cX2_payFloors 76 = .ok (.i2l, 1) := by decide +kernel
theorem dX2_payFloors_77 : decode cX2_payFloors 77 = .ok (.ldiv, 1) := by decide +kernel
theorem dX2_payFloors_78 : decode cX2_payFloors 78 = .ok (.l2i, 1) := by decide +kernel
theorem dX2_payFloors_79 : decode cX2_payFloors 79 = .ok (.iastore, 1) := by decide +kernel
theorem dX2_payFloors_80 : decode cX2_payFloors 80 = .ok (.aload_n 0, 1) := by decide +kernel
theorem dX2_payFloors_81 : decode cX2_payFloors 81 = .ok (.getfield 28, 3) := by decide +kernel
theorem dX2_payFloors_84 : decode cX2_payFloors 84 = .ok (.iload 4, 2) := by decide +kernel
theorem dX2_payFloors_86 : decode cX2_payFloors 86 = .ok (.lload 5, 2) := by decide +kernel
theorem dX2_payFloors_88 : decode cX2_payFloors 88 = .ok (.iload_n 2, 1) := by decide +kernel
theorem dX2_payFloors_89 : decode cX2_payFloors 89 = .ok (.i2l, 1) := by decide +kernel
theorem dX2_payFloors_90 : decode cX2_payFloors 90 = .ok (.lrem, 1) := by decide +kernel
theorem dX2_payFloors_91 : decode cX2_payFloors 91 = .ok (.lastore, 1) := by decide +kernel
theorem dX2_payFloors_92 : decode cX2_payFloors 92 = .ok (.iload_n 3, 1) := by decide +kernel
theorem dX2_payFloors_93 : decode cX2_payFloors 93 = .ok (.aload_n 0, 1) := by decide +kernel
theorem dX2_payFloors_94 : decode cX2_payFloors 94 = .ok (.getfield 19, 3) := by decide +kernel
theorem dX2_payFloors_97 : decode cX2_payFloors 97 = .ok (.aload_n 0, 1) := by decide +kernel
theorem dX2_payFloors_98 : decode cX2_payFloors 98 = .ok (.getfield 25, 3) := by decide +kernel
theorem dX2_payFloors_101 : decode cX2_payFloors 101 = .ok (.iload 4, 2) := by decide +kernel
theorem dX2_payFloors_103 : decode cX2_payFloors 103 = .ok (.iaload, 1) := by decide +kernel
theorem dX2_payFloors_104 : decode cX2_payFloors 104 = .ok (.iaload, 1) := by decide +kernel
theorem dX2_payFloors_105 : decode cX2_payFloors 105 = .ok (.isub, 1) := by decide +kernel
theorem dX2_payFloors_106 : decode cX2_payFloors 106 = .ok (.istore_n 3, 1) := by decide +kernel
theorem dX2_payFloors_107 : decode cX2_payFloors 107 = .ok (.iinc 4 1, 3) := by decide +kernel
theorem dX2_payFloors_110 : decode cX2_payFloors 110 = .ok (.goto (-105), 3) := by decide +kernel
theorem dX2_payFloors_113 : decode cX2_payFloors 113 = .ok (.iload_n 3, 1) := by decide +kernel
theorem dX2_payFloors_114 : decode cX2_payFloors 114 = .ok (.ireturn, 1) := by decide +kernel
theorem dX2_payRests_0 : decode cX2_payRests 0 = .ok (.iconst 0, 1) := by decide +kernel
theorem dX2_payRests_1 : decode cX2_payRests 1 = .ok (.istore_n 2, 1) := by decide +kernel
theorem dX2_payRests_2 : decode cX2_payRests 2 = .ok (.iload_n 2, 1) := by decide +kernel
theorem dX2_payRests_3 : decode cX2_payRests 3 = .ok (.iload_n 1, 1) := by decide +kernel
theorem dX2_payRests_4 : decode cX2_payRests 4 = .ok (.if_icmp .ge 81, 3) := by decide +kernel
theorem dX2_payRests_7 : decode cX2_payRests 7 = .ok (.iload_n 2, 1) := by decide +kernel
theorem dX2_payRests_8 : decode cX2_payRests 8 = .ok (.aload_n 0, 1) := by decide +kernel
theorem dX2_payRests_9 : decode cX2_payRests 9 = .ok (.getfield 82, 3) := by decide +kernel
theorem dX2_payRests_12 : decode cX2_payRests 12 = .ok (.if_icmp .ge 73, 3) := by decide +kernel
theorem dX2_payRests_15 : decode cX2_payRests 15 = .ok (.iconst 0, 1) := by decide +kernel
theorem dX2_payRests_16 : decode cX2_payRests 16 = .ok (.istore_n 3, 1) := by decide +kernel
theorem dX2_payRests_17 : decode cX2_payRests 17 = .ok (.iconst 1, 1) := by decide +kernel
theorem dX2_payRests_18 : decode cX2_payRests 18 = .ok (.istore 4, 2) := by decide +kernel
theorem dX2_payRests_20 : decode cX2_payRests 20 = .ok (.iload 4, 2) := by decide +kernel
theorem dX2_payRests_22 : decode cX2_payRests 22 = .ok (.aload_n 0, 1) := by decide +kernel
theorem dX2_payRests_23 : decode cX2_payRests 23 = .ok (.getfield 82, 3) := by decide +kernel
theorem dX2_payRests_26 : decode cX2_payRests 26 = .ok (.if_icmp .ge 29, 3) := by decide +kernel
theorem dX2_payRests_29 : decode cX2_payRests 29 = .ok (.aload_n 0, 1) := by decide +kernel
theorem dX2_payRests_30 : decode cX2_payRests 30 = .ok (.getfield 28, 3) := by decide +kernel
theorem dX2_payRests_33 : decode cX2_payRests 33 = .ok (.iload 4, 2) := by decide +kernel
theorem dX2_payRests_35 : decode cX2_payRests 35 = .ok (.laload, 1) := by decide +kernel
theorem dX2_payRests_36 : decode cX2_payRests 36 = .ok (.aload_n 0, 1) := by decide +kernel
theorem dX2_payRests_37 : decode cX2_payRests 37 = .ok (.getfield 28, 3) := by decide +kernel
theorem dX2_payRests_40 : decode cX2_payRests 40 = .ok (.iload_n 3, 1) := by decide +kernel
theorem dX2_payRests_41 : decode cX2_payRests 41 = .ok (.laload, 1) := by decide +kernel
theorem dX2_payRests_42 : decode cX2_payRests 42 = .ok (.lcmp, 1) := by decide +kernel
theorem dX2_payRests_43 : decode cX2_payRests 43 = .ok (.ifCond .le 6, 3) := by decide +kernel
theorem dX2_payRests_46 : decode cX2_payRests 46 = .ok (.iload 4, 2) := by decide +kernel
theorem dX2_payRests_48 : decode cX2_payRests 48 = .ok (.istore_n 3, 1) := by decide +kernel
theorem dX2_payRests_49 : decode cX2_payRests 49 = .ok (.iinc 4 1, 3) := by decide +kernel
theorem dX2_payRests_52 : decode cX2_payRests 52 = .ok (.goto (-32), 3) := by decide +kernel
theorem dX2_payRests_55 : decode cX2_payRests 55 = .ok (.aload_n 0, 1) := by decide +kernel
theorem dX2_payRests_56 : decode cX2_payRests 56 = .ok (.getfield 19, 3) := by decide +kernel
theorem dX2_payRests_59 : decode cX2_payRests 59 = .ok (.aload_n 0, 1) := by decide +kernel
theorem dX2_payRests_60 : decode cX2_payRests 60 = .ok (.getfield 25, 3) := by decide +kernel
theorem dX2_payRests_63 : decode cX2_payRests 63 = .ok (.iload_n 3, 1) := by decide +kernel
theorem dX2_payRests_64 : decode cX2_payRests 64 = .ok (.iaload, 1) := by decide +kernel
theorem dX2_payRests_65 : decode cX2_payRests 65 = .ok (.dup2, 1) := by decide +kernel
theorem dX2_payRests_66 : decode cX2_payRests 66 = .ok (.iaload, 1) := by decide +kernel
theorem dX2_payRests_67 : decode cX2_payRests 67 = .ok (.iconst 1, 1) := by decide +kernel
theorem dX2_payRests_68 : decode cX2_payRests 68 = .ok (.iadd, 1) := by decide +kernel
theorem dX2_payRests_69 : decode cX2_payRests 69 = .ok (.iastore, 1) := by decide +kernel
theorem dX2_payRests_70 : decode cX2_payRests 70 = .ok (.aload_n 0, 1) := by decide +kernel
theorem dX2_payRests_71 : decode cX2_payRests 71 = .ok (.getfield 28, 3) := by decide +kernel
theorem dX2_payRests_74 : decode cX2_payRests 74 = .ok (.iload_n 3, 1) := by decide +kernel
theorem dX2_payRests_75 : decode cX2_payRests 75 = .ok (.ldc2_w 131, 3) := by decide +kernel
theorem dX2_payRests_78 : decode cX2_payRests 78 = .ok (.lastore, 1) := by decide +kernel
theorem dX2_payRests_79 : decode cX2_payRests 79 = .ok (.iinc 2 1, 3) := by decide +kernel
theorem dX2_payRests_82 : decode cX2_payRests 82 = .ok (.goto (-80), 3) := by decide +kernel
theorem dX2_payRests_85 : decode cX2_payRests 85 = .ok (.return_, 1) := by decide +kernel
theorem dX3_init_0 : decode cX3_init 0 = .ok (.aload_n 0, 1) := by decide +kernel
theorem dX3_init_1 : decode cX3_init 1 = .ok (.invokespecial 3, 3) := by decide +kernel
theorem dX3_init_4 : decode cX3_init 4 = .ok (.aload_n 0, 1) := by decide +kernel
theorem dX3_init_5 : decode cX3_init 5 = .ok (.bipush 12, 2) := by decide +kernel
theorem dX3_init_7 : decode cX3_init 7 = .ok (.newarray .int, 2) := by decide +kernel
theorem dX3_init_9 : decode cX3_init 9 = .ok (.putfield 9, 3) := by decide +kernel
theorem dX3_init_12 : decode cX3_init 12 = .ok (.aload_n 0, 1) := by decide +kernel
theorem dX3_init_13 : decode cX3_init 13 = .ok (.bipush 12, 2) := by decide +kernel
theorem dX3_init_15 : decode cX3_init 15 = .ok (.newarray .int, 2) := by decide +kernel
theorem dX3_init_17 : decode cX3_init 17 = .ok (.putfield 15, 3) := by decide +kernel
theorem dX3_init_20 : decode cX3_init 20 = .ok (.aload_n 0, 1) := by decide +kernel
theorem dX3_init_21 : decode cX3_init 21 = .ok (.bipush 12, 2) := by decide +kernel
theorem dX3_init_23 : decode cX3_init 23 = .ok (.newarray .int, 2) := by decide +kernel
theorem dX3_init_25 : decode cX3_init 25 = .ok (.putfield 18, 3) := by decide +kernel
theorem dX3_init_28 : decode cX3_init 28 = .ok (.aload_n 0, 1) := by decide +kernel
theorem dX3_init_29 : decode cX3_init 29 = .ok (.bipush 12, 2) := by decide +kernel
theorem dX3_init_31 : decode cX3_init 31 = .ok (.newarray .int, 2) := by decide +kernel
theorem dX3_init_33 : decode cX3_init 33 = .ok (.putfield 21, 3) := by decide +kernel
theorem dX3_init_36 : decode cX3_init 36 = .ok (.return_, 1) := by decide +kernel
theorem dX3_add_0 : decode cX3_add 0 = .ok (.aload_n 0, 1) := by decide +kernel
theorem dX3_add_1 : decode cX3_add 1 = .ok (.getfield 24, 3) := by decide +kernel
theorem dX3_add_4 : decode cX3_add 4 = .ok (.bipush 12, 2) := by decide +kernel
theorem dX3_add_6 : decode cX3_add 6 = .ok (.if_icmp .lt 4, 3) := by decide +kernel
theorem dX3_add_9 : decode cX3_add 9 = .ok (.return_, 1) := by decide +kernel
theorem dX3_add_10 : decode cX3_add 10 = .ok (.aload_n 0, 1) := by decide +kernel
theorem dX3_add_11 : decode cX3_add 11 = .ok (.getfield 9, 3) := by decide +kernel
theorem dX3_add_14 : decode cX3_add 14 = .ok (.aload_n 0, 1) := by decide +kernel
theorem dX3_add_15 : decode cX3_add 15 = .ok (.getfield 24, 3) := by decide +kernel
theorem dX3_add_18 : decode cX3_add 18 = .ok (.iload_n 1, 1) := by decide +kernel
theorem dX3_add_19 : decode cX3_add 19 = .ok (.iastore, 1) := by decide +kernel
theorem dX3_add_20 : decode cX3_add 20 = .ok (.aload_n 0, 1) := by decide +kernel
theorem dX3_add_21 : decode cX3_add 21 = .ok (.getfield 15, 3) := by decide +kernel
theorem dX3_add_24 : decode cX3_add 24 = .ok (.aload_n 0, 1) := by decide +kernel
theorem dX3_add_25 : decode cX3_add 25 = .ok (.getfield 24, 3) := by decide +kernel
theorem dX3_add_28 : decode cX3_add 28 = .ok (.iload_n 2, 1) := by decide +kernel
theorem dX3_add_29 : decode cX3_add 29 = .ok (.iastore, 1) := by decide +kernel
theorem dX3_add_30 : decode cX3_add 30 = .ok (.aload_n 0, 1) := by decide +kernel
theorem dX3_add_31 : decode cX3_add 31 = .ok (.getfield 18, 3) := by decide +kernel
theorem dX3_add_34 : decode cX3_add 34 = .ok (.aload_n 0, 1) := by decide +kernel
theorem dX3_add_35 : decode cX3_add 35 = .ok (.getfield 24, 3) := by decide +kernel
theorem dX3_add_38 : decode cX3_add 38 = .ok (.iload_n 3, 1) := by decide +kernel
theorem dX3_add_39 : decode cX3_add 39 = .ok (.iastore, 1) := by decide +kernel
theorem dX3_add_40 : decode cX3_add 40 = .ok (.aload_n 0, 1) := by decide +kernel
theorem dX3_add_41 : decode cX3_add 41 = .ok (.getfield 21, 3) := by decide +kernel
theorem dX3_add_44 : decode cX3_add 44 = .ok (.aload_n 0, 1) := by decide +kernel
theorem dX3_add_45 : decode cX3_add 45 = .ok (.getfield 24, 3) := by decide +kernel
theorem dX3_add_48 : decode cX3_add 48 = .ok (.iload 4, 2) := by decide +kernel
theorem dX3_add_50 : decode cX3_add 50 = .ok (.iastore, 1) := by decide +kernel
theorem dX3_add_51 : decode cX3_add 51 = .ok (.aload_n 0, 1) := by decide +kernel
theorem dX3_add_52 : decode cX3_add 52 = .ok (.dup, 1) := by decide +kernel
theorem dX3_add_53 : decode cX3_add 53 = .ok (.getfield 24, 3) := by decide +kernel
theorem dX3_add_56 : decode cX3_add 56 = .ok (.iconst 1, 1) := by decide +kernel
theorem dX3_add_57 : decode cX3_add 57 = .ok (.iadd, 1) := by decide +kernel
theorem dX3_add_58 : decode cX3_add 58 = .ok (.putfield 24, 3) := by decide +kernel
theorem dX3_add_61 : decode cX3_add 61 = .ok (.return_, 1) := by decide +kernel
theorem dX4_init_0 : decode cX4_init 0 = .ok (.aload_n 0, 1) := by decide +kernel
theorem dX4_init_1 : decode cX4_init 1 = .ok (.invokespecial 3, 3) := by decide +kernel
theorem dX4_init_4 : decode cX4_init 4 = .ok (.aload_n 0, 1) := by decide +kernel
theorem dX4_init_5 : decode cX4_init 5 = .ok (.bipush 9, 2) := by decide +kernel
theorem dX4_init_7 : decode cX4_init 7 = .ok (.bipush 10, 2) := by decide +kernel
theorem dX4_init_9 : decode cX4_init 9 = .ok (.multianewarray 9 2, 4) := by decide +kernel
theorem dX4_init_13 : decode cX4_init 13 = .ok (.putfield 11, 3) := by decide +kernel
theorem dX4_init_16 : decode cX4_init 16 = .ok (.aload_n 0, 1) := by decide +kernel
theorem dX4_init_17 : decode cX4_init 17 = .ok (.bipush 9, 2) := by decide +kernel
theorem dX4_init_19 : decode cX4_init 19 = .ok (.bipush 10, 2) := by decide +kernel
theorem dX4_init_21 : decode cX4_init 21 = .ok (.multianewarray 9 2, 4) := by decide +kernel
theorem dX4_init_25 : decode cX4_init 25 = .ok (.putfield 16, 3) := by decide +kernel
theorem dX4_init_28 : decode cX4_init 28 = .ok (.aload_n 0, 1) := by decide +kernel
theorem dX4_init_29 : decode cX4_init 29 = .ok (.bipush 9, 2) := by decide +kernel
theorem dX4_init_31 : decode cX4_init 31 = .ok (.bipush 10, 2) := by decide +kernel
theorem dX4_init_33 : decode cX4_init 33 = .ok (.multianewarray 9 2, 4) := by decide +kernel
theorem dX4_init_37 : decode cX4_init 37 = .ok (.putfield 19, 3) := by decide +kernel
theorem dX4_init_40 : decode cX4_init 40 = .ok (.return_, 1) := by decide +kernel
theorem dX4_work_0 : decode cX4_work 0 = .ok (.iconst 0, 1) := by decide +kernel
theorem dX4_work_1 : decode cX4_work 1 = .ok (.istore_n 3, 1) := by decide +kernel
theorem dX4_work_2 : decode cX4_work 2 = .ok (.iload_n 3, 1) := by decide +kernel
theorem dX4_work_3 : decode cX4_work 3 = .ok (.bipush 9, 2) := by decide +kernel
theorem dX4_work_5 : decode cX4_work 5 = .ok (.if_icmp .ge 103, 3) := by decide +kernel
theorem dX4_work_8 : decode cX4_work 8 = .ok (.iconst 0, 1) := by decide +kernel
theorem dX4_work_9 : decode cX4_work 9 = .ok (.istore 4, 2) := by decide +kernel
theorem dX4_work_11 : decode cX4_work 11 = .ok (.iload 4, 2) := by decide +kernel
theorem dX4_work_13 : decode cX4_work 13 = .ok (.bipush 9, 2) := by decide +kernel
theorem dX4_work_15 : decode cX4_work 15 = .ok (.if_icmp .ge 56, 3) := by decide +kernel
theorem dX4_work_18 : decode cX4_work 18 = .ok (.aload_n 0, 1) := by decide +kernel
theorem dX4_work_19 : decode cX4_work 19 = .ok (.getfield 11, 3) := by decide +kernel
theorem dX4_work_22 : decode cX4_work 22 = .ok (.iload_n 3, 1) := by decide +kernel
theorem dX4_work_23 : decode cX4_work 23 = .ok (.aaload, 1) := by decide +kernel
theorem dX4_work_24 : decode cX4_work 24 = .ok (.iload 4, 2) := by decide +kernel
theorem dX4_work_26 : decode cX4_work 26 = .ok (.aload_n 2, 1) := by decide +kernel
theorem dX4_work_27 : decode cX4_work 27 = .ok (.iload 4, 2) := by decide +kernel
theorem dX4_work_29 : decode cX4_work 29 = .ok (.iaload, 1) := by decide +kernel
theorem dX4_work_30 : decode cX4_work 30 = .ok (.i2l, 1) := by decide +kernel
theorem dX4_work_31 : decode cX4_work 31 = .ok (.aload_n 1, 1) := by decide +kernel
theorem dX4_work_32 : decode cX4_work 32 = .ok (.getfield 22, 3) := by decide +kernel
theorem dX4_work_35 : decode cX4_work 35 = .ok (.iload_n 3, 1) := by decide +kernel
theorem dX4_work_36 : decode cX4_work 36 = .ok (.aaload, 1) := by decide +kernel
theorem dX4_work_37 : decode cX4_work 37 = .ok (.iload 4, 2) := by decide +kernel
theorem dX4_work_39 : decode cX4_work 39 = .ok (.iaload, 1) := by decide +kernel
theorem dX4_work_40 : decode cX4_work 40 = .ok (.i2l, 1) := by decide +kernel
theorem dX4_work_41 : decode cX4_work 41 = .ok (.lmul, 1) := by decide +kernel
theorem dX4_work_42 : decode cX4_work 42 = .ok (.ldc2_w 28, 3) := by decide +kernel
theorem dX4_work_45 : decode cX4_work 45 = .ok (.ldiv, 1) := by decide +kernel
theorem dX4_work_46 : decode cX4_work 46 = .ok (.lastore, 1) := by decide +kernel
theorem dX4_work_47 : decode cX4_work 47 = .ok (.aload_n 0, 1) := by decide +kernel
theorem dX4_work_48 : decode cX4_work 48 = .ok (.getfield 16, 3) := by decide +kernel
theorem dX4_work_51 : decode cX4_work 51 = .ok (.iload_n 3, 1) := by decide +kernel
theorem dX4_work_52 : decode cX4_work 52 = .ok (.aaload, 1) := by decide +kernel
theorem dX4_work_53 : decode cX4_work 53 = .ok (.iload 4, 2) := by decide +kernel
theorem dX4_work_55 : decode cX4_work 55 = .ok (.aload_n 0, 1) := by decide +kernel
theorem dX4_work_56 : decode cX4_work 56 = .ok (.getfield 11, 3) := by decide +kernel
theorem dX4_work_59 : decode cX4_work 59 = .ok (.iload_n 3, 1) := by decide +kernel
theorem dX4_work_60 : decode cX4_work 60 = .ok (.aaload, 1) := by decide +kernel
theorem dX4_work_61 : decode cX4_work 61 = .ok (.iload 4, 2) := by decide +kernel
theorem dX4_work_63 : decode cX4_work 63 = .ok (.laload, 1) := by decide +kernel
theorem dX4_work_64 : decode cX4_work 64 = .ok (.lastore, 1) := by decide +kernel
theorem dX4_work_65 : decode cX4_work 65 = .ok (.iinc 4 1, 3) := by decide +kernel
theorem dX4_work_68 : decode cX4_work 68 = .ok (.goto (-57), 3) := by decide +kernel
theorem dX4_work_71 : decode cX4_work 71 = .ok (.aload_n 0, 1) := by decide +kernel
theorem dX4_work_72 : decode cX4_work 72 = .ok (.getfield 11, 3) := by decide +kernel
theorem dX4_work_75 : decode cX4_work 75 = .ok (.iload_n 3, 1) := by decide +kernel
theorem dX4_work_76 : decode cX4_work 76 = .ok (.aaload, 1) := by decide +kernel
theorem dX4_work_77 : decode cX4_work 77 = .ok (.bipush 9, 2) := by decide +kernel
theorem dX4_work_79 : decode cX4_work 79 = .ok (.aload_n 2, 1) := by decide +kernel
theorem dX4_work_80 : decode cX4_work 80 = .ok (.iload_n 3, 1) := by decide +kernel
theorem dX4_work_81 : decode cX4_work 81 = .ok (.iaload, 1) := by decide +kernel
theorem dX4_work_82 : decode cX4_work 82 = .ok (.i2l, 1) := by decide +kernel
theorem dX4_work_83 : decode cX4_work 83 = .ok (.lastore, 1) := by decide +kernel
theorem dX4_work_84 : decode cX4_work 84 = .ok (.aload_n 0, 1) := by decide +kernel
theorem dX4_work_85 : decode cX4_work 85 = .ok (.getfield 16, 3) := by decide +kernel
theorem dX4_work_88 : decode cX4_work 88 = .ok (.iload_n 3, 1) := by decide +kernel
theorem dX4_work_89 : decode cX4_work 89 = .ok (.aaload, 1) := by decide +kernel
theorem dX4_work_90 : decode cX4_work 90 = .ok (.bipush 9, 2) := by decide +kernel
theorem dX4_work_92 : decode cX4_work 92 = .ok (.aload_n 0, 1) := by decide +kernel
theorem dX4_work_93 : decode cX4_work 93 = .ok (.getfield 11, 3) := by decide +kernel
theorem dX4_work_96 : decode cX4_work 96 = .ok (.iload_n 3, 1) := by decide +kernel
theorem dX4_work_97 : decode cX4_work 97 = .ok (.aaload, 1) := by decide +kernel
theorem dX4_work_98 : decode cX4_work 98 = .ok (.bipush 9, 2) := by decide +kernel
theorem dX4_work_100 : decode cX4_work 100 = .ok (.laload, 1) := by decide +kernel
theorem dX4_work_101 : decode cX4_work 101 = .ok (.lastore, 1) := by decide +kernel
theorem dX4_work_102 : decode cX4_work 102 = .ok (.iinc 3 1, 3) := by decide +kernel
theorem dX4_work_105 : decode cX4_work 105 = .ok (.goto (-103), 3) := by decide +kernel
theorem dX4_work_108 : decode cX4_work 108 = .ok (.aload_n 0, 1) := by decide +kernel
theorem dX4_work_109 : decode cX4_work 109 = .ok (.iconst 0, 1) := by decide +kernel
theorem dX4_work_110 : decode cX4_work 110 = .ok (.putfield 30, 3) := by decide +kernel
theorem dX4_work_113 : decode cX4_work 113 = .ok (.iconst 1, 1) := by decide +kernel
theorem dX4_work_114 : decode cX4_work 114 = .ok (.istore_n 3, 1) := by decide +kernel
theorem dX4_work_115 : decode cX4_work 115 = .ok (.iconst 0, 1) := by decide +kernel
theorem dX4_work_116 : decode cX4_work 116 = .ok (.istore 4, 2) := by decide +kernel
theorem dX4_work_118 : decode cX4_work 118 = .ok (.iload 4, 2) := by decide +kernel
theorem dX4_work_120 : decode cX4_work 120 = .ok (.bipush 100, 2) := by decide +kernel
theorem dX4_work_122 : decode cX4_work 122 = .ok (.if_icmp .ge 29, 3) := by decide +kernel
theorem dX4_work_125 : decode cX4_work 125 = .ok (.iload_n 3, 1) := by decide +kernel
theorem dX4_work_126 : decode cX4_work 126 = .ok (.ifCond .eq 25, 3) := by decide +kernel
theorem dX4_work_129 : decode cX4_work 129 = .ok (.aload_n 0, 1) := by decide +kernel
theorem dX4_work_130 : decode cX4_work 130 = .ok (.aload_n 1, 1) := by decide +kernel
theorem dX4_work_131 : decode cX4_work 131 = .ok (.invokevirtual 34, 3) := by decide +kernel
theorem dX4_work_134 : decode cX4_work 134 = .ok (.istore_n 3, 1) := by decide +kernel
theorem dX4_work_135 : decode cX4_work 135 = .ok (.aload_n 0, 1) := by decide +kernel
theorem dX4_work_136 : decode cX4_work 136 = .ok (.dup, 1) := by decide +kernel
theorem dX4_work_137 : decode cX4_work 137 = .ok (.getfield 30, 3) := by decide +kernel
theorem dX4_work_140 : decode cX4_work 140 = .ok (.iconst 1, 1) := by decide +kernel
theorem dX4_work_141 : decode cX4_work 141 = .ok (.iadd, 1) := by decide +kernel
theorem dX4_work_142 : decode cX4_work 142 = .ok (.putfield 30, 3) := by decide +kernel
theorem dX4_work_145 : decode cX4_work 145 = .ok (.iinc 4 1, 3) := by decide +kernel
theorem dX4_work_148 : decode cX4_work 148 = .ok (.goto (-30), 3) := by decide +kernel
theorem dX4_work_151 : decode cX4_work 151 = .ok (.return_, 1) := by decide +kernel
theorem dX4_goRound_0 : decode cX4_goRound 0 = .ok (.iconst 0, 1) := by decide +kernel
theorem dX4_goRound_1 : decode cX4_goRound 1 = .ok (.istore_n 2, 1) := by decide +kernel
theorem dX4_goRound_2 : decode cX4_goRound 2 = .ok (.iload_n 2, 1) := by decide +kernel
theorem dX4_goRound_3 : decode cX4_goRound 3 = .ok (.bipush 9, 2) := by decide +kernel
theorem dX4_goRound_5 : decode cX4_goRound 5 = .ok (.if_icmp .ge 27, 3) := by decide +kernel
theorem dX4_goRound_8 : decode cX4_goRound 8 = .ok (.aload_n 0, 1) := by decide +kernel
theorem dX4_goRound_9 : decode cX4_goRound 9 = .ok (.iload_n 2, 1) := by decide +kernel
theorem dX4_goRound_10 : decode cX4_goRound 10 = .ok (.aload_n 1, 1) := by decide +kernel
theorem dX4_goRound_11 : decode cX4_goRound 11 = .ok (.getfield 38, 3) := by decide +kernel
theorem dX4_goRound_14 : decode cX4_goRound 14 = .ok (.iload_n 2, 1) := by decide +kernel
theorem dX4_goRound_15 : decode cX4_goRound 15 = .ok (.iaload, 1) := by decide +kernel
theorem dX4_goRound_16 : decode cX4_goRound 16 = .ok (.i2l, 1) := by decide +kernel
theorem dX4_goRound_17 : decode cX4_goRound 17 = .ok (.aload_n 0, 1) := by decide +kernel
theorem dX4_goRound_18 : decode cX4_goRound 18 = .ok (.iload_n 2, 1) := by decide +kernel
theorem dX4_goRound_19 : decode cX4_goRound 19 = .ok (.invokevirtual 42, 3) := by decide +kernel
theorem dX4_goRound_22 : decode cX4_goRound 22 = .ok (.ladd, 1) := by decide +kernel
theorem dX4_goRound_23 : decode cX4_goRound 23 = .ok (.invokevirtual 46, 3) := by decide +kernel
theorem dX4_goRound_26 : decode cX4_goRound 26 = .ok (.iinc 2 1, 3) := by decide +kernel
theorem dX4_goRound_29 : decode cX4_goRound 29 = .ok (.goto (-27), 3) := by decide +kernel
theorem dX4_goRound_32 : decode cX4_goRound 32 = .ok (.iconst 0, 1) := by decide +kernel
theorem dX4_goRound_33 : decode cX4_goRound 33 = .ok (.istore_n 2, 1) := by decide +kernel
theorem dX4_goRound_34 : decode cX4_goRound 34 = .ok (.iconst 0, 1) := by decide +kernel
theorem dX4_goRound_35 : decode cX4_goRound 35 = .ok (.istore_n 3, 1) := by decide +kernel
theorem dX4_goRound_36 : decode cX4_goRound 36 = .ok (.iload_n 3, 1) := by decide +kernel
theorem dX4_goRound_37 : decode cX4_goRound 37 = .ok (.bipush 9, 2) := by decide +kernel
theorem dX4_goRound_39 : decode cX4_goRound 39 = .ok (.if_icmp .ge 75, 3) := by decide +kernel
theorem dX4_goRound_42 : decode cX4_goRound 42 = .ok (.iconst 0, 1) := by decide +kernel
theorem dX4_goRound_43 : decode cX4_goRound 43 = .ok (.istore 4, 2) := by decide +kernel
theorem dX4_goRound_45 : decode cX4_goRound 45 = .ok (.iload 4, 2) := by decide +kernel
theorem dX4_goRound_47 : decode cX4_goRound 47 = .ok (.bipush 9, 2) := by decide +kernel
theorem dX4_goRound_49 : decode cX4_goRound 49 = .ok (.if_icmp .gt 59, 3) := by decide +kernel
theorem dX4_goRound_52 : decode cX4_goRound 52 = .ok (.iload_n 2, 1) := by decide +kernel
theorem dX4_goRound_53 : decode cX4_goRound 53 = .ok (.ifCond .ne 25, 3) := by decide +kernel
theorem dX4_goRound_56 : decode cX4_goRound 56 = .ok (.aload_n 0, 1) := by decide +kernel
theorem dX4_goRound_57 : decode cX4_goRound 57 = .ok (.getfield 19, 3) := by decide +kernel
theorem dX4_goRound_60 : decode cX4_goRound 60 = .ok (.iload_n 3, 1) := by decide +kernel
theorem dX4_goRound_61 : decode cX4_goRound 61 = .ok (.aaload, 1) := by decide +kernel
theorem dX4_goRound_62 : decode cX4_goRound 62 = .ok (.iload 4, 2) := by decide +kernel
theorem dX4_goRound_64 : decode cX4_goRound 64 = .ok (.laload, 1) := by decide +kernel
theorem dX4_goRound_65 : decode cX4_goRound 65 = .ok (.aload_n 0, 1) := by decide +kernel
theorem dX4_goRound_66 : decode cX4_goRound 66 = .ok (.getfield 16, 3) := by decide +kernel
theorem dX4_goRound_69 : decode cX4_goRound 69 = .ok (.iload_n 3, 1) := by decide +kernel
theorem dX4_goRound_70 : decode cX4_goRound 70 = .ok (.aaload, 1) := by decide +kernel
theorem dX4_goRound_71 : decode cX4_goRound 71 = .ok (.iload 4, 2) := by decide +kernel
theorem dX4_goRound_73 : decode cX4_goRound 73 = .ok (.laload, 1) := by decide +kernel
theorem dX4_goRound_74 : decode cX4_goRound 74 = .ok (.lcmp, 1) := by decide +kernel
theorem dX4_goRound_75 : decode cX4_goRound 75 = .ok (.ifCond .eq 7, 3) := by decide +kernel
theorem dX4_goRound_78 : decode cX4_goRound 78 = .ok (.iconst 1, 1) := by decide +kernel
theorem dX4_goRound_79 : decode cX4_goRound 79 = .ok (.goto 4, 3) := by decide +kernel
theorem dX4_goRound_82 : decode cX4_goRound 82 = .ok (.iconst 0, 1) := by decide +kernel
theorem dX4_goRound_83 : decode cX4_goRound 83 = .ok (.istore_n 2, 1) := by decide +kernel
theorem dX4_goRound_84 : decode cX4_goRound 84 = .ok (.aload_n 0, 1) := by decide +kernel
theorem dX4_goRound_85 : decode cX4_goRound 85 = .ok (.getfield 16, 3) := by decide +kernel
theorem dX4_goRound_88 : decode cX4_goRound 88 = .ok (.iload_n 3, 1) := by decide +kernel
theorem dX4_goRound_89 : decode cX4_goRound 89 = .ok (.aaload, 1) := by decide +kernel
theorem dX4_goRound_90 : decode cX4_goRound 90 = .ok (.iload 4, 2) := by decide +kernel
theorem dX4_goRound_92 : decode cX4_goRound 92 = .ok (.aload_n 0, 1) := by decide +kernel
theorem dX4_goRound_93 : decode cX4_goRound 93 = .ok (.getfield 19, 3) := by decide +kernel
theorem dX4_goRound_96 : decode cX4_goRound 96 = .ok (.iload_n 3, 1) := by decide +kernel
theorem dX4_goRound_97 : decode cX4_goRound 97 = .ok (.aaload, 1) := by decide +kernel
theorem dX4_goRound_98 : decode cX4_goRound 98 = .ok (.iload 4, 2) := by decide +kernel
theorem dX4_goRound_100 : decode cX4_goRound 100 = .ok (.laload, 1) := by decide +kernel
theorem dX4_goRound_101 : decode cX4_goRound 101 = .ok (.lastore, 1) := by decide +kernel
theorem dX4_goRound_102 : decode cX4_goRound 102 = .ok (.iinc 4 1, 3) := by decide +kernel
theorem dX4_goRound_105 : decode cX4_goRound 105 = .ok (.goto (-60), 3) := by decide +kernel
theorem dX4_goRound_108 : decode cX4_goRound 108 = .ok (.iinc 3 1, 3) := by decide +kernel
theorem dX4_goRound_111 : decode cX4_goRound 111 = .ok (.goto (-75), 3) := by decide +kernel
theorem dX4_goRound_114 : decode cX4_goRound 114 = .ok (.iload_n 2, 1) := by decide +kernel
theorem dX4_goRound_115 : decode cX4_goRound 115 = .ok (.ireturn, 1) := by decide +kernel
theorem dX4_payFrom_0 : decode cX4_payFrom 0 = .ok (.aload_n 0, 1) := by decide +kernel
theorem dX4_payFrom_1 : decode cX4_payFrom 1 = .ok (.getfield 11, 3) := by decide +kernel
theorem dX4_payFrom_4 : decode cX4_payFrom 4 = .ok (.iload_n 1, 1) := by decide +kernel
theorem dX4_payFrom_5 : decode cX4_payFrom 5 = .ok (.aaload, 1) := by decide +kernel
theorem dX4_payFrom_6 : decode cX4_payFrom 6 = .ok (.invokestatic 50, 3) := by decide +kernel
theorem dX4_payFrom_9 : decode cX4_payFrom 9 = .ok (.lstore 4, 2) := by decide +kernel
theorem dX4_payFrom_11 : decode cX4_payFrom 11 = .ok (.iconst 0, 1) := by decide +kernel
theorem dX4_payFrom_12 : decode cX4_payFrom 12 = .ok (.istore 6, 2) := by decide +kernel
theorem dX4_payFrom_14 : decode cX4_payFrom 14 = .ok (.iload 6, 2) := by decide +kernel
theorem dX4_payFrom_16 : decode cX4_payFrom 16 = .ok (.bipush 9, 2) := by decide +kernel
theorem dX4_payFrom_18 : decode cX4_payFrom 18 = .ok (.if_icmp .gt 55, 3) := by decide +kernel
theorem dX4_payFrom_21 : decode cX4_payFrom 21 = .ok (.aload_n 0, 1) := by decide +kernel
theorem dX4_payFrom_22 : decode cX4_payFrom 22 = .ok (.getfield 11, 3) := by decide +kernel
theorem dX4_payFrom_25 : decode cX4_payFrom 25 = .ok (.iload_n 1, 1) := by decide +kernel
theorem dX4_payFrom_26 : decode cX4_payFrom 26 = .ok (.aaload, 1) := by decide +kernel
theorem dX4_payFrom_27 : decode cX4_payFrom 27 = .ok (.iload 6, 2) := by decide +kernel
theorem dX4_payFrom_29 : decode cX4_payFrom 29 = .ok (.laload, 1) := by decide +kernel
theorem dX4_payFrom_30 : decode cX4_payFrom 30 = .ok (.lstore 7, 2) := by decide +kernel
theorem dX4_payFrom_32 : decode cX4_payFrom 32 = .ok (.aload_n 0, 1) := by decide +kernel
theorem dX4_payFrom_33 : decode cX4_payFrom 33 = .ok (.getfield 19, 3) := by decide +kernel
theorem dX4_payFrom_36 : decode cX4_payFrom 36 = .ok (.iload_n 1, 1) := by decide +kernel
theorem dX4_payFrom_37 : decode cX4_payFrom 37 = .ok (.aaload, 1) := by decide +kernel
theorem dX4_payFrom_38 : decode cX4_payFrom 38 = .ok (.iload 6, 2) := by decide +kernel
theorem dX4_payFrom_40 : decode cX4_payFrom 40 = .ok (.lload 4, 2) := by decide +kernel
theorem dX4_payFrom_42 : decode cX4_payFrom 42 = .ok (.lconst 0, 1) := by decide +kernel
theorem dX4_payFrom_43 : decode cX4_payFrom 43 = .ok (.lcmp, 1) := by decide +kernel
theorem dX4_payFrom_44 : decode cX4_payFrom 44 = .ok (.ifCond .le 20, 3) := by decide +kernel
theorem dX4_payFrom_47 : decode cX4_payFrom 47 = .ok (.lload_n 2, 1) := by decide +kernel
theorem dX4_payFrom_48 : decode cX4_payFrom 48 = .ok (.lload 4, 2) := by decide +kernel
theorem dX4_payFrom_50 : decode cX4_payFrom 50 = .ok (.lcmp, 1) := by decide +kernel
theorem dX4_payFrom_51 : decode cX4_payFrom 51 = .ok (.ifCond .ge 13, 3) := by decide +kernel
theorem dX4_payFrom_54 : decode cX4_payFrom 54 = .ok (.lload 7, 2) := by decide +kernel
theorem dX4_payFrom_56 : decode cX4_payFrom 56 = .ok (.lload_n 2, 1) := by decide +kernel
theorem dX4_payFrom_57 : decode cX4_payFrom 57 = .ok (.lmul, 1) := by decide +kernel
theorem dX4_payFrom_58 : decode cX4_payFrom 58 = .ok (.lload 4, 2) := by decide +kernel
theorem dX4_payFrom_60 : decode cX4_payFrom 60 = .ok (.ldiv, 1) := by decide +kernel
theorem dX4_payFrom_61 : decode cX4_payFrom 61 = .ok (.goto 5, 3) := by decide +kernel
theorem dX4_payFrom_64 : decode cX4_payFrom 64 = .ok (.lload 7, 2) := by decide +kernel
theorem dX4_payFrom_66 : decode cX4_payFrom 66 = .ok (.lastore, 1) := by decide +kernel
theorem dX4_payFrom_67 : decode cX4_payFrom 67 = .ok (.iinc 6 1, 3) := by decide +kernel
theorem dX4_payFrom_70 : decode cX4_payFrom 70 = .ok (.goto (-56), 3) := by decide +kernel
theorem dX4_payFrom_73 : decode cX4_payFrom 73 = .ok (.return_, 1) := by decide +kernel
theorem dX4_got_0 : decode cX4_got 0 = .ok (.lconst 0, 1) := by decide +kernel
theorem dX4_got_1 : decode cX4_got 1 = .ok (.lstore_n 2, 1) := by decide +kernel
theorem dX4_got_2 : decode cX4_got 2 = .ok (.iconst 0, 1) := by decide +kernel
theorem dX4_got_3 : decode cX4_got 3 = .ok (.istore 4, 2) := by decide +kernel
theorem dX4_got_5 : decode cX4_got 5 = .ok (.iload 4, 2) := by decide +kernel
theorem dX4_got_7 : decode cX4_got 7 = .ok (.bipush 9, 2) := by decide +kernel
theorem dX4_got_9 : decode cX4_got 9 = .ok (.if_icmp .ge 21, 3) := by decide +kernel
theorem dX4_got_12 : decode cX4_got 12 = .ok (.lload_n 2, 1) := by decide +kernel
theorem dX4_got_13 : decode cX4_got 13 = .ok (.aload_n 0, 1) := by decide +kernel
theorem dX4_got_14 : decode cX4_got 14 = .ok (.getfield 16, 3) := by decide +kernel
theorem dX4_got_17 : decode cX4_got 17 = .ok (.iload 4, 2) := by decide +kernel
theorem dX4_got_19 : decode cX4_got 19 = .ok (.aaload, 1) := by decide +kernel
theorem dX4_got_20 : decode cX4_got 20 = .ok (.iload_n 1, 1) := by decide +kernel
theorem dX4_got_21 : decode cX4_got 21 = .ok (.laload, 1) := by decide +kernel
theorem dX4_got_22 : decode cX4_got 22 = .ok (.ladd, 1) := by decide +kernel
theorem dX4_got_23 : decode cX4_got 23 = .ok (.lstore_n 2, 1) := by decide +kernel
theorem dX4_got_24 : decode cX4_got 24 = .ok (.iinc 4 1, 3) := by decide +kernel
theorem dX4_got_27 : decode cX4_got 27 = .ok (.goto (-22), 3) := by decide +kernel
theorem dX4_got_30 : decode cX4_got 30 = .ok (.lload_n 2, 1) := by decide +kernel
theorem dX4_got_31 : decode cX4_got 31 = .ok (.lreturn, 1) := by decide +kernel
theorem dX4_sumOf_0 : decode cX4_sumOf 0 = .ok (.lconst 0, 1) := by decide +kernel
theorem dX4_sumOf_1 : decode cX4_sumOf 1 = .ok (.lstore_n 1, 1) := by decide +kernel
theorem dX4_sumOf_2 : decode cX4_sumOf 2 = .ok (.iconst 0, 1) := by decide +kernel
theorem dX4_sumOf_3 : decode cX4_sumOf 3 = .ok (.istore_n 3, 1) := by decide +kernel
theorem dX4_sumOf_4 : decode cX4_sumOf 4 = .ok (.iload_n 3, 1) := by decide +kernel
theorem dX4_sumOf_5 : decode cX4_sumOf 5 = .ok (.aload_n 0, 1) := by decide +kernel
theorem dX4_sumOf_6 : decode cX4_sumOf 6 = .ok (.arraylength, 1) := by decide +kernel
theorem dX4_sumOf_7 : decode cX4_sumOf 7 = .ok (.if_icmp .ge 15, 3) := by decide +kernel
theorem dX4_sumOf_10 : decode cX4_sumOf 10 = .ok (.lload_n 1, 1) := by decide +kernel
theorem dX4_sumOf_11 : decode cX4_sumOf 11 = .ok (.aload_n 0, 1) := by decide +kernel
theorem dX4_sumOf_12 : decode cX4_sumOf 12 = .ok (.iload_n 3, 1) := by decide +kernel
theorem dX4_sumOf_13 : decode cX4_sumOf 13 = .ok (.laload, 1) := by decide +kernel
theorem dX4_sumOf_14 : decode cX4_sumOf 14 = .ok (.ladd, 1) := by decide +kernel
theorem dX4_sumOf_15 : decode cX4_sumOf 15 = .ok (.lstore_n 1, 1) := by decide +kernel
theorem dX4_sumOf_16 : decode cX4_sumOf 16 = .ok (.iinc 3 1, 3) := by decide +kernel
theorem dX4_sumOf_19 : decode cX4_sumOf 19 = .ok (.goto (-15), 3) := by decide +kernel
theorem dX4_sumOf_22 : decode cX4_sumOf 22 = .ok (.lload_n 1, 1) := by decide +kernel
theorem dX4_sumOf_23 : decode cX4_sumOf 23 = .ok (.lreturn, 1) := by decide +kernel
theorem dX4_tell_0 : decode cX4_tell 0 = .ok (.iload_n 2, 1) := by decide +kernel
theorem dX4_tell_1 : decode cX4_tell 1 = .ok (.tableswitch 89 0 3 #[31, 41, 51, 79], 31) := by decide +kernel
theorem dX4_tell_32 : decode cX4_tell 32 = .ok (.aload_n 0, 1) := by decide +kernel
theorem dX4_tell_33 : decode cX4_tell 33 = .ok (.getfield 11, 3) := by decide +kernel
theorem dX4_tell_36 : decode cX4_tell 36 = .ok (.iload_n 1, 1) := by decide +kernel
theorem dX4_tell_37 : decode cX4_tell 37 = .ok (.aaload, 1) := by decide +kernel
theorem dX4_tell_38 : decode cX4_tell 38 = .ok (.invokestatic 50, 3) := by decide +kernel
theorem dX4_tell_41 : decode cX4_tell 41 = .ok (.lreturn, 1) := by decide +kernel
theorem dX4_tell_42 : decode cX4_tell 42 = .ok (.aload_n 0, 1) := by decide +kernel
theorem dX4_tell_43 : decode cX4_tell 43 = .ok (.getfield 16, 3) := by decide +kernel
theorem dX4_tell_46 : decode cX4_tell 46 = .ok (.iload_n 1, 1) := by decide +kernel
theorem dX4_tell_47 : decode cX4_tell 47 = .ok (.aaload, 1) := by decide +kernel
theorem dX4_tell_48 : decode cX4_tell 48 = .ok (.invokestatic 50, 3) := by decide +kernel
theorem dX4_tell_51 : decode cX4_tell 51 = .ok (.lreturn, 1) := by decide +kernel
theorem dX4_tell_52 : decode cX4_tell 52 = .ok (.aload_n 0, 1) := by decide +kernel
theorem dX4_tell_53 : decode cX4_tell 53 = .ok (.getfield 16, 3) := by decide +kernel
theorem dX4_tell_56 : decode cX4_tell 56 = .ok (.iload_n 1, 1) := by decide +kernel
theorem dX4_tell_57 : decode cX4_tell 57 = .ok (.aaload, 1) := by decide +kernel
theorem dX4_tell_58 : decode cX4_tell 58 = .ok (.invokestatic 50, 3) := by decide +kernel
theorem dX4_tell_61 : decode cX4_tell 61 = .ok (.aload_n 0, 1) := by decide +kernel
theorem dX4_tell_62 : decode cX4_tell 62 = .ok (.getfield 11, 3) := by decide +kernel
theorem dX4_tell_65 : decode cX4_tell 65 = .ok (.iload_n 1, 1) := by decide +kernel
theorem dX4_tell_66 : decode cX4_tell 66 = .ok (.aaload, 1) := by decide +kernel
theorem dX4_tell_67 : decode cX4_tell 67 = .ok (.invokestatic 50, 3) := by decide +kernel
theorem dX4_tell_70 : decode cX4_tell 70 = .ok (.lcmp, 1) := by decide +kernel
theorem dX4_tell_71 : decode cX4_tell 71 = .ok (.ifCond .ge 7, 3) := by decide +kernel
theorem dX4_tell_74 : decode cX4_tell 74 = .ok (.lconst 1, 1) := by decide +kernel
theorem dX4_tell_75 : decode cX4_tell 75 = .ok (.goto 4, 3) := by decide +kernel
theorem dX4_tell_78 : decode cX4_tell 78 = .ok (.lconst 0, 1) := by decide +kernel
theorem dX4_tell_79 : decode cX4_tell 79 = .ok (.lreturn, 1) := by decide +kernel
theorem dX4_tell_80 : decode cX4_tell 80 = .ok (.aload_n 0, 1) := by decide +kernel
theorem dX4_tell_81 : decode cX4_tell 81 = .ok (.getfield 16, 3) := by decide +kernel
theorem dX4_tell_84 : decode cX4_tell 84 = .ok (.iload_n 1, 1) := by decide +kernel
theorem dX4_tell_85 : decode cX4_tell 85 = .ok (.aaload, 1) := by decide +kernel
theorem dX4_tell_86 : decode cX4_tell 86 = .ok (.bipush 9, 2) := by decide +kernel
theorem dX4_tell_88 : decode cX4_tell 88 = .ok (.laload, 1) := by decide +kernel
theorem dX4_tell_89 : decode cX4_tell 89 = .ok (.lreturn, 1) := by decide +kernel
theorem dX4_tell_90 : decode cX4_tell 90 = .ok (.ldc2_w 54, 3) := by decide +kernel
theorem dX4_tell_93 : decode cX4_tell 93 = .ok (.lreturn, 1) := by decide +kernel
theorem dX5_init_0 : decode cX5_init 0 = .ok (.aload_n 0, 1) := by decide +kernel
theorem dX5_init_1 : decode cX5_init 1 = .ok (.invokespecial 3, 3) := by decide +kernel
theorem dX5_init_4 : decode cX5_init 4 = .ok (.aload_n 0, 1) := by decide +kernel
theorem dX5_init_5 : decode cX5_init 5 = .ok (.bipush 120, 2) := by decide +kernel
theorem dX5_init_7 : decode cX5_init 7 = .ok (.newarray .boolean, 2) := by decide +kernel
theorem dX5_init_9 : decode cX5_init 9 = .ok (.putfield 9, 3) := by decide +kernel
theorem dX5_init_12 : decode cX5_init 12 = .ok (.aload_n 0, 1) := by decide +kernel
theorem dX5_init_13 : decode cX5_init 13 = .ok (.bipush 120, 2) := by decide +kernel
theorem dX5_init_15 : decode cX5_init 15 = .ok (.newarray .int, 2) := by decide +kernel
theorem dX5_init_17 : decode cX5_init 17 = .ok (.putfield 15, 3) := by decide +kernel
theorem dX5_init_20 : decode cX5_init 20 = .ok (.aload_n 0, 1) := by decide +kernel
theorem dX5_init_21 : decode cX5_init 21 = .ok (.bipush 120, 2) := by decide +kernel
theorem dX5_init_23 : decode cX5_init 23 = .ok (.newarray .int, 2) := by decide +kernel
theorem dX5_init_25 : decode cX5_init 25 = .ok (.putfield 19, 3) := by decide +kernel
theorem dX5_init_28 : decode cX5_init 28 = .ok (.aload_n 0, 1) := by decide +kernel
theorem dX5_init_29 : decode cX5_init 29 = .ok (.bipush 120, 2) := by decide +kernel
theorem dX5_init_31 : decode cX5_init 31 = .ok (.newarray .int, 2) := by decide +kernel
theorem dX5_init_33 : decode cX5_init 33 = .ok (.putfield 22, 3) := by decide +kernel
theorem dX5_init_36 : decode cX5_init 36 = .ok (.aload_n 0, 1) := by decide +kernel
theorem dX5_init_37 : decode cX5_init 37 = .ok (.bipush 120, 2) := by decide +kernel
theorem dX5_init_39 : decode cX5_init 39 = .ok (.newarray .int, 2) := by decide +kernel
theorem dX5_init_41 : decode cX5_init 41 = .ok (.putfield 25, 3) := by decide +kernel
theorem dX5_init_44 : decode cX5_init 44 = .ok (.aload_n 0, 1) := by decide +kernel
theorem dX5_init_45 : decode cX5_init 45 = .ok (.bipush 120, 2) := by decide +kernel
theorem dX5_init_47 : decode cX5_init 47 = .ok (.newarray .int, 2) := by decide +kernel
theorem dX5_init_49 : decode cX5_init 49 = .ok (.putfield 28, 3) := by decide +kernel
theorem dX5_init_52 : decode cX5_init 52 = .ok (.aload_n 0, 1) := by decide +kernel
theorem dX5_init_53 : decode cX5_init 53 = .ok (.bipush 120, 2) := by decide +kernel
theorem dX5_init_55 : decode cX5_init 55 = .ok (.newarray .int, 2) := by decide +kernel
theorem dX5_init_57 : decode cX5_init 57 = .ok (.putfield 31, 3) := by decide +kernel
theorem dX5_init_60 : decode cX5_init 60 = .ok (.aload_n 0, 1) := by decide +kernel
theorem dX5_init_61 : decode cX5_init 61 = .ok (.bipush 120, 2) := by decide +kernel
theorem dX5_init_63 : decode cX5_init 63 = .ok (.newarray .boolean, 2) := by decide +kernel
theorem dX5_init_65 : decode cX5_init 65 = .ok (.putfield 34, 3) := by decide +kernel
theorem dX5_init_68 : decode cX5_init 68 = .ok (.aload_n 0, 1) := by decide +kernel
theorem dX5_init_69 : decode cX5_init 69 = .ok (.bipush 12, 2) := by decide +kernel
theorem dX5_init_71 : decode cX5_init 71 = .ok (.newarray .int, 2) := by decide +kernel
theorem dX5_init_73 : decode cX5_init 73 = .ok (.putfield 37, 3) := by decide +kernel
theorem dX5_init_76 : decode cX5_init 76 = .ok (.aload_n 0, 1) := by decide +kernel
theorem dX5_init_77 : decode cX5_init 77 = .ok (.bipush 12, 2) := by decide +kernel
theorem dX5_init_79 : decode cX5_init 79 = .ok (.newarray .int, 2) := by decide +kernel
theorem dX5_init_81 : decode cX5_init 81 = .ok (.putfield 40, 3) := by decide +kernel
theorem dX5_init_84 : decode cX5_init 84 = .ok (.aload_n 0, 1) := by decide +kernel
theorem dX5_init_85 : decode cX5_init 85 = .ok (.bipush 12, 2) := by decide +kernel
theorem dX5_init_87 : decode cX5_init 87 = .ok (.newarray .int, 2) := by decide +kernel
theorem dX5_init_89 : decode cX5_init 89 = .ok (.putfield 43, 3) := by decide +kernel
theorem dX5_init_92 : decode cX5_init 92 = .ok (.aload_n 0, 1) := by decide +kernel
theorem dX5_init_93 : decode cX5_init 93 = .ok (.aload_n 1, 1) := by decide +kernel
theorem dX5_init_94 : decode cX5_init 94 = .ok (.putfield 46, 3) := by decide +kernel
theorem dX5_init_97 : decode cX5_init 97 = .ok (.aload_n 0, 1) := by decide +kernel
theorem dX5_init_98 : decode cX5_init 98 = .ok (.aload_n 2, 1) := by decide +kernel
theorem dX5_init_99 : decode cX5_init 99 = .ok (.putfield 50, 3) := by decide +kernel
theorem dX5_init_102 : decode cX5_init 102 = .ok (.return_, 1) := by decide +kernel
theorem dX5_burn_0 : decode cX5_burn 0 = .ok (.aload_n 0, 1) := by decide +kernel
theorem dX5_burn_1 : decode cX5_burn 1 = .ok (.invokevirtual 54, 3) := by decide +kernel
theorem dX5_burn_4 : decode cX5_burn 4 = .ok (.aload_n 0, 1) := by decide +kernel
theorem dX5_burn_5 : decode cX5_burn 5 = .ok (.iload_n 1, 1) := by decide +kernel
theorem dX5_burn_6 : decode cX5_burn 6 = .ok (.iconst 0, 1) := by decide +kernel
theorem dX5_burn_7 : decode cX5_burn 7 = .ok (.invokevirtual 57, 3) := by decide +kernel
theorem dX5_burn_10 : decode cX5_burn 10 = .ok (.iconst 1, 1) := by decide +kernel
theorem dX5_burn_11 : decode cX5_burn 11 = .ok (.istore 4, 2) := by decide +kernel
theorem dX5_burn_13 : decode cX5_burn 13 = .ok (.iload 4, 2) := by decide +kernel
theorem dX5_burn_15 : decode cX5_burn 15 = .ok (.iload_n 2, 1) := by decide +kernel
theorem dX5_burn_16 : decode cX5_burn 16 = .ok (.if_icmp .gt 32, 3) := by decide +kernel
theorem dX5_burn_19 : decode cX5_burn 19 = .ok (.aload_n 0, 1) := by decide +kernel
theorem dX5_burn_20 : decode cX5_burn 20 = .ok (.invokevirtual 61, 3) := by decide +kernel
theorem dX5_burn_23 : decode cX5_burn 23 = .ok (.aload_n 0, 1) := by decide +kernel
theorem dX5_burn_24 : decode cX5_burn 24 = .ok (.iload 4, 2) := by decide +kernel
theorem dX5_burn_26 : decode cX5_burn 26 = .ok (.invokevirtual 64, 3) := by decide +kernel
theorem dX5_burn_29 : decode cX5_burn 29 = .ok (.iload 4, 2) := by decide +kernel
theorem dX5_burn_31 : decode cX5_burn 31 = .ok (.iconst 3, 1) := by decide +kernel
theorem dX5_burn_32 : decode cX5_burn 32 = .ok (.if_icmp .lt 10, 3) := by decide +kernel
theorem dX5_burn_35 : decode cX5_burn 35 = .ok (.aload_n 0, 1) := by decide +kernel
theorem dX5_burn_36 : decode cX5_burn 36 = .ok (.iload 4, 2) := by decide +kernel
theorem dX5_burn_38 : decode cX5_burn 38 = .ok (.aload_n 3, 1) := by decide +kernel
theorem dX5_burn_39 : decode cX5_burn 39 = .ok (.invokevirtual 68, 3) := by decide +kernel
theorem dX5_burn_42 : decode cX5_burn 42 = .ok (.iinc 4 1, 3) := by decide +kernel
theorem dX5_burn_45 : decode cX5_burn 45 = .ok (.goto (-32), 3) := by decide +kernel
theorem dX5_burn_48 : decode cX5_burn 48 = .ok (.aload_n 0, 1) := by decide +kernel
theorem dX5_burn_49 : decode cX5_burn 49 = .ok (.invokevirtual 72, 3) := by decide +kernel
theorem dX5_burn_52 : decode cX5_burn 52 = .ok (.return_, 1) := by decide +kernel
theorem dX5_makeReady_0 : decode cX5_makeReady 0 = .ok (.aload_n 0, 1) := by decide +kernel
theorem dX5_makeReady_1 : decode cX5_makeReady 1 = .ok (.iconst 1, 1) := by decide +kernel
theorem dX5_makeReady_2 : decode cX5_makeReady 2 = .ok (.putfield 75, 3) := by decide +kernel
theorem dX5_makeReady_5 : decode cX5_makeReady 5 = .ok (.iconst 0, 1) := by decide +kernel
theorem dX5_makeReady_6 : decode cX5_makeReady 6 = .ok (.istore_n 1, 1) := by decide +kernel
theorem dX5_makeReady_7 : decode cX5_makeReady 7 = .ok (.iload_n 1, 1) := by decide +kernel
theorem dX5_makeReady_8 : decode cX5_makeReady 8 = .ok (.aload_n 0, 1) := by decide +kernel
theorem dX5_makeReady_9 : decode cX5_makeReady 9 = .ok (.getfield 46, 3) := by decide +kernel
theorem dX5_makeReady_12 : decode cX5_makeReady 12 = .ok (.getfield 79, 3) := by decide +kernel
theorem dX5_makeReady_15 : decode cX5_makeReady 15 = .ok (.if_icmp .ge 73, 3) := by decide +kernel
theorem dX5_makeReady_18 : decode cX5_makeReady 18 = .ok (.aload_n 0, 1) := by decide +kernel
theorem dX5_makeReady_19 : decode cX5_makeReady 19 = .ok (.getfield 9, 3) := by decide +kernel
theorem dX5_makeReady_22 : decode cX5_makeReady 22 = .ok (.iload_n 1, 1) := by decide +kernel
theorem dX5_makeReady_23 : decode cX5_makeReady 23 = .ok (.aload_n 0, 1) := by decide +kernel
theorem dX5_makeReady_24 : decode cX5_makeReady 24 = .ok (.getfield 46, 3) := by decide +kernel
theorem dX5_makeReady_27 : decode cX5_makeReady 27 = .ok (.getfield 85, 3) := by decide +kernel
theorem dX5_makeReady_30 : decode cX5_makeReady 30 = .ok (.iload_n 1, 1) := by decide +kernel
theorem dX5_makeReady_31 : decode cX5_makeReady 31 = .ok (.baload, 1) := by decide +kernel
theorem dX5_makeReady_32 : decode cX5_makeReady 32 = .ok (.bastore, 1) := by decide +kernel
theorem dX5_makeReady_33 : decode cX5_makeReady 33 = .ok (.aload_n 0, 1) := by decide +kernel
theorem dX5_makeReady_34 : decode cX5_makeReady 34 = .ok (.getfield 19, 3) := by decide +kernel
theorem dX5_makeReady_37 : decode cX5_makeReady 37 = .ok (.iload_n 1, 1) := by decide +kernel
theorem dX5_makeReady_38 : decode cX5_makeReady 38 = .ok (.iconst 0, 1) := by decide +kernel
theorem dX5_makeReady_39 : decode cX5_makeReady 39 = .ok (.iastore, 1) := by decide +kernel
theorem dX5_makeReady_40 : decode cX5_makeReady 40 = .ok (.aload_n 0, 1) := by decide +kernel
theorem dX5_makeReady_41 : decode cX5_makeReady 41 = .ok (.getfield 22, 3) := by decide +kernel
theorem dX5_makeReady_44 : decode cX5_makeReady 44 = .ok (.iload_n 1, 1) := by decide +kernel
theorem dX5_makeReady_45 : decode cX5_makeReady 45 = .ok (.iconst 0, 1) := by decide +kernel
theorem dX5_makeReady_46 : decode cX5_makeReady 46 = .ok (.iastore, 1) := by decide +kernel
theorem dX5_makeReady_47 : decode cX5_makeReady 47 = .ok (.aload_n 0, 1) := by decide +kernel
theorem dX5_makeReady_48 : decode cX5_makeReady 48 = .ok (.getfield 25, 3) := by decide +kernel
theorem dX5_makeReady_51 : decode cX5_makeReady 51 = .ok (.iload_n 1, 1) := by decide +kernel
theorem dX5_makeReady_52 : decode cX5_makeReady 52 = .ok (.iconst 0, 1) := by decide +kernel
theorem dX5_makeReady_53 : decode cX5_makeReady 53 = .ok (.iastore, 1) := by decide +kernel
theorem dX5_makeReady_54 : decode cX5_makeReady 54 = .ok (.aload_n 0, 1) := by decide +kernel
theorem dX5_makeReady_55 : decode cX5_makeReady 55 = .ok (.getfield 28, 3) := by decide +kernel
theorem dX5_makeReady_58 : decode cX5_makeReady 58 = .ok (.iload_n 1, 1) := by decide +kernel
theorem dX5_makeReady_59 : decode cX5_makeReady 59 = .ok (.iconst 0, 1) := by decide +kernel
theorem dX5_makeReady_60 : decode cX5_makeReady 60 = .ok (.iastore, 1) := by decide +kernel
theorem dX5_makeReady_61 : decode cX5_makeReady 61 = .ok (.aload_n 0, 1) := by decide +kernel
theorem dX5_makeReady_62 : decode cX5_makeReady 62 = .ok (.getfield 31, 3) := by decide +kernel
theorem dX5_makeReady_65 : decode cX5_makeReady 65 = .ok (.iload_n 1, 1) := by decide +kernel
theorem dX5_makeReady_66 : decode cX5_makeReady 66 = .ok (.iconst (-1), 1) := by decide +kernel
theorem dX5_makeReady_67 : decode cX5_makeReady 67 = .ok (.iastore, 1) := by decide +kernel
theorem dX5_makeReady_68 : decode cX5_makeReady 68 = .ok (.aload_n 0, 1) := by decide +kernel
theorem dX5_makeReady_69 : decode cX5_makeReady 69 = .ok (.getfield 34, 3) := by decide +kernel
theorem dX5_makeReady_72 : decode cX5_makeReady 72 = .ok (.iload_n 1, 1) := by decide +kernel
theorem dX5_makeReady_73 : decode cX5_makeReady 73 = .ok (.aload_n 0, 1) := by decide +kernel
theorem dX5_makeReady_74 : decode cX5_makeReady 74 = .ok (.getfield 46, 3) := by decide +kernel
theorem dX5_makeReady_77 : decode cX5_makeReady 77 = .ok (.iload_n 1, 1) := by decide +kernel
theorem dX5_makeReady_78 : decode cX5_makeReady 78 = .ok (.invokevirtual 88, 3) := by decide +kernel
theorem dX5_makeReady_81 : decode cX5_makeReady 81 = .ok (.bastore, 1) := by decide +kernel
theorem dX5_makeReady_82 : decode cX5_makeReady 82 = .ok (.iinc 1 1, 3) := by decide +kernel
theorem dX5_makeReady_85 : decode cX5_makeReady 85 = .ok (.goto (-78), 3) := by decide +kernel
theorem dX5_makeReady_88 : decode cX5_makeReady 88 = .ok (.aload_n 0, 1) := by decide +kernel
theorem dX5_makeReady_89 : decode cX5_makeReady 89 = .ok (.aload_n 0, 1) := by decide +kernel
theorem dX5_makeReady_90 : decode cX5_makeReady 90 = .ok (.getfield 50, 3) := by decide +kernel
theorem dX5_makeReady_93 : decode cX5_makeReady 93 = .ok (.getfield 92, 3) := by decide +kernel
theorem dX5_makeReady_96 : decode cX5_makeReady 96 = .ok (.putfield 97, 3) := by decide +kernel
theorem dX5_makeReady_99 : decode cX5_makeReady 99 = .ok (.iconst 0, 1) := by decide +kernel
theorem dX5_makeReady_100 : decode cX5_makeReady 100 = .ok (.istore_n 1, 1) := by decide +kernel
theorem dX5_makeReady_101 : decode cX5_makeReady 101 = .ok (.iload_n 1, 1) := by decide +kernel
theorem dX5_makeReady_102 : decode cX5_makeReady 102 = .ok (.aload_n 0, 1) := by decide +kernel
theorem dX5_makeReady_103 : decode cX5_makeReady 103 = .ok (.getfield 97, 3) := by decide +kernel
theorem dX5_makeReady_106 : decode cX5_makeReady 106 = .ok (.if_icmp .ge 38, 3) := by decide +kernel
theorem dX5_makeReady_109 : decode cX5_makeReady 109 = .ok (.aload_n 0, 1) := by decide +kernel
theorem dX5_makeReady_110 : decode cX5_makeReady 110 = .ok (.getfield 37, 3) := by decide +kernel
theorem dX5_makeReady_113 : decode cX5_makeReady 113 = .ok (.iload_n 1, 1) := by decide +kernel
theorem dX5_makeReady_114 : decode cX5_makeReady 114 = .ok (.aload_n 0, 1) := by decide +kernel
theorem dX5_makeReady_115 : decode cX5_makeReady 115 = .ok (.getfield 50, 3) := by decide +kernel
theorem dX5_makeReady_118 : decode cX5_makeReady 118 = .ok (.getfield 100, 3) := by decide +kernel
theorem dX5_makeReady_121 : decode cX5_makeReady 121 = .ok (.iload_n 1, 1) := by decide +kernel
theorem dX5_makeReady_122 : decode cX5_makeReady 122 = .ok (.iaload, 1) := by decide +kernel
theorem dX5_makeReady_123 : decode cX5_makeReady 123 = .ok (.iastore, 1) := by decide +kernel
theorem dX5_makeReady_124 : decode cX5_makeReady 124 = .ok (.aload_n 0, 1) := by decide +kernel
theorem dX5_makeReady_125 : decode cX5_makeReady 125 = .ok (.getfield 40, 3) := by decide +kernel
theorem dX5_makeReady_128 : decode cX5_makeReady 128 = .ok (.iload_n 1, 1) := by decide +kernel
theorem dX5_makeReady_129 : decode cX5_makeReady 129 = .ok (.iconst (-1), 1) := by decide +kernel
theorem dX5_makeReady_130 : decode cX5_makeReady 130 = .ok (.iastore, 1) := by decide +kernel
theorem dX5_makeReady_131 : decode cX5_makeReady 131 = .ok (.aload_n 0, 1) := by decide +kernel
theorem dX5_makeReady_132 : decode cX5_makeReady 132 = .ok (.getfield 43, 3) := by decide +kernel
theorem dX5_makeReady_135 : decode cX5_makeReady 135 = .ok (.iload_n 1, 1) := by decide +kernel
theorem dX5_makeReady_136 : decode cX5_makeReady 136 = .ok (.iconst (-1), 1) := by decide +kernel
theorem dX5_makeReady_137 : decode cX5_makeReady 137 = .ok (.iastore, 1) := by decide +kernel
theorem dX5_makeReady_138 : decode cX5_makeReady 138 = .ok (.iinc 1 1, 3) := by decide +kernel
theorem dX5_makeReady_141 : decode cX5_makeReady 141 = .ok (.goto (-40), 3) := by decide +kernel
theorem dX5_makeReady_144 : decode cX5_makeReady 144 = .ok (.return_, 1) := by decide +kernel
theorem dX5_kindle_0 : decode cX5_kindle 0 = .ok (.aload_n 0, 1) := by decide +kernel
theorem dX5_kindle_1 : decode cX5_kindle 1 = .ok (.getfield 19, 3) := by decide +kernel
theorem dX5_kindle_4 : decode cX5_kindle 4 = .ok (.iload_n 1, 1) := by decide +kernel
theorem dX5_kindle_5 : decode cX5_kindle 5 = .ok (.iconst 1, 1) := by decide +kernel
theorem dX5_kindle_6 : decode cX5_kindle 6 = .ok (.iastore, 1) := by decide +kernel
theorem dX5_kindle_7 : decode cX5_kindle 7 = .ok (.aload_n 0, 1) := by decide +kernel
theorem dX5_kindle_8 : decode cX5_kindle 8 = .ok (.getfield 25, 3) := by decide +kernel
theorem dX5_kindle_11 : decode cX5_kindle 11 = .ok (.iload_n 1, 1) := by decide +kernel
theorem dX5_kindle_12 : decode cX5_kindle 12 = .ok (.iconst 1, 1) := by decide +kernel
theorem dX5_kindle_13 : decode cX5_kindle 13 = .ok (.iastore, 1) := by decide +kernel
theorem dX5_kindle_14 : decode cX5_kindle 14 = .ok (.aload_n 0, 1) := by decide +kernel
theorem dX5_kindle_15 : decode cX5_kindle 15 = .ok (.getfield 31, 3) := by decide +kernel
theorem dX5_kindle_18 : decode cX5_kindle 18 = .ok (.iload_n 1, 1) := by decide +kernel
theorem dX5_kindle_19 : decode cX5_kindle 19 = .ok (.iaload, 1) := by decide +kernel
theorem dX5_kindle_20 : decode cX5_kindle 20 = .ok (.iconst (-1), 1) := by decide +kernel
theorem dX5_kindle_21 : decode cX5_kindle 21 = .ok (.if_icmp .ne 10, 3) := by decide +kernel
theorem dX5_kindle_24 : decode cX5_kindle 24 = .ok (.aload_n 0, 1) := by decide +kernel
theorem dX5_kindle_25 : decode cX5_kindle 25 = .ok (.getfield 31, 3) := by decide +kernel
theorem dX5_kindle_28 : decode cX5_kindle 28 = .ok (.iload_n 1, 1) := by decide +kernel
theorem dX5_kindle_29 : decode cX5_kindle 29 = .ok (.iload_n 2, 1) := by decide +kernel
theorem dX5_kindle_30 : decode cX5_kindle 30 = .ok (.iastore, 1) := by decide +kernel
theorem dX5_kindle_31 : decode cX5_kindle 31 = .ok (.return_, 1) := by decide +kernel
theorem dX5_consume_0 : decode cX5_consume 0 = .ok (.iconst 0, 1) := by decide +kernel
theorem dX5_consume_1 : decode cX5_consume 1 = .ok (.istore_n 1, 1) := by decide +kernel
theorem dX5_consume_2 : decode cX5_consume 2 = .ok (.iload_n 1, 1) := by decide +kernel
theorem dX5_consume_3 : decode cX5_consume 3 = .ok (.aload_n 0, 1) := by decide +kernel
theorem dX5_consume_4 : decode cX5_consume 4 = .ok (.getfield 46, 3) := by decide +kernel
theorem dX5_consume_7 : decode cX5_consume 7 = .ok (.getfield 79, 3) := by decide +kernel
theorem dX5_consume_10 : decode cX5_consume 10 = .ok (.if_icmp .ge 82, 3) := by decide +kernel
theorem dX5_consume_13 : decode cX5_consume 13 = .ok (.aload_n 0, 1) := by decide +kernel
theorem dX5_consume_14 : decode cX5_consume 14 = .ok (.getfield 19, 3) := by decide +kernel
theorem dX5_consume_17 : decode cX5_consume 17 = .ok (.iload_n 1, 1) := by decide +kernel
theorem dX5_consume_18 : decode cX5_consume 18 = .ok (.iaload, 1) := by decide +kernel
theorem dX5_consume_19 : decode cX5_consume 19 = .ok (.iconst 1, 1) := by decide +kernel
theorem dX5_consume_20 : decode cX5_consume 20 = .ok (.if_icmp .eq 6, 3) := by decide +kernel
theorem dX5_consume_23 : decode cX5_consume 23 = .ok (.goto 63, 3) := by decide +kernel
theorem dX5_consume_26 : decode cX5_consume 26 = .ok (.aload_n 0, 1) := by decide +kernel
theorem dX5_consume_27 : decode cX5_consume 27 = .ok (.getfield 25, 3) := by decide +kernel
theorem dX5_consume_30 : decode cX5_consume 30 = .ok (.iload_n 1, 1) := by decide +kernel
theorem dX5_consume_31 : decode cX5_consume 31 = .ok (.bipush 9, 2) := by decide +kernel
theorem dX5_consume_33 : decode cX5_consume 33 = .ok (.aload_n 0, 1) := by decide +kernel
theorem dX5_consume_34 : decode cX5_consume 34 = .ok (.getfield 25, 3) := by decide +kernel
theorem dX5_consume_37 : decode cX5_consume 37 = .ok (.iload_n 1, 1) := by decide +kernel
theorem dX5_consume_38 : decode cX5_consume 38 = .ok (.iaload, 1) := by decide +kernel
theorem dX5_consume_39 : decode cX5_consume 39 = .ok (.iconst 1, 1) := by decide +kernel
theorem dX5_consume_40 : decode cX5_consume 40 = .ok (.iadd, 1) := by decide +kernel
theorem dX5_consume_41 : decode cX5_consume 41 = .ok (.invokestatic 103, 3) := by decide +kernel
theorem dX5_consume_44 : decode cX5_consume 44 = .ok (.iastore, 1) := by decide +kernel
theorem dX5_consume_45 : decode cX5_consume 45 = .ok (.aload_n 0, 1) := by decide +kernel
theorem dX5_consume_46 : decode cX5_consume 46 = .ok (.getfield 28, 3) := by decide +kernel
theorem dX5_consume_49 : decode cX5_consume 49 = .ok (.iload_n 1, 1) := by decide +kernel
theorem dX5_consume_50 : decode cX5_consume 50 = .ok (.dup2, 1) := by decide +kernel
theorem dX5_consume_51 : decode cX5_consume 51 = .ok (.iaload, 1) := by decide +kernel
theorem dX5_consume_52 : decode cX5_consume 52 = .ok (.iconst 1, 1) := by decide +kernel
theorem dX5_consume_53 : decode cX5_consume 53 = .ok (.iadd, 1) := by decide +kernel
theorem dX5_consume_54 : decode cX5_consume 54 = .ok (.iastore, 1) := by decide +kernel
theorem dX5_consume_55 : decode cX5_consume 55 = .ok (.aload_n 0, 1) := by decide +kernel
theorem dX5_consume_56 : decode cX5_consume 56 = .ok (.getfield 28, 3) := by decide +kernel
theorem dX5_consume_59 : decode cX5_consume 59 = .ok (.iload_n 1, 1) := by decide +kernel
theorem dX5_consume_60 : decode cX5_consume 60 = .ok (.iaload, 1) := by decide +kernel
theorem dX5_consume_61 : decode cX5_consume 61 = .ok (.aload_n 0, 1) := by decide +kernel
theorem dX5_consume_62 : decode cX5_consume 62 = .ok (.getfield 46, 3) := by decide +kernel
theorem dX5_consume_65 : decode cX5_consume 65 = .ok (.iload_n 1, 1) := by decide +kernel
theorem dX5_consume_66 : decode cX5_consume 66 = .ok (.invokevirtual 109, 3) := by decide +kernel
theorem dX5_consume_69 : decode cX5_consume 69 = .ok (.if_icmp .lt 17, 3) := by decide +kernel
theorem dX5_consume_72 : decode cX5_consume 72 = .ok (.aload_n 0, 1) := by decide +kernel
theorem dX5_consume_73 : decode cX5_consume 73 = .ok (.getfield 19, 3) := by decide +kernel
theorem dX5_consume_76 : decode cX5_consume 76 = .ok (.iload_n 1, 1) := by decide +kernel
theorem dX5_consume_77 : decode cX5_consume 77 = .ok (.iconst 2, 1) := by decide +kernel
theorem dX5_consume_78 : decode cX5_consume 78 = .ok (.iastore, 1) := by decide +kernel
theorem dX5_consume_79 : decode cX5_consume 79 = .ok (.aload_n 0, 1) := by decide +kernel
theorem dX5_consume_80 : decode cX5_consume 80 = .ok (.getfield 25, 3) := by decide +kernel
theorem dX5_consume_83 : decode cX5_consume 83 = .ok (.iload_n 1, 1) := by decide +kernel
theorem dX5_consume_84 : decode cX5_consume 84 = .ok (.iconst 0, 1) := by decide +kernel
theorem dX5_consume_85 : decode cX5_consume 85 = .ok (.iastore, 1) := by decide +kernel
theorem dX5_consume_86 : decode cX5_consume 86 = .ok (.iinc 1 1, 3) := by decide +kernel
theorem dX5_consume_89 : decode cX5_consume 89 = .ok (.goto (-87), 3) := by decide +kernel
theorem dX5_consume_92 : decode cX5_consume 92 = .ok (.return_, 1) := by decide +kernel
theorem dX5_spread_0 : decode cX5_spread 0 = .ok (.iconst 0, 1) := by decide +kernel
theorem dX5_spread_1 : decode cX5_spread 1 = .ok (.istore_n 2, 1) := by decide +kernel
theorem dX5_spread_2 : decode cX5_spread 2 = .ok (.iload_n 2, 1) := by decide +kernel
theorem dX5_spread_3 : decode cX5_spread 3 = .ok (.aload_n 0, 1) := by decide +kernel
theorem dX5_spread_4 : decode cX5_spread 4 = .ok (.getfield 46, 3) := by decide +kernel
theorem dX5_spread_7 : decode cX5_spread 7 = .ok (.getfield 79, 3) := by decide +kernel
theorem dX5_spread_10 : decode cX5_spread 10 = .ok (.if_icmp .ge 35, 3) := by decide +kernel
theorem dX5_spread_13 : decode cX5_spread 13 = .ok (.aload_n 0, 1) := by decide +kernel
theorem dX5_spread_14 : decode cX5_spread 14 = .ok (.iload_n 2, 1) := by decide +kernel
theorem dX5_spread_15 : decode cX5_spread 15 = .ok (.invokevirtual 113, 3) := by decide +kernel
theorem dX5_spread_18 : decode cX5_spread 18 = .ok (.ifCond .eq 21, 3) := by decide +kernel
theorem dX5_spread_21 : decode cX5_spread 21 = .ok (.aload_n 0, 1) := by decide +kernel
theorem dX5_spread_22 : decode cX5_spread 22 = .ok (.getfield 22, 3) := by decide +kernel
theorem dX5_spread_25 : decode cX5_spread 25 = .ok (.iload_n 2, 1) := by decide +kernel
theorem dX5_spread_26 : decode cX5_spread 26 = .ok (.iconst 0, 1) := by decide +kernel
theorem dX5_spread_27 : decode cX5_spread 27 = .ok (.aload_n 0, 1) := by decide +kernel
theorem dX5_spread_28 : decode cX5_spread 28 = .ok (.getfield 22, 3) := by decide +kernel
theorem dX5_spread_31 : decode cX5_spread 31 = .ok (.iload_n 2, 1) := by decide +kernel
theorem dX5_spread_32 : decode cX5_spread 32 = .ok (.iaload, 1) := by decide +kernel
theorem dX5_spread_33 : decode cX5_spread 33 = .ok (.iconst 2, 1) := by decide +kernel
theorem dX5_spread_34 : decode cX5_spread 34 = .ok (.isub, 1) := by decide +kernel
theorem dX5_spread_35 : decode cX5_spread 35 = .ok (.invokestatic 116, 3) := by decide +kernel
theorem dX5_spread_38 : decode cX5_spread 38 = .ok (.iastore, 1) := by decide +kernel
theorem dX5_spread_39 : decode cX5_spread 39 = .ok (.iinc 2 1, 3) := by decide +kernel
theorem dX5_spread_42 : decode cX5_spread 42 = .ok (.goto (-40), 3) := by decide +kernel
theorem dX5_spread_45 : decode cX5_spread 45 = .ok (.iconst 0, 1) := by decide +kernel
theorem dX5_spread_46 : decode cX5_spread 46 = .ok (.istore_n 2, 1) := by decide +kernel
theorem dX5_spread_47 : decode cX5_spread 47 = .ok (.iload_n 2, 1) := by decide +kernel
theorem dX5_spread_48 : decode cX5_spread 48 = .ok (.aload_n 0, 1) := by decide +kernel
theorem dX5_spread_49 : decode cX5_spread 49 = .ok (.getfield 46, 3) := by decide +kernel
theorem dX5_spread_52 : decode cX5_spread 52 = .ok (.getfield 79, 3) := by decide +kernel
theorem dX5_spread_55 : decode cX5_spread 55 = .ok (.if_icmp .ge 42, 3) := by decide +kernel
theorem dX5_spread_58 : decode cX5_spread 58 = .ok (.aload_n 0, 1) := by decide +kernel
theorem dX5_spread_59 : decode cX5_spread 59 = .ok (.getfield 19, 3) := by decide +kernel
theorem dX5_spread_62 : decode cX5_spread 62 = .ok (.iload_n 2, 1) := by decide +kernel
theorem dX5_spread_63 : decode cX5_spread 63 = .ok (.iaload, 1) := by decide +kernel
theorem dX5_spread_64 : decode cX5_spread 64 = .ok (.iconst 1, 1) := by decide +kernel
theorem dX5_spread_65 : decode cX5_spread 65 = .ok (.if_icmp .ne 26, 3) := by decide +kernel
theorem dX5_spread_68 : decode cX5_spread 68 = .ok (.aload_n 0, 1) := by decide +kernel
theorem dX5_spread_69 : decode cX5_spread 69 = .ok (.iload_n 2, 1) := by decide +kernel
theorem dX5_spread_70 : decode cX5_spread 70 = .ok (.aload_n 0, 1) := by decide +kernel
theorem dX5_spread_71 : decode cX5_spread 71 = .ok (.getfield 46, 3) := by decide +kernel
theorem dX5_spread_74 : decode cX5_spread 74 = .ok (.getfield 119, 3) := by decide +kernel
theorem dX5_spread_77 : decode cX5_spread 77 = .ok (.iload_n 1, 1) := by decide +kernel
theorem dX5_spread_78 : decode cX5_spread 78 = .ok (.iaload, 1) := by decide +kernel
theorem dX5_spread_79 : decode cX5_spread 79 = .ok (.aload_n 0, 1) := by decide +kernel
theorem dX5_spread_80 : decode cX5_spread 80 = .ok (.getfield 46, 3) := by decide +kernel
theorem dX5_spread_83 : decode cX5_spread 83 = .ok (.getfield 122, 3) := by decide +kernel
theorem dX5_spread_86 : decode cX5_spread 86 = .ok (.iload_n 1, 1) := by decide +kernel
theorem dX5_spread_87 : decode cX5_spread 87 = .ok (.iaload, 1) := by decide +kernel
theorem dX5_spread_88 : decode cX5_spread 88 = .ok (.invokevirtual 125, 3) := by decide +kernel
theorem dX5_spread_91 : decode cX5_spread 91 = .ok (.iinc 2 1, 3) := by decide +kernel
theorem dX5_spread_94 : decode cX5_spread 94 = .ok (.goto (-47), 3) := by decide +kernel
theorem dX5_spread_97 : decode cX5_spread 97 = .ok (.iconst 0, 1) := by decide +kernel
theorem dX5_spread_98 : decode cX5_spread 98 = .ok (.istore_n 2, 1) := by decide +kernel
theorem dX5_spread_99 : decode cX5_spread 99 = .ok (.iload_n 2, 1) := by decide +kernel
theorem dX5_spread_100 : decode cX5_spread 100 = .ok (.aload_n 0, 1) := by decide +kernel
theorem dX5_spread_101 : decode cX5_spread 101 = .ok (.getfield 46, 3) := by decide +kernel
theorem dX5_spread_104 : decode cX5_spread 104 = .ok (.getfield 79, 3) := by decide +kernel
theorem dX5_spread_107 : decode cX5_spread 107 = .ok (.if_icmp .ge 40, 3) := by decide +kernel
theorem dX5_spread_110 : decode cX5_spread 110 = .ok (.aload_n 0, 1) := by decide +kernel
theorem dX5_spread_111 : decode cX5_spread 111 = .ok (.iload_n 2, 1) := by decide +kernel
theorem dX5_spread_112 : decode cX5_spread 112 = .ok (.invokevirtual 113, 3) := by decide +kernel
theorem dX5_spread_115 : decode cX5_spread 115 = .ok (.ifCond .eq 26, 3) := by decide +kernel
theorem dX5_spread_118 : decode cX5_spread 118 = .ok (.aload_n 0, 1) := by decide +kernel
theorem dX5_spread_119 : decode cX5_spread 119 = .ok (.getfield 22, 3) := by decide +kernel
theorem dX5_spread_122 : decode cX5_spread 122 = .ok (.iload_n 2, 1) := by decide +kernel
theorem dX5_spread_123 : decode cX5_spread 123 = .ok (.iaload, 1) := by decide +kernel
theorem dX5_spread_124 : decode cX5_spread 124 = .ok (.aload_n 0, 1) := by decide +kernel
theorem dX5_spread_125 : decode cX5_spread 125 = .ok (.getfield 46, 3) := by decide +kernel
theorem dX5_spread_128 : decode cX5_spread 128 = .ok (.iload_n 2, 1) := by decide +kernel
theorem dX5_spread_129 : decode cX5_spread 129 = .ok (.invokevirtual 129, 3) := by decide +kernel
theorem dX5_spread_132 : decode cX5_spread 132 = .ok (.if_icmp .lt 9, 3) := by decide +kernel
theorem dX5_spread_135 : decode cX5_spread 135 = .ok (.aload_n 0, 1) := by decide +kernel
theorem dX5_spread_136 : decode cX5_spread 136 = .ok (.iload_n 2, 1) := by decide +kernel
theorem dX5_spread_137 : decode cX5_spread 137 = .ok (.iload_n 1, 1) := by decide +kernel
theorem dX5_spread_138 : decode cX5_spread 138 = .ok (.invokevirtual 57, 3) := by decide +kernel
theorem dX5_spread_141 : decode cX5_spread 141 = .ok (.iinc 2 1, 3) := by decide +kernel
theorem dX5_spread_144 : decode cX5_spread 144 = .ok (.goto (-45), 3) := by decide +kernel
theorem dX5_spread_147 : decode cX5_spread 147 = .ok (.return_, 1) := by decide +kernel
theorem dX5_mayCatch_0 : decode cX5_mayCatch 0 = .ok (.aload_n 0, 1) := by decide +kernel
theorem dX5_mayCatch_1 : decode cX5_mayCatch 1 = .ok (.getfield 9, 3) := by decide +kernel
theorem dX5_mayCatch_4 : decode cX5_mayCatch 4 = .ok (.iload_n 1, 1) := by decide +kernel
theorem dX5_mayCatch_5 : decode cX5_mayCatch 5 = .ok (.baload, 1) := by decide +kernel
theorem dX5_mayCatch_6 : decode cX5_mayCatch 6 = .ok (.ifCond .eq 16, 3) := by decide +kernel
theorem dX5_mayCatch_9 : decode cX5_mayCatch 9 = .ok (.aload_n 0, 1) := by decide +kernel
theorem dX5_mayCatch_10 : decode cX5_mayCatch 10 = .ok (.getfield 19, 3) := by decide +kernel
theorem dX5_mayCatch_13 : decode cX5_mayCatch 13 = .ok (.iload_n 1, 1) := by decide +kernel
theorem dX5_mayCatch_14 : decode cX5_mayCatch 14 = .ok (.iaload, 1) := by decide +kernel
theorem dX5_mayCatch_15 : decode cX5_mayCatch 15 = .ok (.ifCond .ne 7, 3) := by decide +kernel
theorem dX5_mayCatch_18 : decode cX5_mayCatch 18 = .ok (.iconst 1, 1) := by decide +kernel
theorem dX5_mayCatch_19 : decode cX5_mayCatch 19 = .ok (.goto 4, 3) := by decide +kernel
theorem dX5_mayCatch_22 : decode cX5_mayCatch 22 = .ok (.iconst 0, 1) := by decide +kernel
theorem dX5_mayCatch_23 : decode cX5_mayCatch 23 = .ok (.ireturn, 1) := by decide +kernel
theorem dX5_warmAround_0 : decode cX5_warmAround 0 = .ok (.aload_n 0, 1) := by decide +kernel
theorem dX5_warmAround_1 : decode cX5_warmAround 1 = .ok (.getfield 25, 3) := by decide +kernel
theorem dX5_warmAround_4 : decode cX5_warmAround 4 = .ok (.iload_n 1, 1) := by decide +kernel
theorem dX5_warmAround_5 : decode cX5_warmAround 5 = .ok (.iaload, 1) := by decide +kernel
theorem dX5_warmAround_6 : decode cX5_warmAround 6 = .ok (.aload_n 0, 1) := by decide +kernel
theorem dX5_warmAround_7 : decode cX5_warmAround 7 = .ok (.getfield 46, 3) := by decide +kernel
theorem dX5_warmAround_10 : decode cX5_warmAround 10 = .ok (.getfield 132, 3) := by decide +kernel
theorem dX5_warmAround_13 : decode cX5_warmAround 13 = .ok (.aload_n 0, 1) := by decide +kernel
theorem dX5_warmAround_14 : decode cX5_warmAround 14 = .ok (.getfield 46, 3) := by decide +kernel
theorem dX5_warmAround_17 : decode cX5_warmAround 17 = .ok (.getfield 135, 3) := by decide +kernel
theorem dX5_warmAround_20 : decode cX5_warmAround 20 = .ok (.iload_n 1, 1) := by decide +kernel
theorem dX5_warmAround_21 : decode cX5_warmAround 21 = .ok (.iaload, 1) := by decide +kernel
theorem dX5_warmAround_22 : decode cX5_warmAround 22 = .ok (.iaload, 1) := by decide +kernel
theorem dX5_warmAround_23 : decode cX5_warmAround 23 = .ok (.iadd, 1) := by decide +kernel
theorem dX5_warmAround_24 : decode cX5_warmAround 24 = .ok (.istore 4, 2) := by decide +kernel
theorem dX5_warmAround_26 : decode cX5_warmAround 26 = .ok (.iconst 0, 1) := by decide +kernel
theorem dX5_warmAround_27 : decode cX5_warmAround 27 = .ok (.istore 5, 2) := by decide +kernel
theorem dX5_warmAround_29 : decode cX5_warmAround 29 = .ok (.iload 5, 2) := by decide +kernel
theorem dX5_warmAround_31 : decode cX5_warmAround 31 = .ok (.bipush 8, 2) := by decide +kernel
theorem dX5_warmAround_33 : decode cX5_warmAround 33 = .ok (.if_icmp .ge 63, 3) := by decide +kernel
theorem dX5_warmAround_36 : decode cX5_warmAround 36 = .ok (.aload_n 0, 1) := by decide +kernel
theorem dX5_warmAround_37 : decode cX5_warmAround 37 = .ok (.getfield 46, 3) := by decide +kernel
theorem dX5_warmAround_40 : decode cX5_warmAround 40 = .ok (.getfield 138, 3) := by decide +kernel
theorem dX5_warmAround_43 : decode cX5_warmAround 43 = .ok (.iload_n 1, 1) := by decide +kernel
theorem dX5_warmAround_44 : decode cX5_warmAround 44 = .ok (.aaload, 1) := by decide +kernel
theorem dX5_warmAround_45 : decode cX5_warmAround 45 = .ok (.iload 5, 2) := by decide +kernel
theorem dX5_warmAround_47 : decode cX5_warmAround 47 = .ok (.iaload, 1) := by decide +kernel
theorem dX5_warmAround_48 : decode cX5_warmAround 48 = .ok (.istore 6, 2) := by decide +kernel
theorem dX5_warmAround_50 : decode cX5_warmAround 50 = .ok (.iload 6, 2) := by decide +kernel
theorem dX5_warmAround_52 : decode cX5_warmAround 52 = .ok (.iconst (-1), 1) := by decide +kernel
theorem dX5_warmAround_53 : decode cX5_warmAround 53 = .ok (.if_icmp .eq 37, 3) := by decide +kernel
theorem dX5_warmAround_56 : decode cX5_warmAround 56 = .ok (.aload_n 0, 1) := by decide +kernel
theorem dX5_warmAround_57 : decode cX5_warmAround 57 = .ok (.iload 6, 2) := by decide +kernel
theorem dX5_warmAround_59 : decode cX5_warmAround 59 = .ok (.invokevirtual 113, 3) := by decide +kernel
theorem dX5_warmAround_62 : decode cX5_warmAround 62 = .ok (.ifCond .eq 28, 3) := by decide +kernel
theorem dX5_warmAround_65 : decode cX5_warmAround 65 = .ok (.aload_n 0, 1) := by decide +kernel
theorem dX5_warmAround_66 : decode cX5_warmAround 66 = .ok (.getfield 22, 3) := by decide +kernel
theorem dX5_warmAround_69 : decode cX5_warmAround 69 = .ok (.iload 6, 2) := by decide +kernel
theorem dX5_warmAround_71 : decode cX5_warmAround 71 = .ok (.dup2, 1) := by decide +kernel
theorem dX5_warmAround_72 : decode cX5_warmAround 72 = .ok (.iaload, 1) := by decide +kernel
theorem dX5_warmAround_73 : decode cX5_warmAround 73 = .ok (.iload 5, 2) := by decide +kernel
theorem dX5_warmAround_75 : decode cX5_warmAround 75 = .ok (.iload_n 2, 1) := by decide +kernel
theorem dX5_warmAround_76 : decode cX5_warmAround 76 = .ok (.if_icmp .ne 10, 3) := by decide +kernel
theorem dX5_warmAround_79 : decode cX5_warmAround 79 = .ok (.iload 4, 2) := by decide +kernel
theorem dX5_warmAround_81 : decode cX5_warmAround 81 = .ok (.iload_n 3, 1) := by decide +kernel
theorem dX5_warmAround_82 : decode cX5_warmAround 82 = .ok (.iadd, 1) := by decide +kernel
theorem dX5_warmAround_83 : decode cX5_warmAround 83 = .ok (.goto 5, 3) := by decide +kernel
theorem dX5_warmAround_86 : decode cX5_warmAround 86 = .ok (.iload 4, 2) := by decide +kernel
theorem dX5_warmAround_88 : decode cX5_warmAround 88 = .ok (.iadd, 1) := by decide +kernel
theorem dX5_warmAround_89 : decode cX5_warmAround 89 = .ok (.iastore, 1) := by decide +kernel
theorem dX5_warmAround_90 : decode cX5_warmAround 90 = .ok (.iinc 5 1, 3) := by decide +kernel
theorem dX5_warmAround_93 : decode cX5_warmAround 93 = .ok (.goto (-64), 3) := by decide +kernel
theorem dX5_warmAround_96 : decode cX5_warmAround 96 = .ok (.return_, 1) := by decide +kernel
theorem dX5_drive_0 : decode cX5_drive 0 = .ok (.iconst 0, 1) := by decide +kernel
theorem dX5_drive_1 : decode cX5_drive 1 = .ok (.istore_n 3, 1) := by decide +kernel
theorem dX5_drive_2 : decode cX5_drive 2 = .ok (.iload_n 3, 1) := by decide +kernel
theorem dX5_drive_3 : decode cX5_drive 3 = .ok (.aload_n 0, 1) := by decide +kernel
theorem dX5_drive_4 : decode cX5_drive 4 = .ok (.getfield 97, 3) := by decide +kernel
theorem dX5_drive_7 : decode cX5_drive 7 = .ok (.if_icmp .ge 124, 3) := by decide +kernel
theorem dX5_drive_10 : decode cX5_drive 10 = .ok (.aload_n 0, 1) := by decide +kernel
theorem dX5_drive_11 : decode cX5_drive 11 = .ok (.getfield 40, 3) := by decide +kernel
theorem dX5_drive_14 : decode cX5_drive 14 = .ok (.iload_n 3, 1) := by decide +kernel
theorem dX5_drive_15 : decode cX5_drive 15 = .ok (.iaload, 1) := by decide +kernel
theorem dX5_drive_16 : decode cX5_drive 16 = .ok (.iconst (-1), 1) := by decide +kernel
theorem dX5_drive_17 : decode cX5_drive 17 = .ok (.if_icmp .eq 18, 3) := by decide +kernel
theorem dX5_drive_20 : decode cX5_drive 20 = .ok (.aload_n 0, 1) := by decide +kernel
theorem dX5_drive_21 : decode cX5_drive 21 = .ok (.getfield 19, 3) := by decide +kernel
theorem dX5_drive_24 : decode cX5_drive 24 = .ok (.aload_n 0, 1) := by decide +kernel
theorem dX5_drive_25 : decode cX5_drive 25 = .ok (.getfield 40, 3) := by decide +kernel
theorem dX5_drive_28 : decode cX5_drive 28 = .ok (.iload_n 3, 1) := by decide +kernel
theorem dX5_drive_29 : decode cX5_drive 29 = .ok (.iaload, 1) := by decide +kernel
theorem dX5_drive_30 : decode cX5_drive 30 = .ok (.iaload, 1) := by decide +kernel
theorem dX5_drive_31 : decode cX5_drive 31 = .ok (.iconst 1, 1) := by decide +kernel
theorem dX5_drive_32 : decode cX5_drive 32 = .ok (.if_icmp .eq 31, 3) := by decide +kernel
theorem dX5_drive_35 : decode cX5_drive 35 = .ok (.aload_n 0, 1) := by decide +kernel
theorem dX5_drive_36 : decode cX5_drive 36 = .ok (.getfield 40, 3) := by decide +kernel
theorem dX5_drive_39 : decode cX5_drive 39 = .ok (.iload_n 3, 1) := by decide +kernel
theorem dX5_drive_40 : decode cX5_drive 40 = .ok (.aload_n 0, 1) := by decide +kernel
theorem dX5_drive_41 : decode cX5_drive 41 = .ok (.aload_n 0, 1) := by decide +kernel
theorem dX5_drive_42 : decode cX5_drive 42 = .ok (.getfield 37, 3) := by decide +kernel
theorem dX5_drive_45 : decode cX5_drive 45 = .ok (.iload_n 3, 1) := by decide +kernel
theorem dX5_drive_46 : decode cX5_drive 46 = .ok (.iaload, 1) := by decide +kernel
theorem dX5_drive_47 : decode cX5_drive 47 = .ok (.iconst 1, 1) := by decide +kernel
theorem dX5_drive_48 : decode cX5_drive 48 = .ok (.aload_n 0, 1) := by decide +kernel
theorem dX5_drive_49 : decode cX5_drive 49 = .ok (.getfield 50, 3) := by decide +kernel
theorem dX5_drive_52 : decode cX5_drive 52 = .ok (.getfield 142, 3) := by decide +kernel
theorem dX5_drive_55 : decode cX5_drive 55 = .ok (.iload_n 3, 1) := by decide +kernel
theorem dX5_drive_56 : decode cX5_drive 56 = .ok (.iaload, 1) := by decide +kernel
theorem dX5_drive_57 : decode cX5_drive 57 = .ok (.ishl, 1) := by decide +kernel
theorem dX5_drive_58 : decode cX5_drive 58 = .ok (.aload_n 2, 1) := by decide +kernel
theorem dX5_drive_59 : decode cX5_drive 59 = .ok (.invokevirtual 145, 3) := by decide +kernel
theorem dX5_drive_62 : decode cX5_drive 62 = .ok (.iastore, 1) := by decide +kernel
theorem dX5_drive_63 : decode cX5_drive 63 = .ok (.aload_n 0, 1) := by decide +kernel
theorem dX5_drive_64 : decode cX5_drive 64 = .ok (.getfield 40, 3) := by decide +kernel
theorem dX5_drive_67 : decode cX5_drive 67 = .ok (.iload_n 3, 1) := by decide +kernel
theorem dX5_drive_68 : decode cX5_drive 68 = .ok (.iaload, 1) := by decide +kernel
theorem dX5_drive_69 : decode cX5_drive 69 = .ok (.iconst (-1), 1) := by decide +kernel
theorem dX5_drive_70 : decode cX5_drive 70 = .ok (.if_icmp .eq 55, 3) := by decide +kernel
theorem dX5_drive_73 : decode cX5_drive 73 = .ok (.aload_n 0, 1) := by decide +kernel
theorem dX5_drive_74 : decode cX5_drive 74 = .ok (.getfield 37, 3) := by decide +kernel
theorem dX5_drive_77 : decode cX5_drive 77 = .ok (.iload_n 3, 1) := by decide +kernel
theorem dX5_drive_78 : decode cX5_drive 78 = .ok (.aload_n 0, 1) := by decide +kernel
theorem dX5_drive_79 : decode cX5_drive 79 = .ok (.aload_n 0, 1) := by decide +kernel
theorem dX5_drive_80 : decode cX5_drive 80 = .ok (.getfield 37, 3) := by decide +kernel
theorem dX5_drive_83 : decode cX5_drive 83 = .ok (.iload_n 3, 1) := by decide +kernel
theorem dX5_drive_84 : decode cX5_drive 84 = .ok (.iaload, 1) := by decide +kernel
theorem dX5_drive_85 : decode cX5_drive 85 = .ok (.aload_n 0, 1) := by decide +kernel
theorem dX5_drive_86 : decode cX5_drive 86 = .ok (.getfield 40, 3) := by decide +kernel
theorem dX5_drive_89 : decode cX5_drive 89 = .ok (.iload_n 3, 1) := by decide +kernel
theorem dX5_drive_90 : decode cX5_drive 90 = .ok (.iaload, 1) := by decide +kernel
theorem dX5_drive_91 : decode cX5_drive 91 = .ok (.aload_n 0, 1) := by decide +kernel
theorem dX5_drive_92 : decode cX5_drive 92 = .ok (.getfield 50, 3) := by decide +kernel
theorem dX5_drive_95 : decode cX5_drive 95 = .ok (.getfield 149, 3) := by decide +kernel
theorem dX5_drive_98 : decode cX5_drive 98 = .ok (.iload_n 3, 1) := by decide +kernel
theorem dX5_drive_99 : decode cX5_drive 99 = .ok (.iaload, 1) := by decide +kernel
theorem dX5_drive_100 : decode cX5_drive 100 = .ok (.invokevirtual 152, 3) := by decide +kernel
theorem dX5_drive_103 : decode cX5_drive 103 = .ok (.iastore, 1) := by decide +kernel
theorem dX5_drive_104 : decode cX5_drive 104 = .ok (.aload_n 0, 1) := by decide +kernel
theorem dX5_drive_105 : decode cX5_drive 105 = .ok (.getfield 37, 3) := by decide +kernel
theorem dX5_drive_108 : decode cX5_drive 108 = .ok (.iload_n 3, 1) := by decide +kernel
theorem dX5_drive_109 : decode cX5_drive 109 = .ok (.iaload, 1) := by decide +kernel
theorem dX5_drive_110 : decode cX5_drive 110 = .ok (.aload_n 0, 1) := by decide +kernel
theorem dX5_drive_111 : decode cX5_drive 111 = .ok (.getfield 40, 3) := by decide +kernel
theorem dX5_drive_114 : decode cX5_drive 114 = .ok (.iload_n 3, 1) := by decide +kernel
theorem dX5_drive_115 : decode cX5_drive 115 = .ok (.iaload, 1) := by decide +kernel
theorem dX5_drive_116 : decode cX5_drive 116 = .ok (.if_icmp .ne 9, 3) := by decide +kernel
theorem dX5_drive_119 : decode cX5_drive 119 = .ok (.aload_n 0, 1) := by decide +kernel
theorem dX5_drive_120 : decode cX5_drive 120 = .ok (.iload_n 3, 1) := by decide +kernel
theorem dX5_drive_121 : decode cX5_drive 121 = .ok (.iload_n 1, 1) := by decide +kernel
theorem dX5_drive_122 : decode cX5_drive 122 = .ok (.invokevirtual 156, 3) := by decide +kernel
theorem dX5_drive_125 : decode cX5_drive 125 = .ok (.iinc 3 1, 3) := by decide +kernel
theorem dX5_drive_128 : decode cX5_drive 128 = .ok (.goto (-126), 3) := by decide +kernel
theorem dX5_drive_131 : decode cX5_drive 131 = .ok (.return_, 1) := by decide +kernel
theorem dX5_nearest_0 : decode cX5_nearest 0 = .ok (.iconst (-1), 1) := by decide +kernel
theorem dX5_nearest_1 : decode cX5_nearest 1 = .ok (.istore 4, 2) := by decide +kernel
theorem dX5_nearest_3 : decode cX5_nearest 3 = .ok (.bipush 120, 2) := by decide +kernel
theorem dX5_nearest_5 : decode cX5_nearest 5 = .ok (.istore 5, 2) := by decide +kernel
theorem dX5_nearest_7 : decode cX5_nearest 7 = .ok (.iconst 0, 1) := by decide +kernel
theorem dX5_nearest_8 : decode cX5_nearest 8 = .ok (.istore 6, 2) := by decide +kernel
theorem dX5_nearest_10 : decode cX5_nearest 10 = .ok (.iload 6, 2) := by decide +kernel
theorem dX5_nearest_12 : decode cX5_nearest 12 = .ok (.aload_n 0, 1) := by decide +kernel
theorem dX5_nearest_13 : decode cX5_nearest 13 = .ok (.getfield 46, 3) := by decide +kernel
theorem dX5_nearest_16 : decode cX5_nearest 16 = .ok (.getfield 79, 3) := by decide +kernel
theorem dX5_nearest_19 : decode cX5_nearest 19 = .ok (.if_icmp .ge 60, 3) := by decide +kernel
theorem dX5_nearest_22 : decode cX5_nearest 22 = .ok (.aload_n 0, 1) := by decide +kernel
theorem dX5_nearest_23 : decode cX5_nearest 23 = .ok (.getfield 19, 3) := by decide +kernel
theorem dX5_nearest_26 : decode cX5_nearest 26 = .ok (.iload 6, 2) := by decide +kernel
theorem dX5_nearest_28 : decode cX5_nearest 28 = .ok (.iaload, 1) := by decide +kernel
theorem dX5_nearest_29 : decode cX5_nearest 29 = .ok (.iconst 1, 1) := by decide +kernel
theorem dX5_nearest_30 : decode cX5_nearest 30 = .ok (.if_icmp .ne 43, 3) := by decide +kernel
theorem dX5_nearest_33 : decode cX5_nearest 33 = .ok (.aload_n 3, 1) := by decide +kernel
theorem dX5_nearest_34 : decode cX5_nearest 34 = .ok (.iload 6, 2) := by decide +kernel
theorem dX5_nearest_36 : decode cX5_nearest 36 = .ok (.iaload, 1) := by decide +kernel
theorem dX5_nearest_37 : decode cX5_nearest 37 = .ok (.iload_n 2, 1) := by decide +kernel
theorem dX5_nearest_38 : decode cX5_nearest 38 = .ok (.iand, 1) := by decide +kernel
theorem dX5_nearest_39 : decode cX5_nearest 39 = .ok (.ifCond .eq 34, 3) := by decide +kernel
theorem dX5_nearest_42 : decode cX5_nearest 42 = .ok (.aload_n 0, 1) := by decide +kernel
theorem dX5_nearest_43 : decode cX5_nearest 43 = .ok (.getfield 46, 3) := by decide +kernel
theorem dX5_nearest_46 : decode cX5_nearest 46 = .ok (.iload_n 1, 1) := by decide +kernel
theorem dX5_nearest_47 : decode cX5_nearest 47 = .ok (.iload 6, 2) := by decide +kernel
theorem dX5_nearest_49 : decode cX5_nearest 49 = .ok (.invokevirtual 159, 3) := by decide +kernel
theorem dX5_nearest_52 : decode cX5_nearest 52 = .ok (.iload 5, 2) := by decide +kernel
theorem dX5_nearest_54 : decode cX5_nearest 54 = .ok (.if_icmp .ge 19, 3) := by decide +kernel
theorem dX5_nearest_57 : decode cX5_nearest 57 = .ok (.iload 6, 2) := by decide +kernel
theorem dX5_nearest_59 : decode cX5_nearest 59 = .ok (.istore 4, 2) := by decide +kernel
theorem dX5_nearest_61 : decode cX5_nearest 61 = .ok (.aload_n 0, 1) := by decide +kernel
theorem dX5_nearest_62 : decode cX5_nearest 62 = .ok (.getfield 46, 3) := by decide +kernel
theorem dX5_nearest_65 : decode cX5_nearest 65 = .ok (.iload_n 1, 1) := by decide +kernel
theorem dX5_nearest_66 : decode cX5_nearest 66 = .ok (.iload 6, 2) := by decide +kernel
theorem dX5_nearest_68 : decode cX5_nearest 68 = .ok (.invokevirtual 159, 3) := by decide +kernel
theorem dX5_nearest_71 : decode cX5_nearest 71 = .ok (.istore 5, 2) := by decide +kernel
theorem dX5_nearest_73 : decode cX5_nearest 73 = .ok (.iinc 6 1, 3) := by decide +kernel
theorem dX5_nearest_76 : decode cX5_nearest 76 = .ok (.goto (-66), 3) := by decide +kernel
theorem dX5_nearest_79 : decode cX5_nearest 79 = .ok (.iload 4, 2) := by decide +kernel
theorem dX5_nearest_81 : decode cX5_nearest 81 = .ok (.ireturn, 1) := by decide +kernel
theorem dX5_gone_0 : decode cX5_gone 0 = .ok (.aload_n 0, 1) := by decide +kernel
theorem dX5_gone_1 : decode cX5_gone 1 = .ok (.getfield 46, 3) := by decide +kernel
theorem dX5_gone_4 : decode cX5_gone 4 = .ok (.getfield 162, 3) := by decide +kernel
theorem dX5_gone_7 : decode cX5_gone 7 = .ok (.iload_n 2, 1) := by decide +kernel
theorem dX5_gone_8 : decode cX5_gone 8 = .ok (.iaload, 1) := by decide +kernel
theorem dX5_gone_9 : decode cX5_gone 9 = .ok (.aload_n 0, 1) := by decide +kernel
theorem dX5_gone_10 : decode cX5_gone 10 = .ok (.getfield 46, 3) := by decide +kernel
theorem dX5_gone_13 : decode cX5_gone 13 = .ok (.getfield 162, 3) := by decide +kernel
theorem dX5_gone_16 : decode cX5_gone 16 = .ok (.iload_n 1, 1) := by decide +kernel
theorem dX5_gone_17 : decode cX5_gone 17 = .ok (.iaload, 1) := by decide +kernel
theorem dX5_gone_18 : decode cX5_gone 18 = .ok (.isub, 1) := by decide +kernel
theorem dX5_gone_19 : decode cX5_gone 19 = .ok (.iload_n 3, 1) := by decide +kernel
theorem dX5_gone_20 : decode cX5_gone 20 = .ok (.invokestatic 165, 3) := by decide +kernel
theorem dX5_gone_23 : decode cX5_gone 23 = .ok (.istore 4, 2) := by decide +kernel
theorem dX5_gone_25 : decode cX5_gone 25 = .ok (.iload_n 3, 1) := by decide +kernel
theorem dX5_gone_26 : decode cX5_gone 26 = .ok (.iload 4, 2) := by decide +kernel
theorem dX5_gone_28 : decode cX5_gone 28 = .ok (.invokestatic 168, 3) := by decide +kernel
theorem dX5_gone_31 : decode cX5_gone 31 = .ok (.isub, 1) := by decide +kernel
theorem dX5_gone_32 : decode cX5_gone 32 = .ok (.istore 5, 2) := by decide +kernel
theorem dX5_gone_34 : decode cX5_gone 34 = .ok (.aload_n 0, 1) := by decide +kernel
theorem dX5_gone_35 : decode cX5_gone 35 = .ok (.getfield 46, 3) := by decide +kernel
theorem dX5_gone_38 : decode cX5_gone 38 = .ok (.getfield 171, 3) := by decide +kernel
theorem dX5_gone_41 : decode cX5_gone 41 = .ok (.iload_n 2, 1) := by decide +kernel
theorem dX5_gone_42 : decode cX5_gone 42 = .ok (.iaload, 1) := by decide +kernel
theorem dX5_gone_43 : decode cX5_gone 43 = .ok (.aload_n 0, 1) := by decide +kernel
theorem dX5_gone_44 : decode cX5_gone 44 = .ok (.getfield 46, 3) := by decide +kernel
theorem dX5_gone_47 : decode cX5_gone 47 = .ok (.getfield 171, 3) := by decide +kernel
theorem dX5_gone_50 : decode cX5_gone 50 = .ok (.iload_n 1, 1) := by decide +kernel
theorem dX5_gone_51 : decode cX5_gone 51 = .ok (.iaload, 1) := by decide +kernel
theorem dX5_gone_52 : decode cX5_gone 52 = .ok (.isub, 1) := by decide +kernel
theorem dX5_gone_53 : decode cX5_gone 53 = .ok (.iload 5, 2) := by decide +kernel
theorem dX5_gone_55 : decode cX5_gone 55 = .ok (.invokestatic 165, 3) := by decide +kernel
theorem dX5_gone_58 : decode cX5_gone 58 = .ok (.istore 6, 2) := by decide +kernel
theorem dX5_gone_60 : decode cX5_gone 60 = .ok (.iload_n 1, 1) := by decide +kernel
theorem dX5_gone_61 : decode cX5_gone 61 = .ok (.iload 4, 2) := by decide +kernel
theorem dX5_gone_63 : decode cX5_gone 63 = .ok (.iadd, 1) := by decide +kernel
theorem dX5_gone_64 : decode cX5_gone 64 = .ok (.iload 6, 2) := by decide +kernel
theorem dX5_gone_66 : decode cX5_gone 66 = .ok (.aload_n 0, 1) := by decide +kernel
theorem dX5_gone_67 : decode cX5_gone 67 = .ok (.getfield 46, 3) := by decide +kernel
theorem dX5_gone_70 : decode cX5_gone 70 = .ok (.getfield 174, 3) := by decide +kernel
theorem dX5_gone_73 : decode cX5_gone 73 = .ok (.imul, 1) := by decide +kernel
theorem dX5_gone_74 : decode cX5_gone 74 = .ok (.iadd, 1) := by decide +kernel
theorem dX5_gone_75 : decode cX5_gone 75 = .ok (.ireturn, 1) := by decide +kernel
theorem dX5_toward_0 : decode cX5_toward 0 = .ok (.iload_n 1, 1) := by decide +kernel
theorem dX5_toward_1 : decode cX5_toward 1 = .ok (.ineg, 1) := by decide +kernel
theorem dX5_toward_2 : decode cX5_toward 2 = .ok (.iload_n 1, 1) := by decide +kernel
theorem dX5_toward_3 : decode cX5_toward 3 = .ok (.iload_n 0, 1) := by decide +kernel
theorem dX5_toward_4 : decode cX5_toward 4 = .ok (.invokestatic 103, 3) := by decide +kernel
theorem dX5_toward_7 : decode cX5_toward 7 = .ok (.invokestatic 116, 3) := by decide +kernel
theorem dX5_toward_10 : decode cX5_toward 10 = .ok (.ireturn, 1) := by decide +kernel
theorem dX5_pour_0 : decode cX5_pour 0 = .ok (.aload_n 0, 1) := by decide +kernel
theorem dX5_pour_1 : decode cX5_pour 1 = .ok (.getfield 40, 3) := by decide +kernel
theorem dX5_pour_4 : decode cX5_pour 4 = .ok (.iload_n 1, 1) := by decide +kernel
theorem dX5_pour_5 : decode cX5_pour 5 = .ok (.iaload, 1) := by decide +kernel
theorem dX5_pour_6 : decode cX5_pour 6 = .ok (.istore_n 3, 1) := by decide +kernel
theorem dX5_pour_7 : decode cX5_pour 7 = .ok (.aload_n 0, 1) := by decide +kernel
theorem dX5_pour_8 : decode cX5_pour 8 = .ok (.getfield 50, 3) := by decide +kernel
theorem dX5_pour_11 : decode cX5_pour 11 = .ok (.getfield 177, 3) := by decide +kernel
theorem dX5_pour_14 : decode cX5_pour 14 = .ok (.iload_n 1, 1) := by decide +kernel
theorem dX5_pour_15 : decode cX5_pour 15 = .ok (.iaload, 1) := by decide +kernel
theorem dX5_pour_16 : decode cX5_pour 16 = .ok (.istore 4, 2) := by decide +kernel
theorem dX5_pour_18 : decode cX5_pour 18 = .ok (.aload_n 0, 1) := by decide +kernel
theorem dX5_pour_19 : decode cX5_pour 19 = .ok (.getfield 25, 3) := by decide +kernel
theorem dX5_pour_22 : decode cX5_pour 22 = .ok (.iload_n 3, 1) := by decide +kernel
theorem dX5_pour_23 : decode cX5_pour 23 = .ok (.dup2, 1) := by decide +kernel
theorem dX5_pour_24 : decode cX5_pour 24 = .ok (.iaload, 1) := by decide +kernel
theorem dX5_pour_25 : decode cX5_pour 25 = .ok (.aload_n 0, 1) := by decide +kernel
theorem dX5_pour_26 : decode cX5_pour 26 = .ok (.getfield 34, 3) := by decide +kernel
theorem dX5_pour_29 : decode cX5_pour 29 = .ok (.iload_n 3, 1) := by decide +kernel
theorem dX5_pour_30 : decode cX5_pour 30 = .ok (.baload, 1) := by decide +kernel
theorem dX5_pour_31 : decode cX5_pour 31 = .ok (.ifCond .eq 8, 3) := by decide +kernel
theorem dX5_pour_34 : decode cX5_pour 34 = .ok (.iload 4, 2) := by decide +kernel
theorem dX5_pour_36 : decode cX5_pour 36 = .ok (.goto 7, 3) := by decide +kernel
theorem dX5_pour_39 : decode cX5_pour 39 = .ok (.iload 4, 2) := by decide +kernel
theorem dX5_pour_41 : decode cX5_pour 41 = .ok (.iconst 2, 1) := by decide +kernel
theorem dX5_pour_42 : decode cX5_pour 42 = .ok (.idiv, 1) := by decide +kernel
theorem dX5_pour_43 : decode cX5_pour 43 = .ok (.isub, 1) := by decide +kernel
theorem dX5_pour_44 : decode cX5_pour 44 = .ok (.iastore, 1) := by decide +kernel
theorem dX5_pour_45 : decode cX5_pour 45 = .ok (.aload_n 0, 1) := by decide +kernel
theorem dX5_pour_46 : decode cX5_pour 46 = .ok (.getfield 43, 3) := by decide +kernel
theorem dX5_pour_49 : decode cX5_pour 49 = .ok (.iload_n 1, 1) := by decide +kernel
theorem dX5_pour_50 : decode cX5_pour 50 = .ok (.iaload, 1) := by decide +kernel
theorem dX5_pour_51 : decode cX5_pour 51 = .ok (.iconst (-1), 1) := by decide +kernel
theorem dX5_pour_52 : decode cX5_pour 52 = .ok (.if_icmp .ne 10, 3) := by decide +kernel
theorem dX5_pour_55 : decode cX5_pour 55 = .ok (.aload_n 0, 1) := by decide +kernel
theorem dX5_pour_56 : decode cX5_pour 56 = .ok (.getfield 43, 3) := by decide +kernel
theorem dX5_pour_59 : decode cX5_pour 59 = .ok (.iload_n 1, 1) := by decide +kernel
theorem dX5_pour_60 : decode cX5_pour 60 = .ok (.iload_n 2, 1) := by decide +kernel
theorem dX5_pour_61 : decode cX5_pour 61 = .ok (.iastore, 1) := by decide +kernel
theorem dX5_pour_62 : decode cX5_pour 62 = .ok (.aload_n 0, 1) := by decide +kernel
theorem dX5_pour_63 : decode cX5_pour 63 = .ok (.getfield 25, 3) := by decide +kernel
theorem dX5_pour_66 : decode cX5_pour 66 = .ok (.iload_n 3, 1) := by decide +kernel
theorem dX5_pour_67 : decode cX5_pour 67 = .ok (.iaload, 1) := by decide +kernel
theorem dX5_pour_68 : decode cX5_pour 68 = .ok (.ifCond .gt 24, 3) := by decide +kernel
theorem dX5_pour_71 : decode cX5_pour 71 = .ok (.aload_n 0, 1) := by decide +kernel
theorem dX5_pour_72 : decode cX5_pour 72 = .ok (.getfield 19, 3) := by decide +kernel
theorem dX5_pour_75 : decode cX5_pour 75 = .ok (.iload_n 3, 1) := by decide +kernel
theorem dX5_pour_76 : decode cX5_pour 76 = .ok (.iconst 0, 1) := by decide +kernel
theorem dX5_pour_77 : decode cX5_pour 77 = .ok (.iastore, 1) := by decide +kernel
theorem dX5_pour_78 : decode cX5_pour 78 = .ok (.aload_n 0, 1) := by decide +kernel
theorem dX5_pour_79 : decode cX5_pour 79 = .ok (.getfield 22, 3) := by decide +kernel
theorem dX5_pour_82 : decode cX5_pour 82 = .ok (.iload_n 3, 1) := by decide +kernel
theorem dX5_pour_83 : decode cX5_pour 83 = .ok (.iconst 0, 1) := by decide +kernel
theorem dX5_pour_84 : decode cX5_pour 84 = .ok (.iastore, 1) := by decide +kernel
theorem dX5_pour_85 : decode cX5_pour 85 = .ok (.aload_n 0, 1) := by decide +kernel
theorem dX5_pour_86 : decode cX5_pour 86 = .ok (.getfield 25, 3) := by decide +kernel
theorem dX5_pour_89 : decode cX5_pour 89 = .ok (.iload_n 3, 1) := by decide +kernel
theorem dX5_pour_90 : decode cX5_pour 90 = .ok (.iconst 0, 1) := by decide +kernel
theorem dX5_pour_91 : decode cX5_pour 91 = .ok (.iastore, 1) := by decide +kernel
theorem dX5_pour_92 : decode cX5_pour 92 = .ok (.return_, 1) := by decide +kernel
theorem dX5_tally_0 : decode cX5_tally 0 = .ok (.aload_n 0, 1) := by decide +kernel
theorem dX5_tally_1 : decode cX5_tally 1 = .ok (.iconst 0, 1) := by decide +kernel
theorem dX5_tally_2 : decode cX5_tally 2 = .ok (.putfield 180, 3) := by decide +kernel
theorem dX5_tally_5 : decode cX5_tally 5 = .ok (.iconst 0, 1) := by decide +kernel
theorem dX5_tally_6 : decode cX5_tally 6 = .ok (.istore_n 1, 1) := by decide +kernel
theorem dX5_tally_7 : decode cX5_tally 7 = .ok (.iload_n 1, 1) := by decide +kernel
theorem dX5_tally_8 : decode cX5_tally 8 = .ok (.aload_n 0, 1) := by decide +kernel
theorem dX5_tally_9 : decode cX5_tally 9 = .ok (.getfield 46, 3) := by decide +kernel
theorem dX5_tally_12 : decode cX5_tally 12 = .ok (.getfield 79, 3) := by decide +kernel
theorem dX5_tally_15 : decode cX5_tally 15 = .ok (.if_icmp .ge 74, 3) := by decide +kernel
theorem dX5_tally_18 : decode cX5_tally 18 = .ok (.aload_n 0, 1) := by decide +kernel
theorem dX5_tally_19 : decode cX5_tally 19 = .ok (.getfield 46, 3) := by decide +kernel
theorem dX5_tally_22 : decode cX5_tally 22 = .ok (.iload_n 1, 1) := by decide +kernel
theorem dX5_tally_23 : decode cX5_tally 23 = .ok (.invokevirtual 109, 3) := by decide +kernel
theorem dX5_tally_26 : decode cX5_tally 26 = .ok (.istore_n 2, 1) := by decide +kernel
theorem dX5_tally_27 : decode cX5_tally 27 = .ok (.aload_n 0, 1) := by decide +kernel
theorem dX5_tally_28 : decode cX5_tally 28 = .ok (.getfield 15, 3) := by decide +kernel
theorem dX5_tally_31 : decode cX5_tally 31 = .ok (.iload_n 1, 1) := by decide +kernel
theorem dX5_tally_32 : decode cX5_tally 32 = .ok (.aload_n 0, 1) := by decide +kernel
theorem dX5_tally_33 : decode cX5_tally 33 = .ok (.getfield 9, 3) := by decide +kernel
theorem dX5_tally_36 : decode cX5_tally 36 = .ok (.iload_n 1, 1) := by decide +kernel
theorem dX5_tally_37 : decode cX5_tally 37 = .ok (.baload, 1) := by decide +kernel
theorem dX5_tally_38 : decode cX5_tally 38 = .ok (.ifCond .eq 28, 3) := by decide +kernel
theorem dX5_tally_41 : decode cX5_tally 41 = .ok (.iload_n 2, 1) := by decide +kernel
theorem dX5_tally_42 : decode cX5_tally 42 = .ok (.ifCond .le 24, 3) := by decide +kernel
theorem dX5_tally_45 : decode cX5_tally 45 = .ok (.aload_n 0, 1) := by decide +kernel
theorem dX5_tally_46 : decode cX5_tally 46 = .ok (.getfield 46, 3) := by decide +kernel
theorem dX5_tally_49 : decode cX5_tally 49 = .ok (.getfield 183, 3) := by decide +kernel
theorem dX5_tally_52 : decode cX5_tally 52 = .ok (.iload_n 1, 1) := by decide +kernel
theorem dX5_tally_53 : decode cX5_tally 53 = .ok (.iaload, 1) := by decide +kernel
theorem dX5_tally_54 : decode cX5_tally 54 = .ok (.aload_n 0, 1) := by decide +kernel
theorem dX5_tally_55 : decode cX5_tally 55 = .ok (.getfield 28, 3) := by decide +kernel
theorem dX5_tally_58 : decode cX5_tally 58 = .ok (.iload_n 1, 1) := by decide +kernel
theorem dX5_tally_59 : decode cX5_tally 59 = .ok (.iaload, 1) := by decide +kernel
theorem dX5_tally_60 : decode cX5_tally 60 = .ok (.imul, 1) := by decide +kernel
theorem dX5_tally_61 : decode cX5_tally 61 = .ok (.iload_n 2, 1) := by decide +kernel
theorem dX5_tally_62 : decode cX5_tally 62 = .ok (.idiv, 1) := by decide +kernel
theorem dX5_tally_63 : decode cX5_tally 63 = .ok (.goto 4, 3) := by decide +kernel
theorem dX5_tally_66 : decode cX5_tally 66 = .ok (.iconst 0, 1) := by decide +kernel
theorem dX5_tally_67 : decode cX5_tally 67 = .ok (.iastore, 1) := by decide +kernel
theorem dX5_tally_68 : decode cX5_tally 68 = .ok (.aload_n 0, 1) := by decide +kernel
theorem dX5_tally_69 : decode cX5_tally 69 = .ok (.dup, 1) := by decide +kernel
theorem dX5_tally_70 : decode cX5_tally 70 = .ok (.getfield 180, 3) := by decide +kernel
theorem dX5_tally_73 : decode cX5_tally 73 = .ok (.aload_n 0, 1) := by decide +kernel
theorem dX5_tally_74 : decode cX5_tally 74 = .ok (.getfield 15, 3) := by decide +kernel
theorem dX5_tally_77 : decode cX5_tally 77 = .ok (.iload_n 1, 1) := by decide +kernel
theorem dX5_tally_78 : decode cX5_tally 78 = .ok (.iaload, 1) := by decide +kernel
theorem dX5_tally_79 : decode cX5_tally 79 = .ok (.iadd, 1) := by decide +kernel
theorem dX5_tally_80 : decode cX5_tally 80 = .ok (.putfield 180, 3) := by decide +kernel
theorem dX5_tally_83 : decode cX5_tally 83 = .ok (.iinc 1 1, 3) := by decide +kernel
theorem dX5_tally_86 : decode cX5_tally 86 = .ok (.goto (-79), 3) := by decide +kernel
theorem dX5_tally_89 : decode cX5_tally 89 = .ok (.return_, 1) := by decide +kernel
theorem dX5_touched_0 : decode cX5_touched 0 = .ok (.iconst 0, 1) := by decide +kernel
theorem dX5_touched_1 : decode cX5_touched 1 = .ok (.istore_n 1, 1) := by decide +kernel
theorem dX5_touched_2 : decode cX5_touched 2 = .ok (.iconst 0, 1) := by decide +kernel
theorem dX5_touched_3 : decode cX5_touched 3 = .ok (.istore_n 2, 1) := by decide +kernel
theorem dX5_touched_4 : decode cX5_touched 4 = .ok (.iload_n 2, 1) := by decide +kernel
theorem dX5_touched_5 : decode cX5_touched 5 = .ok (.aload_n 0, 1) := by decide +kernel
theorem dX5_touched_6 : decode cX5_touched 6 = .ok (.getfield 46, 3) := by decide +kernel
theorem dX5_touched_9 : decode cX5_touched 9 = .ok (.getfield 79, 3) := by decide +kernel
theorem dX5_touched_12 : decode cX5_touched 12 = .ok (.if_icmp .ge 21, 3) := by decide +kernel
theorem dX5_touched_15 : decode cX5_touched 15 = .ok (.aload_n 0, 1) := by decide +kernel
theorem dX5_touched_16 : decode cX5_touched 16 = .ok (.getfield 19, 3) := by decide +kernel
theorem dX5_touched_19 : decode cX5_touched 19 = .ok (.iload_n 2, 1) := by decide +kernel
theorem dX5_touched_20 : decode cX5_touched 20 = .ok (.iaload, 1) := by decide +kernel
theorem dX5_touched_21 : decode cX5_touched 21 = .ok (.ifCond .eq 6, 3) := by decide +kernel
theorem dX5_touched_24 : decode cX5_touched 24 = .ok (.iinc 1 1, 3) := by decide +kernel
theorem dX5_touched_27 : decode cX5_touched 27 = .ok (.iinc 2 1, 3) := by decide +kernel
theorem dX5_touched_30 : decode cX5_touched 30 = .ok (.goto (-26), 3) := by decide +kernel
theorem dX5_touched_33 : decode cX5_touched 33 = .ok (.iload_n 1, 1) := by decide +kernel
theorem dX5_touched_34 : decode cX5_touched 34 = .ok (.ireturn, 1) := by decide +kernel
theorem dX5_tellHouse_0 : decode cX5_tellHouse 0 = .ok (.iload_n 2, 1) := by decide +kernel
theorem dX5_tellHouse_1 : decode cX5_tellHouse 1 = .ok (.tableswitch 81 0 5 #[39, 46, 53, 60, 67, 74], 39) := by decide +kernel
theorem dX5_tellHouse_40 : decode cX5_tellHouse 40 = .ok (.aload_n 0, 1) := by decide +kernel
theorem dX5_tellHouse_41 : decode cX5_tellHouse 41 = .ok (.getfield 19, 3) := by decide +kernel
theorem dX5_tellHouse_44 : decode cX5_tellHouse 44 = .ok (.iload_n 1, 1) := by decide +kernel
theorem dX5_tellHouse_45 : decode cX5_tellHouse 45 = .ok (.iaload, 1) := by decide +kernel
theorem dX5_tellHouse_46 : decode cX5_tellHouse 46 = .ok (.ireturn, 1) := by decide +kernel
theorem dX5_tellHouse_47 : decode cX5_tellHouse 47 = .ok (.aload_n 0, 1) := by decide +kernel
theorem dX5_tellHouse_48 : decode cX5_tellHouse 48 = .ok (.getfield 22, 3) := by decide +kernel
theorem dX5_tellHouse_51 : decode cX5_tellHouse 51 = .ok (.iload_n 1, 1) := by decide +kernel
theorem dX5_tellHouse_52 : decode cX5_tellHouse 52 = .ok (.iaload, 1) := by decide +kernel
theorem dX5_tellHouse_53 : decode cX5_tellHouse 53 = .ok (.ireturn, 1) := by decide +kernel
theorem dX5_tellHouse_54 : decode cX5_tellHouse 54 = .ok (.aload_n 0, 1) := by decide +kernel
theorem dX5_tellHouse_55 : decode cX5_tellHouse 55 = .ok (.getfield 25, 3) := by decide +kernel
theorem dX5_tellHouse_58 : decode cX5_tellHouse 58 = .ok (.iload_n 1, 1) := by decide +kernel
theorem dX5_tellHouse_59 : decode cX5_tellHouse 59 = .ok (.iaload, 1) := by decide +kernel
theorem dX5_tellHouse_60 : decode cX5_tellHouse 60 = .ok (.ireturn, 1) := by decide +kernel
theorem dX5_tellHouse_61 : decode cX5_tellHouse 61 = .ok (.aload_n 0, 1) := by decide +kernel
theorem dX5_tellHouse_62 : decode cX5_tellHouse 62 = .ok (.getfield 28, 3) := by decide +kernel
theorem dX5_tellHouse_65 : decode cX5_tellHouse 65 = .ok (.iload_n 1, 1) := by decide +kernel
theorem dX5_tellHouse_66 : decode cX5_tellHouse 66 = .ok (.iaload, 1) := by decide +kernel
theorem dX5_tellHouse_67 : decode cX5_tellHouse 67 = .ok (.ireturn, 1) := by decide +kernel
theorem dX5_tellHouse_68 : decode cX5_tellHouse 68 = .ok (.aload_n 0, 1) := by decide +kernel
theorem dX5_tellHouse_69 : decode cX5_tellHouse 69 = .ok (.getfield 15, 3) := by decide +kernel
theorem dX5_tellHouse_72 : decode cX5_tellHouse 72 = .ok (.iload_n 1, 1) := by decide +kernel
theorem dX5_tellHouse_73 : decode cX5_tellHouse 73 = .ok (.iaload, 1) := by decide +kernel
theorem dX5_tellHouse_74 : decode cX5_tellHouse 74 = .ok (.ireturn, 1) := by decide +kernel
theorem dX5_tellHouse_75 : decode cX5_tellHouse 75 = .ok (.aload_n 0, 1) := by decide +kernel
theorem dX5_tellHouse_76 : decode cX5_tellHouse 76 = .ok (.getfield 31, 3) := by decide +kernel
theorem dX5_tellHouse_79 : decode cX5_tellHouse 79 = .ok (.iload_n 1, 1) := by decide +kernel
theorem dX5_tellHouse_80 : decode cX5_tellHouse 80 = .ok (.iaload, 1) := by decide +kernel
theorem dX5_tellHouse_81 : decode cX5_tellHouse 81 = .ok (.ireturn, 1) := by decide +kernel
theorem dX5_tellHouse_82 : decode cX5_tellHouse 82 = .ok (.iconst (-1), 1) := by decide +kernel
theorem dX5_tellHouse_83 : decode cX5_tellHouse 83 = .ok (.ireturn, 1) := by decide +kernel
theorem dX5_tellEngine_0 : decode cX5_tellEngine 0 = .ok (.iload_n 2, 1) := by decide +kernel
theorem dX5_tellEngine_1 : decode cX5_tellEngine 1 = .ok (.tableswitch 48 0 2 #[27, 34, 41], 27) := by decide +kernel
theorem dX5_tellEngine_28 : decode cX5_tellEngine 28 = .ok (.aload_n 0, 1) := by decide +kernel
theorem dX5_tellEngine_29 : decode cX5_tellEngine 29 = .ok (.getfield 37, 3) := by decide +kernel
theorem dX5_tellEngine_32 : decode cX5_tellEngine 32 = .ok (.iload_n 1, 1) := by decide +kernel
theorem dX5_tellEngine_33 : decode cX5_tellEngine 33 = .ok (.iaload, 1) := by decide +kernel
theorem dX5_tellEngine_34 : decode cX5_tellEngine 34 = .ok (.ireturn, 1) := by decide +kernel
theorem dX5_tellEngine_35 : decode cX5_tellEngine 35 = .ok (.aload_n 0, 1) := by decide +kernel
theorem dX5_tellEngine_36 : decode cX5_tellEngine 36 = .ok (.getfield 40, 3) := by decide +kernel
theorem dX5_tellEngine_39 : decode cX5_tellEngine 39 = .ok (.iload_n 1, 1) := by decide +kernel
theorem dX5_tellEngine_40 : decode cX5_tellEngine 40 = .ok (.iaload, 1) := by decide +kernel
theorem dX5_tellEngine_41 : decode cX5_tellEngine 41 = .ok (.ireturn, 1) := by decide +kernel
theorem dX5_tellEngine_42 : decode cX5_tellEngine 42 = .ok (.aload_n 0, 1) := by decide +kernel
theorem dX5_tellEngine_43 : decode cX5_tellEngine 43 = .ok (.getfield 43, 3) := by decide +kernel
theorem dX5_tellEngine_46 : decode cX5_tellEngine 46 = .ok (.iload_n 1, 1) := by decide +kernel
theorem dX5_tellEngine_47 : decode cX5_tellEngine 47 = .ok (.iaload, 1) := by decide +kernel
theorem dX5_tellEngine_48 : decode cX5_tellEngine 48 = .ok (.ireturn, 1) := by decide +kernel
theorem dX5_tellEngine_49 : decode cX5_tellEngine 49 = .ok (.iconst (-1), 1) := by decide +kernel
theorem dX5_tellEngine_50 : decode cX5_tellEngine 50 = .ok (.ireturn, 1) := by decide +kernel
theorem dX6_init_0 : decode cX6_init 0 = .ok (.aload_n 0, 1) := by decide +kernel
theorem dX6_init_1 : decode cX6_init 1 = .ok (.invokespecial 3, 3) := by decide +kernel
theorem dX6_init_4 : decode cX6_init 4 = .ok (.aload_n 0, 1) := by decide +kernel
theorem dX6_init_5 : decode cX6_init 5 = .ok (.bipush 7, 2) := by decide +kernel
theorem dX6_init_7 : decode cX6_init 7 = .ok (.newarray .int, 2) := by decide +kernel
theorem dX6_init_9 : decode cX6_init 9 = .ok (.putfield 9, 3) := by decide +kernel
theorem dX6_init_12 : decode cX6_init 12 = .ok (.aload_n 0, 1) := by decide +kernel
theorem dX6_init_13 : decode cX6_init 13 = .ok (.bipush 64, 2) := by decide +kernel
theorem dX6_init_15 : decode cX6_init 15 = .ok (.newarray .int, 2) := by decide +kernel
theorem dX6_init_17 : decode cX6_init 17 = .ok (.putfield 15, 3) := by decide +kernel
theorem dX6_init_20 : decode cX6_init 20 = .ok (.aload_n 0, 1) := by decide +kernel
theorem dX6_init_21 : decode cX6_init 21 = .ok (.aload_n 1, 1) := by decide +kernel
theorem dX6_init_22 : decode cX6_init 22 = .ok (.putfield 18, 3) := by decide +kernel
theorem dX6_init_25 : decode cX6_init 25 = .ok (.aload_n 0, 1) := by decide +kernel
theorem dX6_init_26 : decode cX6_init 26 = .ok (.aload_n 2, 1) := by decide +kernel
theorem dX6_init_27 : decode cX6_init 27 = .ok (.putfield 22, 3) := by decide +kernel
theorem dX6_init_30 : decode cX6_init 30 = .ok (.return_, 1) := by decide +kernel
theorem dX6_goTo_0 : decode cX6_goTo 0 = .ok (.aload_n 0, 1) := by decide +kernel
theorem dX6_goTo_1 : decode cX6_goTo 1 = .ok (.getfield 9, 3) := by decide +kernel
theorem dX6_goTo_4 : decode cX6_goTo 4 = .ok (.iconst 0, 1) := by decide +kernel
theorem dX6_goTo_5 : decode cX6_goTo 5 = .ok (.aload_n 0, 1) := by decide +kernel
theorem dX6_goTo_6 : decode cX6_goTo 6 = .ok (.getfield 18, 3) := by decide +kernel
theorem dX6_goTo_9 : decode cX6_goTo 9 = .ok (.getfield 26, 3) := by decide +kernel
theorem dX6_goTo_12 : decode cX6_goTo 12 = .ok (.iload_n 1, 1) := by decide +kernel
theorem dX6_goTo_13 : decode cX6_goTo 13 = .ok (.iaload, 1) := by decide +kernel
theorem dX6_goTo_14 : decode cX6_goTo 14 = .ok (.iastore, 1) := by decide +kernel
theorem dX6_goTo_15 : decode cX6_goTo 15 = .ok (.aload_n 0, 1) := by decide +kernel
theorem dX6_goTo_16 : decode cX6_goTo 16 = .ok (.getfield 9, 3) := by decide +kernel
theorem dX6_goTo_19 : decode cX6_goTo 19 = .ok (.iconst 1, 1) := by decide +kernel
theorem dX6_goTo_20 : decode cX6_goTo 20 = .ok (.aload_n 0, 1) := by decide +kernel
theorem dX6_goTo_21 : decode cX6_goTo 21 = .ok (.getfield 18, 3) := by decide +kernel
theorem dX6_goTo_24 : decode cX6_goTo 24 = .ok (.getfield 31, 3) := by decide +kernel
theorem dX6_goTo_27 : decode cX6_goTo 27 = .ok (.iload_n 1, 1) := by decide +kernel
theorem dX6_goTo_28 : decode cX6_goTo 28 = .ok (.iaload, 1) := by decide +kernel
theorem dX6_goTo_29 : decode cX6_goTo 29 = .ok (.iastore, 1) := by decide +kernel
theorem dX6_goTo_30 : decode cX6_goTo 30 = .ok (.aload_n 0, 1) := by decide +kernel
theorem dX6_goTo_31 : decode cX6_goTo 31 = .ok (.getfield 9, 3) := by decide +kernel
theorem dX6_goTo_34 : decode cX6_goTo 34 = .ok (.iconst 2, 1) := by decide +kernel
theorem dX6_goTo_35 : decode cX6_goTo 35 = .ok (.aload_n 0, 1) := by decide +kernel
theorem dX6_goTo_36 : decode cX6_goTo 36 = .ok (.getfield 18, 3) := by decide +kernel
theorem dX6_goTo_39 : decode cX6_goTo 39 = .ok (.getfield 34, 3) := by decide +kernel
theorem dX6_goTo_42 : decode cX6_goTo 42 = .ok (.iload_n 1, 1) := by decide +kernel
theorem dX6_goTo_43 : decode cX6_goTo 43 = .ok (.iaload, 1) := by decide +kernel
theorem dX6_goTo_44 : decode cX6_goTo 44 = .ok (.iastore, 1) := by decide +kernel
theorem dX6_goTo_45 : decode cX6_goTo 45 = .ok (.aload_n 0, 1) := by decide +kernel
theorem dX6_goTo_46 : decode cX6_goTo 46 = .ok (.getfield 9, 3) := by decide +kernel
theorem dX6_goTo_49 : decode cX6_goTo 49 = .ok (.bipush 6, 2) := by decide +kernel
theorem dX6_goTo_51 : decode cX6_goTo 51 = .ok (.aload_n 0, 1) := by decide +kernel
theorem dX6_goTo_52 : decode cX6_goTo 52 = .ok (.getfield 18, 3) := by decide +kernel
theorem dX6_goTo_55 : decode cX6_goTo 55 = .ok (.iload_n 1, 1) := by decide +kernel
theorem dX6_goTo_56 : decode cX6_goTo 56 = .ok (.invokevirtual 37, 3) := by decide +kernel
theorem dX6_goTo_59 : decode cX6_goTo 59 = .ok (.iastore, 1) := by decide +kernel
theorem dX6_goTo_60 : decode cX6_goTo 60 = .ok (.aload_n 0, 1) := by decide +kernel
theorem dX6_goTo_61 : decode cX6_goTo 61 = .ok (.aload_n 0, 1) := by decide +kernel
theorem dX6_goTo_62 : decode cX6_goTo 62 = .ok (.getfield 22, 3) := by decide +kernel
theorem dX6_goTo_65 : decode cX6_goTo 65 = .ok (.getfield 41, 3) := by decide +kernel
theorem dX6_goTo_68 : decode cX6_goTo 68 = .ok (.iload_n 1, 1) := by decide +kernel
theorem dX6_goTo_69 : decode cX6_goTo 69 = .ok (.iaload, 1) := by decide +kernel
theorem dX6_goTo_70 : decode cX6_goTo 70 = .ok (.putfield 46, 3) := by decide +kernel
theorem dX6_goTo_73 : decode cX6_goTo 73 = .ok (.return_, 1) := by decide +kernel
theorem dX6_takePolicy_0 : decode cX6_takePolicy 0 = .ok (.aload_n 0, 1) := by decide +kernel
theorem dX6_takePolicy_1 : decode cX6_takePolicy 1 = .ok (.getfield 9, 3) := by decide +kernel
theorem dX6_takePolicy_4 : decode cX6_takePolicy 4 = .ok (.iconst 3, 1) := by decide +kernel
theorem dX6_takePolicy_5 : decode cX6_takePolicy 5 = .ok (.iload_n 1, 1) := by decide +kernel
theorem dX6_takePolicy_6 : decode cX6_takePolicy 6 = .ok (.iastore, 1) := by decide +kernel
theorem dX6_takePolicy_7 : decode cX6_takePolicy 7 = .ok (.aload_n 0, 1) := by decide +kernel
theorem dX6_takePolicy_8 : decode cX6_takePolicy 8 = .ok (.getfield 9, 3) := by decide +kernel
theorem dX6_takePolicy_11 : decode cX6_takePolicy 11 = .ok (.iconst 5, 1) := by decide +kernel
theorem dX6_takePolicy_12 : decode cX6_takePolicy 12 = .ok (.iload_n 2, 1) := by decide +kernel
theorem dX6_takePolicy_13 : decode cX6_takePolicy 13 = .ok (.iastore, 1) := by decide +kernel
theorem dX6_takePolicy_14 : decode cX6_takePolicy 14 = .ok (.aload_n 0, 1) := by decide +kernel
theorem dX6_takePolicy_15 : decode cX6_takePolicy 15 = .ok (.getfield 9, 3) := by decide +kernel
theorem dX6_takePolicy_18 : decode cX6_takePolicy 18 = .ok (.iconst 4, 1) := by decide +kernel
theorem dX6_takePolicy_19 : decode cX6_takePolicy 19 = .ok (.iload_n 3, 1) := by decide +kernel
theorem dX6_takePolicy_20 : decode cX6_takePolicy 20 = .ok (.iastore, 1) := by decide +kernel
theorem dX6_takePolicy_21 : decode cX6_takePolicy 21 = .ok (.return_, 1) := by decide +kernel
theorem dX6_findHelpers_0 : decode cX6_findHelpers 0 = .ok (.iconst 0, 1) := by decide +kernel
theorem dX6_findHelpers_1 : decode cX6_findHelpers 1 = .ok (.istore_n 1, 1) := by decide +kernel
theorem dX6_findHelpers_2 : decode cX6_findHelpers 2 = .ok (.iload_n 1, 1) := by decide +kernel
theorem dX6_findHelpers_3 : decode cX6_findHelpers 3 = .ok (.aload_n 0, 1) := by decide +kernel
theorem dX6_findHelpers_4 : decode cX6_findHelpers 4 = .ok (.getfield 18, 3) := by decide +kernel
theorem dX6_findHelpers_7 : decode cX6_findHelpers 7 = .ok (.getfield 50, 3) := by decide +kernel
theorem dX6_findHelpers_10 : decode cX6_findHelpers 10 = .ok (.if_icmp .ge 39, 3) := by decide +kernel
theorem dX6_findHelpers_13 : decode cX6_findHelpers 13 = .ok (.aload_n 0, 1) := by decide +kernel
theorem dX6_findHelpers_14 : decode cX6_findHelpers 14 = .ok (.getfield 22, 3) := by decide +kernel
theorem dX6_findHelpers_17 : decode cX6_findHelpers 17 = .ok (.getfield 53, 3) := by decide +kernel
theorem dX6_findHelpers_20 : decode cX6_findHelpers 20 = .ok (.iload_n 1, 1) := by decide +kernel
theorem dX6_findHelpers_21 : decode cX6_findHelpers 21 = .ok (.aload_n 0, 1) := by decide +kernel
theorem dX6_findHelpers_22 : decode cX6_findHelpers 22 = .ok (.getfield 18, 3) := by decide +kernel
theorem dX6_findHelpers_25 : decode cX6_findHelpers 25 = .ok (.getfield 56, 3) := by decide +kernel
theorem dX6_findHelpers_28 : decode cX6_findHelpers 28 = .ok (.iload_n 1, 1) := by decide +kernel
theorem dX6_findHelpers_29 : decode cX6_findHelpers 29 = .ok (.baload, 1) := by decide +kernel
theorem dX6_findHelpers_30 : decode cX6_findHelpers 30 = .ok (.ifCond .eq 11, 3) := by decide +kernel
theorem dX6_findHelpers_33 : decode cX6_findHelpers 33 = .ok (.aload_n 0, 1) := by decide +kernel
theorem dX6_findHelpers_34 : decode cX6_findHelpers 34 = .ok (.iload_n 1, 1) := by decide +kernel
theorem dX6_findHelpers_35 : decode cX6_findHelpers 35 = .ok (.invokevirtual 60, 3) := by decide +kernel
theorem dX6_findHelpers_38 : decode cX6_findHelpers 38 = .ok (.goto 4, 3) := by decide +kernel
theorem dX6_findHelpers_41 : decode cX6_findHelpers 41 = .ok (.iconst 0, 1) := by decide +kernel
theorem dX6_findHelpers_42 : decode cX6_findHelpers 42 = .ok (.iastore, 1) := by decide +kernel
theorem dX6_findHelpers_43 : decode cX6_findHelpers 43 = .ok (.iinc 1 1, 3) := by decide +kernel
theorem dX6_findHelpers_46 : decode cX6_findHelpers 46 = .ok (.goto (-44), 3) := by decide +kernel
theorem dX6_findHelpers_49 : decode cX6_findHelpers 49 = .ok (.return_, 1) := by decide +kernel
theorem dX6_helpersAt_0 : decode cX6_helpersAt 0 = .ok (.aload_n 0, 1) := by decide +kernel
theorem dX6_helpersAt_1 : decode cX6_helpersAt 1 = .ok (.iload_n 1, 1) := by decide +kernel
theorem dX6_helpersAt_2 : decode cX6_helpersAt 2 = .ok (.invokevirtual 63, 3) := by decide +kernel
theorem dX6_helpersAt_5 : decode cX6_helpersAt 5 = .ok (.aload_n 0, 1) := by decide +kernel
theorem dX6_helpersAt_6 : decode cX6_helpersAt 6 = .ok (.iconst 0, 1) := by decide +kernel
theorem dX6_helpersAt_7 : decode cX6_helpersAt 7 = .ok (.aload_n 0, 1) := by decide +kernel
theorem dX6_helpersAt_8 : decode cX6_helpersAt 8 = .ok (.getfield 22, 3) := by decide +kernel
theorem dX6_helpersAt_11 : decode cX6_helpersAt 11 = .ok (.getfield 67, 3) := by decide +kernel
theorem dX6_helpersAt_14 : decode cX6_helpersAt 14 = .ok (.iload_n 1, 1) := by decide +kernel
theorem dX6_helpersAt_15 : decode cX6_helpersAt 15 = .ok (.iaload, 1) := by decide +kernel
theorem dX6_helpersAt_16 : decode cX6_helpersAt 16 = .ok (.iconst 0, 1) := by decide +kernel
theorem dX6_helpersAt_17 : decode cX6_helpersAt 17 = .ok (.invokevirtual 70, 3) := by decide +kernel
theorem dX6_helpersAt_20 : decode cX6_helpersAt 20 = .ok (.aload_n 0, 1) := by decide +kernel
theorem dX6_helpersAt_21 : decode cX6_helpersAt 21 = .ok (.getfield 46, 3) := by decide +kernel
theorem dX6_helpersAt_24 : decode cX6_helpersAt 24 = .ok (.istore_n 2, 1) := by decide +kernel
theorem dX6_helpersAt_25 : decode cX6_helpersAt 25 = .ok (.iconst 0, 1) := by decide +kernel
theorem dX6_helpersAt_26 : decode cX6_helpersAt 26 = .ok (.istore_n 3, 1) := by decide +kernel
theorem dX6_helpersAt_27 : decode cX6_helpersAt 27 = .ok (.iload_n 3, 1) := by decide +kernel
theorem dX6_helpersAt_28 : decode cX6_helpersAt 28 = .ok (.bipush 9, 2) := by decide +kernel
theorem dX6_helpersAt_30 : decode cX6_helpersAt 30 = .ok (.if_icmp .ge 33, 3) := by decide +kernel
theorem dX6_helpersAt_33 : decode cX6_helpersAt 33 = .ok (.aload_n 0, 1) := by decide +kernel
theorem dX6_helpersAt_34 : decode cX6_helpersAt 34 = .ok (.aload_n 0, 1) := by decide +kernel
theorem dX6_helpersAt_35 : decode cX6_helpersAt 35 = .ok (.getfield 22, 3) := by decide +kernel
theorem dX6_helpersAt_38 : decode cX6_helpersAt 38 = .ok (.getfield 74, 3) := by decide +kernel
theorem dX6_helpersAt_41 : decode cX6_helpersAt 41 = .ok (.iload_n 3, 1) := by decide +kernel
theorem dX6_helpersAt_42 : decode cX6_helpersAt 42 = .ok (.aaload, 1) := by decide +kernel
theorem dX6_helpersAt_43 : decode cX6_helpersAt 43 = .ok (.bipush 16, 2) := by decide +kernel
theorem dX6_helpersAt_45 : decode cX6_helpersAt 45 = .ok (.invokevirtual 78, 3) := by decide +kernel
theorem dX6_helpersAt_48 : decode cX6_helpersAt 48 = .ok (.ifCond .eq 9, 3) := by decide +kernel
theorem dX6_helpersAt_51 : decode cX6_helpersAt 51 = .ok (.iload_n 2, 1) := by decide +kernel
theorem dX6_helpersAt_52 : decode cX6_helpersAt 52 = .ok (.iconst 1, 1) := by decide +kernel
theorem dX6_helpersAt_53 : decode cX6_helpersAt 53 = .ok (.iload_n 3, 1) := by decide +kernel
theorem dX6_helpersAt_54 : decode cX6_helpersAt 54 = .ok (.ishl, 1) := by decide +kernel
theorem dX6_helpersAt_55 : decode cX6_helpersAt 55 = .ok (.ior, 1) := by decide +kernel
theorem dX6_helpersAt_56 : decode cX6_helpersAt 56 = .ok (.istore_n 2, 1) := by decide +kernel
theorem dX6_helpersAt_57 : decode cX6_helpersAt 57 = .ok (.iinc 3 1, 3) := by decide +kernel
theorem dX6_helpersAt_60 : decode cX6_helpersAt 60 = .ok (.goto (-33), 3) := by decide +kernel
theorem dX6_helpersAt_63 : decode cX6_helpersAt 63 = .ok (.iload_n 2, 1) := by decide +kernel
theorem dX6_helpersAt_64 : decode cX6_helpersAt 64 = .ok (.ireturn, 1) := by decide +kernel
theorem dX6_premiumBy_0 : decode cX6_premiumBy 0 = .ok (.aload_n 1, 1) := by decide +kernel
theorem dX6_premiumBy_1 : decode cX6_premiumBy 1 = .ok (.ifnull 11, 3) := by decide +kernel
theorem dX6_premiumBy_4 : decode cX6_premiumBy 4 = .ok (.aload_n 1, 1) := by decide +kernel
theorem dX6_premiumBy_5 : decode cX6_premiumBy 5 = .ok (.getfield 82, 3) := by decide +kernel
theorem dX6_premiumBy_8 : decode cX6_premiumBy 8 = .ok (.iconst (-1), 1) := by decide +kernel
theorem dX6_premiumBy_9 : decode cX6_premiumBy 9 = .ok (.if_icmp .ne 5, 3) := by decide +kernel
theorem dX6_premiumBy_12 : decode cX6_premiumBy 12 = .ok (.iconst 0, 1) := by decide +kernel
theorem dX6_premiumBy_13 : decode cX6_premiumBy 13 = .ok (.ireturn, 1) := by decide +kernel
theorem dX6_premiumBy_14 : decode cX6_premiumBy 14 = .ok (.iconst 0, 1) := by decide +kernel
theorem dX6_premiumBy_15 : decode cX6_premiumBy 15 = .ok (.aload_n 0, 1) := by decide +kernel
theorem dX6_premiumBy_16 : decode cX6_premiumBy 16 = .ok (.aload_n 1, 1) := by decide +kernel
theorem dX6_premiumBy_17 : decode cX6_premiumBy 17 = .ok (.aload_n 1, 1) := by decide +kernel
theorem dX6_premiumBy_18 : decode cX6_premiumBy 18 = .ok (.getfield 82, 3) := by decide +kernel
theorem dX6_premiumBy_21 : decode cX6_premiumBy 21 = .ok (.invokevirtual 87, 3) := by decide +kernel
theorem dX6_premiumBy_24 : decode cX6_premiumBy 24 = .ok (.invokestatic 91, 3) := by decide +kernel
theorem dX6_premiumBy_27 : decode cX6_premiumBy 27 = .ok (.ireturn, 1) := by decide +kernel
theorem dX6_askBy_0 : decode cX6_askBy 0 = .ok (.aload_n 1, 1) := by decide +kernel
theorem dX6_askBy_1 : decode cX6_askBy 1 = .ok (.ifnull 32, 3) := by decide +kernel
theorem dX6_askBy_4 : decode cX6_askBy 4 = .ok (.aload_n 0, 1) := by decide +kernel
theorem dX6_askBy_5 : decode cX6_askBy 5 = .ok (.getfield 9, 3) := by decide +kernel
theorem dX6_askBy_8 : decode cX6_askBy 8 = .ok (.iconst 4, 1) := by decide +kernel
theorem dX6_askBy_9 : decode cX6_askBy 9 = .ok (.iaload, 1) := by decide +kernel
theorem dX6_askBy_10 : decode cX6_askBy 10 = .ok (.ifCond .eq 23, 3) := by decide +kernel
theorem dX6_askBy_13 : decode cX6_askBy 13 = .ok (.aload_n 0, 1) := by decide +kernel
theorem dX6_askBy_14 : decode cX6_askBy 14 = .ok (.aload_n 1, 1) := by decide +kernel
theorem dX6_askBy_15 : decode cX6_askBy 15 = .ok (.bipush 15, 2) := by decide +kernel
theorem dX6_askBy_17 : decode cX6_askBy 17 = .ok (.invokevirtual 78, 3) := by decide +kernel
theorem dX6_askBy_20 : decode cX6_askBy 20 = .ok (.ifCond .ne 13, 3) := by decide +kernel
theorem dX6_askBy_23 : decode cX6_askBy 23 = .ok (.aload_n 0, 1) := by decide +kernel
theorem dX6_askBy_24 : decode cX6_askBy 24 = .ok (.aload_n 1, 1) := by decide +kernel
theorem dX6_askBy_25 : decode cX6_askBy 25 = .ok (.bipush 14, 2) := by decide +kernel
theorem dX6_askBy_27 : decode cX6_askBy 27 = .ok (.invokevirtual 78, 3) := by decide +kernel
theorem dX6_askBy_30 : decode cX6_askBy 30 = .ok (.ifCond .ne 5, 3) := by decide +kernel
theorem dX6_askBy_33 : decode cX6_askBy 33 = .ok (.iconst 0, 1) := by decide +kernel
theorem dX6_askBy_34 : decode cX6_askBy 34 = .ok (.ireturn, 1) := by decide +kernel
theorem dX6_askBy_35 : decode cX6_askBy 35 = .ok (.aload_n 1, 1) := by decide +kernel
theorem dX6_askBy_36 : decode cX6_askBy 36 = .ok (.getfield 97, 3) := by decide +kernel
theorem dX6_askBy_39 : decode cX6_askBy 39 = .ok (.iconst (-1), 1) := by decide +kernel
theorem dX6_askBy_40 : decode cX6_askBy 40 = .ok (.if_icmp .ne 12, 3) := by decide +kernel
theorem dX6_askBy_43 : decode cX6_askBy 43 = .ok (.aload_n 0, 1) := by decide +kernel
theorem dX6_askBy_44 : decode cX6_askBy 44 = .ok (.getfield 9, 3) := by decide +kernel
theorem dX6_askBy_47 : decode cX6_askBy 47 = .ok (.iconst 4, 1) := by decide +kernel
theorem dX6_askBy_48 : decode cX6_askBy 48 = .ok (.iaload, 1) := by decide +kernel
theorem dX6_askBy_49 : decode cX6_askBy 49 = .ok (.goto 12, 3) := by decide +kernel
theorem dX6_askBy_52 : decode cX6_askBy 52 = .ok (.aload_n 0, 1) := by decide +kernel
theorem dX6_askBy_53 : decode cX6_askBy 53 = .ok (.aload_n 1, 1) := by decide +kernel
theorem dX6_askBy_54 : decode cX6_askBy 54 = .ok (.aload_n 1, 1) := by decide +kernel
theorem dX6_askBy_55 : decode cX6_askBy 55 = .ok (.getfield 97, 3) := by decide +kernel
theorem dX6_askBy_58 : decode cX6_askBy 58 = .ok (.invokevirtual 87, 3) := by decide +kernel
theorem dX6_askBy_61 : decode cX6_askBy 61 = .ok (.istore_n 2, 1) := by decide +kernel
theorem dX6_askBy_62 : decode cX6_askBy 62 = .ok (.iconst 0, 1) := by decide +kernel
theorem dX6_askBy_63 : decode cX6_askBy 63 = .ok (.aload_n 0, 1) := by decide +kernel
theorem dX6_askBy_64 : decode cX6_askBy 64 = .ok (.getfield 9, 3) := by decide +kernel
theorem dX6_askBy_67 : decode cX6_askBy 67 = .ok (.iconst 3, 1) := by decide +kernel
theorem dX6_askBy_68 : decode cX6_askBy 68 = .ok (.iaload, 1) := by decide +kernel
theorem dX6_askBy_69 : decode cX6_askBy 69 = .ok (.iload_n 2, 1) := by decide +kernel
theorem dX6_askBy_70 : decode cX6_askBy 70 = .ok (.invokestatic 100, 3) := by decide +kernel
theorem dX6_askBy_73 : decode cX6_askBy 73 = .ok (.invokestatic 91, 3) := by decide +kernel
theorem dX6_askBy_76 : decode cX6_askBy 76 = .ok (.ireturn, 1) := by decide +kernel
theorem dX6_some_0 : decode cX6_some 0 = .ok (.aload_n 1, 1) := by decide +kernel
theorem dX6_some_1 : decode cX6_some 1 = .ok (.ifnonnull 5, 3) := by decide +kernel
theorem dX6_some_4 : decode cX6_some 4 = .ok (.iconst 0, 1) := by decide +kernel
theorem dX6_some_5 : decode cX6_some 5 = .ok (.ireturn, 1) := by decide +kernel
theorem dX6_some_6 : decode cX6_some 6 = .ok (.iconst 0, 1) := by decide +kernel
theorem dX6_some_7 : decode cX6_some 7 = .ok (.istore_n 3, 1) := by decide +kernel
theorem dX6_some_8 : decode cX6_some 8 = .ok (.iload_n 3, 1) := by decide +kernel
theorem dX6_some_9 : decode cX6_some 9 = .ok (.aload_n 1, 1) := by decide +kernel
theorem dX6_some_10 : decode cX6_some 10 = .ok (.getfield 103, 3) := by decide +kernel
theorem dX6_some_13 : decode cX6_some 13 = .ok (.if_icmp .ge 30, 3) := by decide +kernel
theorem dX6_some_16 : decode cX6_some 16 = .ok (.aload_n 1, 1) := by decide +kernel
theorem dX6_some_17 : decode cX6_some 17 = .ok (.getfield 106, 3) := by decide +kernel
theorem dX6_some_20 : decode cX6_some 20 = .ok (.iload_n 3, 1) := by decide +kernel
theorem dX6_some_21 : decode cX6_some 21 = .ok (.iaload, 1) := by decide +kernel
theorem dX6_some_22 : decode cX6_some 22 = .ok (.iload_n 2, 1) := by decide +kernel
theorem dX6_some_23 : decode cX6_some 23 = .ok (.if_icmp .ne 14, 3) := by decide +kernel
theorem dX6_some_26 : decode cX6_some 26 = .ok (.aload_n 0, 1) := by decide +kernel
theorem dX6_some_27 : decode cX6_some 27 = .ok (.aload_n 1, 1) := by decide +kernel
theorem dX6_some_28 : decode cX6_some 28 = .ok (.iload_n 3, 1) := by decide +kernel
theorem dX6_some_29 : decode cX6_some 29 = .ok (.invokevirtual 87, 3) := by decide +kernel
theorem dX6_some_32 : decode cX6_some 32 = .ok (.ifCond .eq 5, 3) := by decide +kernel
theorem dX6_some_35 : decode cX6_some 35 = .ok (.iconst 1, 1) := by decide +kernel
theorem dX6_some_36 : decode cX6_some 36 = .ok (.ireturn, 1) := by decide +kernel
theorem dX6_some_37 : decode cX6_some 37 = .ok (.iinc 3 1, 3) := by decide +kernel
theorem dX6_some_40 : decode cX6_some 40 = .ok (.goto (-32), 3) := by decide +kernel
theorem dX6_some_43 : decode cX6_some 43 = .ok (.iconst 0, 1) := by decide +kernel
theorem dX6_some_44 : decode cX6_some 44 = .ok (.ireturn, 1) := by decide +kernel
theorem dX6_valueOf_0 : decode cX6_valueOf 0 = .ok (.iload_n 2, 1) := by decide +kernel
theorem dX6_valueOf_1 : decode cX6_valueOf 1 = .ok (.iconst 0, 1) := by decide +kernel
theorem dX6_valueOf_2 : decode cX6_valueOf 2 = .ok (.aload_n 1, 1) := by decide +kernel
theorem dX6_valueOf_3 : decode cX6_valueOf 3 = .ok (.getfield 103, 3) := by decide +kernel
theorem dX6_valueOf_6 : decode cX6_valueOf 6 = .ok (.iconst 1, 1) := by decide +kernel
theorem dX6_valueOf_7 : decode cX6_valueOf 7 = .ok (.isub, 1) := by decide +kernel
theorem dX6_valueOf_8 : decode cX6_valueOf 8 = .ok (.invokestatic 109, 3) := by decide +kernel
theorem dX6_valueOf_11 : decode cX6_valueOf 11 = .ok (.ifCond .ne 5, 3) := by decide +kernel
theorem dX6_valueOf_14 : decode cX6_valueOf 14 = .ok (.iconst 0, 1) := by decide +kernel
theorem dX6_valueOf_15 : decode cX6_valueOf 15 = .ok (.ireturn, 1) := by decide +kernel
theorem dX6_valueOf_16 : decode cX6_valueOf 16 = .ok (.iconst 0, 1) := by decide +kernel
theorem dX6_valueOf_17 : decode cX6_valueOf 17 = .ok (.istore_n 3, 1) := by decide +kernel
theorem dX6_valueOf_18 : decode cX6_valueOf 18 = .ok (.aload_n 1, 1) := by decide +kernel
theorem dX6_valueOf_19 : decode cX6_valueOf 19 = .ok (.getfield 113, 3) := by decide +kernel
theorem dX6_valueOf_22 : decode cX6_valueOf 22 = .ok (.iload_n 2, 1) := by decide +kernel
theorem dX6_valueOf_23 : decode cX6_valueOf 23 = .ok (.iconst 1, 1) := by decide +kernel
theorem dX6_valueOf_24 : decode cX6_valueOf 24 = .ok (.iadd, 1) := by decide +kernel
theorem dX6_valueOf_25 : decode cX6_valueOf 25 = .ok (.iaload, 1) := by decide +kernel
theorem dX6_valueOf_26 : decode cX6_valueOf 26 = .ok (.aload_n 1, 1) := by decide +kernel
theorem dX6_valueOf_27 : decode cX6_valueOf 27 = .ok (.getfield 116, 3) := by decide +kernel
theorem dX6_valueOf_30 : decode cX6_valueOf 30 = .ok (.arraylength, 1) := by decide +kernel
theorem dX6_valueOf_31 : decode cX6_valueOf 31 = .ok (.invokestatic 100, 3) := by decide +kernel
theorem dX6_valueOf_34 : decode cX6_valueOf 34 = .ok (.istore 4, 2) := by decide +kernel
theorem dX6_valueOf_36 : decode cX6_valueOf 36 = .ok (.aload_n 1, 1) := by decide +kernel
theorem dX6_valueOf_37 : decode cX6_valueOf 37 = .ok (.getfield 113, 3) := by decide +kernel
theorem dX6_valueOf_40 : decode cX6_valueOf 40 = .ok (.iload_n 2, 1) := by decide +kernel
theorem dX6_valueOf_41 : decode cX6_valueOf 41 = .ok (.iaload, 1) := by decide +kernel
theorem dX6_valueOf_42 : decode cX6_valueOf 42 = .ok (.istore 5, 2) := by decide +kernel
theorem dX6_valueOf_44 : decode cX6_valueOf 44 = .ok (.iload 5, 2) := by decide +kernel
theorem dX6_valueOf_46 : decode cX6_valueOf 46 = .ok (.iload 4, 2) := by decide +kernel
theorem dX6_valueOf_48 : decode cX6_valueOf 48 = .ok (.if_icmp .ge 133, 3) := by decide +kernel
theorem dX6_valueOf_51 : decode cX6_valueOf 51 = .ok (.aload_n 1, 1) := by decide +kernel
theorem dX6_valueOf_52 : decode cX6_valueOf 52 = .ok (.getfield 116, 3) := by decide +kernel
theorem dX6_valueOf_55 : decode cX6_valueOf 55 = .ok (.iload 5, 2) := by decide +kernel
theorem dX6_valueOf_57 : decode cX6_valueOf 57 = .ok (.iaload, 1) := by decide +kernel
theorem dX6_valueOf_58 : decode cX6_valueOf 58 = .ok (.bipush 127, 2) := by decide +kernel
theorem dX6_valueOf_60 : decode cX6_valueOf 60 = .ok (.iand, 1) := by decide +kernel
theorem dX6_valueOf_61 : decode cX6_valueOf 61 = .ok (.istore 6, 2) := by decide +kernel
theorem dX6_valueOf_63 : decode cX6_valueOf 63 = .ok (.iload 6, 2) := by decide +kernel
theorem dX6_valueOf_65 : decode cX6_valueOf 65 = .ok (.bipush 11, 2) := by decide +kernel
theorem dX6_valueOf_67 : decode cX6_valueOf 67 = .ok (.if_icmp .ne 29, 3) := by decide +kernel
theorem dX6_valueOf_70 : decode cX6_valueOf 70 = .ok (.iload_n 3, 1) := by decide +kernel
theorem dX6_valueOf_71 : decode cX6_valueOf 71 = .ok (.iconst 1, 1) := by decide +kernel
theorem dX6_valueOf_72 : decode cX6_valueOf 72 = .ok (.if_icmp .lt 24, 3) := by decide +kernel
theorem dX6_valueOf_75 : decode cX6_valueOf 75 = .ok (.aload_n 0, 1) := by decide +kernel
theorem dX6_valueOf_76 : decode cX6_valueOf 76 = .ok (.getfield 15, 3) := by decide +kernel
theorem dX6_valueOf_79 : decode cX6_valueOf 79 = .ok (.iload_n 3, 1) := by decide +kernel
theorem dX6_valueOf_80 : decode cX6_valueOf 80 = .ok (.iconst 1, 1) := by decide +kernel
theorem dX6_valueOf_81 : decode cX6_valueOf 81 = .ok (.isub, 1) := by decide +kernel
theorem dX6_valueOf_82 : decode cX6_valueOf 82 = .ok (.iconst 1, 1) := by decide +kernel
theorem dX6_valueOf_83 : decode cX6_valueOf 83 = .ok (.aload_n 0, 1) := by decide +kernel
theorem dX6_valueOf_84 : decode cX6_valueOf 84 = .ok (.getfield 15, 3) := by decide +kernel
theorem dX6_valueOf_87 : decode cX6_valueOf 87 = .ok (.iload_n 3, 1) := by decide +kernel
theorem dX6_valueOf_88 : decode cX6_valueOf 88 = .ok (.iconst 1, 1) := by decide +kernel
theorem dX6_valueOf_89 : decode cX6_valueOf 89 = .ok (.isub, 1) := by decide +kernel
theorem dX6_valueOf_90 : decode cX6_valueOf 90 = .ok (.iaload, 1) := by decide +kernel
theorem dX6_valueOf_91 : decode cX6_valueOf 91 = .ok (.isub, 1) := by decide +kernel
theorem dX6_valueOf_92 : decode cX6_valueOf 92 = .ok (.iastore, 1) := by decide +kernel
theorem dX6_valueOf_93 : decode cX6_valueOf 93 = .ok (.goto 82, 3) := by decide +kernel
theorem dX6_valueOf_96 : decode cX6_valueOf 96 = .ok (.iload 6, 2) := by decide +kernel
theorem dX6_valueOf_98 : decode cX6_valueOf 98 = .ok (.invokestatic 119, 3) := by decide +kernel
theorem dX6_valueOf_101 : decode cX6_valueOf 101 = .ok (.ifCond .eq 43, 3) := by decide +kernel
theorem dX6_valueOf_104 : decode cX6_valueOf 104 = .ok (.iload_n 3, 1) := by decide +kernel
theorem dX6_valueOf_105 : decode cX6_valueOf 105 = .ok (.iconst 2, 1) := by decide +kernel
theorem dX6_valueOf_106 : decode cX6_valueOf 106 = .ok (.if_icmp .lt 38, 3) := by decide +kernel
theorem dX6_valueOf_109 : decode cX6_valueOf 109 = .ok (.aload_n 0, 1) := by decide +kernel
theorem dX6_valueOf_110 : decode cX6_valueOf 110 = .ok (.getfield 15, 3) := by decide +kernel
theorem dX6_valueOf_113 : decode cX6_valueOf 113 = .ok (.iload_n 3, 1) := by decide +kernel
theorem dX6_valueOf_114 : decode cX6_valueOf 114 = .ok (.iconst 2, 1) := by decide +kernel
theorem dX6_valueOf_115 : decode cX6_valueOf 115 = .ok (.isub, 1) := by decide +kernel
theorem dX6_valueOf_116 : decode cX6_valueOf 116 = .ok (.iload 6, 2) := by decide +kernel
theorem dX6_valueOf_118 : decode cX6_valueOf 118 = .ok (.aload_n 0, 1) := by decide +kernel
theorem dX6_valueOf_119 : decode cX6_valueOf 119 = .ok (.getfield 15, 3) := by decide +kernel
theorem dX6_valueOf_122 : decode cX6_valueOf 122 = .ok (.iload_n 3, 1) := by decide +kernel
theorem dX6_valueOf_123 : decode cX6_valueOf 123 = .ok (.iconst 2, 1) := by decide +kernel
theorem dX6_valueOf_124 : decode cX6_valueOf 124 = .ok (.isub, 1) := by decide +kernel
theorem dX6_valueOf_125 : decode cX6_valueOf 125 = .ok (.iaload, 1) := by decide +kernel
theorem dX6_valueOf_126 : decode cX6_valueOf 126 = .ok (.aload_n 0, 1) := by decide +kernel
theorem dX6_valueOf_127 : decode cX6_valueOf 127 = .ok (.getfield 15, 3) := by decide +kernel
theorem dX6_valueOf_130 : decode cX6_valueOf 130 = .ok (.iload_n 3, 1) := by decide +kernel
theorem dX6_valueOf_131 : decode cX6_valueOf 131 = .ok (.iconst 1, 1) := by decide +kernel
theorem dX6_valueOf_132 : decode cX6_valueOf 132 = .ok (.isub, 1) := by decide +kernel
theorem dX6_valueOf_133 : decode cX6_valueOf 133 = .ok (.iaload, 1) := by decide +kernel
theorem dX6_valueOf_134 : decode cX6_valueOf 134 = .ok (.invokestatic 123, 3) := by decide +kernel
theorem dX6_valueOf_137 : decode cX6_valueOf 137 = .ok (.iastore, 1) := by decide +kernel
theorem dX6_valueOf_138 : decode cX6_valueOf 138 = .ok (.iinc 3 (-1), 3) := by decide +kernel
theorem dX6_valueOf_141 : decode cX6_valueOf 141 = .ok (.goto 34, 3) := by decide +kernel
theorem dX6_valueOf_144 : decode cX6_valueOf 144 = .ok (.iload_n 3, 1) := by decide +kernel
theorem dX6_valueOf_145 : decode cX6_valueOf 145 = .ok (.bipush 64, 2) := by decide +kernel
theorem dX6_valueOf_147 : decode cX6_valueOf 147 = .ok (.if_icmp .ge 28, 3) := by decide +kernel
theorem dX6_valueOf_150 : decode cX6_valueOf 150 = .ok (.aload_n 0, 1) := by decide +kernel
theorem dX6_valueOf_151 : decode cX6_valueOf 151 = .ok (.getfield 15, 3) := by decide +kernel
theorem dX6_valueOf_154 : decode cX6_valueOf 154 = .ok (.iload_n 3, 1) := by decide +kernel
theorem dX6_valueOf_155 : decode cX6_valueOf 155 = .ok (.aload_n 0, 1) := by decide +kernel
theorem dX6_valueOf_156 : decode cX6_valueOf 156 = .ok (.iload 6, 2) := by decide +kernel
theorem dX6_valueOf_158 : decode cX6_valueOf 158 = .ok (.aload_n 1, 1) := by decide +kernel
theorem dX6_valueOf_159 : decode cX6_valueOf 159 = .ok (.getfield 116, 3) := by decide +kernel
theorem dX6_valueOf_162 : decode cX6_valueOf 162 = .ok (.iload 5, 2) := by decide +kernel
theorem dX6_valueOf_164 : decode cX6_valueOf 164 = .ok (.iaload, 1) := by decide +kernel
theorem dX6_valueOf_165 : decode cX6_valueOf 165 = .ok (.bipush 7, 2) := by decide +kernel
theorem dX6_valueOf_167 : decode cX6_valueOf 167 = .ok (.ishr, 1) := by decide +kernel
theorem dX6_valueOf_168 : decode cX6_valueOf 168 = .ok (.invokevirtual 127, 3) := by decide +kernel
theorem dX6_valueOf_171 : decode cX6_valueOf 171 = .ok (.iastore, 1) := by decide +kernel
theorem dX6_valueOf_172 : decode cX6_valueOf 172 = .ok (.iinc 3 1, 3) := by decide +kernel
theorem dX6_valueOf_175 : decode cX6_valueOf 175 = .ok (.iinc 5 1, 3) := by decide +kernel
theorem dX6_valueOf_178 : decode cX6_valueOf 178 = .ok (.goto (-134), 3) := by decide +kernel
theorem dX6_valueOf_181 : decode cX6_valueOf 181 = .ok (.iload_n 3, 1) := by decide +kernel
theorem dX6_valueOf_182 : decode cX6_valueOf 182 = .ok (.ifCond .le 12, 3) := by decide +kernel
theorem dX6_valueOf_185 : decode cX6_valueOf 185 = .ok (.aload_n 0, 1) := by decide +kernel
theorem dX6_valueOf_186 : decode cX6_valueOf 186 = .ok (.getfield 15, 3) := by decide +kernel
theorem dX6_valueOf_189 : decode cX6_valueOf 189 = .ok (.iconst 0, 1) := by decide +kernel
theorem dX6_valueOf_190 : decode cX6_valueOf 190 = .ok (.iaload, 1) := by decide +kernel
theorem dX6_valueOf_191 : decode cX6_valueOf 191 = .ok (.goto 4, 3) := by decide +kernel
theorem dX6_valueOf_194 : decode cX6_valueOf 194 = .ok (.iconst 0, 1) := by decide +kernel
theorem dX6_valueOf_195 : decode cX6_valueOf 195 = .ok (.ireturn, 1) := by decide +kernel
theorem dX6_isJoin_0 : decode cX6_isJoin 0 = .ok (.iload_n 0, 1) := by decide +kernel
theorem dX6_isJoin_1 : decode cX6_isJoin 1 = .ok (.bipush 40, 2) := by decide +kernel
theorem dX6_isJoin_3 : decode cX6_isJoin 3 = .ok (.if_icmp .ge 27, 3) := by decide +kernel
theorem dX6_isJoin_6 : decode cX6_isJoin 6 = .ok (.iload_n 0, 1) := by decide +kernel
theorem dX6_isJoin_7 : decode cX6_isJoin 7 = .ok (.bipush 7, 2) := by decide +kernel
theorem dX6_isJoin_9 : decode cX6_isJoin 9 = .ok (.if_icmp .eq 21, 3) := by decide +kernel
theorem dX6_isJoin_12 : decode cX6_isJoin 12 = .ok (.iload_n 0, 1) := by decide +kernel
theorem dX6_isJoin_13 : decode cX6_isJoin 13 = .ok (.bipush 8, 2) := by decide +kernel
theorem dX6_isJoin_15 : decode cX6_isJoin 15 = .ok (.if_icmp .eq 15, 3) := by decide +kernel
theorem dX6_isJoin_18 : decode cX6_isJoin 18 = .ok (.iload_n 0, 1) := by decide +kernel
theorem dX6_isJoin_19 : decode cX6_isJoin 19 = .ok (.bipush 12, 2) := by decide +kernel
theorem dX6_isJoin_21 : decode cX6_isJoin 21 = .ok (.if_icmp .eq 9, 3) := by decide +kernel
theorem dX6_isJoin_24 : decode cX6_isJoin 24 = .ok (.iload_n 0, 1) := by decide +kernel
theorem dX6_isJoin_25 : decode cX6_isJoin 25 = .ok (.bipush 13, 2) := by decide +kernel
theorem dX6_isJoin_27 : decode cX6_isJoin 27 = .ok (.if_icmp .ne 7, 3) := by decide +kernel
theorem dX6_isJoin_30 : decode cX6_isJoin 30 = .ok (.iconst 1, 1) := by decide +kernel
theorem dX6_isJoin_31 : decode cX6_isJoin 31 = .ok (.goto 4, 3) := by decide +kernel
theorem dX6_isJoin_34 : decode cX6_isJoin 34 = .ok (.iconst 0, 1) := by decide +kernel
theorem dX6_isJoin_35 : decode cX6_isJoin 35 = .ok (.ireturn, 1) := by decide +kernel
theorem dX6_single_0 : decode cX6_single 0 = .ok (.iload_n 1, 1) := by decide +kernel
theorem dX6_single_1 : decode cX6_single 1 = .ok (.bipush 6, 2) := by decide +kernel
theorem dX6_single_3 : decode cX6_single 3 = .ok (.if_icmp .gt 10, 3) := by decide +kernel
theorem dX6_single_6 : decode cX6_single 6 = .ok (.aload_n 0, 1) := by decide +kernel
theorem dX6_single_7 : decode cX6_single 7 = .ok (.getfield 9, 3) := by decide +kernel
theorem dX6_single_10 : decode cX6_single 10 = .ok (.iload_n 1, 1) := by decide +kernel
theorem dX6_single_11 : decode cX6_single 11 = .ok (.iaload, 1) := by decide +kernel
theorem dX6_single_12 : decode cX6_single 12 = .ok (.ireturn, 1) := by decide +kernel
theorem dX6_single_13 : decode cX6_single 13 = .ok (.iload_n 1, 1) := by decide +kernel
theorem dX6_single_14 : decode cX6_single 14 = .ok (.bipush 10, 2) := by decide +kernel
theorem dX6_single_16 : decode cX6_single 16 = .ok (.if_icmp .ne 12, 3) := by decide +kernel
theorem dX6_single_19 : decode cX6_single 19 = .ok (.aload_n 0, 1) := by decide +kernel
theorem dX6_single_20 : decode cX6_single 20 = .ok (.getfield 46, 3) := by decide +kernel
theorem dX6_single_23 : decode cX6_single 23 = .ok (.iload_n 2, 1) := by decide +kernel
theorem dX6_single_24 : decode cX6_single 24 = .ok (.ishr, 1) := by decide +kernel
theorem dX6_single_25 : decode cX6_single 25 = .ok (.iconst 1, 1) := by decide +kernel
theorem dX6_single_26 : decode cX6_single 26 = .ok (.iand, 1) := by decide +kernel
theorem dX6_single_27 : decode cX6_single 27 = .ok (.ireturn, 1) := by decide +kernel
theorem dX6_single_28 : decode cX6_single 28 = .ok (.iload_n 1, 1) := by decide +kernel
theorem dX6_single_29 : decode cX6_single 29 = .ok (.bipush 9, 2) := by decide +kernel
theorem dX6_single_31 : decode cX6_single 31 = .ok (.if_icmp .ne 7, 3) := by decide +kernel
theorem dX6_single_34 : decode cX6_single 34 = .ok (.iconst 1, 1) := by decide +kernel
theorem dX6_single_35 : decode cX6_single 35 = .ok (.goto 4, 3) := by decide +kernel
theorem dX6_single_38 : decode cX6_single 38 = .ok (.iload_n 2, 1) := by decide +kernel
theorem dX6_single_39 : decode cX6_single 39 = .ok (.ireturn, 1) := by decide +kernel
theorem dX6_joined_0 : decode cX6_joined 0 = .ok (.iload_n 0, 1) := by decide +kernel
theorem dX6_joined_1 : decode cX6_joined 1 = .ok (.lookupswitch 218 #[(7, 178), (8, 194), (12, 210), (42, 109), (43, 91), (45, 100), (47, 118), (60, 136), (61, 164), (62, 150)], 91) := by decide +kernel
theorem dX6_joined_92 : decode cX6_joined 92 = .ok (.iload_n 1, 1) := by decide +kernel
theorem dX6_joined_93 : decode cX6_joined 93 = .ok (.i2l, 1) := by decide +kernel
theorem dX6_joined_94 : decode cX6_joined 94 = .ok (.iload_n 2, 1) := by decide +kernel
theorem dX6_joined_95 : decode cX6_joined 95 = .ok (.i2l, 1) := by decide +kernel
theorem dX6_joined_96 : decode cX6_joined 96 = .ok (.ladd, 1) := by decide +kernel
theorem dX6_joined_97 : decode cX6_joined 97 = .ok (.lstore_n 3, 1) := by decide +kernel
theorem dX6_joined_98 : decode cX6_joined 98 = .ok (.goto 126, 3) := by decide +kernel
theorem dX6_joined_101 : decode cX6_joined 101 = .ok (.iload_n 1, 1) := by decide +kernel
theorem dX6_joined_102 : decode cX6_joined 102 = .ok (.i2l, 1) := by decide +kernel
theorem dX6_joined_103 : decode cX6_joined 103 = .ok (.iload_n 2, 1) := by decide +kernel
theorem dX6_joined_104 : decode cX6_joined 104 = .ok (.i2l, 1) := by decide +kernel
theorem dX6_joined_105 : decode cX6_joined 105 = .ok (.lsub, 1) := by decide +kernel
theorem dX6_joined_106 : decode cX6_joined 106 = .ok (.lstore_n 3, 1) := by decide +kernel
theorem dX6_joined_107 : decode cX6_joined 107 = .ok (.goto 117, 3) := by decide +kernel
theorem dX6_joined_110 : decode cX6_joined 110 = .ok (.iload_n 1, 1) := by decide +kernel
theorem dX6_joined_111 : decode cX6_joined 111 = .ok (.i2l, 1) := by decide +kernel
theorem dX6_joined_112 : decode cX6_joined 112 = .ok (.iload_n 2, 1) := by decide +kernel
theorem dX6_joined_113 : decode cX6_joined 113 = .ok (.i2l, 1) := by decide +kernel
theorem dX6_joined_114 : decode cX6_joined 114 = .ok (.lmul, 1) := by decide +kernel
theorem dX6_joined_115 : decode cX6_joined 115 = .ok (.lstore_n 3, 1) := by decide +kernel
theorem dX6_joined_116 : decode cX6_joined 116 = .ok (.goto 108, 3) := by decide +kernel
theorem dX6_joined_119 : decode cX6_joined 119 = .ok (.iload_n 2, 1) := by decide +kernel
theorem dX6_joined_120 : decode cX6_joined 120 = .ok (.ifCond .ne 7, 3) := by decide +kernel
theorem dX6_joined_123 : decode cX6_joined 123 = .ok (.lconst 0, 1) := by decide +kernel
theorem dX6_joined_124 : decode cX6_joined 124 = .ok (.goto 9, 3) := by decide +kernel
theorem dX6_joined_127 : decode cX6_joined 127 = .ok (.iload_n 1, 1) := by decide +kernel
theorem dX6_joined_128 : decode cX6_joined 128 = .ok (.iload_n 2, 1) := by decide +kernel
theorem dX6_joined_129 : decode cX6_joined 129 = .ok (.invokestatic 130, 3) := by decide +kernel
theorem dX6_joined_132 : decode cX6_joined 132 = .ok (.i2l, 1) := by decide +kernel
theorem dX6_joined_133 : decode cX6_joined 133 = .ok (.lstore_n 3, 1) := by decide +kernel
theorem dX6_joined_134 : decode cX6_joined 134 = .ok (.goto 90, 3) := by decide +kernel
theorem dX6_joined_137 : decode cX6_joined 137 = .ok (.iload_n 1, 1) := by decide +kernel
theorem dX6_joined_138 : decode cX6_joined 138 = .ok (.iload_n 2, 1) := by decide +kernel
theorem dX6_joined_139 : decode cX6_joined 139 = .ok (.if_icmp .ge 7, 3) := by decide +kernel
theorem dX6_joined_142 : decode cX6_joined 142 = .ok (.lconst 1, 1) := by decide +kernel
theorem dX6_joined_143 : decode cX6_joined 143 = .ok (.goto 4, 3) := by decide +kernel
theorem dX6_joined_146 : decode cX6_joined 146 = .ok (.lconst 0, 1) := by decide +kernel
theorem dX6_joined_147 : decode cX6_joined 147 = .ok (.lstore_n 3, 1) := by decide +kernel
theorem dX6_joined_148 : decode cX6_joined 148 = .ok (.goto 76, 3) := by decide +kernel
theorem dX6_joined_151 : decode cX6_joined 151 = .ok (.iload_n 1, 1) := by decide +kernel
theorem dX6_joined_152 : decode cX6_joined 152 = .ok (.iload_n 2, 1) := by decide +kernel
theorem dX6_joined_153 : decode cX6_joined 153 = .ok (.if_icmp .le 7, 3) := by decide +kernel
theorem dX6_joined_156 : decode cX6_joined 156 = .ok (.lconst 1, 1) := by decide +kernel
theorem dX6_joined_157 : decode cX6_joined 157 = .ok (.goto 4, 3) := by decide +kernel
theorem dX6_joined_160 : decode cX6_joined 160 = .ok (.lconst 0, 1) := by decide +kernel
theorem dX6_joined_161 : decode cX6_joined 161 = .ok (.lstore_n 3, 1) := by decide +kernel
theorem dX6_joined_162 : decode cX6_joined 162 = .ok (.goto 62, 3) := by decide +kernel
theorem dX6_joined_165 : decode cX6_joined 165 = .ok (.iload_n 1, 1) := by decide +kernel
theorem dX6_joined_166 : decode cX6_joined 166 = .ok (.iload_n 2, 1) := by decide +kernel
theorem dX6_joined_167 : decode cX6_joined 167 = .ok (.if_icmp .ne 7, 3) := by decide +kernel
theorem dX6_joined_170 : decode cX6_joined 170 = .ok (.lconst 1, 1) := by decide +kernel
theorem dX6_joined_171 : decode cX6_joined 171 = .ok (.goto 4, 3) := by decide +kernel
theorem dX6_joined_174 : decode cX6_joined 174 = .ok (.lconst 0, 1) := by decide +kernel
theorem dX6_joined_175 : decode cX6_joined 175 = .ok (.lstore_n 3, 1) := by decide +kernel
theorem dX6_joined_176 : decode cX6_joined 176 = .ok (.goto 48, 3) := by decide +kernel
theorem dX6_joined_179 : decode cX6_joined 179 = .ok (.iload_n 1, 1) := by decide +kernel
theorem dX6_joined_180 : decode cX6_joined 180 = .ok (.iload_n 2, 1) := by decide +kernel
theorem dX6_joined_181 : decode cX6_joined 181 = .ok (.if_icmp .ge 8, 3) := by decide +kernel
theorem dX6_joined_184 : decode cX6_joined 184 = .ok (.iload_n 1, 1) := by decide +kernel
theorem dX6_joined_185 : decode cX6_joined 185 = .ok (.i2l, 1) := by decide +kernel
theorem dX6_joined_186 : decode cX6_joined 186 = .ok (.goto 5, 3) := by decide +kernel
theorem dX6_joined_189 : decode cX6_joined 189 = .ok (.iload_n 2, 1) := by decide +kernel
theorem dX6_joined_190 : decode cX6_joined 190 = .ok (.i2l, 1) := by decide +kernel
theorem dX6_joined_191 : decode cX6_joined 191 = .ok (.lstore_n 3, 1) := by decide +kernel
theorem dX6_joined_192 : decode cX6_joined 192 = .ok (.goto 32, 3) := by decide +kernel
theorem dX6_joined_195 : decode cX6_joined 195 = .ok (.iload_n 1, 1) := by decide +kernel
theorem dX6_joined_196 : decode cX6_joined 196 = .ok (.iload_n 2, 1) := by decide +kernel
theorem dX6_joined_197 : decode cX6_joined 197 = .ok (.if_icmp .le 8, 3) := by decide +kernel
theorem dX6_joined_200 : decode cX6_joined 200 = .ok (.iload_n 1, 1) := by decide +kernel
theorem dX6_joined_201 : decode cX6_joined 201 = .ok (.i2l, 1) := by decide +kernel
theorem dX6_joined_202 : decode cX6_joined 202 = .ok (.goto 5, 3) := by decide +kernel
theorem dX6_joined_205 : decode cX6_joined 205 = .ok (.iload_n 2, 1) := by decide +kernel
theorem dX6_joined_206 : decode cX6_joined 206 = .ok (.i2l, 1) := by decide +kernel
theorem dX6_joined_207 : decode cX6_joined 207 = .ok (.lstore_n 3, 1) := by decide +kernel
theorem dX6_joined_208 : decode cX6_joined 208 = .ok (.goto 16, 3) := by decide +kernel
theorem dX6_joined_211 : decode cX6_joined 211 = .ok (.iload_n 1, 1) := by decide +kernel
theorem dX6_joined_212 : decode cX6_joined 212 = .ok (.iload_n 2, 1) := by decide +kernel
theorem dX6_joined_213 : decode cX6_joined 213 = .ok (.iand, 1) := by decide +kernel
theorem dX6_joined_214 : decode cX6_joined 214 = .ok (.i2l, 1) := by decide +kernel
theorem dX6_joined_215 : decode cX6_joined 215 = .ok (.lstore_n 3, 1) := by decide +kernel
theorem dX6_joined_216 : decode cX6_joined 216 = .ok (.goto 8, 3) := by decide +kernel
theorem dX6_joined_219 : decode cX6_joined 219 = .ok (.iload_n 1, 1) := by decide +kernel
theorem dX6_joined_220 : decode cX6_joined 220 = .ok (.iload_n 2, 1) := by decide +kernel
theorem dX6_joined_221 : decode cX6_joined 221 = .ok (.ior, 1) := by decide +kernel
theorem dX6_joined_222 : decode cX6_joined 222 = .ok (.i2l, 1) := by decide +kernel
theorem dX6_joined_223 : decode cX6_joined 223 = .ok (.lstore_n 3, 1) := by decide +kernel
theorem dX6_joined_224 : decode cX6_joined 224 = .ok (.lload_n 3, 1) := by decide +kernel
theorem dX6_joined_225 : decode cX6_joined 225 = .ok (.ldc2_w 133, 3) := by decide +kernel
theorem dX6_joined_228 : decode cX6_joined 228 = .ok (.lcmp, 1) := by decide +kernel
theorem dX6_joined_229 : decode cX6_joined 229 = .ok (.ifCond .le 6, 3) := by decide +kernel
theorem dX6_joined_232 : decode cX6_joined 232 = .ok (.ldc 135, 2) := by decide +kernel
theorem dX6_joined_234 : decode cX6_joined 234 = .ok (.ireturn, 1) := by decide +kernel
theorem dX6_joined_235 : decode cX6_joined 235 = .ok (.lload_n 3, 1) := by decide +kernel
theorem dX6_joined_236 : decode cX6_joined 236 = .ok (.ldc2_w 136, 3) := by decide +kernel
theorem dX6_joined_239 : decode cX6_joined 239 = .ok (.lcmp, 1) := by decide +kernel
theorem dX6_joined_240 : decode cX6_joined 240 = .ok (.ifCond .ge 8, 3) := by decide +kernel
theorem dX6_joined_243 : decode cX6_joined 243 = .ok (.ldc 138, 2) := by decide +kernel
theorem dX6_joined_245 : decode cX6_joined 245 = .ok (.goto 5, 3) := by decide +kernel
theorem dX6_joined_248 : decode cX6_joined 248 = .ok (.lload_n 3, 1) := by decide +kernel
theorem dX6_joined_249 : decode cX6_joined 249 = .ok (.l2i, 1) := by decide +kernel
theorem dX6_joined_250 : decode cX6_joined 250 = .ok (.ireturn, 1) := by decide +kernel
theorem dX7_init_0 : decode cX7_init 0 = .ok (.aload_n 0, 1) := by decide +kernel
theorem dX7_init_1 : decode cX7_init 1 = .ok (.invokespecial 3, 3) := by decide +kernel
theorem dX7_init_4 : decode cX7_init 4 = .ok (.aload_n 0, 1) := by decide +kernel
theorem dX7_init_5 : decode cX7_init 5 = .ok (.bipush 9, 2) := by decide +kernel
theorem dX7_init_7 : decode cX7_init 7 = .ok (.anewarray 9, 3) := by decide +kernel
theorem dX7_init_10 : decode cX7_init 10 = .ok (.putfield 11, 3) := by decide +kernel
theorem dX7_init_13 : decode cX7_init 13 = .ok (.aload_n 0, 1) := by decide +kernel
theorem dX7_init_14 : decode cX7_init 14 = .ok (.sipush 200, 3) := by decide +kernel
theorem dX7_init_17 : decode cX7_init 17 = .ok (.newarray .int, 2) := by decide +kernel
theorem dX7_init_19 : decode cX7_init 19 = .ok (.putfield 17, 3) := by decide +kernel
theorem dX7_init_22 : decode cX7_init 22 = .ok (.aload_n 0, 1) := by decide +kernel
theorem dX7_init_23 : decode cX7_init 23 = .ok (.bipush 120, 2) := by decide +kernel
theorem dX7_init_25 : decode cX7_init 25 = .ok (.newarray .int, 2) := by decide +kernel
theorem dX7_init_27 : decode cX7_init 27 = .ok (.putfield 21, 3) := by decide +kernel
theorem dX7_init_30 : decode cX7_init 30 = .ok (.aload_n 0, 1) := by decide +kernel
theorem dX7_init_31 : decode cX7_init 31 = .ok (.bipush 120, 2) := by decide +kernel
theorem dX7_init_33 : decode cX7_init 33 = .ok (.newarray .int, 2) := by decide +kernel
theorem dX7_init_35 : decode cX7_init 35 = .ok (.putfield 24, 3) := by decide +kernel
theorem dX7_init_38 : decode cX7_init 38 = .ok (.aload_n 0, 1) := by decide +kernel
theorem dX7_init_39 : decode cX7_init 39 = .ok (.bipush 120, 2) := by decide +kernel
theorem dX7_init_41 : decode cX7_init 41 = .ok (.newarray .int, 2) := by decide +kernel
theorem dX7_init_43 : decode cX7_init 43 = .ok (.putfield 27, 3) := by decide +kernel
theorem dX7_init_46 : decode cX7_init 46 = .ok (.return_, 1) := by decide +kernel
theorem dX7_gather_0 : decode cX7_gather 0 = .ok (.aload_n 0, 1) := by decide +kernel
theorem dX7_gather_1 : decode cX7_gather 1 = .ok (.iconst 0, 1) := by decide +kernel
theorem dX7_gather_2 : decode cX7_gather 2 = .ok (.putfield 30, 3) := by decide +kernel
theorem dX7_gather_5 : decode cX7_gather 5 = .ok (.iconst 0, 1) := by decide +kernel
theorem dX7_gather_6 : decode cX7_gather 6 = .ok (.istore_n 2, 1) := by decide +kernel
theorem dX7_gather_7 : decode cX7_gather 7 = .ok (.iload_n 2, 1) := by decide +kernel
theorem dX7_gather_8 : decode cX7_gather 8 = .ok (.bipush 9, 2) := by decide +kernel
theorem dX7_gather_10 : decode cX7_gather 10 = .ok (.if_icmp .ge 16, 3) := by decide +kernel
theorem dX7_gather_13 : decode cX7_gather 13 = .ok (.aload_n 0, 1) := by decide +kernel
theorem dX7_gather_14 : decode cX7_gather 14 = .ok (.getfield 11, 3) := by decide +kernel
theorem dX7_gather_17 : decode cX7_gather 17 = .ok (.iload_n 2, 1) := by decide +kernel
theorem dX7_gather_18 : decode cX7_gather 18 = .ok (.aconst_null, 1) := by decide +kernel
theorem dX7_gather_19 : decode cX7_gather 19 = .ok (.aastore, 1) := by decide +kernel
theorem dX7_gather_20 : decode cX7_gather 20 = .ok (.iinc 2 1, 3) := by decide +kernel
theorem dX7_gather_23 : decode cX7_gather 23 = .ok (.goto (-16), 3) := by decide +kernel
theorem dX7_gather_26 : decode cX7_gather 26 = .ok (.aload_n 0, 1) := by decide +kernel
theorem dX7_gather_27 : decode cX7_gather 27 = .ok (.getfield 21, 3) := by decide +kernel
theorem dX7_gather_30 : decode cX7_gather 30 = .ok (.iconst 0, 1) := by decide +kernel
theorem dX7_gather_31 : decode cX7_gather 31 = .ok (.invokestatic 34, 3) := by decide +kernel
theorem dX7_gather_34 : decode cX7_gather 34 = .ok (.aload_n 0, 1) := by decide +kernel
theorem dX7_gather_35 : decode cX7_gather 35 = .ok (.getfield 24, 3) := by decide +kernel
theorem dX7_gather_38 : decode cX7_gather 38 = .ok (.iconst 0, 1) := by decide +kernel
theorem dX7_gather_39 : decode cX7_gather 39 = .ok (.invokestatic 34, 3) := by decide +kernel
theorem dX7_gather_42 : decode cX7_gather 42 = .ok (.aload_n 1, 1) := by decide +kernel
theorem dX7_gather_43 : decode cX7_gather 43 = .ok (.invokevirtual 40, 3) := by decide +kernel
theorem dX7_gather_46 : decode cX7_gather 46 = .ok (.istore_n 2, 1) := by decide +kernel
theorem dX7_gather_47 : decode cX7_gather 47 = .ok (.iconst 1, 1) := by decide +kernel
theorem dX7_gather_48 : decode cX7_gather 48 = .ok (.istore_n 3, 1) := by decide +kernel
theorem dX7_gather_49 : decode cX7_gather 49 = .ok (.iload_n 3, 1) := by decide +kernel
theorem dX7_gather_50 : decode cX7_gather 50 = .ok (.iload_n 2, 1) := by decide +kernel
theorem dX7_gather_51 : decode cX7_gather 51 = .ok (.if_icmp .gt 24, 3) := by decide +kernel
theorem dX7_gather_54 : decode cX7_gather 54 = .ok (.aload_n 1, 1) := by decide +kernel
theorem dX7_gather_55 : decode cX7_gather 55 = .ok (.iload_n 3, 1) := by decide +kernel
theorem dX7_gather_56 : decode cX7_gather 56 = .ok (.iload_n 2, 1) := by decide +kernel
theorem dX7_gather_57 : decode cX7_gather 57 = .ok (.invokevirtual 46, 3) := by decide +kernel
theorem dX7_gather_60 : decode cX7_gather 60 = .ok (.ifCond .eq 9, 3) := by decide +kernel
theorem dX7_gather_63 : decode cX7_gather 63 = .ok (.aload_n 0, 1) := by decide +kernel
theorem dX7_gather_64 : decode cX7_gather 64 = .ok (.aload_n 1, 1) := by decide +kernel
theorem dX7_gather_65 : decode cX7_gather 65 = .ok (.iload_n 3, 1) := by decide +kernel
theorem dX7_gather_66 : decode cX7_gather 66 = .ok (.invokevirtual 50, 3) := by decide +kernel
theorem dX7_gather_69 : decode cX7_gather 69 = .ok (.iinc 3 1, 3) := by decide +kernel
theorem dX7_gather_72 : decode cX7_gather 72 = .ok (.goto (-23), 3) := by decide +kernel
theorem dX7_gather_75 : decode cX7_gather 75 = .ok (.return_, 1) := by decide +kernel
theorem dX7_note_0 : decode cX7_note 0 = .ok (.aload_n 1, 1) := by decide +kernel
theorem dX7_note_1 : decode cX7_note 1 = .ok (.getfield 54, 3) := by decide +kernel
theorem dX7_note_4 : decode cX7_note 4 = .ok (.iload_n 2, 1) := by decide +kernel
theorem dX7_note_5 : decode cX7_note 5 = .ok (.iaload, 1) := by decide +kernel
theorem dX7_note_6 : decode cX7_note 6 = .ok (.istore_n 3, 1) := by decide +kernel
theorem dX7_note_7 : decode cX7_note 7 = .ok (.aload_n 1, 1) := by decide +kernel
theorem dX7_note_8 : decode cX7_note 8 = .ok (.iload_n 2, 1) := by decide +kernel
theorem dX7_note_9 : decode cX7_note 9 = .ok (.invokevirtual 57, 3) := by decide +kernel
theorem dX7_note_12 : decode cX7_note 12 = .ok (.ifCond .eq 18, 3) := by decide +kernel
theorem dX7_note_15 : decode cX7_note 15 = .ok (.aload_n 0, 1) := by decide +kernel
theorem dX7_note_16 : decode cX7_note 16 = .ok (.getfield 11, 3) := by decide +kernel
theorem dX7_note_19 : decode cX7_note 19 = .ok (.iload_n 3, 1) := by decide +kernel
theorem dX7_note_20 : decode cX7_note 20 = .ok (.aload_n 1, 1) := by decide +kernel
theorem dX7_note_21 : decode cX7_note 21 = .ok (.getfield 61, 3) := by decide +kernel
theorem dX7_note_24 : decode cX7_note 24 = .ok (.iload_n 2, 1) := by decide +kernel
theorem dX7_note_25 : decode cX7_note 25 = .ok (.aaload, 1) := by decide +kernel
theorem dX7_note_26 : decode cX7_note 26 = .ok (.aastore, 1) := by decide +kernel
theorem dX7_note_27 : decode cX7_note 27 = .ok (.goto 73, 3) := by decide +kernel
theorem dX7_note_30 : decode cX7_note 30 = .ok (.aload_n 1, 1) := by decide +kernel
theorem dX7_note_31 : decode cX7_note 31 = .ok (.iload_n 2, 1) := by decide +kernel
theorem dX7_note_32 : decode cX7_note 32 = .ok (.invokevirtual 64, 3) := by decide +kernel
theorem dX7_note_35 : decode cX7_note 35 = .ok (.ifCond .eq 65, 3) := by decide +kernel
theorem dX7_note_38 : decode cX7_note 38 = .ok (.aload_n 0, 1) := by decide +kernel
theorem dX7_note_39 : decode cX7_note 39 = .ok (.getfield 30, 3) := by decide +kernel
theorem dX7_note_42 : decode cX7_note 42 = .ok (.sipush 200, 3) := by decide +kernel
theorem dX7_note_45 : decode cX7_note 45 = .ok (.if_icmp .ge 55, 3) := by decide +kernel
theorem dX7_note_48 : decode cX7_note 48 = .ok (.aload_n 1, 1) := by decide +kernel
theorem dX7_note_49 : decode cX7_note 49 = .ok (.getfield 67, 3) := by decide +kernel
theorem dX7_note_52 : decode cX7_note 52 = .ok (.iload_n 2, 1) := by decide +kernel
theorem dX7_note_53 : decode cX7_note 53 = .ok (.iaload, 1) := by decide +kernel
theorem dX7_note_54 : decode cX7_note 54 = .ok (.istore 4, 2) := by decide +kernel
theorem dX7_note_56 : decode cX7_note 56 = .ok (.aload_n 0, 1) := by decide +kernel
theorem dX7_note_57 : decode cX7_note 57 = .ok (.getfield 21, 3) := by decide +kernel
theorem dX7_note_60 : decode cX7_note 60 = .ok (.iload 4, 2) := by decide +kernel
theorem dX7_note_62 : decode cX7_note 62 = .ok (.dup2, 1) := by decide +kernel
theorem dX7_note_63 : decode cX7_note 63 = .ok (.iaload, 1) := by decide +kernel
theorem dX7_note_64 : decode cX7_note 64 = .ok (.iconst 1, 1) := by decide +kernel
theorem dX7_note_65 : decode cX7_note 65 = .ok (.iload_n 3, 1) := by decide +kernel
theorem dX7_note_66 : decode cX7_note 66 = .ok (.ishl, 1) := by decide +kernel
theorem dX7_note_67 : decode cX7_note 67 = .ok (.ior, 1) := by decide +kernel
theorem dX7_note_68 : decode cX7_note 68 = .ok (.iastore, 1) := by decide +kernel
theorem dX7_note_69 : decode cX7_note 69 = .ok (.aload_n 0, 1) := by decide +kernel
theorem dX7_note_70 : decode cX7_note 70 = .ok (.getfield 24, 3) := by decide +kernel
theorem dX7_note_73 : decode cX7_note 73 = .ok (.iload 4, 2) := by decide +kernel
theorem dX7_note_75 : decode cX7_note 75 = .ok (.dup2, 1) := by decide +kernel
theorem dX7_note_76 : decode cX7_note 76 = .ok (.iaload, 1) := by decide +kernel
theorem dX7_note_77 : decode cX7_note 77 = .ok (.iconst 1, 1) := by decide +kernel
theorem dX7_note_78 : decode cX7_note 78 = .ok (.iadd, 1) := by decide +kernel
theorem dX7_note_79 : decode cX7_note 79 = .ok (.iastore, 1) := by decide +kernel
theorem dX7_note_80 : decode cX7_note 80 = .ok (.aload_n 0, 1) := by decide +kernel
theorem dX7_note_81 : decode cX7_note 81 = .ok (.getfield 17, 3) := by decide +kernel
theorem dX7_note_84 : decode cX7_note 84 = .ok (.aload_n 0, 1) := by decide +kernel
theorem dX7_note_85 : decode cX7_note 85 = .ok (.getfield 30, 3) := by decide +kernel
theorem dX7_note_88 : decode cX7_note 88 = .ok (.iload_n 2, 1) := by decide +kernel
theorem dX7_note_89 : decode cX7_note 89 = .ok (.iastore, 1) := by decide +kernel
theorem dX7_note_90 : decode cX7_note 90 = .ok (.aload_n 0, 1) := by decide +kernel
theorem dX7_note_91 : decode cX7_note 91 = .ok (.dup, 1) := by decide +kernel
theorem dX7_note_92 : decode cX7_note 92 = .ok (.getfield 30, 3) := by decide +kernel
theorem dX7_note_95 : decode cX7_note 95 = .ok (.iconst 1, 1) := by decide +kernel
theorem dX7_note_96 : decode cX7_note 96 = .ok (.iadd, 1) := by decide +kernel
theorem dX7_note_97 : decode cX7_note 97 = .ok (.putfield 30, 3) := by decide +kernel
theorem dX7_note_100 : decode cX7_note 100 = .ok (.return_, 1) := by decide +kernel
theorem dX8_init_0 : decode cX8_init 0 = .ok (.aload_n 0, 1) := by decide +kernel
theorem dX8_init_1 : decode cX8_init 1 = .ok (.invokespecial 3, 3) := by decide +kernel
theorem dX8_init_4 : decode cX8_init 4 = .ok (.aload_n 0, 1) := by decide +kernel
theorem dX8_init_5 : decode cX8_init 5 = .ok (.bipush 8, 2) := by decide +kernel
theorem dX8_init_7 : decode cX8_init 7 = .ok (.newarray .int, 2) := by decide +kernel
theorem dX8_init_9 : decode cX8_init 9 = .ok (.putfield 9, 3) := by decide +kernel
theorem dX8_init_12 : decode cX8_init 12 = .ok (.aload_n 0, 1) := by decide +kernel
theorem dX8_init_13 : decode cX8_init 13 = .ok (.iconst 3, 1) := by decide +kernel
theorem dX8_init_14 : decode cX8_init 14 = .ok (.newarray .int, 2) := by decide +kernel
theorem dX8_init_16 : decode cX8_init 16 = .ok (.putfield 15, 3) := by decide +kernel
theorem dX8_init_19 : decode cX8_init 19 = .ok (.aload_n 0, 1) := by decide +kernel
theorem dX8_init_20 : decode cX8_init 20 = .ok (.iconst 3, 1) := by decide +kernel
theorem dX8_init_21 : decode cX8_init 21 = .ok (.newarray .int, 2) := by decide +kernel
theorem dX8_init_23 : decode cX8_init 23 = .ok (.putfield 18, 3) := by decide +kernel
theorem dX8_init_26 : decode cX8_init 26 = .ok (.aload_n 0, 1) := by decide +kernel
theorem dX8_init_27 : decode cX8_init 27 = .ok (.aload_n 1, 1) := by decide +kernel
theorem dX8_init_28 : decode cX8_init 28 = .ok (.putfield 21, 3) := by decide +kernel
theorem dX8_init_31 : decode cX8_init 31 = .ok (.aload_n 0, 1) := by decide +kernel
theorem dX8_init_32 : decode cX8_init 32 = .ok (.aload_n 2, 1) := by decide +kernel
theorem dX8_init_33 : decode cX8_init 33 = .ok (.putfield 25, 3) := by decide +kernel
theorem dX8_init_36 : decode cX8_init 36 = .ok (.return_, 1) := by decide +kernel
theorem dX8_forget_0 : decode cX8_forget 0 = .ok (.aload_n 0, 1) := by decide +kernel
theorem dX8_forget_1 : decode cX8_forget 1 = .ok (.iconst 0, 1) := by decide +kernel
theorem dX8_forget_2 : decode cX8_forget 2 = .ok (.putfield 29, 3) := by decide +kernel
theorem dX8_forget_5 : decode cX8_forget 5 = .ok (.aload_n 0, 1) := by decide +kernel
theorem dX8_forget_6 : decode cX8_forget 6 = .ok (.iconst 0, 1) := by decide +kernel
theorem dX8_forget_7 : decode cX8_forget 7 = .ok (.putfield 33, 3) := by decide +kernel
theorem dX8_forget_10 : decode cX8_forget 10 = .ok (.return_, 1) := by decide +kernel
theorem dX8_isTold_0 : decode cX8_isTold 0 = .ok (.iconst 0, 1) := by decide +kernel
theorem dX8_isTold_1 : decode cX8_isTold 1 = .ok (.istore_n 2, 1) := by decide +kernel
theorem dX8_isTold_2 : decode cX8_isTold 2 = .ok (.iload_n 2, 1) := by decide +kernel
theorem dX8_isTold_3 : decode cX8_isTold 3 = .ok (.aload_n 0, 1) := by decide +kernel
theorem dX8_isTold_4 : decode cX8_isTold 4 = .ok (.getfield 29, 3) := by decide +kernel
theorem dX8_isTold_7 : decode cX8_isTold 7 = .ok (.if_icmp .ge 21, 3) := by decide +kernel
theorem dX8_isTold_10 : decode cX8_isTold 10 = .ok (.aload_n 0, 1) := by decide +kernel
theorem dX8_isTold_11 : decode cX8_isTold 11 = .ok (.getfield 9, 3) := by decide +kernel
theorem dX8_isTold_14 : decode cX8_isTold 14 = .ok (.iload_n 2, 1) := by decide +kernel
theorem dX8_isTold_15 : decode cX8_isTold 15 = .ok (.iaload, 1) := by decide +kernel
theorem dX8_isTold_16 : decode cX8_isTold 16 = .ok (.iload_n 1, 1) := by decide +kernel
theorem dX8_isTold_17 : decode cX8_isTold 17 = .ok (.if_icmp .ne 5, 3) := by decide +kernel
theorem dX8_isTold_20 : decode cX8_isTold 20 = .ok (.iconst 1, 1) := by decide +kernel
theorem dX8_isTold_21 : decode cX8_isTold 21 = .ok (.ireturn, 1) := by decide +kernel
theorem dX8_isTold_22 : decode cX8_isTold 22 = .ok (.iinc 2 1, 3) := by decide +kernel
theorem dX8_isTold_25 : decode cX8_isTold 25 = .ok (.goto (-23), 3) := by decide +kernel
theorem dX8_isTold_28 : decode cX8_isTold 28 = .ok (.iconst 0, 1) := by decide +kernel
theorem dX8_isTold_29 : decode cX8_isTold 29 = .ok (.ireturn, 1) := by decide +kernel
theorem dX8_order_0 : decode cX8_order 0 = .ok (.aload_n 0, 1) := by decide +kernel
theorem dX8_order_1 : decode cX8_order 1 = .ok (.iload_n 1, 1) := by decide +kernel
theorem dX8_order_2 : decode cX8_order 2 = .ok (.putfield 36, 3) := by decide +kernel
theorem dX8_order_5 : decode cX8_order 5 = .ok (.aload_n 0, 1) := by decide +kernel
theorem dX8_order_6 : decode cX8_order 6 = .ok (.iload_n 2, 1) := by decide +kernel
theorem dX8_order_7 : decode cX8_order 7 = .ok (.putfield 39, 3) := by decide +kernel
theorem dX8_order_10 : decode cX8_order 10 = .ok (.aload_n 0, 1) := by decide +kernel
theorem dX8_order_11 : decode cX8_order 11 = .ok (.iload_n 3, 1) := by decide +kernel
theorem dX8_order_12 : decode cX8_order 12 = .ok (.putfield 42, 3) := by decide +kernel
theorem dX8_order_15 : decode cX8_order 15 = .ok (.return_, 1) := by decide +kernel
theorem dX8_seek_0 : decode cX8_seek 0 = .ok (.iconst 0, 1) := by decide +kernel
theorem dX8_seek_1 : decode cX8_seek 1 = .ok (.istore 5, 2) := by decide +kernel
theorem dX8_seek_3 : decode cX8_seek 3 = .ok (.iload 5, 2) := by decide +kernel
theorem dX8_seek_5 : decode cX8_seek 5 = .ok (.iload_n 1, 1) := by decide +kernel
theorem dX8_seek_6 : decode cX8_seek 6 = .ok (.if_icmp .ge 18, 3) := by decide +kernel
theorem dX8_seek_9 : decode cX8_seek 9 = .ok (.aload_n 0, 1) := by decide +kernel
theorem dX8_seek_10 : decode cX8_seek 10 = .ok (.getfield 18, 3) := by decide +kernel
theorem dX8_seek_13 : decode cX8_seek 13 = .ok (.iload 5, 2) := by decide +kernel
theorem dX8_seek_15 : decode cX8_seek 15 = .ok (.iload 5, 2) := by decide +kernel
theorem dX8_seek_17 : decode cX8_seek 17 = .ok (.iastore, 1) := by decide +kernel
theorem dX8_seek_18 : decode cX8_seek 18 = .ok (.iinc 5 1, 3) := by decide +kernel
theorem dX8_seek_21 : decode cX8_seek 21 = .ok (.goto (-18), 3) := by decide +kernel
theorem dX8_seek_24 : decode cX8_seek 24 = .ok (.aload_n 0, 1) := by decide +kernel
theorem dX8_seek_25 : decode cX8_seek 25 = .ok (.getfield 21, 3) := by decide +kernel
theorem dX8_seek_28 : decode cX8_seek 28 = .ok (.getfield 45, 3) := by decide +kernel
theorem dX8_seek_31 : decode cX8_seek 31 = .ok (.istore 5, 2) := by decide +kernel
theorem dX8_seek_33 : decode cX8_seek 33 = .ok (.iconst (-1), 1) := by decide +kernel
theorem dX8_seek_34 : decode cX8_seek 34 = .ok (.istore 6, 2) := by decide +kernel
theorem dX8_seek_36 : decode cX8_seek 36 = .ok (.iconst 1, 1) := by decide +kernel
theorem dX8_seek_37 : decode cX8_seek 37 = .ok (.istore 7, 2) := by decide +kernel
theorem dX8_seek_39 : decode cX8_seek 39 = .ok (.iconst 0, 1) := by decide +kernel
theorem dX8_seek_40 : decode cX8_seek 40 = .ok (.istore 8, 2) := by decide +kernel
theorem dX8_seek_42 : decode cX8_seek 42 = .ok (.iload 8, 2) := by decide +kernel
theorem dX8_seek_44 : decode cX8_seek 44 = .ok (.bipush 56, 2) := by decide +kernel
theorem dX8_seek_46 : decode cX8_seek 46 = .ok (.if_icmp .ge 78, 3) := by decide +kernel
theorem dX8_seek_49 : decode cX8_seek 49 = .ok (.iload 7, 2) := by decide +kernel
theorem dX8_seek_51 : decode cX8_seek 51 = .ok (.ifCond .eq 73, 3) := by decide +kernel
theorem dX8_seek_54 : decode cX8_seek 54 = .ok (.aload_n 0, 1) := by decide +kernel
theorem dX8_seek_55 : decode cX8_seek 55 = .ok (.iload_n 1, 1) := by decide +kernel
theorem dX8_seek_56 : decode cX8_seek 56 = .ok (.invokevirtual 50, 3) := by decide +kernel
theorem dX8_seek_59 : decode cX8_seek 59 = .ok (.aload_n 0, 1) := by decide +kernel
theorem dX8_seek_60 : decode cX8_seek 60 = .ok (.getfield 25, 3) := by decide +kernel
theorem dX8_seek_63 : decode cX8_seek 63 = .ok (.iload_n 2, 1) := by decide +kernel
theorem dX8_seek_64 : decode cX8_seek 64 = .ok (.iload_n 3, 1) := by decide +kernel
theorem dX8_seek_65 : decode cX8_seek 65 = .ok (.aload 4, 2) := by decide +kernel
theorem dX8_seek_67 : decode cX8_seek 67 = .ok (.invokevirtual 54, 3) := by decide +kernel
theorem dX8_seek_70 : decode cX8_seek 70 = .ok (.aload_n 0, 1) := by decide +kernel
theorem dX8_seek_71 : decode cX8_seek 71 = .ok (.getfield 21, 3) := by decide +kernel
theorem dX8_seek_74 : decode cX8_seek 74 = .ok (.iload 5, 2) := by decide +kernel
theorem dX8_seek_76 : decode cX8_seek 76 = .ok (.putfield 45, 3) := by decide +kernel
theorem dX8_seek_79 : decode cX8_seek 79 = .ok (.iload 6, 2) := by decide +kernel
theorem dX8_seek_81 : decode cX8_seek 81 = .ok (.iconst (-1), 1) := by decide +kernel
theorem dX8_seek_82 : decode cX8_seek 82 = .ok (.if_icmp .eq 15, 3) := by decide +kernel
theorem dX8_seek_85 : decode cX8_seek 85 = .ok (.aload_n 0, 1) := by decide +kernel
theorem dX8_seek_86 : decode cX8_seek 86 = .ok (.getfield 25, 3) := by decide +kernel
theorem dX8_seek_89 : decode cX8_seek 89 = .ok (.getfield 60, 3) := by decide +kernel
theorem dX8_seek_92 : decode cX8_seek 92 = .ok (.iload 6, 2) := by decide +kernel
theorem dX8_seek_94 : decode cX8_seek 94 = .ok (.if_icmp .ge 17, 3) := by decide +kernel
theorem dX8_seek_97 : decode cX8_seek 97 = .ok (.aload_n 0, 1) := by decide +kernel
theorem dX8_seek_98 : decode cX8_seek 98 = .ok (.getfield 25, 3) := by decide +kernel
theorem dX8_seek_101 : decode cX8_seek 101 = .ok (.getfield 60, 3) := by decide +kernel
theorem dX8_seek_104 : decode cX8_seek 104 = .ok (.istore 6, 2) := by decide +kernel
theorem dX8_seek_106 : decode cX8_seek 106 = .ok (.aload_n 0, 1) := by decide +kernel
theorem dX8_seek_107 : decode cX8_seek 107 = .ok (.iload_n 1, 1) := by decide +kernel
theorem dX8_seek_108 : decode cX8_seek 108 = .ok (.invokevirtual 63, 3) := by decide +kernel
theorem dX8_seek_111 : decode cX8_seek 111 = .ok (.aload_n 0, 1) := by decide +kernel
theorem dX8_seek_112 : decode cX8_seek 112 = .ok (.iload_n 1, 1) := by decide +kernel
theorem dX8_seek_113 : decode cX8_seek 113 = .ok (.invokevirtual 66, 3) := by decide +kernel
theorem dX8_seek_116 : decode cX8_seek 116 = .ok (.istore 7, 2) := by decide +kernel
theorem dX8_seek_118 : decode cX8_seek 118 = .ok (.iinc 8 1, 3) := by decide +kernel
theorem dX8_seek_121 : decode cX8_seek 121 = .ok (.goto (-79), 3) := by decide +kernel
theorem dX8_seek_124 : decode cX8_seek 124 = .ok (.iload 6, 2) := by decide +kernel
theorem dX8_seek_126 : decode cX8_seek 126 = .ok (.ireturn, 1) := by decide +kernel
theorem dX8_addChosen_0 : decode cX8_addChosen 0 = .ok (.iconst 0, 1) := by decide +kernel
theorem dX8_addChosen_1 : decode cX8_addChosen 1 = .ok (.istore_n 2, 1) := by decide +kernel
theorem dX8_addChosen_2 : decode cX8_addChosen 2 = .ok (.iload_n 2, 1) := by decide +kernel
theorem dX8_addChosen_3 : decode cX8_addChosen 3 = .ok (.iload_n 1, 1) := by decide +kernel
theorem dX8_addChosen_4 : decode cX8_addChosen 4 = .ok (.if_icmp .ge 39, 3) := by decide +kernel
theorem dX8_addChosen_7 : decode cX8_addChosen 7 = .ok (.aload_n 0, 1) := by decide +kernel
theorem dX8_addChosen_8 : decode cX8_addChosen 8 = .ok (.getfield 21, 3) := by decide +kernel
theorem dX8_addChosen_11 : decode cX8_addChosen 11 = .ok (.aload_n 0, 1) := by decide +kernel
theorem dX8_addChosen_12 : decode cX8_addChosen 12 = .ok (.getfield 36, 3) := by decide +kernel
theorem dX8_addChosen_15 : decode cX8_addChosen 15 = .ok (.aload_n 0, 1) := by decide +kernel
theorem dX8_addChosen_16 : decode cX8_addChosen 16 = .ok (.getfield 9, 3) := by decide +kernel
theorem dX8_addChosen_19 : decode cX8_addChosen 19 = .ok (.aload_n 0, 1) := by decide +kernel
theorem dX8_addChosen_20 : decode cX8_addChosen 20 = .ok (.getfield 18, 3) := by decide +kernel
theorem dX8_addChosen_23 : decode cX8_addChosen 23 = .ok (.iload_n 2, 1) := by decide +kernel
theorem dX8_addChosen_24 : decode cX8_addChosen 24 = .ok (.iaload, 1) := by decide +kernel
theorem dX8_addChosen_25 : decode cX8_addChosen 25 = .ok (.iaload, 1) := by decide +kernel
theorem dX8_addChosen_26 : decode cX8_addChosen 26 = .ok (.aload_n 0, 1) := by decide +kernel
theorem dX8_addChosen_27 : decode cX8_addChosen 27 = .ok (.getfield 39, 3) := by decide +kernel
theorem dX8_addChosen_30 : decode cX8_addChosen 30 = .ok (.aload_n 0, 1) := by decide +kernel
theorem dX8_addChosen_31 : decode cX8_addChosen 31 = .ok (.getfield 42, 3) := by decide +kernel
theorem dX8_addChosen_34 : decode cX8_addChosen 34 = .ok (.invokevirtual 70, 3) := by decide +kernel
theorem dX8_addChosen_37 : decode cX8_addChosen 37 = .ok (.iinc 2 1, 3) := by decide +kernel
theorem dX8_addChosen_40 : decode cX8_addChosen 40 = .ok (.goto (-38), 3) := by decide +kernel
theorem dX8_addChosen_43 : decode cX8_addChosen 43 = .ok (.return_, 1) := by decide +kernel
theorem dX8_keep_0 : decode cX8_keep 0 = .ok (.aload_n 0, 1) := by decide +kernel
theorem dX8_keep_1 : decode cX8_keep 1 = .ok (.iload_n 1, 1) := by decide +kernel
theorem dX8_keep_2 : decode cX8_keep 2 = .ok (.putfield 33, 3) := by decide +kernel
theorem dX8_keep_5 : decode cX8_keep 5 = .ok (.iconst 0, 1) := by decide +kernel
theorem dX8_keep_6 : decode cX8_keep 6 = .ok (.istore_n 2, 1) := by decide +kernel
theorem dX8_keep_7 : decode cX8_keep 7 = .ok (.iload_n 2, 1) := by decide +kernel
theorem dX8_keep_8 : decode cX8_keep 8 = .ok (.iload_n 1, 1) := by decide +kernel
theorem dX8_keep_9 : decode cX8_keep 9 = .ok (.if_icmp .ge 26, 3) := by decide +kernel
theorem dX8_keep_12 : decode cX8_keep 12 = .ok (.aload_n 0, 1) := by decide +kernel
theorem dX8_keep_13 : decode cX8_keep 13 = .ok (.getfield 15, 3) := by decide +kernel
theorem dX8_keep_16 : decode cX8_keep 16 = .ok (.iload_n 2, 1) := by decide +kernel
theorem dX8_keep_17 : decode cX8_keep 17 = .ok (.aload_n 0, 1) := by decide +kernel
theorem dX8_keep_18 : decode cX8_keep 18 = .ok (.getfield 9, 3) := by decide +kernel
theorem dX8_keep_21 : decode cX8_keep 21 = .ok (.aload_n 0, 1) := by decide +kernel
theorem dX8_keep_22 : decode cX8_keep 22 = .ok (.getfield 18, 3) := by decide +kernel
theorem dX8_keep_25 : decode cX8_keep 25 = .ok (.iload_n 2, 1) := by decide +kernel
theorem dX8_keep_26 : decode cX8_keep 26 = .ok (.iaload, 1) := by decide +kernel
theorem dX8_keep_27 : decode cX8_keep 27 = .ok (.iaload, 1) := by decide +kernel
theorem dX8_keep_28 : decode cX8_keep 28 = .ok (.iastore, 1) := by decide +kernel
theorem dX8_keep_29 : decode cX8_keep 29 = .ok (.iinc 2 1, 3) := by decide +kernel
theorem dX8_keep_32 : decode cX8_keep 32 = .ok (.goto (-25), 3) := by decide +kernel
theorem dX8_keep_35 : decode cX8_keep 35 = .ok (.return_, 1) := by decide +kernel
theorem dX8_chooseNext_0 : decode cX8_chooseNext 0 = .ok (.iload_n 1, 1) := by decide +kernel
theorem dX8_chooseNext_1 : decode cX8_chooseNext 1 = .ok (.iconst 1, 1) := by decide +kernel
theorem dX8_chooseNext_2 : decode cX8_chooseNext 2 = .ok (.isub, 1) := by decide +kernel
theorem dX8_chooseNext_3 : decode cX8_chooseNext 3 = .ok (.istore_n 2, 1) := by decide +kernel
theorem dX8_chooseNext_4 : decode cX8_chooseNext 4 = .ok (.iload_n 2, 1) := by decide +kernel
theorem dX8_chooseNext_5 : decode cX8_chooseNext 5 = .ok (.ifCond .lt 69, 3) := by decide +kernel
theorem dX8_chooseNext_8 : decode cX8_chooseNext 8 = .ok (.aload_n 0, 1) := by decide +kernel
theorem dX8_chooseNext_9 : decode cX8_chooseNext 9 = .ok (.getfield 18, 3) := by decide +kernel
theorem dX8_chooseNext_12 : decode cX8_chooseNext 12 = .ok (.iload_n 2, 1) := by decide +kernel
theorem dX8_chooseNext_13 : decode cX8_chooseNext 13 = .ok (.iaload, 1) := by decide +kernel
theorem dX8_chooseNext_14 : decode cX8_chooseNext 14 = .ok (.aload_n 0, 1) := by decide +kernel
theorem dX8_chooseNext_15 : decode cX8_chooseNext 15 = .ok (.getfield 29, 3) := by decide +kernel
theorem dX8_chooseNext_18 : decode cX8_chooseNext 18 = .ok (.iload_n 1, 1) := by decide +kernel
theorem dX8_chooseNext_19 : decode cX8_chooseNext 19 = .ok (.isub, 1) := by decide +kernel
theorem dX8_chooseNext_20 : decode cX8_chooseNext 20 = .ok (.iload_n 2, 1) := by decide +kernel
theorem dX8_chooseNext_21 : decode cX8_chooseNext 21 = .ok (.iadd, 1) := by decide +kernel
theorem dX8_chooseNext_22 : decode cX8_chooseNext 22 = .ok (.if_icmp .ge 46, 3) := by decide +kernel
theorem dX8_chooseNext_25 : decode cX8_chooseNext 25 = .ok (.aload_n 0, 1) := by decide +kernel
theorem dX8_chooseNext_26 : decode cX8_chooseNext 26 = .ok (.getfield 18, 3) := by decide +kernel
theorem dX8_chooseNext_29 : decode cX8_chooseNext 29 = .ok (.iload_n 2, 1) := by decide +kernel
theorem dX8_chooseNext_30 : decode cX8_chooseNext 30 = .ok (.dup2, 1) := by decide +kernel
theorem dX8_chooseNext_31 : decode cX8_chooseNext 31 = .ok (.iaload, 1) := by decide +kernel
theorem dX8_chooseNext_32 : decode cX8_chooseNext 32 = .ok (.iconst 1, 1) := by decide +kernel
theorem dX8_chooseNext_33 : decode cX8_chooseNext 33 = .ok (.iadd, 1) := by decide +kernel
theorem dX8_chooseNext_34 : decode cX8_chooseNext 34 = .ok (.iastore, 1) := by decide +kernel
theorem dX8_chooseNext_35 : decode cX8_chooseNext 35 = .ok (.iload_n 2, 1) := by decide +kernel
theorem dX8_chooseNext_36 : decode cX8_chooseNext 36 = .ok (.iconst 1, 1) := by decide +kernel
theorem dX8_chooseNext_37 : decode cX8_chooseNext 37 = .ok (.iadd, 1) := by decide +kernel
theorem dX8_chooseNext_38 : decode cX8_chooseNext 38 = .ok (.istore_n 3, 1) := by decide +kernel
theorem dX8_chooseNext_39 : decode cX8_chooseNext 39 = .ok (.iload_n 3, 1) := by decide +kernel
theorem dX8_chooseNext_40 : decode cX8_chooseNext 40 = .ok (.iload_n 1, 1) := by decide +kernel
theorem dX8_chooseNext_41 : decode cX8_chooseNext 41 = .ok (.if_icmp .ge 25, 3) := by decide +kernel
theorem dX8_chooseNext_44 : decode cX8_chooseNext 44 = .ok (.aload_n 0, 1) := by decide +kernel
theorem dX8_chooseNext_45 : decode cX8_chooseNext 45 = .ok (.getfield 18, 3) := by decide +kernel
theorem dX8_chooseNext_48 : decode cX8_chooseNext 48 = .ok (.iload_n 3, 1) := by decide +kernel
theorem dX8_chooseNext_49 : decode cX8_chooseNext 49 = .ok (.aload_n 0, 1) := by decide +kernel
theorem dX8_chooseNext_50 : decode cX8_chooseNext 50 = .ok (.getfield 18, 3) := by decide +kernel
theorem dX8_chooseNext_53 : decode cX8_chooseNext 53 = .ok (.iload_n 3, 1) := by decide +kernel
theorem dX8_chooseNext_54 : decode cX8_chooseNext 54 = .ok (.iconst 1, 1) := by decide +kernel
theorem dX8_chooseNext_55 : decode cX8_chooseNext 55 = .ok (.isub, 1) := by decide +kernel
theorem dX8_chooseNext_56 : decode cX8_chooseNext 56 = .ok (.iaload, 1) := by decide +kernel
theorem dX8_chooseNext_57 : decode cX8_chooseNext 57 = .ok (.iconst 1, 1) := by decide +kernel
theorem dX8_chooseNext_58 : decode cX8_chooseNext 58 = .ok (.iadd, 1) := by decide +kernel
theorem dX8_chooseNext_59 : decode cX8_chooseNext 59 = .ok (.iastore, 1) := by decide +kernel
theorem dX8_chooseNext_60 : decode cX8_chooseNext 60 = .ok (.iinc 3 1, 3) := by decide +kernel
theorem dX8_chooseNext_63 : decode cX8_chooseNext 63 = .ok (.goto (-24), 3) := by decide +kernel
theorem dX8_chooseNext_66 : decode cX8_chooseNext 66 = .ok (.iconst 1, 1) := by decide +kernel
theorem dX8_chooseNext_67 : decode cX8_chooseNext 67 = .ok (.ireturn, 1) := by decide +kernel
theorem dX8_chooseNext_68 : decode cX8_chooseNext 68 = .ok (.iinc 2 (-1), 3) := by decide +kernel
theorem dX8_chooseNext_71 : decode cX8_chooseNext 71 = .ok (.goto (-67), 3) := by decide +kernel
theorem dX8_chooseNext_74 : decode cX8_chooseNext 74 = .ok (.iconst 0, 1) := by decide +kernel
theorem dX8_chooseNext_75 : decode cX8_chooseNext 75 = .ok (.ireturn, 1) := by decide +kernel
theorem dX10_init_0 : decode cX10_init 0 = .ok (.aload_n 0, 1) := by decide +kernel
theorem dX10_init_1 : decode cX10_init 1 = .ok (.invokespecial 3, 3) := by decide +kernel
theorem dX10_init_4 : decode cX10_init 4 = .ok (.aload_n 0, 1) := by decide +kernel
theorem dX10_init_5 : decode cX10_init 5 = .ok (.aload_n 1, 1) := by decide +kernel
theorem dX10_init_6 : decode cX10_init 6 = .ok (.getfield 9, 3) := by decide +kernel
theorem dX10_init_9 : decode cX10_init 9 = .ok (.putfield 15, 3) := by decide +kernel
theorem dX10_init_12 : decode cX10_init 12 = .ok (.aload_n 0, 1) := by decide +kernel
theorem dX10_init_13 : decode cX10_init 13 = .ok (.aload_n 1, 1) := by decide +kernel
theorem dX10_init_14 : decode cX10_init 14 = .ok (.getfield 18, 3) := by decide +kernel
theorem dX10_init_17 : decode cX10_init 17 = .ok (.aload_n 1, 1) := by decide +kernel
theorem dX10_init_18 : decode cX10_init 18 = .ok (.getfield 22, 3) := by decide +kernel
theorem dX10_init_21 : decode cX10_init 21 = .ok (.invokestatic 25, 3) := by decide +kernel
theorem dX10_init_24 : decode cX10_init 24 = .ok (.putfield 31, 3) := by decide +kernel
theorem dX10_init_27 : decode cX10_init 27 = .ok (.aload_n 0, 1) := by decide +kernel
theorem dX10_init_28 : decode cX10_init 28 = .ok (.aload_n 1, 1) := by decide +kernel
theorem dX10_init_29 : decode cX10_init 29 = .ok (.getfield 32, 3) := by decide +kernel
theorem dX10_init_32 : decode cX10_init 32 = .ok (.aload_n 1, 1) := by decide +kernel
theorem dX10_init_33 : decode cX10_init 33 = .ok (.getfield 9, 3) := by decide +kernel
theorem dX10_init_36 : decode cX10_init 36 = .ok (.invokestatic 25, 3) := by decide +kernel
theorem dX10_init_39 : decode cX10_init 39 = .ok (.putfield 35, 3) := by decide +kernel
theorem dX10_init_42 : decode cX10_init 42 = .ok (.aload_n 0, 1) := by decide +kernel
theorem dX10_init_43 : decode cX10_init 43 = .ok (.aload_n 1, 1) := by decide +kernel
theorem dX10_init_44 : decode cX10_init 44 = .ok (.getfield 36, 3) := by decide +kernel
theorem dX10_init_47 : decode cX10_init 47 = .ok (.aload_n 1, 1) := by decide +kernel
theorem dX10_init_48 : decode cX10_init 48 = .ok (.getfield 9, 3) := by decide +kernel
theorem dX10_init_51 : decode cX10_init 51 = .ok (.iconst 1, 1) := by decide +kernel
theorem dX10_init_52 : decode cX10_init 52 = .ok (.iadd, 1) := by decide +kernel
theorem dX10_init_53 : decode cX10_init 53 = .ok (.invokestatic 25, 3) := by decide +kernel
theorem dX10_init_56 : decode cX10_init 56 = .ok (.putfield 39, 3) := by decide +kernel
theorem dX10_init_59 : decode cX10_init 59 = .ok (.aload_n 0, 1) := by decide +kernel
theorem dX10_init_60 : decode cX10_init 60 = .ok (.getfield 39, 3) := by decide +kernel
theorem dX10_init_63 : decode cX10_init 63 = .ok (.aload_n 1, 1) := by decide +kernel
theorem dX10_init_64 : decode cX10_init 64 = .ok (.getfield 9, 3) := by decide +kernel
theorem dX10_init_67 : decode cX10_init 67 = .ok (.aload_n 1, 1) := by decide +kernel
theorem dX10_init_68 : decode cX10_init 68 = .ok (.getfield 22, 3) := by decide +kernel
theorem dX10_init_71 : decode cX10_init 71 = .ok (.iastore, 1) := by decide +kernel
theorem dX10_init_72 : decode cX10_init 72 = .ok (.iconst (-1), 1) := by decide +kernel
theorem dX10_init_73 : decode cX10_init 73 = .ok (.istore_n 2, 1) := by decide +kernel
theorem dX10_init_74 : decode cX10_init 74 = .ok (.iconst (-1), 1) := by decide +kernel
theorem dX10_init_75 : decode cX10_init 75 = .ok (.istore_n 3, 1) := by decide +kernel
theorem dX10_init_76 : decode cX10_init 76 = .ok (.bipush 21, 2) := by decide +kernel
theorem dX10_init_78 : decode cX10_init 78 = .ok (.istore 4, 2) := by decide +kernel
theorem dX10_init_80 : decode cX10_init 80 = .ok (.iconst 0, 1) := by decide +kernel
theorem dX10_init_81 : decode cX10_init 81 = .ok (.istore 5, 2) := by decide +kernel
theorem dX10_init_83 : decode cX10_init 83 = .ok (.iload 5, 2) := by decide +kernel
theorem dX10_init_85 : decode cX10_init 85 = .ok (.aload_n 0, 1) := by decide +kernel
theorem dX10_init_86 : decode cX10_init 86 = .ok (.getfield 35, 3) := by decide +kernel
theorem dX10_init_89 : decode cX10_init 89 = .ok (.arraylength, 1) := by decide +kernel
theorem dX10_init_90 : decode cX10_init 90 = .ok (.if_icmp .ge 66, 3) := by decide +kernel
theorem dX10_init_93 : decode cX10_init 93 = .ok (.aload_n 0, 1) := by decide +kernel
theorem dX10_init_94 : decode cX10_init 94 = .ok (.getfield 35, 3) := by decide +kernel
theorem dX10_init_97 : decode cX10_init 97 = .ok (.iload 5, 2) := by decide +kernel
theorem dX10_init_99 : decode cX10_init 99 = .ok (.iaload, 1) := by decide +kernel
theorem dX10_init_100 : decode cX10_init 100 = .ok (.bipush 17, 2) := by decide +kernel
theorem dX10_init_102 : decode cX10_init 102 = .ok (.if_icmp .ne 9, 3) := by decide +kernel
theorem dX10_init_105 : decode cX10_init 105 = .ok (.iload 5, 2) := by decide +kernel
theorem dX10_init_107 : decode cX10_init 107 = .ok (.istore_n 2, 1) := by decide +kernel
theorem dX10_init_108 : decode cX10_init 108 = .ok (.goto 42, 3) := by decide +kernel
theorem dX10_init_111 : decode cX10_init 111 = .ok (.aload_n 0, 1) := by decide +kernel
theorem dX10_init_112 : decode cX10_init 112 = .ok (.getfield 35, 3) := by decide +kernel
theorem dX10_init_115 : decode cX10_init 115 = .ok (.iload 5, 2) := by decide +kernel
theorem dX10_init_117 : decode cX10_init 117 = .ok (.iaload, 1) := by decide +kernel
theorem dX10_init_118 : decode cX10_init 118 = .ok (.bipush 18, 2) := by decide +kernel
theorem dX10_init_120 : decode cX10_init 120 = .ok (.if_icmp .ne 9, 3) := by decide +kernel
theorem dX10_init_123 : decode cX10_init 123 = .ok (.iload 5, 2) := by decide +kernel
theorem dX10_init_125 : decode cX10_init 125 = .ok (.istore_n 3, 1) := by decide +kernel
theorem dX10_init_126 : decode cX10_init 126 = .ok (.goto 24, 3) := by decide +kernel
theorem dX10_init_129 : decode cX10_init 129 = .ok (.aload_n 0, 1) := by decide +kernel
theorem dX10_init_130 : decode cX10_init 130 = .ok (.getfield 35, 3) := by decide +kernel
theorem dX10_init_133 : decode cX10_init 133 = .ok (.iload 5, 2) := by decide +kernel
theorem dX10_init_135 : decode cX10_init 135 = .ok (.iaload, 1) := by decide +kernel
theorem dX10_init_136 : decode cX10_init 136 = .ok (.bipush 20, 2) := by decide +kernel
theorem dX10_init_138 : decode cX10_init 138 = .ok (.if_icmp .lt 12, 3) := by decide +kernel
theorem dX10_init_141 : decode cX10_init 141 = .ok (.aload_n 0, 1) := by decide +kernel
theorem dX10_init_142 : decode cX10_init 142 = .ok (.getfield 35, 3) := by decide +kernel
theorem dX10_init_145 : decode cX10_init 145 = .ok (.iload 5, 2) := by decide +kernel
theorem dX10_init_147 : decode cX10_init 147 = .ok (.iaload, 1) := by decide +kernel
theorem dX10_init_148 : decode cX10_init 148 = .ok (.istore 4, 2) := by decide +kernel
theorem dX10_init_150 : decode cX10_init 150 = .ok (.iinc 5 1, 3) := by decide +kernel
theorem dX10_init_153 : decode cX10_init 153 = .ok (.goto (-70), 3) := by decide +kernel
theorem dX10_init_156 : decode cX10_init 156 = .ok (.aload_n 0, 1) := by decide +kernel
theorem dX10_init_157 : decode cX10_init 157 = .ok (.iload_n 2, 1) := by decide +kernel
theorem dX10_init_158 : decode cX10_init 158 = .ok (.putfield 40, 3) := by decide +kernel
theorem dX10_init_161 : decode cX10_init 161 = .ok (.aload_n 0, 1) := by decide +kernel
theorem dX10_init_162 : decode cX10_init 162 = .ok (.iload_n 3, 1) := by decide +kernel
theorem dX10_init_163 : decode cX10_init 163 = .ok (.putfield 43, 3) := by decide +kernel
theorem dX10_init_166 : decode cX10_init 166 = .ok (.aload_n 0, 1) := by decide +kernel
theorem dX10_init_167 : decode cX10_init 167 = .ok (.iload 4, 2) := by decide +kernel
theorem dX10_init_169 : decode cX10_init 169 = .ok (.putfield 46, 3) := by decide +kernel
theorem dX10_init_172 : decode cX10_init 172 = .ok (.return_, 1) := by decide +kernel
