theorem dX0_init_0 : decode cX0_init 0 = .ok (.aload_n 0, 1) := by decide +kernel
theorem dX0_init_1 : decode cX0_init 1 = .ok (.invokespecial 3, 3) := by decide +kernel
theorem dX0_init_4 : decode cX0_init 4 = .ok (.aload_n 0, 1) := by decide +kernel
theorem dX0_init_5 : decode cX0_init 5 = .ok (.iconst (-1), 1) := by decide +kernel
theorem dX0_init_6 : decode cX0_init 6 = .ok (.putfield 9, 3) := by decide +kernel
theorem dX0_init_9 : decode cX0_init 9 = .ok (.aload_n 0, 1) := by decide +kernel
theorem dX0_init_10 : decode cX0_init 10 = .ok (.iconst (-1), 1) := by decide +kernel
theorem dX0_init_11 : decode cX0_init 11 = .ok (.putfield 15, 3) := by decide +kernel
theorem dX0_init_14 : decode cX0_init 14 = .ok (.aload_n 0, 1) := by decide +kernel
theorem dX0_init_15 : decode cX0_init 15 = .ok (.iconst (-1), 1) := by decide +kernel
theorem dX0_init_16 : decode cX0_init 16 = .ok (.putfield 18, 3) := by decide +kernel
theorem dX0_init_19 : decode cX0_init 19 = .ok (.aload_n 0, 1) := by decide +kernel
theorem dX0_init_20 : decode cX0_init 20 = .ok (.iconst (-1), 1) := by decide +kernel
theorem dX0_init_21 : decode cX0_init 21 = .ok (.putfield 21, 3) := by decide +kernel
theorem dX0_init_24 : decode cX0_init 24 = .ok (.aload_n 0, 1) := by decide +kernel
theorem dX0_init_25 : decode cX0_init 25 = .ok (.iload_n 1, 1) := by decide +kernel
theorem dX0_init_26 : decode cX0_init 26 = .ok (.putfield 24, 3) := by decide +kernel
theorem dX0_init_29 : decode cX0_init 29 = .ok (.aload_n 0, 1) := by decide +kernel
theorem dX0_init_30 : decode cX0_init 30 = .ok (.iload_n 2, 1) := by decide +kernel
theorem dX0_init_31 : decode cX0_init 31 = .ok (.putfield 27, 3) := by decide +kernel
theorem dX0_init_34 : decode cX0_init 34 = .ok (.aload_n 0, 1) := by decide +kernel
theorem dX0_init_35 : decode cX0_init 35 = .ok (.iload_n 3, 1) := by decide +kernel
theorem dX0_init_36 : decode cX0_init 36 = .ok (.putfield 30, 3) := by decide +kernel
theorem dX0_init_39 : decode cX0_init 39 = .ok (.return_, 1) := by decide +kernel
theorem dX0_showTag_0 : decode cX0_showTag 0 = .ok (.aload_n 0, 1) := by decide +kernel
theorem dX0_showTag_1 : decode cX0_showTag 1 = .ok (.aload_n 1, 1) := by decide +kernel
theorem dX0_showTag_2 : decode cX0_showTag 2 = .ok (.getfield 33, 3) := by decide +kernel
theorem dX0_showTag_5 : decode cX0_showTag 5 = .ok (.putfield 15, 3) := by decide +kernel
theorem dX0_showTag_8 : decode cX0_showTag 8 = .ok (.aload_n 0, 1) := by decide +kernel
theorem dX0_showTag_9 : decode cX0_showTag 9 = .ok (.aload_n 1, 1) := by decide +kernel
theorem dX0_showTag_10 : decode cX0_showTag 10 = .ok (.getfield 36, 3) := by decide +kernel
theorem dX0_showTag_13 : decode cX0_showTag 13 = .ok (.putfield 18, 3) := by decide +kernel
theorem dX0_showTag_16 : decode cX0_showTag 16 = .ok (.return_, 1) := by decide +kernel
theorem dX1_init_0 : decode cX1_init 0 = .ok (.aload_n 0, 1) := by decide +kernel
theorem dX1_init_1 : decode cX1_init 1 = .ok (.invokespecial 3, 3) := by decide +kernel
theorem dX1_init_4 : decode cX1_init 4 = .ok (.aload_n 0, 1) := by decide +kernel
theorem dX1_init_5 : decode cX1_init 5 = .ok (.sipush 300, 3) := by decide +kernel
theorem dX1_init_8 : decode cX1_init 8 = .ok (.anewarray 9, 3) := by decide +kernel
theorem dX1_init_11 : decode cX1_init 11 = .ok (.putfield 11, 3) := by decide +kernel
theorem dX1_init_14 : decode cX1_init 14 = .ok (.aload_n 0, 1) := by decide +kernel
theorem dX1_init_15 : decode cX1_init 15 = .ok (.new 9, 3) := by decide +kernel
theorem dX1_init_18 : decode cX1_init 18 = .ok (.dup, 1) := by decide +kernel
theorem dX1_init_19 : decode cX1_init 19 = .ok (.invokespecial 17, 3) := by decide +kernel
theorem dX1_init_22 : decode cX1_init 22 = .ok (.putfield 18, 3) := by decide +kernel
theorem dX1_init_25 : decode cX1_init 25 = .ok (.iconst 0, 1) := by decide +kernel
theorem dX1_init_26 : decode cX1_init 26 = .ok (.istore_n 1, 1) := by decide +kernel
theorem dX1_init_27 : decode cX1_init 27 = .ok (.iload_n 1, 1) := by decide +kernel
theorem dX1_init_28 : decode cX1_init 28 = .ok (.aload_n 0, 1) := by decide +kernel
theorem dX1_init_29 : decode cX1_init 29 = .ok (.getfield 11, 3) := by decide +kernel
theorem dX1_init_32 : decode cX1_init 32 = .ok (.arraylength, 1) := by decide +kernel
theorem dX1_init_33 : decode cX1_init 33 = .ok (.if_icmp .ge 22, 3) := by decide +kernel
theorem dX1_init_36 : decode cX1_init 36 = .ok (.aload_n 0, 1) := by decide +kernel
theorem dX1_init_37 : decode cX1_init 37 = .ok (.getfield 11, 3) := by decide +kernel
theorem dX1_init_40 : decode cX1_init 40 = .ok (.iload_n 1, 1) := by decide +kernel
theorem dX1_init_41 : decode cX1_init 41 = .ok (.new 9, 3) := by decide +kernel
theorem dX1_init_44 : decode cX1_init 44 = .ok (.dup, 1) := by decide +kernel
theorem dX1_init_45 : decode cX1_init 45 = .ok (.invokespecial 17, 3) := by decide +kernel
theorem dX1_init_48 : decode cX1_init 48 = .ok (.aastore, 1) := by decide +kernel
theorem dX1_init_49 : decode cX1_init 49 = .ok (.iinc 1 1, 3) := by decide +kernel
theorem dX1_init_52 : decode cX1_init 52 = .ok (.goto (-25), 3) := by decide +kernel
theorem dX1_init_55 : decode cX1_init 55 = .ok (.return_, 1) := by decide +kernel
theorem dX1_at_0 : decode cX1_at 0 = .ok (.iload_n 1, 1) := by decide +kernel
theorem dX1_at_1 : decode cX1_at 1 = .ok (.ifCond .lt 29, 3) := by decide +kernel
theorem dX1_at_4 : decode cX1_at 4 = .ok (.iload_n 1, 1) := by decide +kernel
theorem dX1_at_5 : decode cX1_at 5 = .ok (.aload_n 0, 1) := by decide +kernel
theorem dX1_at_6 : decode cX1_at 6 = .ok (.getfield 22, 3) := by decide +kernel
theorem dX1_at_9 : decode cX1_at 9 = .ok (.if_icmp .ge 21, 3) := by decide +kernel
theorem dX1_at_12 : decode cX1_at 12 = .ok (.iload_n 1, 1) := by decide +kernel
theorem dX1_at_13 : decode cX1_at 13 = .ok (.aload_n 0, 1) := by decide +kernel
theorem dX1_at_14 : decode cX1_at 14 = .ok (.getfield 11, 3) := by decide +kernel
theorem dX1_at_17 : decode cX1_at 17 = .ok (.arraylength, 1) := by decide +kernel
theorem dX1_at_18 : decode cX1_at 18 = .ok (.if_icmp .ge 12, 3) := by decide +kernel
theorem dX1_at_21 : decode cX1_at 21 = .ok (.aload_n 0, 1) := by decide +kernel
theorem dX1_at_22 : decode cX1_at 22 = .ok (.getfield 11, 3) := by decide +kernel
theorem dX1_at_25 : decode cX1_at 25 = .ok (.iload_n 1, 1) := by decide +kernel
theorem dX1_at_26 : decode cX1_at 26 = .ok (.aaload, 1) := by decide +kernel
theorem dX1_at_27 : decode cX1_at 27 = .ok (.goto 4, 3) := by decide +kernel
theorem dX1_at_30 : decode cX1_at 30 = .ok (.aconst_null, 1) := by decide +kernel
theorem dX1_at_31 : decode cX1_at 31 = .ok (.areturn, 1) := by decide +kernel
theorem dX1_next_0 : decode cX1_next 0 = .ok (.aload_n 0, 1) := by decide +kernel
theorem dX1_next_1 : decode cX1_next 1 = .ok (.getfield 22, 3) := by decide +kernel
theorem dX1_next_4 : decode cX1_next 4 = .ok (.aload_n 0, 1) := by decide +kernel
theorem dX1_next_5 : decode cX1_next 5 = .ok (.getfield 11, 3) := by decide +kernel
theorem dX1_next_8 : decode cX1_next 8 = .ok (.arraylength, 1) := by decide +kernel
theorem dX1_next_9 : decode cX1_next 9 = .ok (.if_icmp .lt 15, 3) := by decide +kernel
theorem dX1_next_12 : decode cX1_next 12 = .ok (.aload_n 0, 1) := by decide +kernel
theorem dX1_next_13 : decode cX1_next 13 = .ok (.dup, 1) := by decide +kernel
theorem dX1_next_14 : decode cX1_next 14 = .ok (.getfield 26, 3) := by decide +kernel
theorem dX1_next_17 : decode cX1_next 17 = .ok (.iconst 1, 1) := by decide +kernel
theorem dX1_next_18 : decode cX1_next 18 = .ok (.iadd, 1) := by decide +kernel
theorem dX1_next_19 : decode cX1_next 19 = .ok (.putfield 26, 3) := by decide +kernel
theorem dX1_next_22 : decode cX1_next 22 = .ok (.aconst_null, 1) := by decide +kernel
theorem dX1_next_23 : decode cX1_next 23 = .ok (.areturn, 1) := by decide +kernel
theorem dX1_next_24 : decode cX1_next 24 = .ok (.aload_n 0, 1) := by decide +kernel
theorem dX1_next_25 : decode cX1_next 25 = .ok (.getfield 11, 3) := by decide +kernel
theorem dX1_next_28 : decode cX1_next 28 = .ok (.aload_n 0, 1) := by decide +kernel
theorem dX1_next_29 : decode cX1_next 29 = .ok (.getfield 22, 3) := by decide +kernel
theorem dX1_next_32 : decode cX1_next 32 = .ok (.aaload, 1) := by decide +kernel
theorem dX1_next_33 : decode cX1_next 33 = .ok (.astore_n 1, 1) := by decide +kernel
theorem dX1_next_34 : decode cX1_next 34 = .ok (.aload_n 0, 1) := by decide +kernel
theorem dX1_next_35 : decode cX1_next 35 = .ok (.dup, 1) := by decide +kernel
theorem dX1_next_36 : decode cX1_next 36 = .ok (.getfield 22, 3) := by decide +kernel
theorem dX1_next_39 : decode cX1_next 39 = .ok (.iconst 1, 1) := by decide +kernel
theorem dX1_next_40 : decode cX1_next 40 = .ok (.iadd, 1) := by decide +kernel
theorem dX1_next_41 : decode cX1_next 41 = .ok (.putfield 22, 3) := by decide +kernel
theorem dX1_next_44 : decode cX1_next 44 = .ok (.aload_n 1, 1) := by decide +kernel
theorem dX1_next_45 : decode cX1_next 45 = .ok (.areturn, 1) := by decide +kernel
theorem dX1_take_0 : decode cX1_take 0 = .ok (.aload_n 0, 1) := by decide +kernel
theorem dX1_take_1 : decode cX1_take 1 = .ok (.iload_n 1, 1) := by decide +kernel
theorem dX1_take_2 : decode cX1_take 2 = .ok (.invokevirtual 29, 3) := by decide +kernel
theorem dX1_take_5 : decode cX1_take 5 = .ok (.astore_n 2, 1) := by decide +kernel
theorem dX1_take_6 : decode cX1_take 6 = .ok (.aload_n 2, 1) := by decide +kernel
theorem dX1_take_7 : decode cX1_take 7 = .ok (.ifnonnull 5, 3) := by decide +kernel
theorem dX1_take_10 : decode cX1_take 10 = .ok (.iconst 0, 1) := by decide +kernel
theorem dX1_take_11 : decode cX1_take 11 = .ok (.ireturn, 1) := by decide +kernel
theorem dX1_take_12 : decode cX1_take 12 = .ok (.iload_n 1, 1) := by decide +kernel
theorem dX1_take_13 : decode cX1_take 13 = .ok (.iconst 1, 1) := by decide +kernel
theorem dX1_take_14 : decode cX1_take 14 = .ok (.iadd, 1) := by decide +kernel
theorem dX1_take_15 : decode cX1_take 15 = .ok (.istore_n 3, 1) := by decide +kernel
theorem dX1_take_16 : decode cX1_take 16 = .ok (.iload_n 3, 1) := by decide +kernel
theorem dX1_take_17 : decode cX1_take 17 = .ok (.aload_n 0, 1) := by decide +kernel
theorem dX1_take_18 : decode cX1_take 18 = .ok (.getfield 22, 3) := by decide +kernel
theorem dX1_take_21 : decode cX1_take 21 = .ok (.if_icmp .ge 32, 3) := by decide +kernel
theorem dX1_take_24 : decode cX1_take 24 = .ok (.iload_n 3, 1) := by decide +kernel
theorem dX1_take_25 : decode cX1_take 25 = .ok (.aload_n 0, 1) := by decide +kernel
theorem dX1_take_26 : decode cX1_take 26 = .ok (.getfield 11, 3) := by decide +kernel
theorem dX1_take_29 : decode cX1_take 29 = .ok (.arraylength, 1) := by decide +kernel
theorem dX1_take_30 : decode cX1_take 30 = .ok (.if_icmp .ge 23, 3) := by decide +kernel
theorem dX1_take_33 : decode cX1_take 33 = .ok (.aload_n 0, 1) := by decide +kernel
theorem dX1_take_34 : decode cX1_take 34 = .ok (.getfield 11, 3) := by decide +kernel
theorem dX1_take_37 : decode cX1_take 37 = .ok (.iload_n 3, 1) := by decide +kernel
theorem dX1_take_38 : decode cX1_take 38 = .ok (.iconst 1, 1) := by decide +kernel
theorem dX1_take_39 : decode cX1_take 39 = .ok (.isub, 1) := by decide +kernel
theorem dX1_take_40 : decode cX1_take 40 = .ok (.aload_n 0, 1) := by decide +kernel
theorem dX1_take_41 : decode cX1_take 41 = .ok (.getfield 11, 3) := by decide +kernel
theorem dX1_take_44 : decode cX1_take 44 = .ok (.iload_n 3, 1) := by decide +kernel
theorem dX1_take_45 : decode cX1_take 45 = .ok (.aaload, 1) := by decide +kernel
theorem dX1_take_46 : decode cX1_take 46 = .ok (.aastore, 1) := by decide +kernel
theorem dX1_take_47 : decode cX1_take 47 = .ok (.iinc 3 1, 3) := by decide +kernel
theorem dX1_take_50 : decode cX1_take 50 = .ok (.goto (-34), 3) := by decide +kernel
theorem dX1_take_53 : decode cX1_take 53 = .ok (.aload_n 0, 1) := by decide +kernel
theorem dX1_take_54 : decode cX1_take 54 = .ok (.dup, 1) := by decide +kernel
theorem dX1_take_55 : decode cX1_take 55 = .ok (.getfield 22, 3) := by decide +kernel
theorem dX1_take_58 : decode cX1_take 58 = .ok (.iconst 1, 1) := by decide +kernel
theorem dX1_take_59 : decode cX1_take 59 = .ok (.isub, 1) := by decide +kernel
theorem dX1_take_60 : decode cX1_take 60 = .ok (.putfield 22, 3) := by decide +kernel
theorem dX1_take_63 : decode cX1_take 63 = .ok (.aload_n 0, 1) := by decide +kernel
theorem dX1_take_64 : decode cX1_take 64 = .ok (.getfield 11, 3) := by decide +kernel
theorem dX1_take_67 : decode cX1_take 67 = .ok (.aload_n 0, 1) := by decide +kernel
theorem dX1_take_68 : decode cX1_take 68 = .ok (.getfield 22, 3) := by decide +kernel
theorem dX1_take_71 : decode cX1_take 71 = .ok (.aload_n 0, 1) := by decide +kernel
theorem dX1_take_72 : decode cX1_take 72 = .ok (.getfield 18, 3) := by decide +kernel
theorem dX1_take_75 : decode cX1_take 75 = .ok (.aastore, 1) := by decide +kernel
theorem dX1_take_76 : decode cX1_take 76 = .ok (.aload_n 0, 1) := by decide +kernel
theorem dX1_take_77 : decode cX1_take 77 = .ok (.aload_n 2, 1) := by decide +kernel
theorem dX1_take_78 : decode cX1_take 78 = .ok (.putfield 18, 3) := by decide +kernel
theorem dX1_take_81 : decode cX1_take 81 = .ok (.iconst 1, 1) := by decide +kernel
theorem dX1_take_82 : decode cX1_take 82 = .ok (.ireturn, 1) := by decide +kernel
theorem dX2_init_0 : decode cX2_init 0 = .ok (.aload_n 0, 1) := by decide +kernel
theorem dX2_init_1 : decode cX2_init 1 = .ok (.invokespecial 3, 3) := by decide +kernel
theorem dX2_init_4 : decode cX2_init 4 = .ok (.aload_n 0, 1) := by decide +kernel
theorem dX2_init_5 : decode cX2_init 5 = .ok (.new 9, 3) := by decide +kernel
theorem dX2_init_8 : decode cX2_init 8 = .ok (.dup, 1) := by decide +kernel
theorem dX2_init_9 : decode cX2_init 9 = .ok (.invokespecial 11, 3) := by decide +kernel
theorem dX2_init_12 : decode cX2_init 12 = .ok (.putfield 12, 3) := by decide +kernel
theorem dX2_init_15 : decode cX2_init 15 = .ok (.aload_n 0, 1) := by decide +kernel
theorem dX2_init_16 : decode cX2_init 16 = .ok (.iload_n 1, 1) := by decide +kernel
theorem dX2_init_17 : decode cX2_init 17 = .ok (.putfield 18, 3) := by decide +kernel
theorem dX2_init_20 : decode cX2_init 20 = .ok (.return_, 1) := by decide +kernel
theorem dX2_hasAnswerOf_0 : decode cX2_hasAnswerOf 0 = .ok (.aload_n 0, 1) := by decide +kernel
theorem dX2_hasAnswerOf_1 : decode cX2_hasAnswerOf 1 = .ok (.getfield 22, 3) := by decide +kernel
theorem dX2_hasAnswerOf_4 : decode cX2_hasAnswerOf 4 = .ok (.iload_n 1, 1) := by decide +kernel
theorem dX2_hasAnswerOf_5 : decode cX2_hasAnswerOf 5 = .ok (.ishr, 1) := by decide +kernel
theorem dX2_hasAnswerOf_6 : decode cX2_hasAnswerOf 6 = .ok (.iconst 1, 1) := by decide +kernel
theorem dX2_hasAnswerOf_7 : decode cX2_hasAnswerOf 7 = .ok (.iand, 1) := by decide +kernel
theorem dX2_hasAnswerOf_8 : decode cX2_hasAnswerOf 8 = .ok (.iconst 1, 1) := by decide +kernel
theorem dX2_hasAnswerOf_9 : decode cX2_hasAnswerOf 9 = .ok (.if_icmp .ne 7, 3) := by decide +kernel
theorem dX2_hasAnswerOf_12 : decode cX2_hasAnswerOf 12 = .ok (.iconst 1, 1) := by decide +kernel
theorem dX2_hasAnswerOf_13 : decode cX2_hasAnswerOf 13 = .ok (.goto 4, 3) := by decide +kernel
theorem dX2_hasAnswerOf_16 : decode cX2_hasAnswerOf 16 = .ok (.iconst 0, 1) := by decide +kernel
theorem dX2_hasAnswerOf_17 : decode cX2_hasAnswerOf 17 = .ok (.ireturn, 1) := by decide +kernel
theorem dX2_counts_0 : decode cX2_counts 0 = .ok (.aload_n 1, 1) := by decide +kernel
theorem dX2_counts_1 : decode cX2_counts 1 = .ok (.getfield 25, 3) := by decide +kernel
theorem dX2_counts_4 : decode cX2_counts 4 = .ok (.aload_n 2, 1) := by decide +kernel
theorem dX2_counts_5 : decode cX2_counts 5 = .ok (.getfield 30, 3) := by decide +kernel
theorem dX2_counts_8 : decode cX2_counts 8 = .ok (.if_icmp .ne 29, 3) := by decide +kernel
theorem dX2_counts_11 : decode cX2_counts 11 = .ok (.aload_n 1, 1) := by decide +kernel
theorem dX2_counts_12 : decode cX2_counts 12 = .ok (.getfield 33, 3) := by decide +kernel
theorem dX2_counts_15 : decode cX2_counts 15 = .ok (.aload_n 0, 1) := by decide +kernel
theorem dX2_counts_16 : decode cX2_counts 16 = .ok (.getfield 36, 3) := by decide +kernel
theorem dX2_counts_19 : decode cX2_counts 19 = .ok (.if_icmp .ne 18, 3) := by decide +kernel
theorem dX2_counts_22 : decode cX2_counts 22 = .ok (.aload_n 0, 1) := by decide +kernel
theorem dX2_counts_23 : decode cX2_counts 23 = .ok (.aload_n 1, 1) := by decide +kernel
theorem dX2_counts_24 : decode cX2_counts 24 = .ok (.getfield 37, 3) := by decide +kernel
theorem dX2_counts_27 : decode cX2_counts 27 = .ok (.invokevirtual 40, 3) := by decide +kernel
theorem dX2_counts_30 : decode cX2_counts 30 = .ok (.ifCond .ne 7, 3) := by decide +kernel
theorem dX2_counts_33 : decode cX2_counts 33 = .ok (.iconst 1, 1) := by decide +kernel
theorem dX2_counts_34 : decode cX2_counts 34 = .ok (.goto 4, 3) := by decide +kernel
theorem dX2_counts_37 : decode cX2_counts 37 = .ok (.iconst 0, 1) := by decide +kernel
theorem dX2_counts_38 : decode cX2_counts 38 = .ok (.ireturn, 1) := by decide +kernel
theorem dX2_learn_0 : decode cX2_learn 0 = .ok (.aload_n 0, 1) := by decide +kernel
theorem dX2_learn_1 : decode cX2_learn 1 = .ok (.dup, 1) := by decide +kernel
theorem dX2_learn_2 : decode cX2_learn 2 = .ok (.getfield 22, 3) := by decide +kernel
theorem dX2_learn_5 : decode cX2_learn 5 = .ok (.iconst 1, 1) := by decide +kernel
theorem dX2_learn_6 : decode cX2_learn 6 = .ok (.aload_n 1, 1) := by decide +kernel
theorem dX2_learn_7 : decode cX2_learn 7 = .ok (.getfield 37, 3) := by decide +kernel
theorem dX2_learn_10 : decode cX2_learn 10 = .ok (.ishl, 1) := by decide +kernel
theorem dX2_learn_11 : decode cX2_learn 11 = .ok (.ior, 1) := by decide +kernel
theorem dX2_learn_12 : decode cX2_learn 12 = .ok (.putfield 22, 3) := by decide +kernel
theorem dX2_learn_15 : decode cX2_learn 15 = .ok (.aload_n 0, 1) := by decide +kernel
theorem dX2_learn_16 : decode cX2_learn 16 = .ok (.aload_n 0, 1) := by decide +kernel
theorem dX2_learn_17 : decode cX2_learn 17 = .ok (.getfield 44, 3) := by decide +kernel
theorem dX2_learn_20 : decode cX2_learn 20 = .ok (.aload_n 1, 1) := by decide +kernel
theorem dX2_learn_21 : decode cX2_learn 21 = .ok (.getfield 47, 3) := by decide +kernel
theorem dX2_learn_24 : decode cX2_learn 24 = .ok (.invokestatic 48, 3) := by decide +kernel
theorem dX2_learn_27 : decode cX2_learn 27 = .ok (.putfield 44, 3) := by decide +kernel
theorem dX2_learn_30 : decode cX2_learn 30 = .ok (.aload_n 0, 1) := by decide +kernel
theorem dX2_learn_31 : decode cX2_learn 31 = .ok (.aload_n 0, 1) := by decide +kernel
theorem dX2_learn_32 : decode cX2_learn 32 = .ok (.getfield 54, 3) := by decide +kernel
theorem dX2_learn_35 : decode cX2_learn 35 = .ok (.aload_n 1, 1) := by decide +kernel
theorem dX2_learn_36 : decode cX2_learn 36 = .ok (.getfield 57, 3) := by decide +kernel
theorem dX2_learn_39 : decode cX2_learn 39 = .ok (.invokestatic 48, 3) := by decide +kernel
theorem dX2_learn_42 : decode cX2_learn 42 = .ok (.putfield 54, 3) := by decide +kernel
theorem dX2_learn_45 : decode cX2_learn 45 = .ok (.aload_n 0, 1) := by decide +kernel
theorem dX2_learn_46 : decode cX2_learn 46 = .ok (.getfield 58, 3) := by decide +kernel
theorem dX2_learn_49 : decode cX2_learn 49 = .ok (.iconst 1, 1) := by decide +kernel
theorem dX2_learn_50 : decode cX2_learn 50 = .ok (.if_icmp .eq 11, 3) := by decide +kernel
theorem dX2_learn_53 : decode cX2_learn 53 = .ok (.aload_n 0, 1) := by decide +kernel
theorem dX2_learn_54 : decode cX2_learn 54 = .ok (.getfield 58, 3) := by decide +kernel
theorem dX2_learn_57 : decode cX2_learn 57 = .ok (.iconst 3, 1) := by decide +kernel
theorem dX2_learn_58 : decode cX2_learn 58 = .ok (.if_icmp .ne 7, 3) := by decide +kernel
theorem dX2_learn_61 : decode cX2_learn 61 = .ok (.iconst 1, 1) := by decide +kernel
theorem dX2_learn_62 : decode cX2_learn 62 = .ok (.goto 4, 3) := by decide +kernel
theorem dX2_learn_65 : decode cX2_learn 65 = .ok (.iconst 0, 1) := by decide +kernel
theorem dX2_learn_66 : decode cX2_learn 66 = .ok (.istore_n 2, 1) := by decide +kernel
theorem dX2_learn_67 : decode cX2_learn 67 = .ok (.iload_n 2, 1) := by decide +kernel
theorem dX2_learn_68 : decode cX2_learn 68 = .ok (.ifCond .eq 28, 3) := by decide +kernel
theorem dX2_learn_71 : decode cX2_learn 71 = .ok (.aload_n 1, 1) := by decide +kernel
theorem dX2_learn_72 : decode cX2_learn 72 = .ok (.getfield 61, 3) := by decide +kernel
theorem dX2_learn_75 : decode cX2_learn 75 = .ok (.aload_n 0, 1) := by decide +kernel
theorem dX2_learn_76 : decode cX2_learn 76 = .ok (.getfield 12, 3) := by decide +kernel
theorem dX2_learn_79 : decode cX2_learn 79 = .ok (.invokevirtual 62, 3) := by decide +kernel
theorem dX2_learn_82 : decode cX2_learn 82 = .ok (.ifCond .eq 14, 3) := by decide +kernel
theorem dX2_learn_85 : decode cX2_learn 85 = .ok (.aload_n 0, 1) := by decide +kernel
theorem dX2_learn_86 : decode cX2_learn 86 = .ok (.getfield 12, 3) := by decide +kernel
theorem dX2_learn_89 : decode cX2_learn 89 = .ok (.aload_n 1, 1) := by decide +kernel
theorem dX2_learn_90 : decode cX2_learn 90 = .ok (.getfield 61, 3) := by decide +kernel
theorem dX2_learn_93 : decode cX2_learn 93 = .ok (.invokevirtual 66, 3) := by decide +kernel
theorem dX2_learn_96 : decode cX2_learn 96 = .ok (.return_, 1) := by decide +kernel
theorem dX2_rest_0 : decode cX2_rest 0 = .ok (.aload_n 0, 1) := by decide +kernel
theorem dX2_rest_1 : decode cX2_rest 1 = .ok (.aconst_null, 1) := by decide +kernel
theorem dX2_rest_2 : decode cX2_rest 2 = .ok (.putfield 70, 3) := by decide +kernel
theorem dX2_rest_5 : decode cX2_rest 5 = .ok (.aload_n 0, 1) := by decide +kernel
theorem dX2_rest_6 : decode cX2_rest 6 = .ok (.iconst 0, 1) := by decide +kernel
theorem dX2_rest_7 : decode cX2_rest 7 = .ok (.putfield 58, 3) := by decide +kernel
theorem dX2_rest_10 : decode cX2_rest 10 = .ok (.aload_n 0, 1) := by decide +kernel
theorem dX2_rest_11 : decode cX2_rest 11 = .ok (.iconst 0, 1) := by decide +kernel
theorem dX2_rest_12 : decode cX2_rest 12 = .ok (.putfield 22, 3) := by decide +kernel
theorem dX2_rest_15 : decode cX2_rest 15 = .ok (.return_, 1) := by decide +kernel
theorem dX3_init_0 : decode cX3_init 0 = .ok (.aload_n 0, 1) := by decide +kernel
theorem dX3_init_1 : decode cX3_init 1 = .ok (.invokespecial 3, 3) := by decide +kernel
theorem dX3_init_4 : decode cX3_init 4 = .ok (.aload_n 0, 1) := by decide +kernel
theorem dX3_init_5 : decode cX3_init 5 = .ok (.new 9, 3) := by decide +kernel
theorem dX3_init_8 : decode cX3_init 8 = .ok (.dup, 1) := by decide +kernel
theorem dX3_init_9 : decode cX3_init 9 = .ok (.invokespecial 11, 3) := by decide +kernel
theorem dX3_init_12 : decode cX3_init 12 = .ok (.putfield 12, 3) := by decide +kernel
theorem dX3_init_15 : decode cX3_init 15 = .ok (.return_, 1) := by decide +kernel
theorem dX3_obey_0 : decode cX3_obey 0 = .ok (.aload_n 1, 1) := by decide +kernel
theorem dX3_obey_1 : decode cX3_obey 1 = .ok (.getfield 18, 3) := by decide +kernel
theorem dX3_obey_4 : decode cX3_obey 4 = .ok (.tableswitch 111 2 5 #[32, 60, 32, 78], 32) := by decide +kernel
theorem dX3_obey_36 : decode cX3_obey 36 = .ok (.aload_n 1, 1) := by decide +kernel
theorem dX3_obey_37 : decode cX3_obey 37 = .ok (.getfield 24, 3) := by decide +kernel
theorem dX3_obey_40 : decode cX3_obey 40 = .ok (.aload_n 0, 1) := by decide +kernel
theorem dX3_obey_41 : decode cX3_obey 41 = .ok (.getfield 12, 3) := by decide +kernel
theorem dX3_obey_44 : decode cX3_obey 44 = .ok (.invokevirtual 25, 3) := by decide +kernel
theorem dX3_obey_47 : decode cX3_obey 47 = .ok (.ifCond .eq 68, 3) := by decide +kernel
theorem dX3_obey_50 : decode cX3_obey 50 = .ok (.aload_n 0, 1) := by decide +kernel
theorem dX3_obey_51 : decode cX3_obey 51 = .ok (.getfield 12, 3) := by decide +kernel
theorem dX3_obey_54 : decode cX3_obey 54 = .ok (.aload_n 1, 1) := by decide +kernel
theorem dX3_obey_55 : decode cX3_obey 55 = .ok (.getfield 24, 3) := by decide +kernel
theorem dX3_obey_58 : decode cX3_obey 58 = .ok (.invokevirtual 29, 3) := by decide +kernel
theorem dX3_obey_61 : decode cX3_obey 61 = .ok (.goto 54, 3) := by decide +kernel
theorem dX3_obey_64 : decode cX3_obey 64 = .ok (.aload_n 0, 1) := by decide +kernel
theorem dX3_obey_65 : decode cX3_obey 65 = .ok (.aload_n 0, 1) := by decide +kernel
theorem dX3_obey_66 : decode cX3_obey 66 = .ok (.getfield 33, 3) := by decide +kernel
theorem dX3_obey_69 : decode cX3_obey 69 = .ok (.aload_n 1, 1) := by decide +kernel
theorem dX3_obey_70 : decode cX3_obey 70 = .ok (.getfield 36, 3) := by decide +kernel
theorem dX3_obey_73 : decode cX3_obey 73 = .ok (.invokestatic 37, 3) := by decide +kernel
theorem dX3_obey_76 : decode cX3_obey 76 = .ok (.putfield 33, 3) := by decide +kernel
theorem dX3_obey_79 : decode cX3_obey 79 = .ok (.goto 36, 3) := by decide +kernel
theorem dX3_obey_82 : decode cX3_obey 82 = .ok (.aload_n 0, 1) := by decide +kernel
theorem dX3_obey_83 : decode cX3_obey 83 = .ok (.aload_n 0, 1) := by decide +kernel
theorem dX3_obey_84 : decode cX3_obey 84 = .ok (.getfield 43, 3) := by decide +kernel
theorem dX3_obey_87 : decode cX3_obey 87 = .ok (.aload_n 1, 1) := by decide +kernel
theorem dX3_obey_88 : decode cX3_obey 88 = .ok (.getfield 36, 3) := by decide +kernel
theorem dX3_obey_91 : decode cX3_obey 91 = .ok (.invokestatic 37, 3) := by decide +kernel
theorem dX3_obey_94 : decode cX3_obey 94 = .ok (.putfield 43, 3) := by decide +kernel
theorem dX3_obey_97 : decode cX3_obey 97 = .ok (.aload_n 0, 1) := by decide +kernel
theorem dX3_obey_98 : decode cX3_obey 98 = .ok (.aload_n 0, 1) := by decide +kernel
theorem dX3_obey_99 : decode cX3_obey 99 = .ok (.getfield 33, 3) := by decide +kernel
theorem dX3_obey_102 : decode cX3_obey 102 = .ok (.aload_n 1, 1) := by decide +kernel
theorem dX3_obey_103 : decode cX3_obey 103 = .ok (.getfield 36, 3) := by decide +kernel
theorem dX3_obey_106 : decode cX3_obey 106 = .ok (.invokestatic 37, 3) := by decide +kernel
theorem dX3_obey_109 : decode cX3_obey 109 = .ok (.putfield 33, 3) := by decide +kernel
theorem dX3_obey_112 : decode cX3_obey 112 = .ok (.goto 3, 3) := by decide +kernel
theorem dX3_obey_115 : decode cX3_obey 115 = .ok (.return_, 1) := by decide +kernel
theorem dX4_init_0 : decode cX4_init 0 = .ok (.aload_n 0, 1) := by decide +kernel
theorem dX4_init_1 : decode cX4_init 1 = .ok (.invokespecial 1, 3) := by decide +kernel
theorem dX4_init_4 : decode cX4_init 4 = .ok (.aload_n 0, 1) := by decide +kernel
theorem dX4_init_5 : decode cX4_init 5 = .ok (.new 7, 3) := by decide +kernel
theorem dX4_init_8 : decode cX4_init 8 = .ok (.dup, 1) := by decide +kernel
theorem dX4_init_9 : decode cX4_init 9 = .ok (.invokespecial 9, 3) := by decide +kernel
theorem dX4_init_12 : decode cX4_init 12 = .ok (.putfield 10, 3) := by decide +kernel
theorem dX4_init_15 : decode cX4_init 15 = .ok (.return_, 1) := by decide +kernel
theorem dX4_repeat_0 : decode cX4_repeat 0 = .ok (.aload_n 0, 1) := by decide +kernel
theorem dX4_repeat_1 : decode cX4_repeat 1 = .ok (.aload_n 1, 1) := by decide +kernel
theorem dX4_repeat_2 : decode cX4_repeat 2 = .ok (.getfield 16, 3) := by decide +kernel
theorem dX4_repeat_5 : decode cX4_repeat 5 = .ok (.putfield 16, 3) := by decide +kernel
theorem dX4_repeat_8 : decode cX4_repeat 8 = .ok (.aload_n 0, 1) := by decide +kernel
theorem dX4_repeat_9 : decode cX4_repeat 9 = .ok (.aload_n 1, 1) := by decide +kernel
theorem dX4_repeat_10 : decode cX4_repeat 10 = .ok (.getfield 20, 3) := by decide +kernel
theorem dX4_repeat_13 : decode cX4_repeat 13 = .ok (.putfield 20, 3) := by decide +kernel
theorem dX4_repeat_16 : decode cX4_repeat 16 = .ok (.aload_n 0, 1) := by decide +kernel
theorem dX4_repeat_17 : decode cX4_repeat 17 = .ok (.aload_n 1, 1) := by decide +kernel
theorem dX4_repeat_18 : decode cX4_repeat 18 = .ok (.getfield 24, 3) := by decide +kernel
theorem dX4_repeat_21 : decode cX4_repeat 21 = .ok (.putfield 24, 3) := by decide +kernel
theorem dX4_repeat_24 : decode cX4_repeat 24 = .ok (.aload_n 0, 1) := by decide +kernel
theorem dX4_repeat_25 : decode cX4_repeat 25 = .ok (.aload_n 1, 1) := by decide +kernel
theorem dX4_repeat_26 : decode cX4_repeat 26 = .ok (.getfield 27, 3) := by decide +kernel
theorem dX4_repeat_29 : decode cX4_repeat 29 = .ok (.putfield 27, 3) := by decide +kernel
theorem dX4_repeat_32 : decode cX4_repeat 32 = .ok (.aload_n 0, 1) := by decide +kernel
theorem dX4_repeat_33 : decode cX4_repeat 33 = .ok (.aload_n 1, 1) := by decide +kernel
theorem dX4_repeat_34 : decode cX4_repeat 34 = .ok (.getfield 30, 3) := by decide +kernel
theorem dX4_repeat_37 : decode cX4_repeat 37 = .ok (.putfield 30, 3) := by decide +kernel
theorem dX4_repeat_40 : decode cX4_repeat 40 = .ok (.aload_n 0, 1) := by decide +kernel
theorem dX4_repeat_41 : decode cX4_repeat 41 = .ok (.aload_n 1, 1) := by decide +kernel
theorem dX4_repeat_42 : decode cX4_repeat 42 = .ok (.getfield 33, 3) := by decide +kernel
theorem dX4_repeat_45 : decode cX4_repeat 45 = .ok (.putfield 33, 3) := by decide +kernel
theorem dX4_repeat_48 : decode cX4_repeat 48 = .ok (.aload_n 0, 1) := by decide +kernel
theorem dX4_repeat_49 : decode cX4_repeat 49 = .ok (.aload_n 1, 1) := by decide +kernel
theorem dX4_repeat_50 : decode cX4_repeat 50 = .ok (.getfield 36, 3) := by decide +kernel
theorem dX4_repeat_53 : decode cX4_repeat 53 = .ok (.putfield 36, 3) := by decide +kernel
theorem dX4_repeat_56 : decode cX4_repeat 56 = .ok (.aload_n 0, 1) := by decide +kernel
theorem dX4_repeat_57 : decode cX4_repeat 57 = .ok (.aload_n 1, 1) := by decide +kernel
theorem dX4_repeat_58 : decode cX4_repeat 58 = .ok (.getfield 39, 3) := by decide +kernel
theorem dX4_repeat_61 : decode cX4_repeat 61 = .ok (.putfield 39, 3) := by decide +kernel
theorem dX4_repeat_64 : decode cX4_repeat 64 = .ok (.aload_n 0, 1) := by decide +kernel
theorem dX4_repeat_65 : decode cX4_repeat 65 = .ok (.getfield 10, 3) := by decide +kernel
theorem dX4_repeat_68 : decode cX4_repeat 68 = .ok (.aload_n 1, 1) := by decide +kernel
theorem dX4_repeat_69 : decode cX4_repeat 69 = .ok (.getfield 10, 3) := by decide +kernel
theorem dX4_repeat_72 : decode cX4_repeat 72 = .ok (.invokevirtual 42, 3) := by decide +kernel
theorem dX4_repeat_75 : decode cX4_repeat 75 = .ok (.return_, 1) := by decide +kernel
theorem dX5_init_0 : decode cX5_init 0 = .ok (.aload_n 0, 1) := by decide +kernel
theorem dX5_init_1 : decode cX5_init 1 = .ok (.invokespecial 1, 3) := by decide +kernel
theorem dX5_init_4 : decode cX5_init 4 = .ok (.aload_n 0, 1) := by decide +kernel
theorem dX5_init_5 : decode cX5_init 5 = .ok (.aload_n 1, 1) := by decide +kernel
theorem dX5_init_6 : decode cX5_init 6 = .ok (.putfield 7, 3) := by decide +kernel
theorem dX5_init_9 : decode cX5_init 9 = .ok (.aload_n 0, 1) := by decide +kernel
theorem dX5_init_10 : decode cX5_init 10 = .ok (.iload_n 2, 1) := by decide +kernel
theorem dX5_init_11 : decode cX5_init 11 = .ok (.putfield 13, 3) := by decide +kernel
theorem dX5_init_14 : decode cX5_init 14 = .ok (.aload_n 0, 1) := by decide +kernel
theorem dX5_init_15 : decode cX5_init 15 = .ok (.iload_n 3, 1) := by decide +kernel
theorem dX5_init_16 : decode cX5_init 16 = .ok (.putfield 17, 3) := by decide +kernel
theorem dX5_init_19 : decode cX5_init 19 = .ok (.return_, 1) := by decide +kernel
theorem dX5_canBe_0 : decode cX5_canBe 0 = .ok (.aload_n 0, 1) := by decide +kernel
theorem dX5_canBe_1 : decode cX5_canBe 1 = .ok (.iconst (-1), 1) := by decide +kernel
theorem dX5_canBe_2 : decode cX5_canBe 2 = .ok (.invokestatic 20, 3) := by decide +kernel
theorem dX5_canBe_5 : decode cX5_canBe 5 = .ok (.istore_n 3, 1) := by decide +kernel
theorem dX5_canBe_6 : decode cX5_canBe 6 = .ok (.iload_n 1, 1) := by decide +kernel
theorem dX5_canBe_7 : decode cX5_canBe 7 = .ok (.iconst 1, 1) := by decide +kernel
theorem dX5_canBe_8 : decode cX5_canBe 8 = .ok (.if_icmp .lt 36, 3) := by decide +kernel
theorem dX5_canBe_11 : decode cX5_canBe 11 = .ok (.iload_n 2, 1) := by decide +kernel
theorem dX5_canBe_12 : decode cX5_canBe 12 = .ok (.iconst 1, 1) := by decide +kernel
theorem dX5_canBe_13 : decode cX5_canBe 13 = .ok (.if_icmp .lt 31, 3) := by decide +kernel
theorem dX5_canBe_16 : decode cX5_canBe 16 = .ok (.iload_n 1, 1) := by decide +kernel
theorem dX5_canBe_17 : decode cX5_canBe 17 = .ok (.iload_n 3, 1) := by decide +kernel
theorem dX5_canBe_18 : decode cX5_canBe 18 = .ok (.if_icmp .gt 26, 3) := by decide +kernel
theorem dX5_canBe_21 : decode cX5_canBe 21 = .ok (.iload_n 2, 1) := by decide +kernel
theorem dX5_canBe_22 : decode cX5_canBe 22 = .ok (.iload_n 3, 1) := by decide +kernel
theorem dX5_canBe_23 : decode cX5_canBe 23 = .ok (.if_icmp .gt 21, 3) := by decide +kernel
theorem dX5_canBe_26 : decode cX5_canBe 26 = .ok (.iload_n 1, 1) := by decide +kernel
theorem dX5_canBe_27 : decode cX5_canBe 27 = .ok (.iload_n 2, 1) := by decide +kernel
theorem dX5_canBe_28 : decode cX5_canBe 28 = .ok (.iadd, 1) := by decide +kernel
theorem dX5_canBe_29 : decode cX5_canBe 29 = .ok (.iload_n 3, 1) := by decide +kernel
theorem dX5_canBe_30 : decode cX5_canBe 30 = .ok (.if_icmp .le 14, 3) := by decide +kernel
theorem dX5_canBe_33 : decode cX5_canBe 33 = .ok (.iconst 2, 1) := by decide +kernel
theorem dX5_canBe_34 : decode cX5_canBe 34 = .ok (.iload_n 2, 1) := by decide +kernel
theorem dX5_canBe_35 : decode cX5_canBe 35 = .ok (.imul, 1) := by decide +kernel
theorem dX5_canBe_36 : decode cX5_canBe 36 = .ok (.iload_n 3, 1) := by decide +kernel
theorem dX5_canBe_37 : decode cX5_canBe 37 = .ok (.if_icmp .le 7, 3) := by decide +kernel
theorem dX5_canBe_40 : decode cX5_canBe 40 = .ok (.iconst 1, 1) := by decide +kernel
theorem dX5_canBe_41 : decode cX5_canBe 41 = .ok (.goto 4, 3) := by decide +kernel
theorem dX5_canBe_44 : decode cX5_canBe 44 = .ok (.iconst 0, 1) := by decide +kernel
theorem dX5_canBe_45 : decode cX5_canBe 45 = .ok (.ireturn, 1) := by decide +kernel
theorem dX5_sum_0 : decode cX5_sum 0 = .ok (.iconst 0, 1) := by decide +kernel
theorem dX5_sum_1 : decode cX5_sum 1 = .ok (.istore_n 2, 1) := by decide +kernel
theorem dX5_sum_2 : decode cX5_sum 2 = .ok (.iconst 0, 1) := by decide +kernel
theorem dX5_sum_3 : decode cX5_sum 3 = .ok (.istore_n 3, 1) := by decide +kernel
theorem dX5_sum_4 : decode cX5_sum 4 = .ok (.iload_n 3, 1) := by decide +kernel
theorem dX5_sum_5 : decode cX5_sum 5 = .ok (.aload_n 0, 1) := by decide +kernel
theorem dX5_sum_6 : decode cX5_sum 6 = .ok (.arraylength, 1) := by decide +kernel
theorem dX5_sum_7 : decode cX5_sum 7 = .ok (.if_icmp .ge 24, 3) := by decide +kernel
theorem dX5_sum_10 : decode cX5_sum 10 = .ok (.iload_n 1, 1) := by decide +kernel
theorem dX5_sum_11 : decode cX5_sum 11 = .ok (.iload_n 3, 1) := by decide +kernel
theorem dX5_sum_12 : decode cX5_sum 12 = .ok (.ishr, 1) := by decide +kernel
theorem dX5_sum_13 : decode cX5_sum 13 = .ok (.iconst 1, 1) := by decide +kernel
theorem dX5_sum_14 : decode cX5_sum 14 = .ok (.iand, 1) := by decide +kernel
theorem dX5_sum_15 : decode cX5_sum 15 = .ok (.iconst 1, 1) := by decide +kernel
theorem dX5_sum_16 : decode cX5_sum 16 = .ok (.if_icmp .ne 9, 3) := by decide +kernel
theorem dX5_sum_19 : decode cX5_sum 19 = .ok (.iload_n 2, 1) := by decide +kernel
theorem dX5_sum_20 : decode cX5_sum 20 = .ok (.aload_n 0, 1) := by decide +kernel
theorem dX5_sum_21 : decode cX5_sum 21 = .ok (.iload_n 3, 1) := by decide +kernel
theorem dX5_sum_22 : decode cX5_sum 22 = .ok (.iaload, 1) := by decide +kernel
theorem dX5_sum_23 : decode cX5_sum 23 = .ok (.iadd, 1) := by decide +kernel
theorem dX5_sum_24 : decode cX5_sum 24 = .ok (.istore_n 2, 1) := by decide +kernel
theorem dX5_sum_25 : decode cX5_sum 25 = .ok (.iinc 3 1, 3) := by decide +kernel
theorem dX5_sum_28 : decode cX5_sum 28 = .ok (.goto (-24), 3) := by decide +kernel
theorem dX5_sum_31 : decode cX5_sum 31 = .ok (.iload_n 2, 1) := by decide +kernel
theorem dX5_sum_32 : decode cX5_sum 32 = .ok (.ireturn, 1) := by decide +kernel
theorem dX6_init_0 : decode cX6_init 0 = .ok (.aload_n 0, 1) := by decide +kernel
theorem dX6_init_1 : decode cX6_init 1 = .ok (.invokespecial 1, 3) := by decide +kernel
theorem dX6_init_4 : decode cX6_init 4 = .ok (.return_, 1) := by decide +kernel
theorem dX6_isAbove_0 : decode cX6_isAbove 0 = .ok (.aload_n 0, 1) := by decide +kernel
theorem dX6_isAbove_1 : decode cX6_isAbove 1 = .ok (.getfield 7, 3) := by decide +kernel
theorem dX6_isAbove_4 : decode cX6_isAbove 4 = .ok (.aload_n 1, 1) := by decide +kernel
theorem dX6_isAbove_5 : decode cX6_isAbove 5 = .ok (.getfield 7, 3) := by decide +kernel
theorem dX6_isAbove_8 : decode cX6_isAbove 8 = .ok (.if_icmp .gt 25, 3) := by decide +kernel
theorem dX6_isAbove_11 : decode cX6_isAbove 11 = .ok (.aload_n 0, 1) := by decide +kernel
theorem dX6_isAbove_12 : decode cX6_isAbove 12 = .ok (.getfield 7, 3) := by decide +kernel
theorem dX6_isAbove_15 : decode cX6_isAbove 15 = .ok (.aload_n 1, 1) := by decide +kernel
theorem dX6_isAbove_16 : decode cX6_isAbove 16 = .ok (.getfield 7, 3) := by decide +kernel
theorem dX6_isAbove_19 : decode cX6_isAbove 19 = .ok (.if_icmp .ne 18, 3) := by decide +kernel
theorem dX6_isAbove_22 : decode cX6_isAbove 22 = .ok (.aload_n 0, 1) := by decide +kernel
theorem dX6_isAbove_23 : decode cX6_isAbove 23 = .ok (.getfield 13, 3) := by decide +kernel
theorem dX6_isAbove_26 : decode cX6_isAbove 26 = .ok (.aload_n 1, 1) := by decide +kernel
theorem dX6_isAbove_27 : decode cX6_isAbove 27 = .ok (.getfield 13, 3) := by decide +kernel
theorem dX6_isAbove_30 : decode cX6_isAbove 30 = .ok (.if_icmp .le 7, 3) := by decide +kernel
theorem dX6_isAbove_33 : decode cX6_isAbove 33 = .ok (.iconst 1, 1) := by decide +kernel
theorem dX6_isAbove_34 : decode cX6_isAbove 34 = .ok (.goto 4, 3) := by decide +kernel
theorem dX6_isAbove_37 : decode cX6_isAbove 37 = .ok (.iconst 0, 1) := by decide +kernel
theorem dX6_isAbove_38 : decode cX6_isAbove 38 = .ok (.ireturn, 1) := by decide +kernel
theorem dX6_put_0 : decode cX6_put 0 = .ok (.aload_n 0, 1) := by decide +kernel
theorem dX6_put_1 : decode cX6_put 1 = .ok (.iload_n 1, 1) := by decide +kernel
theorem dX6_put_2 : decode cX6_put 2 = .ok (.putfield 7, 3) := by decide +kernel
theorem dX6_put_5 : decode cX6_put 5 = .ok (.aload_n 0, 1) := by decide +kernel
theorem dX6_put_6 : decode cX6_put 6 = .ok (.iload_n 2, 1) := by decide +kernel
theorem dX6_put_7 : decode cX6_put 7 = .ok (.putfield 13, 3) := by decide +kernel
theorem dX6_put_10 : decode cX6_put 10 = .ok (.aload_n 0, 1) := by decide +kernel
theorem dX6_put_11 : decode cX6_put 11 = .ok (.lload_n 3, 1) := by decide +kernel
theorem dX6_put_12 : decode cX6_put 12 = .ok (.putfield 16, 3) := by decide +kernel
theorem dX6_put_15 : decode cX6_put 15 = .ok (.return_, 1) := by decide +kernel
theorem dX6_set_0 : decode cX6_set 0 = .ok (.aload_n 0, 1) := by decide +kernel
theorem dX6_set_1 : decode cX6_set 1 = .ok (.aload_n 1, 1) := by decide +kernel
theorem dX6_set_2 : decode cX6_set 2 = .ok (.getfield 7, 3) := by decide +kernel
theorem dX6_set_5 : decode cX6_set 5 = .ok (.putfield 7, 3) := by decide +kernel
theorem dX6_set_8 : decode cX6_set 8 = .ok (.aload_n 0, 1) := by decide +kernel
theorem dX6_set_9 : decode cX6_set 9 = .ok (.aload_n 1, 1) := by decide +kernel
theorem dX6_set_10 : decode cX6_set 10 = .ok (.getfield 13, 3) := by decide +kernel
theorem dX6_set_13 : decode cX6_set 13 = .ok (.putfield 13, 3) := by decide +kernel
theorem dX6_set_16 : decode cX6_set 16 = .ok (.aload_n 0, 1) := by decide +kernel
theorem dX6_set_17 : decode cX6_set 17 = .ok (.aload_n 1, 1) := by decide +kernel
theorem dX6_set_18 : decode cX6_set 18 = .ok (.getfield 16, 3) := by decide +kernel
theorem dX6_set_21 : decode cX6_set 21 = .ok (.putfield 16, 3) := by decide +kernel
theorem dX6_set_24 : decode cX6_set 24 = .ok (.return_, 1) := by decide +kernel
theorem dX7_init_0 : decode cX7_init 0 = .ok (.aload_n 0, 1) := by decide +kernel
theorem dX7_init_1 : decode cX7_init 1 = .ok (.invokespecial 1, 3) := by decide +kernel
theorem dX7_init_4 : decode cX7_init 4 = .ok (.iconst 1, 1) := by decide +kernel
theorem dX7_init_5 : decode cX7_init 5 = .ok (.iload_n 1, 1) := by decide +kernel
theorem dX7_init_6 : decode cX7_init 6 = .ok (.bipush 7, 2) := by decide +kernel
theorem dX7_init_8 : decode cX7_init 8 = .ok (.invokestatic 9, 3) := by decide +kernel
theorem dX7_init_11 : decode cX7_init 11 = .ok (.invokestatic 15, 3) := by decide +kernel
theorem dX7_init_14 : decode cX7_init 14 = .ok (.istore_n 2, 1) := by decide +kernel
theorem dX7_init_15 : decode cX7_init 15 = .ok (.aload_n 0, 1) := by decide +kernel
theorem dX7_init_16 : decode cX7_init 16 = .ok (.iload_n 2, 1) := by decide +kernel
theorem dX7_init_17 : decode cX7_init 17 = .ok (.anewarray 18, 3) := by decide +kernel
theorem dX7_init_20 : decode cX7_init 20 = .ok (.putfield 20, 3) := by decide +kernel
theorem dX7_init_23 : decode cX7_init 23 = .ok (.aload_n 0, 1) := by decide +kernel
theorem dX7_init_24 : decode cX7_init 24 = .ok (.iload_n 2, 1) := by decide +kernel
theorem dX7_init_25 : decode cX7_init 25 = .ok (.newarray .int, 2) := by decide +kernel
theorem dX7_init_27 : decode cX7_init 27 = .ok (.putfield 24, 3) := by decide +kernel
theorem dX7_init_30 : decode cX7_init 30 = .ok (.iconst 0, 1) := by decide +kernel
theorem dX7_init_31 : decode cX7_init 31 = .ok (.istore_n 3, 1) := by decide +kernel
theorem dX7_init_32 : decode cX7_init 32 = .ok (.iload_n 3, 1) := by decide +kernel
theorem dX7_init_33 : decode cX7_init 33 = .ok (.iload_n 2, 1) := by decide +kernel
theorem dX7_init_34 : decode cX7_init 34 = .ok (.if_icmp .ge 29, 3) := by decide +kernel
theorem dX7_init_37 : decode cX7_init 37 = .ok (.aload_n 0, 1) := by decide +kernel
theorem dX7_init_38 : decode cX7_init 38 = .ok (.getfield 20, 3) := by decide +kernel
theorem dX7_init_41 : decode cX7_init 41 = .ok (.iload_n 3, 1) := by decide +kernel
theorem dX7_init_42 : decode cX7_init 42 = .ok (.new 18, 3) := by decide +kernel
theorem dX7_init_45 : decode cX7_init 45 = .ok (.dup, 1) := by decide +kernel
theorem dX7_init_46 : decode cX7_init 46 = .ok (.invokespecial 28, 3) := by decide +kernel
theorem dX7_init_49 : decode cX7_init 49 = .ok (.aastore, 1) := by decide +kernel
theorem dX7_init_50 : decode cX7_init 50 = .ok (.aload_n 0, 1) := by decide +kernel
theorem dX7_init_51 : decode cX7_init 51 = .ok (.getfield 24, 3) := by decide +kernel
theorem dX7_init_54 : decode cX7_init 54 = .ok (.iload_n 3, 1) := by decide +kernel
theorem dX7_init_55 : decode cX7_init 55 = .ok (.iconst 1, 1) := by decide +kernel
theorem dX7_init_56 : decode cX7_init 56 = .ok (.iastore, 1) := by decide +kernel
theorem dX7_init_57 : decode cX7_init 57 = .ok (.iinc 3 1, 3) := by decide +kernel
theorem dX7_init_60 : decode cX7_init 60 = .ok (.goto (-28), 3) := by decide +kernel
theorem dX7_init_63 : decode cX7_init 63 = .ok (.aload_n 0, 1) := by decide +kernel
theorem dX7_init_64 : decode cX7_init 64 = .ok (.iconst 4, 1) := by decide +kernel
theorem dX7_init_65 : decode cX7_init 65 = .ok (.anewarray 29, 3) := by decide +kernel
theorem dX7_init_68 : decode cX7_init 68 = .ok (.putfield 31, 3) := by decide +kernel
theorem dX7_init_71 : decode cX7_init 71 = .ok (.iconst 0, 1) := by decide +kernel
theorem dX7_init_72 : decode cX7_init 72 = .ok (.istore_n 3, 1) := by decide +kernel
theorem dX7_init_73 : decode cX7_init 73 = .ok (.iload_n 3, 1) := by decide +kernel
theorem dX7_init_74 : decode cX7_init 74 = .ok (.iconst 4, 1) := by decide +kernel
theorem dX7_init_75 : decode cX7_init 75 = .ok (.if_icmp .ge 23, 3) := by decide +kernel
theorem dX7_init_78 : decode cX7_init 78 = .ok (.aload_n 0, 1) := by decide +kernel
theorem dX7_init_79 : decode cX7_init 79 = .ok (.getfield 31, 3) := by decide +kernel
theorem dX7_init_82 : decode cX7_init 82 = .ok (.iload_n 3, 1) := by decide +kernel
theorem dX7_init_83 : decode cX7_init 83 = .ok (.new 29, 3) := by decide +kernel
theorem dX7_init_86 : decode cX7_init 86 = .ok (.dup, 1) := by decide +kernel
theorem dX7_init_87 : decode cX7_init 87 = .ok (.iload_n 3, 1) := by decide +kernel
theorem dX7_init_88 : decode cX7_init 88 = .ok (.invokespecial 35, 3) := by decide +kernel
theorem dX7_init_91 : decode cX7_init 91 = .ok (.aastore, 1) := by decide +kernel
theorem dX7_init_92 : decode cX7_init 92 = .ok (.iinc 3 1, 3) := by decide +kernel
theorem dX7_init_95 : decode cX7_init 95 = .ok (.goto (-22), 3) := by decide +kernel
theorem dX7_init_98 : decode cX7_init 98 = .ok (.aload_n 0, 1) := by decide +kernel
theorem dX7_init_99 : decode cX7_init 99 = .ok (.bipush 16, 2) := by decide +kernel
theorem dX7_init_101 : decode cX7_init 101 = .ok (.anewarray 38, 3) := by decide +kernel
theorem dX7_init_104 : decode cX7_init 104 = .ok (.putfield 40, 3) := by decide +kernel
theorem dX7_init_107 : decode cX7_init 107 = .ok (.aload_n 0, 1) := by decide +kernel
theorem dX7_init_108 : decode cX7_init 108 = .ok (.getfield 40, 3) := by decide +kernel
theorem dX7_init_111 : decode cX7_init 111 = .ok (.iconst 0, 1) := by decide +kernel
theorem dX7_init_112 : decode cX7_init 112 = .ok (.new 38, 3) := by decide +kernel
theorem dX7_init_115 : decode cX7_init 115 = .ok (.dup, 1) := by decide +kernel
theorem dX7_init_116 : decode cX7_init 116 = .ok (.aload_n 0, 1) := by decide +kernel
theorem dX7_init_117 : decode cX7_init 117 = .ok (.getfield 24, 3) := by decide +kernel
theorem dX7_init_120 : decode cX7_init 120 = .ok (.invokevirtual 44, 3) := by decide +kernel
theorem dX7_init_123 : decode cX7_init 123 = .ok (.checkcast 45, 3) := by decide +kernel
theorem dX7_init_126 : decode cX7_init 126 = .ok (.iload_n 2, 1) := by decide +kernel
theorem dX7_init_127 : decode cX7_init 127 = .ok (.iconst 2, 1) := by decide +kernel
theorem dX7_init_128 : decode cX7_init 128 = .ok (.idiv, 1) := by decide +kernel
theorem dX7_init_129 : decode cX7_init 129 = .ok (.iconst 1, 1) := by decide +kernel
theorem dX7_init_130 : decode cX7_init 130 = .ok (.iadd, 1) := by decide +kernel
theorem dX7_init_131 : decode cX7_init 131 = .ok (.iload_n 2, 1) := by decide +kernel
theorem dX7_init_132 : decode cX7_init 132 = .ok (.iconst 2, 1) := by decide +kernel
theorem dX7_init_133 : decode cX7_init 133 = .ok (.idiv, 1) := by decide +kernel
theorem dX7_init_134 : decode cX7_init 134 = .ok (.iconst 1, 1) := by decide +kernel
theorem dX7_init_135 : decode cX7_init 135 = .ok (.iadd, 1) := by decide +kernel
theorem dX7_init_136 : decode cX7_init 136 = .ok (.invokespecial 49, 3) := by decide +kernel
theorem dX7_init_139 : decode cX7_init 139 = .ok (.aastore, 1) := by decide +kernel
theorem dX7_init_140 : decode cX7_init 140 = .ok (.aload_n 0, 1) := by decide +kernel
theorem dX7_init_141 : decode cX7_init 141 = .ok (.iconst 1, 1) := by decide +kernel
theorem dX7_init_142 : decode cX7_init 142 = .ok (.putfield 52, 3) := by decide +kernel
theorem dX7_init_145 : decode cX7_init 145 = .ok (.aload_n 0, 1) := by decide +kernel
theorem dX7_init_146 : decode cX7_init 146 = .ok (.sipush 200, 3) := by decide +kernel
theorem dX7_init_149 : decode cX7_init 149 = .ok (.anewarray 56, 3) := by decide +kernel
theorem dX7_init_152 : decode cX7_init 152 = .ok (.putfield 58, 3) := by decide +kernel
theorem dX7_init_155 : decode cX7_init 155 = .ok (.aload_n 0, 1) := by decide +kernel
theorem dX7_init_156 : decode cX7_init 156 = .ok (.new 62, 3) := by decide +kernel
theorem dX7_init_159 : decode cX7_init 159 = .ok (.dup, 1) := by decide +kernel
theorem dX7_init_160 : decode cX7_init 160 = .ok (.invokespecial 64, 3) := by decide +kernel
theorem dX7_init_163 : decode cX7_init 163 = .ok (.putfield 65, 3) := by decide +kernel
theorem dX7_init_166 : decode cX7_init 166 = .ok (.return_, 1) := by decide +kernel
theorem dX7_votes_0 : decode cX7_votes 0 = .ok (.iload_n 1, 1) := by decide +kernel
theorem dX7_votes_1 : decode cX7_votes 1 = .ok (.ifCond .lt 22, 3) := by decide +kernel
theorem dX7_votes_4 : decode cX7_votes 4 = .ok (.iload_n 1, 1) := by decide +kernel
theorem dX7_votes_5 : decode cX7_votes 5 = .ok (.aload_n 0, 1) := by decide +kernel
theorem dX7_votes_6 : decode cX7_votes 6 = .ok (.getfield 24, 3) := by decide +kernel
theorem dX7_votes_9 : decode cX7_votes 9 = .ok (.arraylength, 1) := by decide +kernel
theorem dX7_votes_10 : decode cX7_votes 10 = .ok (.if_icmp .ge 13, 3) := by decide +kernel
theorem dX7_votes_13 : decode cX7_votes 13 = .ok (.iload_n 2, 1) := by decide +kernel
theorem dX7_votes_14 : decode cX7_votes 14 = .ok (.ifCond .lt 9, 3) := by decide +kernel
theorem dX7_votes_17 : decode cX7_votes 17 = .ok (.iload_n 2, 1) := by decide +kernel
theorem dX7_votes_18 : decode cX7_votes 18 = .ok (.bipush 9, 2) := by decide +kernel
theorem dX7_votes_20 : decode cX7_votes 20 = .ok (.if_icmp .le 5, 3) := by decide +kernel
theorem dX7_votes_23 : decode cX7_votes 23 = .ok (.iconst 0, 1) := by decide +kernel
theorem dX7_votes_24 : decode cX7_votes 24 = .ok (.ireturn, 1) := by decide +kernel
theorem dX7_votes_25 : decode cX7_votes 25 = .ok (.aload_n 0, 1) := by decide +kernel
theorem dX7_votes_26 : decode cX7_votes 26 = .ok (.getfield 24, 3) := by decide +kernel
theorem dX7_votes_29 : decode cX7_votes 29 = .ok (.iload_n 1, 1) := by decide +kernel
theorem dX7_votes_30 : decode cX7_votes 30 = .ok (.iload_n 2, 1) := by decide +kernel
theorem dX7_votes_31 : decode cX7_votes 31 = .ok (.iastore, 1) := by decide +kernel
theorem dX7_votes_32 : decode cX7_votes 32 = .ok (.iconst 1, 1) := by decide +kernel
theorem dX7_votes_33 : decode cX7_votes 33 = .ok (.ireturn, 1) := by decide +kernel
theorem dX7_change_0 : decode cX7_change 0 = .ok (.aload_n 0, 1) := by decide +kernel
theorem dX7_change_1 : decode cX7_change 1 = .ok (.iconst 0, 1) := by decide +kernel
theorem dX7_change_2 : decode cX7_change 2 = .ok (.invokevirtual 69, 3) := by decide +kernel
theorem dX7_change_5 : decode cX7_change 5 = .ok (.astore_n 3, 1) := by decide +kernel
theorem dX7_change_6 : decode cX7_change 6 = .ok (.aload_n 3, 1) := by decide +kernel
theorem dX7_change_7 : decode cX7_change 7 = .ok (.ifnull 22, 3) := by decide +kernel
theorem dX7_change_10 : decode cX7_change 10 = .ok (.aload_n 0, 1) := by decide +kernel
theorem dX7_change_11 : decode cX7_change 11 = .ok (.aload_n 3, 1) := by decide +kernel
theorem dX7_change_12 : decode cX7_change 12 = .ok (.invokevirtual 73, 3) := by decide +kernel
theorem dX7_change_15 : decode cX7_change 15 = .ok (.ifCond .eq 14, 3) := by decide +kernel
theorem dX7_change_18 : decode cX7_change 18 = .ok (.aload_n 3, 1) := by decide +kernel
theorem dX7_change_19 : decode cX7_change 19 = .ok (.getfield 77, 3) := by decide +kernel
theorem dX7_change_22 : decode cX7_change 22 = .ok (.aload_n 3, 1) := by decide +kernel
theorem dX7_change_23 : decode cX7_change 23 = .ok (.getfield 80, 3) := by decide +kernel
theorem dX7_change_26 : decode cX7_change 26 = .ok (.if_icmp .ge 5, 3) := by decide +kernel
theorem dX7_change_29 : decode cX7_change 29 = .ok (.iconst (-1), 1) := by decide +kernel
theorem dX7_change_30 : decode cX7_change 30 = .ok (.ireturn, 1) := by decide +kernel
theorem dX7_change_31 : decode cX7_change 31 = .ok (.aload_n 0, 1) := by decide +kernel
theorem dX7_change_32 : decode cX7_change 32 = .ok (.getfield 52, 3) := by decide +kernel
theorem dX7_change_35 : decode cX7_change 35 = .ok (.aload_n 0, 1) := by decide +kernel
theorem dX7_change_36 : decode cX7_change 36 = .ok (.getfield 40, 3) := by decide +kernel
theorem dX7_change_39 : decode cX7_change 39 = .ok (.arraylength, 1) := by decide +kernel
theorem dX7_change_40 : decode cX7_change 40 = .ok (.if_icmp .ge 15, 3) := by decide +kernel
theorem dX7_change_43 : decode cX7_change 43 = .ok (.aload_n 0, 1) := by decide +kernel
theorem dX7_change_44 : decode cX7_change 44 = .ok (.getfield 24, 3) := by decide +kernel
theorem dX7_change_47 : decode cX7_change 47 = .ok (.iload_n 1, 1) := by decide +kernel
theorem dX7_change_48 : decode cX7_change 48 = .ok (.iload_n 2, 1) := by decide +kernel
theorem dX7_change_49 : decode cX7_change 49 = .ok (.invokestatic 83, 3) := by decide +kernel
theorem dX7_change_52 : decode cX7_change 52 = .ok (.ifCond .ne 5, 3) := by decide +kernel
theorem dX7_change_55 : decode cX7_change 55 = .ok (.iconst (-1), 1) := by decide +kernel
theorem dX7_change_56 : decode cX7_change 56 = .ok (.ireturn, 1) := by decide +kernel
theorem dX7_change_57 : decode cX7_change 57 = .ok (.aload_n 0, 1) := by decide +kernel
theorem dX7_change_58 : decode cX7_change 58 = .ok (.getfield 52, 3) := by decide +kernel
theorem dX7_change_61 : decode cX7_change 61 = .ok (.istore 4, 2) := by decide +kernel
theorem dX7_change_63 : decode cX7_change 63 = .ok (.aload_n 0, 1) := by decide +kernel
theorem dX7_change_64 : decode cX7_change 64 = .ok (.getfield 40, 3) := by decide +kernel
theorem dX7_change_67 : decode cX7_change 67 = .ok (.iload 4, 2) := by decide +kernel
theorem dX7_change_69 : decode cX7_change 69 = .ok (.new 38, 3) := by decide +kernel
theorem dX7_change_72 : decode cX7_change 72 = .ok (.dup, 1) := by decide +kernel
theorem dX7_change_73 : decode cX7_change 73 = .ok (.aload_n 0, 1) := by decide +kernel
theorem dX7_change_74 : decode cX7_change 74 = .ok (.getfield 24, 3) := by decide +kernel
theorem dX7_change_77 : decode cX7_change 77 = .ok (.invokevirtual 44, 3) := by decide +kernel
theorem dX7_change_80 : decode cX7_change 80 = .ok (.checkcast 45, 3) := by decide +kernel
theorem dX7_change_83 : decode cX7_change 83 = .ok (.iload_n 1, 1) := by decide +kernel
theorem dX7_change_84 : decode cX7_change 84 = .ok (.iload_n 2, 1) := by decide +kernel
theorem dX7_change_85 : decode cX7_change 85 = .ok (.invokespecial 49, 3) := by decide +kernel
theorem dX7_change_88 : decode cX7_change 88 = .ok (.aastore, 1) := by decide +kernel
theorem dX7_change_89 : decode cX7_change 89 = .ok (.aload_n 0, 1) := by decide +kernel
theorem dX7_change_90 : decode cX7_change 90 = .ok (.dup, 1) := by decide +kernel
theorem dX7_change_91 : decode cX7_change 91 = .ok (.getfield 52, 3) := by decide +kernel
theorem dX7_change_94 : decode cX7_change 94 = .ok (.iconst 1, 1) := by decide +kernel
theorem dX7_change_95 : decode cX7_change 95 = .ok (.iadd, 1) := by decide +kernel
theorem dX7_change_96 : decode cX7_change 96 = .ok (.putfield 52, 3) := by decide +kernel
theorem dX7_change_99 : decode cX7_change 99 = .ok (.aload_n 0, 1) := by decide +kernel
theorem dX7_change_100 : decode cX7_change 100 = .ok (.aload_n 3, 1) := by decide +kernel
theorem dX7_change_101 : decode cX7_change 101 = .ok (.iload 4, 2) := by decide +kernel
theorem dX7_change_103 : decode cX7_change 103 = .ok (.invokevirtual 87, 3) := by decide +kernel
theorem dX7_change_106 : decode cX7_change 106 = .ok (.ireturn, 1) := by decide +kernel
theorem dX7_resume_0 : decode cX7_resume 0 = .ok (.aload_n 0, 1) := by decide +kernel
theorem dX7_resume_1 : decode cX7_resume 1 = .ok (.iconst 0, 1) := by decide +kernel
theorem dX7_resume_2 : decode cX7_resume 2 = .ok (.invokevirtual 69, 3) := by decide +kernel
theorem dX7_resume_5 : decode cX7_resume 5 = .ok (.astore_n 1, 1) := by decide +kernel
theorem dX7_resume_6 : decode cX7_resume 6 = .ok (.aload_n 1, 1) := by decide +kernel
theorem dX7_resume_7 : decode cX7_resume 7 = .ok (.ifnull 22, 3) := by decide +kernel
theorem dX7_resume_10 : decode cX7_resume 10 = .ok (.aload_n 0, 1) := by decide +kernel
theorem dX7_resume_11 : decode cX7_resume 11 = .ok (.aload_n 1, 1) := by decide +kernel
theorem dX7_resume_12 : decode cX7_resume 12 = .ok (.invokevirtual 73, 3) := by decide +kernel
theorem dX7_resume_15 : decode cX7_resume 15 = .ok (.ifCond .eq 14, 3) := by decide +kernel
theorem dX7_resume_18 : decode cX7_resume 18 = .ok (.aload_n 1, 1) := by decide +kernel
theorem dX7_resume_19 : decode cX7_resume 19 = .ok (.getfield 77, 3) := by decide +kernel
theorem dX7_resume_22 : decode cX7_resume 22 = .ok (.aload_n 1, 1) := by decide +kernel
theorem dX7_resume_23 : decode cX7_resume 23 = .ok (.getfield 80, 3) := by decide +kernel
theorem dX7_resume_26 : decode cX7_resume 26 = .ok (.if_icmp .lt 5, 3) := by decide +kernel
theorem dX7_resume_29 : decode cX7_resume 29 = .ok (.iconst (-1), 1) := by decide +kernel
theorem dX7_resume_30 : decode cX7_resume 30 = .ok (.ireturn, 1) := by decide +kernel
theorem dX7_resume_31 : decode cX7_resume 31 = .ok (.aload_n 0, 1) := by decide +kernel
theorem dX7_resume_32 : decode cX7_resume 32 = .ok (.aload_n 1, 1) := by decide +kernel
theorem dX7_resume_33 : decode cX7_resume 33 = .ok (.aload_n 1, 1) := by decide +kernel
theorem dX7_resume_34 : decode cX7_resume 34 = .ok (.getfield 80, 3) := by decide +kernel
theorem dX7_resume_37 : decode cX7_resume 37 = .ok (.invokevirtual 87, 3) := by decide +kernel
theorem dX7_resume_40 : decode cX7_resume 40 = .ok (.ireturn, 1) := by decide +kernel
theorem dX7_read_0 : decode cX7_read 0 = .ok (.aload_n 0, 1) := by decide +kernel
theorem dX7_read_1 : decode cX7_read 1 = .ok (.iload_n 1, 1) := by decide +kernel
theorem dX7_read_2 : decode cX7_read 2 = .ok (.invokevirtual 69, 3) := by decide +kernel
theorem dX7_read_5 : decode cX7_read 5 = .ok (.astore_n 2, 1) := by decide +kernel
theorem dX7_read_6 : decode cX7_read 6 = .ok (.aload_n 2, 1) := by decide +kernel
theorem dX7_read_7 : decode cX7_read 7 = .ok (.ifnull 11, 3) := by decide +kernel
theorem dX7_read_10 : decode cX7_read 10 = .ok (.aload_n 0, 1) := by decide +kernel
theorem dX7_read_11 : decode cX7_read 11 = .ok (.aload_n 2, 1) := by decide +kernel
theorem dX7_read_12 : decode cX7_read 12 = .ok (.invokevirtual 73, 3) := by decide +kernel
theorem dX7_read_15 : decode cX7_read 15 = .ok (.ifCond .ne 5, 3) := by decide +kernel
theorem dX7_read_18 : decode cX7_read 18 = .ok (.iconst (-1), 1) := by decide +kernel
theorem dX7_read_19 : decode cX7_read 19 = .ok (.ireturn, 1) := by decide +kernel
theorem dX7_read_20 : decode cX7_read 20 = .ok (.aload_n 0, 1) := by decide +kernel
theorem dX7_read_21 : decode cX7_read 21 = .ok (.aload_n 2, 1) := by decide +kernel
theorem dX7_read_22 : decode cX7_read 22 = .ok (.new 56, 3) := by decide +kernel
theorem dX7_read_25 : decode cX7_read 25 = .ok (.dup, 1) := by decide +kernel
theorem dX7_read_26 : decode cX7_read 26 = .ok (.aload_n 0, 1) := by decide +kernel
theorem dX7_read_27 : decode cX7_read 27 = .ok (.getfield 91, 3) := by decide +kernel
theorem dX7_read_30 : decode cX7_read 30 = .ok (.iconst 1, 1) := by decide +kernel
theorem dX7_read_31 : decode cX7_read 31 = .ok (.iadd, 1) := by decide +kernel
theorem dX7_read_32 : decode cX7_read 32 = .ok (.iconst 0, 1) := by decide +kernel
theorem dX7_read_33 : decode cX7_read 33 = .ok (.iload_n 1, 1) := by decide +kernel
theorem dX7_read_34 : decode cX7_read 34 = .ok (.invokespecial 94, 3) := by decide +kernel
theorem dX7_read_37 : decode cX7_read 37 = .ok (.iconst 1, 1) := by decide +kernel
theorem dX7_read_38 : decode cX7_read 38 = .ok (.invokevirtual 97, 3) := by decide +kernel
theorem dX7_read_41 : decode cX7_read 41 = .ok (.ireturn, 1) := by decide +kernel
theorem dX7_write_0 : decode cX7_write 0 = .ok (.aload_n 0, 1) := by decide +kernel
theorem dX7_write_1 : decode cX7_write 1 = .ok (.iload_n 1, 1) := by decide +kernel
theorem dX7_write_2 : decode cX7_write 2 = .ok (.invokevirtual 69, 3) := by decide +kernel
theorem dX7_write_5 : decode cX7_write 5 = .ok (.astore 4, 2) := by decide +kernel
theorem dX7_write_7 : decode cX7_write 7 = .ok (.aload 4, 2) := by decide +kernel
theorem dX7_write_9 : decode cX7_write 9 = .ok (.ifnull 12, 3) := by decide +kernel
theorem dX7_write_12 : decode cX7_write 12 = .ok (.aload_n 0, 1) := by decide +kernel
theorem dX7_write_13 : decode cX7_write 13 = .ok (.aload 4, 2) := by decide +kernel
theorem dX7_write_15 : decode cX7_write 15 = .ok (.invokevirtual 73, 3) := by decide +kernel
theorem dX7_write_18 : decode cX7_write 18 = .ok (.ifCond .ne 5, 3) := by decide +kernel
theorem dX7_write_21 : decode cX7_write 21 = .ok (.iconst (-1), 1) := by decide +kernel
theorem dX7_write_22 : decode cX7_write 22 = .ok (.ireturn, 1) := by decide +kernel
theorem dX7_write_23 : decode cX7_write 23 = .ok (.new 56, 3) := by decide +kernel
theorem dX7_write_26 : decode cX7_write 26 = .ok (.dup, 1) := by decide +kernel
theorem dX7_write_27 : decode cX7_write 27 = .ok (.aload_n 0, 1) := by decide +kernel
theorem dX7_write_28 : decode cX7_write 28 = .ok (.getfield 91, 3) := by decide +kernel
theorem dX7_write_31 : decode cX7_write 31 = .ok (.iconst 1, 1) := by decide +kernel
theorem dX7_write_32 : decode cX7_write 32 = .ok (.iadd, 1) := by decide +kernel
theorem dX7_write_33 : decode cX7_write 33 = .ok (.iconst 1, 1) := by decide +kernel
theorem dX7_write_34 : decode cX7_write 34 = .ok (.iload_n 1, 1) := by decide +kernel
theorem dX7_write_35 : decode cX7_write 35 = .ok (.invokespecial 94, 3) := by decide +kernel
theorem dX7_write_38 : decode cX7_write 38 = .ok (.astore 5, 2) := by decide +kernel
theorem dX7_write_40 : decode cX7_write 40 = .ok (.aload 5, 2) := by decide +kernel
theorem dX7_write_42 : decode cX7_write 42 = .ok (.lload_n 2, 1) := by decide +kernel
theorem dX7_write_43 : decode cX7_write 43 = .ok (.putfield 101, 3) := by decide +kernel
theorem dX7_write_46 : decode cX7_write 46 = .ok (.aload_n 0, 1) := by decide +kernel
theorem dX7_write_47 : decode cX7_write 47 = .ok (.aload 4, 2) := by decide +kernel
theorem dX7_write_49 : decode cX7_write 49 = .ok (.aload 5, 2) := by decide +kernel
theorem dX7_write_51 : decode cX7_write 51 = .ok (.iconst 1, 1) := by decide +kernel
theorem dX7_write_52 : decode cX7_write 52 = .ok (.invokevirtual 97, 3) := by decide +kernel
theorem dX7_write_55 : decode cX7_write 55 = .ok (.ireturn, 1) := by decide +kernel
