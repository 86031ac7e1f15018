theorem dX7_again_0 : decode cX7_again 0 = .ok (.aload_n 0, 1) := by decide +kernel
theorem dX7_again_1 : decode cX7_again 1 = .ok (.iload_n 1, 1) := by decide +kernel
theorem dX7_again_2 : decode cX7_again 2 = .ok (.invokevirtual 69, 3) := by decide +kernel
theorem dX7_again_5 : decode cX7_again 5 = .ok (.astore_n 2, 1) := by decide +kernel
theorem dX7_again_6 : decode cX7_again 6 = .ok (.aload_n 2, 1) := by decide +kernel
theorem dX7_again_7 : decode cX7_again 7 = .ok (.ifnull 10, 3) := by decide +kernel
theorem dX7_again_10 : decode cX7_again 10 = .ok (.aload_n 2, 1) := by decide +kernel
theorem dX7_again_11 : decode cX7_again 11 = .ok (.getfield 105, 3) := by decide +kernel
theorem dX7_again_14 : decode cX7_again 14 = .ok (.ifnonnull 5, 3) := by decide +kernel
theorem dX7_again_17 : decode cX7_again 17 = .ok (.iconst (-1), 1) := by decide +kernel
theorem dX7_again_18 : decode cX7_again 18 = .ok (.ireturn, 1) := by decide +kernel
theorem dX7_again_19 : decode cX7_again 19 = .ok (.aload_n 0, 1) := by decide +kernel
theorem dX7_again_20 : decode cX7_again 20 = .ok (.aload_n 2, 1) := by decide +kernel
theorem dX7_again_21 : decode cX7_again 21 = .ok (.aload_n 2, 1) := by decide +kernel
theorem dX7_again_22 : decode cX7_again 22 = .ok (.getfield 105, 3) := by decide +kernel
theorem dX7_again_25 : decode cX7_again 25 = .ok (.invokevirtual 109, 3) := by decide +kernel
theorem dX7_again_28 : decode cX7_again 28 = .ok (.ireturn, 1) := by decide +kernel
theorem dX7_halt_0 : decode cX7_halt 0 = .ok (.aload_n 0, 1) := by decide +kernel
theorem dX7_halt_1 : decode cX7_halt 1 = .ok (.iload_n 1, 1) := by decide +kernel
theorem dX7_halt_2 : decode cX7_halt 2 = .ok (.invokevirtual 69, 3) := by decide +kernel
theorem dX7_halt_5 : decode cX7_halt 5 = .ok (.astore_n 2, 1) := by decide +kernel
theorem dX7_halt_6 : decode cX7_halt 6 = .ok (.aload_n 2, 1) := by decide +kernel
theorem dX7_halt_7 : decode cX7_halt 7 = .ok (.ifnonnull 5, 3) := by decide +kernel
theorem dX7_halt_10 : decode cX7_halt 10 = .ok (.iconst (-1), 1) := by decide +kernel
theorem dX7_halt_11 : decode cX7_halt 11 = .ok (.ireturn, 1) := by decide +kernel
theorem dX7_halt_12 : decode cX7_halt 12 = .ok (.aload_n 2, 1) := by decide +kernel
theorem dX7_halt_13 : decode cX7_halt 13 = .ok (.getfield 105, 3) := by decide +kernel
theorem dX7_halt_16 : decode cX7_halt 16 = .ok (.astore_n 3, 1) := by decide +kernel
theorem dX7_halt_17 : decode cX7_halt 17 = .ok (.aload_n 3, 1) := by decide +kernel
theorem dX7_halt_18 : decode cX7_halt 18 = .ok (.ifnonnull 5, 3) := by decide +kernel
theorem dX7_halt_21 : decode cX7_halt 21 = .ok (.iconst (-1), 1) := by decide +kernel
theorem dX7_halt_22 : decode cX7_halt 22 = .ok (.ireturn, 1) := by decide +kernel
theorem dX7_halt_23 : decode cX7_halt 23 = .ok (.aload_n 0, 1) := by decide +kernel
theorem dX7_halt_24 : decode cX7_halt 24 = .ok (.dup, 1) := by decide +kernel
theorem dX7_halt_25 : decode cX7_halt 25 = .ok (.getfield 113, 3) := by decide +kernel
theorem dX7_halt_28 : decode cX7_halt 28 = .ok (.iconst 1, 1) := by decide +kernel
theorem dX7_halt_29 : decode cX7_halt 29 = .ok (.iadd, 1) := by decide +kernel
theorem dX7_halt_30 : decode cX7_halt 30 = .ok (.putfield 113, 3) := by decide +kernel
theorem dX7_halt_33 : decode cX7_halt 33 = .ok (.aload_n 2, 1) := by decide +kernel
theorem dX7_halt_34 : decode cX7_halt 34 = .ok (.invokevirtual 116, 3) := by decide +kernel
theorem dX7_halt_37 : decode cX7_halt 37 = .ok (.aload_n 3, 1) := by decide +kernel
theorem dX7_halt_38 : decode cX7_halt 38 = .ok (.getfield 119, 3) := by decide +kernel
theorem dX7_halt_41 : decode cX7_halt 41 = .ok (.ireturn, 1) := by decide +kernel
theorem dX7_deliver_0 : decode cX7_deliver 0 = .ok (.aload_n 0, 1) := by decide +kernel
theorem dX7_deliver_1 : decode cX7_deliver 1 = .ok (.getfield 65, 3) := by decide +kernel
theorem dX7_deliver_4 : decode cX7_deliver 4 = .ok (.iload_n 1, 1) := by decide +kernel
theorem dX7_deliver_5 : decode cX7_deliver 5 = .ok (.invokevirtual 122, 3) := by decide +kernel
theorem dX7_deliver_8 : decode cX7_deliver 8 = .ok (.astore_n 2, 1) := by decide +kernel
theorem dX7_deliver_9 : decode cX7_deliver 9 = .ok (.aload_n 2, 1) := by decide +kernel
theorem dX7_deliver_10 : decode cX7_deliver 10 = .ok (.ifnull 11, 3) := by decide +kernel
theorem dX7_deliver_13 : decode cX7_deliver 13 = .ok (.aload_n 0, 1) := by decide +kernel
theorem dX7_deliver_14 : decode cX7_deliver 14 = .ok (.aload_n 2, 1) := by decide +kernel
theorem dX7_deliver_15 : decode cX7_deliver 15 = .ok (.invokevirtual 126, 3) := by decide +kernel
theorem dX7_deliver_18 : decode cX7_deliver 18 = .ok (.ifCond .ne 5, 3) := by decide +kernel
theorem dX7_deliver_21 : decode cX7_deliver 21 = .ok (.iconst 0, 1) := by decide +kernel
theorem dX7_deliver_22 : decode cX7_deliver 22 = .ok (.ireturn, 1) := by decide +kernel
theorem dX7_deliver_23 : decode cX7_deliver 23 = .ok (.aload_n 0, 1) := by decide +kernel
theorem dX7_deliver_24 : decode cX7_deliver 24 = .ok (.getfield 65, 3) := by decide +kernel
theorem dX7_deliver_27 : decode cX7_deliver 27 = .ok (.iload_n 1, 1) := by decide +kernel
theorem dX7_deliver_28 : decode cX7_deliver 28 = .ok (.invokevirtual 130, 3) := by decide +kernel
theorem dX7_deliver_31 : decode cX7_deliver 31 = .ok (.pop, 1) := by decide +kernel
theorem dX7_deliver_32 : decode cX7_deliver 32 = .ok (.aload_n 0, 1) := by decide +kernel
theorem dX7_deliver_33 : decode cX7_deliver 33 = .ok (.dup, 1) := by decide +kernel
theorem dX7_deliver_34 : decode cX7_deliver 34 = .ok (.getfield 113, 3) := by decide +kernel
theorem dX7_deliver_37 : decode cX7_deliver 37 = .ok (.iconst 1, 1) := by decide +kernel
theorem dX7_deliver_38 : decode cX7_deliver 38 = .ok (.iadd, 1) := by decide +kernel
theorem dX7_deliver_39 : decode cX7_deliver 39 = .ok (.putfield 113, 3) := by decide +kernel
theorem dX7_deliver_42 : decode cX7_deliver 42 = .ok (.aload_n 2, 1) := by decide +kernel
theorem dX7_deliver_43 : decode cX7_deliver 43 = .ok (.getfield 134, 3) := by decide +kernel
theorem dX7_deliver_46 : decode cX7_deliver 46 = .ok (.ifCond .eq 11, 3) := by decide +kernel
theorem dX7_deliver_49 : decode cX7_deliver 49 = .ok (.aload_n 0, 1) := by decide +kernel
theorem dX7_deliver_50 : decode cX7_deliver 50 = .ok (.aload_n 2, 1) := by decide +kernel
theorem dX7_deliver_51 : decode cX7_deliver 51 = .ok (.invokevirtual 140, 3) := by decide +kernel
theorem dX7_deliver_54 : decode cX7_deliver 54 = .ok (.goto 8, 3) := by decide +kernel
theorem dX7_deliver_57 : decode cX7_deliver 57 = .ok (.aload_n 0, 1) := by decide +kernel
theorem dX7_deliver_58 : decode cX7_deliver 58 = .ok (.aload_n 2, 1) := by decide +kernel
theorem dX7_deliver_59 : decode cX7_deliver 59 = .ok (.invokevirtual 144, 3) := by decide +kernel
theorem dX7_deliver_62 : decode cX7_deliver 62 = .ok (.iconst 1, 1) := by decide +kernel
theorem dX7_deliver_63 : decode cX7_deliver 63 = .ok (.ireturn, 1) := by decide +kernel
theorem dX7_settle_0 : decode cX7_settle 0 = .ok (.iload_n 1, 1) := by decide +kernel
theorem dX7_settle_1 : decode cX7_settle 1 = .ok (.ifCond .ge 5, 3) := by decide +kernel
theorem dX7_settle_4 : decode cX7_settle 4 = .ok (.iconst (-1), 1) := by decide +kernel
theorem dX7_settle_5 : decode cX7_settle 5 = .ok (.ireturn, 1) := by decide +kernel
theorem dX7_settle_6 : decode cX7_settle 6 = .ok (.iconst 0, 1) := by decide +kernel
theorem dX7_settle_7 : decode cX7_settle 7 = .ok (.istore_n 2, 1) := by decide +kernel
theorem dX7_settle_8 : decode cX7_settle 8 = .ok (.iconst 0, 1) := by decide +kernel
theorem dX7_settle_9 : decode cX7_settle 9 = .ok (.istore_n 3, 1) := by decide +kernel
theorem dX7_settle_10 : decode cX7_settle 10 = .ok (.iconst 0, 1) := by decide +kernel
theorem dX7_settle_11 : decode cX7_settle 11 = .ok (.istore 4, 2) := by decide +kernel
theorem dX7_settle_13 : decode cX7_settle 13 = .ok (.iload 4, 2) := by decide +kernel
theorem dX7_settle_15 : decode cX7_settle 15 = .ok (.ldc 147, 2) := by decide +kernel
theorem dX7_settle_17 : decode cX7_settle 17 = .ok (.if_icmp .ge 42, 3) := by decide +kernel
theorem dX7_settle_20 : decode cX7_settle 20 = .ok (.iload_n 2, 1) := by decide +kernel
theorem dX7_settle_21 : decode cX7_settle 21 = .ok (.iload_n 1, 1) := by decide +kernel
theorem dX7_settle_22 : decode cX7_settle 22 = .ok (.if_icmp .ge 37, 3) := by decide +kernel
theorem dX7_settle_25 : decode cX7_settle 25 = .ok (.iload_n 3, 1) := by decide +kernel
theorem dX7_settle_26 : decode cX7_settle 26 = .ok (.aload_n 0, 1) := by decide +kernel
theorem dX7_settle_27 : decode cX7_settle 27 = .ok (.getfield 65, 3) := by decide +kernel
theorem dX7_settle_30 : decode cX7_settle 30 = .ok (.getfield 148, 3) := by decide +kernel
theorem dX7_settle_33 : decode cX7_settle 33 = .ok (.if_icmp .ge 26, 3) := by decide +kernel
theorem dX7_settle_36 : decode cX7_settle 36 = .ok (.aload_n 0, 1) := by decide +kernel
theorem dX7_settle_37 : decode cX7_settle 37 = .ok (.iload_n 3, 1) := by decide +kernel
theorem dX7_settle_38 : decode cX7_settle 38 = .ok (.invokevirtual 151, 3) := by decide +kernel
theorem dX7_settle_41 : decode cX7_settle 41 = .ok (.ifCond .eq 9, 3) := by decide +kernel
theorem dX7_settle_44 : decode cX7_settle 44 = .ok (.iinc 2 1, 3) := by decide +kernel
theorem dX7_settle_47 : decode cX7_settle 47 = .ok (.goto 6, 3) := by decide +kernel
theorem dX7_settle_50 : decode cX7_settle 50 = .ok (.iinc 3 1, 3) := by decide +kernel
theorem dX7_settle_53 : decode cX7_settle 53 = .ok (.iinc 4 1, 3) := by decide +kernel
theorem dX7_settle_56 : decode cX7_settle 56 = .ok (.goto (-43), 3) := by decide +kernel
theorem dX7_settle_59 : decode cX7_settle 59 = .ok (.iload_n 2, 1) := by decide +kernel
theorem dX7_settle_60 : decode cX7_settle 60 = .ok (.ireturn, 1) := by decide +kernel
theorem dX7_lose_0 : decode cX7_lose 0 = .ok (.aload_n 0, 1) := by decide +kernel
theorem dX7_lose_1 : decode cX7_lose 1 = .ok (.getfield 65, 3) := by decide +kernel
theorem dX7_lose_4 : decode cX7_lose 4 = .ok (.iload_n 1, 1) := by decide +kernel
theorem dX7_lose_5 : decode cX7_lose 5 = .ok (.invokevirtual 130, 3) := by decide +kernel
theorem dX7_lose_8 : decode cX7_lose 8 = .ok (.ireturn, 1) := by decide +kernel
theorem dX7_twice_0 : decode cX7_twice 0 = .ok (.aload_n 0, 1) := by decide +kernel
theorem dX7_twice_1 : decode cX7_twice 1 = .ok (.getfield 65, 3) := by decide +kernel
theorem dX7_twice_4 : decode cX7_twice 4 = .ok (.iload_n 1, 1) := by decide +kernel
theorem dX7_twice_5 : decode cX7_twice 5 = .ok (.invokevirtual 122, 3) := by decide +kernel
theorem dX7_twice_8 : decode cX7_twice 8 = .ok (.astore_n 2, 1) := by decide +kernel
theorem dX7_twice_9 : decode cX7_twice 9 = .ok (.aload_n 2, 1) := by decide +kernel
theorem dX7_twice_10 : decode cX7_twice 10 = .ok (.ifnull 16, 3) := by decide +kernel
theorem dX7_twice_13 : decode cX7_twice 13 = .ok (.aload_n 0, 1) := by decide +kernel
theorem dX7_twice_14 : decode cX7_twice 14 = .ok (.getfield 65, 3) := by decide +kernel
theorem dX7_twice_17 : decode cX7_twice 17 = .ok (.getfield 148, 3) := by decide +kernel
theorem dX7_twice_20 : decode cX7_twice 20 = .ok (.sipush 300, 3) := by decide +kernel
theorem dX7_twice_23 : decode cX7_twice 23 = .ok (.if_icmp .lt 5, 3) := by decide +kernel
theorem dX7_twice_26 : decode cX7_twice 26 = .ok (.iconst 0, 1) := by decide +kernel
theorem dX7_twice_27 : decode cX7_twice 27 = .ok (.ireturn, 1) := by decide +kernel
theorem dX7_twice_28 : decode cX7_twice 28 = .ok (.aload_n 0, 1) := by decide +kernel
theorem dX7_twice_29 : decode cX7_twice 29 = .ok (.getfield 65, 3) := by decide +kernel
theorem dX7_twice_32 : decode cX7_twice 32 = .ok (.invokevirtual 154, 3) := by decide +kernel
theorem dX7_twice_35 : decode cX7_twice 35 = .ok (.astore_n 3, 1) := by decide +kernel
theorem dX7_twice_36 : decode cX7_twice 36 = .ok (.aload_n 3, 1) := by decide +kernel
theorem dX7_twice_37 : decode cX7_twice 37 = .ok (.ifnonnull 5, 3) := by decide +kernel
theorem dX7_twice_40 : decode cX7_twice 40 = .ok (.iconst 0, 1) := by decide +kernel
theorem dX7_twice_41 : decode cX7_twice 41 = .ok (.ireturn, 1) := by decide +kernel
theorem dX7_twice_42 : decode cX7_twice 42 = .ok (.aload_n 3, 1) := by decide +kernel
theorem dX7_twice_43 : decode cX7_twice 43 = .ok (.aload_n 2, 1) := by decide +kernel
theorem dX7_twice_44 : decode cX7_twice 44 = .ok (.invokevirtual 158, 3) := by decide +kernel
theorem dX7_twice_47 : decode cX7_twice 47 = .ok (.iconst 1, 1) := by decide +kernel
theorem dX7_twice_48 : decode cX7_twice 48 = .ok (.ireturn, 1) := by decide +kernel
theorem dX7_silent_0 : decode cX7_silent 0 = .ok (.aload_n 0, 1) := by decide +kernel
theorem dX7_silent_1 : decode cX7_silent 1 = .ok (.iload_n 1, 1) := by decide +kernel
theorem dX7_silent_2 : decode cX7_silent 2 = .ok (.invokevirtual 161, 3) := by decide +kernel
theorem dX7_silent_5 : decode cX7_silent 5 = .ok (.astore_n 3, 1) := by decide +kernel
theorem dX7_silent_6 : decode cX7_silent 6 = .ok (.aload_n 3, 1) := by decide +kernel
theorem dX7_silent_7 : decode cX7_silent 7 = .ok (.ifnonnull 5, 3) := by decide +kernel
theorem dX7_silent_10 : decode cX7_silent 10 = .ok (.iconst 0, 1) := by decide +kernel
theorem dX7_silent_11 : decode cX7_silent 11 = .ok (.ireturn, 1) := by decide +kernel
theorem dX7_silent_12 : decode cX7_silent 12 = .ok (.aload_n 3, 1) := by decide +kernel
theorem dX7_silent_13 : decode cX7_silent 13 = .ok (.iload_n 2, 1) := by decide +kernel
theorem dX7_silent_14 : decode cX7_silent 14 = .ok (.putfield 165, 3) := by decide +kernel
theorem dX7_silent_17 : decode cX7_silent 17 = .ok (.iconst 1, 1) := by decide +kernel
theorem dX7_silent_18 : decode cX7_silent 18 = .ok (.ireturn, 1) := by decide +kernel
theorem dX7_side_0 : decode cX7_side 0 = .ok (.iload_n 2, 1) := by decide +kernel
theorem dX7_side_1 : decode cX7_side 1 = .ok (.ifCond .lt 8, 3) := by decide +kernel
theorem dX7_side_4 : decode cX7_side 4 = .ok (.iload_n 2, 1) := by decide +kernel
theorem dX7_side_5 : decode cX7_side 5 = .ok (.iconst 4, 1) := by decide +kernel
theorem dX7_side_6 : decode cX7_side 6 = .ok (.if_icmp .lt 5, 3) := by decide +kernel
theorem dX7_side_9 : decode cX7_side 9 = .ok (.iconst 0, 1) := by decide +kernel
theorem dX7_side_10 : decode cX7_side 10 = .ok (.ireturn, 1) := by decide +kernel
theorem dX7_side_11 : decode cX7_side 11 = .ok (.aload_n 0, 1) := by decide +kernel
theorem dX7_side_12 : decode cX7_side 12 = .ok (.iload_n 1, 1) := by decide +kernel
theorem dX7_side_13 : decode cX7_side 13 = .ok (.invokevirtual 161, 3) := by decide +kernel
theorem dX7_side_16 : decode cX7_side 16 = .ok (.astore_n 3, 1) := by decide +kernel
theorem dX7_side_17 : decode cX7_side 17 = .ok (.aload_n 3, 1) := by decide +kernel
theorem dX7_side_18 : decode cX7_side 18 = .ok (.ifnull 10, 3) := by decide +kernel
theorem dX7_side_21 : decode cX7_side 21 = .ok (.aload_n 3, 1) := by decide +kernel
theorem dX7_side_22 : decode cX7_side 22 = .ok (.iload_n 2, 1) := by decide +kernel
theorem dX7_side_23 : decode cX7_side 23 = .ok (.putfield 168, 3) := by decide +kernel
theorem dX7_side_26 : decode cX7_side 26 = .ok (.iconst 1, 1) := by decide +kernel
theorem dX7_side_27 : decode cX7_side 27 = .ok (.ireturn, 1) := by decide +kernel
theorem dX7_side_28 : decode cX7_side 28 = .ok (.iload_n 1, 1) := by decide +kernel
theorem dX7_side_29 : decode cX7_side 29 = .ok (.bipush 10, 2) := by decide +kernel
theorem dX7_side_31 : decode cX7_side 31 = .ok (.if_icmp .ge 5, 3) := by decide +kernel
theorem dX7_side_34 : decode cX7_side 34 = .ok (.iconst 0, 1) := by decide +kernel
theorem dX7_side_35 : decode cX7_side 35 = .ok (.ireturn, 1) := by decide +kernel
theorem dX7_side_36 : decode cX7_side 36 = .ok (.aload_n 0, 1) := by decide +kernel
theorem dX7_side_37 : decode cX7_side 37 = .ok (.iload_n 1, 1) := by decide +kernel
theorem dX7_side_38 : decode cX7_side 38 = .ok (.bipush 10, 2) := by decide +kernel
theorem dX7_side_40 : decode cX7_side 40 = .ok (.isub, 1) := by decide +kernel
theorem dX7_side_41 : decode cX7_side 41 = .ok (.invokevirtual 69, 3) := by decide +kernel
theorem dX7_side_44 : decode cX7_side 44 = .ok (.astore 4, 2) := by decide +kernel
theorem dX7_side_46 : decode cX7_side 46 = .ok (.aload 4, 2) := by decide +kernel
theorem dX7_side_48 : decode cX7_side 48 = .ok (.ifnonnull 5, 3) := by decide +kernel
theorem dX7_side_51 : decode cX7_side 51 = .ok (.iconst 0, 1) := by decide +kernel
theorem dX7_side_52 : decode cX7_side 52 = .ok (.ireturn, 1) := by decide +kernel
theorem dX7_side_53 : decode cX7_side 53 = .ok (.aload 4, 2) := by decide +kernel
theorem dX7_side_55 : decode cX7_side 55 = .ok (.iload_n 2, 1) := by decide +kernel
theorem dX7_side_56 : decode cX7_side 56 = .ok (.putfield 171, 3) := by decide +kernel
theorem dX7_side_59 : decode cX7_side 59 = .ok (.iconst 1, 1) := by decide +kernel
theorem dX7_side_60 : decode cX7_side 60 = .ok (.ireturn, 1) := by decide +kernel
theorem dX7_copy_0 : decode cX7_copy 0 = .ok (.aload_n 0, 1) := by decide +kernel
theorem dX7_copy_1 : decode cX7_copy 1 = .ok (.iload_n 1, 1) := by decide +kernel
theorem dX7_copy_2 : decode cX7_copy 2 = .ok (.invokevirtual 161, 3) := by decide +kernel
theorem dX7_copy_5 : decode cX7_copy 5 = .ok (.astore_n 3, 1) := by decide +kernel
theorem dX7_copy_6 : decode cX7_copy 6 = .ok (.aload_n 3, 1) := by decide +kernel
theorem dX7_copy_7 : decode cX7_copy 7 = .ok (.ifnonnull 5, 3) := by decide +kernel
theorem dX7_copy_10 : decode cX7_copy 10 = .ok (.iconst (-1), 1) := by decide +kernel
theorem dX7_copy_11 : decode cX7_copy 11 = .ok (.ireturn, 1) := by decide +kernel
theorem dX7_copy_12 : decode cX7_copy 12 = .ok (.iload_n 2, 1) := by decide +kernel
theorem dX7_copy_13 : decode cX7_copy 13 = .ok (.tableswitch 83 0 5 #[39, 47, 55, 60, 65, 78], 39) := by decide +kernel
theorem dX7_copy_52 : decode cX7_copy 52 = .ok (.aload_n 3, 1) := by decide +kernel
theorem dX7_copy_53 : decode cX7_copy 53 = .ok (.getfield 172, 3) := by decide +kernel
theorem dX7_copy_56 : decode cX7_copy 56 = .ok (.getfield 176, 3) := by decide +kernel
theorem dX7_copy_59 : decode cX7_copy 59 = .ok (.ireturn, 1) := by decide +kernel
theorem dX7_copy_60 : decode cX7_copy 60 = .ok (.aload_n 3, 1) := by decide +kernel
theorem dX7_copy_61 : decode cX7_copy 61 = .ok (.getfield 172, 3) := by decide +kernel
theorem dX7_copy_64 : decode cX7_copy 64 = .ok (.getfield 181, 3) := by decide +kernel
theorem dX7_copy_67 : decode cX7_copy 67 = .ok (.ireturn, 1) := by decide +kernel
theorem dX7_copy_68 : decode cX7_copy 68 = .ok (.aload_n 3, 1) := by decide +kernel
theorem dX7_copy_69 : decode cX7_copy 69 = .ok (.getfield 184, 3) := by decide +kernel
theorem dX7_copy_72 : decode cX7_copy 72 = .ok (.ireturn, 1) := by decide +kernel
theorem dX7_copy_73 : decode cX7_copy 73 = .ok (.aload_n 3, 1) := by decide +kernel
theorem dX7_copy_74 : decode cX7_copy 74 = .ok (.getfield 185, 3) := by decide +kernel
theorem dX7_copy_77 : decode cX7_copy 77 = .ok (.ireturn, 1) := by decide +kernel
theorem dX7_copy_78 : decode cX7_copy 78 = .ok (.aload_n 3, 1) := by decide +kernel
theorem dX7_copy_79 : decode cX7_copy 79 = .ok (.getfield 165, 3) := by decide +kernel
theorem dX7_copy_82 : decode cX7_copy 82 = .ok (.ifCond .eq 7, 3) := by decide +kernel
theorem dX7_copy_85 : decode cX7_copy 85 = .ok (.iconst 1, 1) := by decide +kernel
theorem dX7_copy_86 : decode cX7_copy 86 = .ok (.goto 4, 3) := by decide +kernel
theorem dX7_copy_89 : decode cX7_copy 89 = .ok (.iconst 0, 1) := by decide +kernel
theorem dX7_copy_90 : decode cX7_copy 90 = .ok (.ireturn, 1) := by decide +kernel
theorem dX7_copy_91 : decode cX7_copy 91 = .ok (.aload_n 3, 1) := by decide +kernel
theorem dX7_copy_92 : decode cX7_copy 92 = .ok (.getfield 168, 3) := by decide +kernel
theorem dX7_copy_95 : decode cX7_copy 95 = .ok (.ireturn, 1) := by decide +kernel
theorem dX7_copy_96 : decode cX7_copy 96 = .ok (.iconst (-1), 1) := by decide +kernel
theorem dX7_copy_97 : decode cX7_copy 97 = .ok (.ireturn, 1) := by decide +kernel
theorem dX7_kept_0 : decode cX7_kept 0 = .ok (.aload_n 0, 1) := by decide +kernel
theorem dX7_kept_1 : decode cX7_kept 1 = .ok (.iload_n 1, 1) := by decide +kernel
theorem dX7_kept_2 : decode cX7_kept 2 = .ok (.invokevirtual 161, 3) := by decide +kernel
theorem dX7_kept_5 : decode cX7_kept 5 = .ok (.astore_n 2, 1) := by decide +kernel
theorem dX7_kept_6 : decode cX7_kept 6 = .ok (.aload_n 2, 1) := by decide +kernel
theorem dX7_kept_7 : decode cX7_kept 7 = .ok (.ifnonnull 7, 3) := by decide +kernel
theorem dX7_kept_10 : decode cX7_kept 10 = .ok (.lconst 0, 1) := by decide +kernel
theorem dX7_kept_11 : decode cX7_kept 11 = .ok (.goto 10, 3) := by decide +kernel
theorem dX7_kept_14 : decode cX7_kept 14 = .ok (.aload_n 2, 1) := by decide +kernel
theorem dX7_kept_15 : decode cX7_kept 15 = .ok (.getfield 172, 3) := by decide +kernel
theorem dX7_kept_18 : decode cX7_kept 18 = .ok (.getfield 186, 3) := by decide +kernel
theorem dX7_kept_21 : decode cX7_kept 21 = .ok (.lreturn, 1) := by decide +kernel
theorem dX7_client_0 : decode cX7_client 0 = .ok (.aload_n 0, 1) := by decide +kernel
theorem dX7_client_1 : decode cX7_client 1 = .ok (.iload_n 1, 1) := by decide +kernel
theorem dX7_client_2 : decode cX7_client 2 = .ok (.invokevirtual 69, 3) := by decide +kernel
theorem dX7_client_5 : decode cX7_client 5 = .ok (.astore_n 3, 1) := by decide +kernel
theorem dX7_client_6 : decode cX7_client 6 = .ok (.aload_n 3, 1) := by decide +kernel
theorem dX7_client_7 : decode cX7_client 7 = .ok (.ifnonnull 5, 3) := by decide +kernel
theorem dX7_client_10 : decode cX7_client 10 = .ok (.iconst (-1), 1) := by decide +kernel
theorem dX7_client_11 : decode cX7_client 11 = .ok (.ireturn, 1) := by decide +kernel
theorem dX7_client_12 : decode cX7_client 12 = .ok (.aload_n 3, 1) := by decide +kernel
theorem dX7_client_13 : decode cX7_client 13 = .ok (.getfield 105, 3) := by decide +kernel
theorem dX7_client_16 : decode cX7_client 16 = .ok (.astore 4, 2) := by decide +kernel
theorem dX7_client_18 : decode cX7_client 18 = .ok (.iload_n 2, 1) := by decide +kernel
theorem dX7_client_19 : decode cX7_client 19 = .ok (.tableswitch 77 0 5 #[37, 52, 57, 62, 67, 72], 37) := by decide +kernel
theorem dX7_client_56 : decode cX7_client 56 = .ok (.aload 4, 2) := by decide +kernel
theorem dX7_client_58 : decode cX7_client 58 = .ok (.ifnonnull 7, 3) := by decide +kernel
theorem dX7_client_61 : decode cX7_client 61 = .ok (.iconst (-1), 1) := by decide +kernel
theorem dX7_client_62 : decode cX7_client 62 = .ok (.goto 8, 3) := by decide +kernel
theorem dX7_client_65 : decode cX7_client 65 = .ok (.aload 4, 2) := by decide +kernel
theorem dX7_client_67 : decode cX7_client 67 = .ok (.getfield 119, 3) := by decide +kernel
theorem dX7_client_70 : decode cX7_client 70 = .ok (.ireturn, 1) := by decide +kernel
theorem dX7_client_71 : decode cX7_client 71 = .ok (.aload_n 3, 1) := by decide +kernel
theorem dX7_client_72 : decode cX7_client 72 = .ok (.getfield 189, 3) := by decide +kernel
theorem dX7_client_75 : decode cX7_client 75 = .ok (.ireturn, 1) := by decide +kernel
theorem dX7_client_76 : decode cX7_client 76 = .ok (.aload_n 3, 1) := by decide +kernel
theorem dX7_client_77 : decode cX7_client 77 = .ok (.getfield 77, 3) := by decide +kernel
theorem dX7_client_80 : decode cX7_client 80 = .ok (.ireturn, 1) := by decide +kernel
theorem dX7_client_81 : decode cX7_client 81 = .ok (.aload_n 3, 1) := by decide +kernel
theorem dX7_client_82 : decode cX7_client 82 = .ok (.getfield 80, 3) := by decide +kernel
theorem dX7_client_85 : decode cX7_client 85 = .ok (.ireturn, 1) := by decide +kernel
theorem dX7_client_86 : decode cX7_client 86 = .ok (.aload_n 3, 1) := by decide +kernel
theorem dX7_client_87 : decode cX7_client 87 = .ok (.getfield 171, 3) := by decide +kernel
theorem dX7_client_90 : decode cX7_client 90 = .ok (.ireturn, 1) := by decide +kernel
theorem dX7_client_91 : decode cX7_client 91 = .ok (.aload_n 3, 1) := by decide +kernel
theorem dX7_client_92 : decode cX7_client 92 = .ok (.getfield 192, 3) := by decide +kernel
theorem dX7_client_95 : decode cX7_client 95 = .ok (.ireturn, 1) := by decide +kernel
theorem dX7_client_96 : decode cX7_client 96 = .ok (.iconst (-1), 1) := by decide +kernel
theorem dX7_client_97 : decode cX7_client 97 = .ok (.ireturn, 1) := by decide +kernel
theorem dX7_air_0 : decode cX7_air 0 = .ok (.aload_n 0, 1) := by decide +kernel
theorem dX7_air_1 : decode cX7_air 1 = .ok (.getfield 65, 3) := by decide +kernel
theorem dX7_air_4 : decode cX7_air 4 = .ok (.iload_n 1, 1) := by decide +kernel
theorem dX7_air_5 : decode cX7_air 5 = .ok (.invokevirtual 122, 3) := by decide +kernel
theorem dX7_air_8 : decode cX7_air 8 = .ok (.astore_n 3, 1) := by decide +kernel
theorem dX7_air_9 : decode cX7_air 9 = .ok (.aload_n 3, 1) := by decide +kernel
theorem dX7_air_10 : decode cX7_air 10 = .ok (.ifnonnull 5, 3) := by decide +kernel
theorem dX7_air_13 : decode cX7_air 13 = .ok (.iconst (-1), 1) := by decide +kernel
theorem dX7_air_14 : decode cX7_air 14 = .ok (.ireturn, 1) := by decide +kernel
theorem dX7_air_15 : decode cX7_air 15 = .ok (.iload_n 2, 1) := by decide +kernel
theorem dX7_air_16 : decode cX7_air 16 = .ok (.tableswitch 111 0 8 #[52, 65, 70, 75, 80, 85, 93, 101, 106], 52) := by decide +kernel
theorem dX7_air_68 : decode cX7_air 68 = .ok (.aload_n 3, 1) := by decide +kernel
theorem dX7_air_69 : decode cX7_air 69 = .ok (.getfield 134, 3) := by decide +kernel
theorem dX7_air_72 : decode cX7_air 72 = .ok (.ifCond .eq 7, 3) := by decide +kernel
theorem dX7_air_75 : decode cX7_air 75 = .ok (.iconst 1, 1) := by decide +kernel
theorem dX7_air_76 : decode cX7_air 76 = .ok (.goto 4, 3) := by decide +kernel
theorem dX7_air_79 : decode cX7_air 79 = .ok (.iconst 0, 1) := by decide +kernel
theorem dX7_air_80 : decode cX7_air 80 = .ok (.ireturn, 1) := by decide +kernel
theorem dX7_air_81 : decode cX7_air 81 = .ok (.aload_n 3, 1) := by decide +kernel
theorem dX7_air_82 : decode cX7_air 82 = .ok (.getfield 195, 3) := by decide +kernel
theorem dX7_air_85 : decode cX7_air 85 = .ok (.ireturn, 1) := by decide +kernel
theorem dX7_air_86 : decode cX7_air 86 = .ok (.aload_n 3, 1) := by decide +kernel
theorem dX7_air_87 : decode cX7_air 87 = .ok (.getfield 198, 3) := by decide +kernel
theorem dX7_air_90 : decode cX7_air 90 = .ok (.ireturn, 1) := by decide +kernel
theorem dX7_air_91 : decode cX7_air 91 = .ok (.aload_n 3, 1) := by decide +kernel
theorem dX7_air_92 : decode cX7_air 92 = .ok (.getfield 201, 3) := by decide +kernel
theorem dX7_air_95 : decode cX7_air 95 = .ok (.ireturn, 1) := by decide +kernel
theorem dX7_air_96 : decode cX7_air 96 = .ok (.aload_n 3, 1) := by decide +kernel
theorem dX7_air_97 : decode cX7_air 97 = .ok (.getfield 204, 3) := by decide +kernel
theorem dX7_air_100 : decode cX7_air 100 = .ok (.ireturn, 1) := by decide +kernel
theorem dX7_air_101 : decode cX7_air 101 = .ok (.aload_n 3, 1) := by decide +kernel
theorem dX7_air_102 : decode cX7_air 102 = .ok (.getfield 205, 3) := by decide +kernel
theorem dX7_air_105 : decode cX7_air 105 = .ok (.getfield 176, 3) := by decide +kernel
theorem dX7_air_108 : decode cX7_air 108 = .ok (.ireturn, 1) := by decide +kernel
theorem dX7_air_109 : decode cX7_air 109 = .ok (.aload_n 3, 1) := by decide +kernel
theorem dX7_air_110 : decode cX7_air 110 = .ok (.getfield 205, 3) := by decide +kernel
theorem dX7_air_113 : decode cX7_air 113 = .ok (.getfield 181, 3) := by decide +kernel
theorem dX7_air_116 : decode cX7_air 116 = .ok (.ireturn, 1) := by decide +kernel
theorem dX7_air_117 : decode cX7_air 117 = .ok (.aload_n 3, 1) := by decide +kernel
theorem dX7_air_118 : decode cX7_air 118 = .ok (.getfield 206, 3) := by decide +kernel
theorem dX7_air_121 : decode cX7_air 121 = .ok (.ireturn, 1) := by decide +kernel
theorem dX7_air_122 : decode cX7_air 122 = .ok (.aload_n 3, 1) := by decide +kernel
theorem dX7_air_123 : decode cX7_air 123 = .ok (.getfield 207, 3) := by decide +kernel
theorem dX7_air_126 : decode cX7_air 126 = .ok (.ireturn, 1) := by decide +kernel
theorem dX7_air_127 : decode cX7_air 127 = .ok (.iconst (-1), 1) := by decide +kernel
theorem dX7_air_128 : decode cX7_air 128 = .ok (.ireturn, 1) := by decide +kernel
theorem dX7_act_0 : decode cX7_act 0 = .ok (.aload_n 0, 1) := by decide +kernel
theorem dX7_act_1 : decode cX7_act 1 = .ok (.iload_n 1, 1) := by decide +kernel
theorem dX7_act_2 : decode cX7_act 2 = .ok (.invokevirtual 210, 3) := by decide +kernel
theorem dX7_act_5 : decode cX7_act 5 = .ok (.astore_n 3, 1) := by decide +kernel
theorem dX7_act_6 : decode cX7_act 6 = .ok (.aload_n 3, 1) := by decide +kernel
theorem dX7_act_7 : decode cX7_act 7 = .ok (.ifnonnull 5, 3) := by decide +kernel
theorem dX7_act_10 : decode cX7_act 10 = .ok (.iconst (-1), 1) := by decide +kernel
theorem dX7_act_11 : decode cX7_act 11 = .ok (.ireturn, 1) := by decide +kernel
theorem dX7_act_12 : decode cX7_act 12 = .ok (.iload_n 2, 1) := by decide +kernel
theorem dX7_act_13 : decode cX7_act 13 = .ok (.tableswitch 78 0 6 #[43, 48, 53, 58, 63, 68, 73], 43) := by decide +kernel
theorem dX7_act_56 : decode cX7_act 56 = .ok (.aload_n 3, 1) := by decide +kernel
theorem dX7_act_57 : decode cX7_act 57 = .ok (.getfield 214, 3) := by decide +kernel
theorem dX7_act_60 : decode cX7_act 60 = .ok (.ireturn, 1) := by decide +kernel
theorem dX7_act_61 : decode cX7_act 61 = .ok (.aload_n 3, 1) := by decide +kernel
theorem dX7_act_62 : decode cX7_act 62 = .ok (.getfield 217, 3) := by decide +kernel
theorem dX7_act_65 : decode cX7_act 65 = .ok (.ireturn, 1) := by decide +kernel
theorem dX7_act_66 : decode cX7_act 66 = .ok (.aload_n 3, 1) := by decide +kernel
theorem dX7_act_67 : decode cX7_act 67 = .ok (.getfield 218, 3) := by decide +kernel
theorem dX7_act_70 : decode cX7_act 70 = .ok (.ireturn, 1) := by decide +kernel
theorem dX7_act_71 : decode cX7_act 71 = .ok (.aload_n 3, 1) := by decide +kernel
theorem dX7_act_72 : decode cX7_act 72 = .ok (.getfield 221, 3) := by decide +kernel
theorem dX7_act_75 : decode cX7_act 75 = .ok (.ireturn, 1) := by decide +kernel
theorem dX7_act_76 : decode cX7_act 76 = .ok (.aload_n 3, 1) := by decide +kernel
theorem dX7_act_77 : decode cX7_act 77 = .ok (.getfield 224, 3) := by decide +kernel
theorem dX7_act_80 : decode cX7_act 80 = .ok (.ireturn, 1) := by decide +kernel
theorem dX7_act_81 : decode cX7_act 81 = .ok (.aload_n 3, 1) := by decide +kernel
theorem dX7_act_82 : decode cX7_act 82 = .ok (.getfield 225, 3) := by decide +kernel
theorem dX7_act_85 : decode cX7_act 85 = .ok (.ireturn, 1) := by decide +kernel
theorem dX7_act_86 : decode cX7_act 86 = .ok (.aload_n 3, 1) := by decide +kernel
theorem dX7_act_87 : decode cX7_act 87 = .ok (.getfield 226, 3) := by decide +kernel
theorem dX7_act_90 : decode cX7_act 90 = .ok (.ireturn, 1) := by decide +kernel
theorem dX7_act_91 : decode cX7_act 91 = .ok (.iconst (-1), 1) := by decide +kernel
theorem dX7_act_92 : decode cX7_act 92 = .ok (.ireturn, 1) := by decide +kernel
theorem dX7_value_0 : decode cX7_value 0 = .ok (.aload_n 0, 1) := by decide +kernel
theorem dX7_value_1 : decode cX7_value 1 = .ok (.iload_n 1, 1) := by decide +kernel
theorem dX7_value_2 : decode cX7_value 2 = .ok (.invokevirtual 210, 3) := by decide +kernel
theorem dX7_value_5 : decode cX7_value 5 = .ok (.astore_n 2, 1) := by decide +kernel
theorem dX7_value_6 : decode cX7_value 6 = .ok (.aload_n 2, 1) := by decide +kernel
theorem dX7_value_7 : decode cX7_value 7 = .ok (.ifnonnull 7, 3) := by decide +kernel
theorem dX7_value_10 : decode cX7_value 10 = .ok (.lconst 0, 1) := by decide +kernel
theorem dX7_value_11 : decode cX7_value 11 = .ok (.goto 7, 3) := by decide +kernel
theorem dX7_value_14 : decode cX7_value 14 = .ok (.aload_n 2, 1) := by decide +kernel
theorem dX7_value_15 : decode cX7_value 15 = .ok (.getfield 101, 3) := by decide +kernel
theorem dX7_value_18 : decode cX7_value 18 = .ok (.lreturn, 1) := by decide +kernel
theorem dX7_table_0 : decode cX7_table 0 = .ok (.aload_n 0, 1) := by decide +kernel
theorem dX7_table_1 : decode cX7_table 1 = .ok (.iload_n 1, 1) := by decide +kernel
theorem dX7_table_2 : decode cX7_table 2 = .ok (.invokevirtual 229, 3) := by decide +kernel
theorem dX7_table_5 : decode cX7_table 5 = .ok (.astore_n 3, 1) := by decide +kernel
theorem dX7_table_6 : decode cX7_table 6 = .ok (.aload_n 3, 1) := by decide +kernel
theorem dX7_table_7 : decode cX7_table 7 = .ok (.ifnonnull 5, 3) := by decide +kernel
theorem dX7_table_10 : decode cX7_table 10 = .ok (.iconst (-1), 1) := by decide +kernel
theorem dX7_table_11 : decode cX7_table 11 = .ok (.ireturn, 1) := by decide +kernel
theorem dX7_table_12 : decode cX7_table 12 = .ok (.iload_n 2, 1) := by decide +kernel
theorem dX7_table_13 : decode cX7_table 13 = .ok (.ifCond .lt 19, 3) := by decide +kernel
theorem dX7_table_16 : decode cX7_table 16 = .ok (.iload_n 2, 1) := by decide +kernel
theorem dX7_table_17 : decode cX7_table 17 = .ok (.aload_n 3, 1) := by decide +kernel
theorem dX7_table_18 : decode cX7_table 18 = .ok (.getfield 233, 3) := by decide +kernel
theorem dX7_table_21 : decode cX7_table 21 = .ok (.arraylength, 1) := by decide +kernel
theorem dX7_table_22 : decode cX7_table 22 = .ok (.if_icmp .ge 10, 3) := by decide +kernel
theorem dX7_table_25 : decode cX7_table 25 = .ok (.aload_n 3, 1) := by decide +kernel
theorem dX7_table_26 : decode cX7_table 26 = .ok (.getfield 233, 3) := by decide +kernel
theorem dX7_table_29 : decode cX7_table 29 = .ok (.iload_n 2, 1) := by decide +kernel
theorem dX7_table_30 : decode cX7_table 30 = .ok (.iaload, 1) := by decide +kernel
theorem dX7_table_31 : decode cX7_table 31 = .ok (.ireturn, 1) := by decide +kernel
theorem dX7_table_32 : decode cX7_table 32 = .ok (.iload_n 2, 1) := by decide +kernel
theorem dX7_table_33 : decode cX7_table 33 = .ok (.lookupswitch 37 #[(7, 27), (8, 32)], 27) := by decide +kernel
theorem dX7_table_60 : decode cX7_table 60 = .ok (.aload_n 3, 1) := by decide +kernel
theorem dX7_table_61 : decode cX7_table 61 = .ok (.getfield 236, 3) := by decide +kernel
theorem dX7_table_64 : decode cX7_table 64 = .ok (.ireturn, 1) := by decide +kernel
theorem dX7_table_65 : decode cX7_table 65 = .ok (.aload_n 3, 1) := by decide +kernel
theorem dX7_table_66 : decode cX7_table 66 = .ok (.getfield 239, 3) := by decide +kernel
theorem dX7_table_69 : decode cX7_table 69 = .ok (.ireturn, 1) := by decide +kernel
theorem dX7_table_70 : decode cX7_table 70 = .ok (.iconst (-1), 1) := by decide +kernel
theorem dX7_table_71 : decode cX7_table 71 = .ok (.ireturn, 1) := by decide +kernel
theorem dX7_about_0 : decode cX7_about 0 = .ok (.iload_n 1, 1) := by decide +kernel
theorem dX7_about_1 : decode cX7_about 1 = .ok (.tableswitch 76 0 5 #[39, 45, 50, 55, 63, 68], 39) := by decide +kernel
theorem dX7_about_40 : decode cX7_about 40 = .ok (.aload_n 0, 1) := by decide +kernel
theorem dX7_about_41 : decode cX7_about 41 = .ok (.getfield 20, 3) := by decide +kernel
theorem dX7_about_44 : decode cX7_about 44 = .ok (.arraylength, 1) := by decide +kernel
theorem dX7_about_45 : decode cX7_about 45 = .ok (.ireturn, 1) := by decide +kernel
theorem dX7_about_46 : decode cX7_about 46 = .ok (.aload_n 0, 1) := by decide +kernel
theorem dX7_about_47 : decode cX7_about 47 = .ok (.getfield 52, 3) := by decide +kernel
theorem dX7_about_50 : decode cX7_about 50 = .ok (.ireturn, 1) := by decide +kernel
theorem dX7_about_51 : decode cX7_about 51 = .ok (.aload_n 0, 1) := by decide +kernel
theorem dX7_about_52 : decode cX7_about 52 = .ok (.getfield 91, 3) := by decide +kernel
theorem dX7_about_55 : decode cX7_about 55 = .ok (.ireturn, 1) := by decide +kernel
theorem dX7_about_56 : decode cX7_about 56 = .ok (.aload_n 0, 1) := by decide +kernel
theorem dX7_about_57 : decode cX7_about 57 = .ok (.getfield 65, 3) := by decide +kernel
theorem dX7_about_60 : decode cX7_about 60 = .ok (.getfield 148, 3) := by decide +kernel
theorem dX7_about_63 : decode cX7_about 63 = .ok (.ireturn, 1) := by decide +kernel
theorem dX7_about_64 : decode cX7_about 64 = .ok (.aload_n 0, 1) := by decide +kernel
theorem dX7_about_65 : decode cX7_about 65 = .ok (.getfield 113, 3) := by decide +kernel
theorem dX7_about_68 : decode cX7_about 68 = .ok (.ireturn, 1) := by decide +kernel
theorem dX7_about_69 : decode cX7_about 69 = .ok (.aload_n 0, 1) := by decide +kernel
theorem dX7_about_70 : decode cX7_about 70 = .ok (.getfield 65, 3) := by decide +kernel
theorem dX7_about_73 : decode cX7_about 73 = .ok (.getfield 242, 3) := by decide +kernel
theorem dX7_about_76 : decode cX7_about 76 = .ok (.ireturn, 1) := by decide +kernel
theorem dX7_about_77 : decode cX7_about 77 = .ok (.iconst (-1), 1) := by decide +kernel
theorem dX7_about_78 : decode cX7_about 78 = .ok (.ireturn, 1) := by decide +kernel
theorem dX7_copyAt_0 : decode cX7_copyAt 0 = .ok (.iload_n 1, 1) := by decide +kernel
theorem dX7_copyAt_1 : decode cX7_copyAt 1 = .ok (.ifCond .lt 21, 3) := by decide +kernel
theorem dX7_copyAt_4 : decode cX7_copyAt 4 = .ok (.iload_n 1, 1) := by decide +kernel
theorem dX7_copyAt_5 : decode cX7_copyAt 5 = .ok (.aload_n 0, 1) := by decide +kernel
theorem dX7_copyAt_6 : decode cX7_copyAt 6 = .ok (.getfield 20, 3) := by decide +kernel
theorem dX7_copyAt_9 : decode cX7_copyAt 9 = .ok (.arraylength, 1) := by decide +kernel
theorem dX7_copyAt_10 : decode cX7_copyAt 10 = .ok (.if_icmp .ge 12, 3) := by decide +kernel
theorem dX7_copyAt_13 : decode cX7_copyAt 13 = .ok (.aload_n 0, 1) := by decide +kernel
theorem dX7_copyAt_14 : decode cX7_copyAt 14 = .ok (.getfield 20, 3) := by decide +kernel
theorem dX7_copyAt_17 : decode cX7_copyAt 17 = .ok (.iload_n 1, 1) := by decide +kernel
theorem dX7_copyAt_18 : decode cX7_copyAt 18 = .ok (.aaload, 1) := by decide +kernel
theorem dX7_copyAt_19 : decode cX7_copyAt 19 = .ok (.goto 4, 3) := by decide +kernel
theorem dX7_copyAt_22 : decode cX7_copyAt 22 = .ok (.aconst_null, 1) := by decide +kernel
theorem dX7_copyAt_23 : decode cX7_copyAt 23 = .ok (.areturn, 1) := by decide +kernel
theorem dX7_clientAt_0 : decode cX7_clientAt 0 = .ok (.iload_n 1, 1) := by decide +kernel
theorem dX7_clientAt_1 : decode cX7_clientAt 1 = .ok (.ifCond .lt 21, 3) := by decide +kernel
theorem dX7_clientAt_4 : decode cX7_clientAt 4 = .ok (.iload_n 1, 1) := by decide +kernel
theorem dX7_clientAt_5 : decode cX7_clientAt 5 = .ok (.aload_n 0, 1) := by decide +kernel
theorem dX7_clientAt_6 : decode cX7_clientAt 6 = .ok (.getfield 31, 3) := by decide +kernel
theorem dX7_clientAt_9 : decode cX7_clientAt 9 = .ok (.arraylength, 1) := by decide +kernel
theorem dX7_clientAt_10 : decode cX7_clientAt 10 = .ok (.if_icmp .ge 12, 3) := by decide +kernel
theorem dX7_clientAt_13 : decode cX7_clientAt 13 = .ok (.aload_n 0, 1) := by decide +kernel
theorem dX7_clientAt_14 : decode cX7_clientAt 14 = .ok (.getfield 31, 3) := by decide +kernel
theorem dX7_clientAt_17 : decode cX7_clientAt 17 = .ok (.iload_n 1, 1) := by decide +kernel
theorem dX7_clientAt_18 : decode cX7_clientAt 18 = .ok (.aaload, 1) := by decide +kernel
theorem dX7_clientAt_19 : decode cX7_clientAt 19 = .ok (.goto 4, 3) := by decide +kernel
theorem dX7_clientAt_22 : decode cX7_clientAt 22 = .ok (.aconst_null, 1) := by decide +kernel
theorem dX7_clientAt_23 : decode cX7_clientAt 23 = .ok (.areturn, 1) := by decide +kernel
theorem dX7_tableAt_0 : decode cX7_tableAt 0 = .ok (.iload_n 1, 1) := by decide +kernel
theorem dX7_tableAt_1 : decode cX7_tableAt 1 = .ok (.ifCond .lt 21, 3) := by decide +kernel
theorem dX7_tableAt_4 : decode cX7_tableAt 4 = .ok (.iload_n 1, 1) := by decide +kernel
theorem dX7_tableAt_5 : decode cX7_tableAt 5 = .ok (.aload_n 0, 1) := by decide +kernel
theorem dX7_tableAt_6 : decode cX7_tableAt 6 = .ok (.getfield 40, 3) := by decide +kernel
theorem dX7_tableAt_9 : decode cX7_tableAt 9 = .ok (.arraylength, 1) := by decide +kernel
theorem dX7_tableAt_10 : decode cX7_tableAt 10 = .ok (.if_icmp .ge 12, 3) := by decide +kernel
theorem dX7_tableAt_13 : decode cX7_tableAt 13 = .ok (.aload_n 0, 1) := by decide +kernel
theorem dX7_tableAt_14 : decode cX7_tableAt 14 = .ok (.getfield 40, 3) := by decide +kernel
theorem dX7_tableAt_17 : decode cX7_tableAt 17 = .ok (.iload_n 1, 1) := by decide +kernel
theorem dX7_tableAt_18 : decode cX7_tableAt 18 = .ok (.aaload, 1) := by decide +kernel
theorem dX7_tableAt_19 : decode cX7_tableAt 19 = .ok (.goto 4, 3) := by decide +kernel
theorem dX7_tableAt_22 : decode cX7_tableAt 22 = .ok (.aconst_null, 1) := by decide +kernel
theorem dX7_tableAt_23 : decode cX7_tableAt 23 = .ok (.areturn, 1) := by decide +kernel
theorem dX7_actAt_0 : decode cX7_actAt 0 = .ok (.iload_n 1, 1) := by decide +kernel
theorem dX7_actAt_1 : decode cX7_actAt 1 = .ok (.iconst 1, 1) := by decide +kernel
theorem dX7_actAt_2 : decode cX7_actAt 2 = .ok (.if_icmp .lt 23, 3) := by decide +kernel
theorem dX7_actAt_5 : decode cX7_actAt 5 = .ok (.iload_n 1, 1) := by decide +kernel
theorem dX7_actAt_6 : decode cX7_actAt 6 = .ok (.aload_n 0, 1) := by decide +kernel
theorem dX7_actAt_7 : decode cX7_actAt 7 = .ok (.getfield 58, 3) := by decide +kernel
theorem dX7_actAt_10 : decode cX7_actAt 10 = .ok (.arraylength, 1) := by decide +kernel
theorem dX7_actAt_11 : decode cX7_actAt 11 = .ok (.if_icmp .gt 14, 3) := by decide +kernel
theorem dX7_actAt_14 : decode cX7_actAt 14 = .ok (.aload_n 0, 1) := by decide +kernel
theorem dX7_actAt_15 : decode cX7_actAt 15 = .ok (.getfield 58, 3) := by decide +kernel
theorem dX7_actAt_18 : decode cX7_actAt 18 = .ok (.iload_n 1, 1) := by decide +kernel
theorem dX7_actAt_19 : decode cX7_actAt 19 = .ok (.iconst 1, 1) := by decide +kernel
theorem dX7_actAt_20 : decode cX7_actAt 20 = .ok (.isub, 1) := by decide +kernel
theorem dX7_actAt_21 : decode cX7_actAt 21 = .ok (.aaload, 1) := by decide +kernel
theorem dX7_actAt_22 : decode cX7_actAt 22 = .ok (.goto 4, 3) := by decide +kernel
theorem dX7_actAt_25 : decode cX7_actAt 25 = .ok (.aconst_null, 1) := by decide +kernel
theorem dX7_actAt_26 : decode cX7_actAt 26 = .ok (.areturn, 1) := by decide +kernel
theorem dX7_canBegin_0 : decode cX7_canBegin 0 = .ok (.aload_n 1, 1) := by decide +kernel
theorem dX7_canBegin_1 : decode cX7_canBegin 1 = .ok (.getfield 105, 3) := by decide +kernel
theorem dX7_canBegin_4 : decode cX7_canBegin 4 = .ok (.ifnonnull 19, 3) := by decide +kernel
theorem dX7_canBegin_7 : decode cX7_canBegin 7 = .ok (.aload_n 0, 1) := by decide +kernel
theorem dX7_canBegin_8 : decode cX7_canBegin 8 = .ok (.getfield 91, 3) := by decide +kernel
theorem dX7_canBegin_11 : decode cX7_canBegin 11 = .ok (.aload_n 0, 1) := by decide +kernel
theorem dX7_canBegin_12 : decode cX7_canBegin 12 = .ok (.getfield 58, 3) := by decide +kernel
theorem dX7_canBegin_15 : decode cX7_canBegin 15 = .ok (.arraylength, 1) := by decide +kernel
theorem dX7_canBegin_16 : decode cX7_canBegin 16 = .ok (.if_icmp .ge 7, 3) := by decide +kernel
theorem dX7_canBegin_19 : decode cX7_canBegin 19 = .ok (.iconst 1, 1) := by decide +kernel
theorem dX7_canBegin_20 : decode cX7_canBegin 20 = .ok (.goto 4, 3) := by decide +kernel
theorem dX7_canBegin_23 : decode cX7_canBegin 23 = .ok (.iconst 0, 1) := by decide +kernel
theorem dX7_canBegin_24 : decode cX7_canBegin 24 = .ok (.ireturn, 1) := by decide +kernel
theorem dX7_beginChange_0 : decode cX7_beginChange 0 = .ok (.new 56, 3) := by decide +kernel
theorem dX7_beginChange_3 : decode cX7_beginChange 3 = .ok (.dup, 1) := by decide +kernel
theorem dX7_beginChange_4 : decode cX7_beginChange 4 = .ok (.aload_n 0, 1) := by decide +kernel
theorem dX7_beginChange_5 : decode cX7_beginChange 5 = .ok (.getfield 91, 3) := by decide +kernel
theorem dX7_beginChange_8 : decode cX7_beginChange 8 = .ok (.iconst 1, 1) := by decide +kernel
theorem dX7_beginChange_9 : decode cX7_beginChange 9 = .ok (.iadd, 1) := by decide +kernel
theorem dX7_beginChange_10 : decode cX7_beginChange 10 = .ok (.iconst 2, 1) := by decide +kernel
theorem dX7_beginChange_11 : decode cX7_beginChange 11 = .ok (.aload_n 1, 1) := by decide +kernel
theorem dX7_beginChange_12 : decode cX7_beginChange 12 = .ok (.getfield 245, 3) := by decide +kernel
theorem dX7_beginChange_15 : decode cX7_beginChange 15 = .ok (.invokespecial 94, 3) := by decide +kernel
theorem dX7_beginChange_18 : decode cX7_beginChange 18 = .ok (.astore_n 3, 1) := by decide +kernel
theorem dX7_beginChange_19 : decode cX7_beginChange 19 = .ok (.aload_n 3, 1) := by decide +kernel
theorem dX7_beginChange_20 : decode cX7_beginChange 20 = .ok (.iload_n 2, 1) := by decide +kernel
theorem dX7_beginChange_21 : decode cX7_beginChange 21 = .ok (.putfield 226, 3) := by decide +kernel
theorem dX7_beginChange_24 : decode cX7_beginChange 24 = .ok (.aload_n 1, 1) := by decide +kernel
theorem dX7_beginChange_25 : decode cX7_beginChange 25 = .ok (.iload_n 2, 1) := by decide +kernel
theorem dX7_beginChange_26 : decode cX7_beginChange 26 = .ok (.putfield 80, 3) := by decide +kernel
theorem dX7_beginChange_29 : decode cX7_beginChange 29 = .ok (.aload_n 0, 1) := by decide +kernel
theorem dX7_beginChange_30 : decode cX7_beginChange 30 = .ok (.aload_n 1, 1) := by decide +kernel
theorem dX7_beginChange_31 : decode cX7_beginChange 31 = .ok (.aload_n 3, 1) := by decide +kernel
theorem dX7_beginChange_32 : decode cX7_beginChange 32 = .ok (.iconst 3, 1) := by decide +kernel
theorem dX7_beginChange_33 : decode cX7_beginChange 33 = .ok (.invokevirtual 97, 3) := by decide +kernel
theorem dX7_beginChange_36 : decode cX7_beginChange 36 = .ok (.ireturn, 1) := by decide +kernel
theorem dX7_beginAct_0 : decode cX7_beginAct 0 = .ok (.aload_n 0, 1) := by decide +kernel
theorem dX7_beginAct_1 : decode cX7_beginAct 1 = .ok (.getfield 91, 3) := by decide +kernel
theorem dX7_beginAct_4 : decode cX7_beginAct 4 = .ok (.aload_n 0, 1) := by decide +kernel
theorem dX7_beginAct_5 : decode cX7_beginAct 5 = .ok (.getfield 58, 3) := by decide +kernel
theorem dX7_beginAct_8 : decode cX7_beginAct 8 = .ok (.arraylength, 1) := by decide +kernel
theorem dX7_beginAct_9 : decode cX7_beginAct 9 = .ok (.if_icmp .lt 5, 3) := by decide +kernel
theorem dX7_beginAct_12 : decode cX7_beginAct 12 = .ok (.iconst (-1), 1) := by decide +kernel
theorem dX7_beginAct_13 : decode cX7_beginAct 13 = .ok (.ireturn, 1) := by decide +kernel
theorem dX7_beginAct_14 : decode cX7_beginAct 14 = .ok (.aload_n 0, 1) := by decide +kernel
theorem dX7_beginAct_15 : decode cX7_beginAct 15 = .ok (.getfield 58, 3) := by decide +kernel
theorem dX7_beginAct_18 : decode cX7_beginAct 18 = .ok (.aload_n 0, 1) := by decide +kernel
theorem dX7_beginAct_19 : decode cX7_beginAct 19 = .ok (.getfield 91, 3) := by decide +kernel
theorem dX7_beginAct_22 : decode cX7_beginAct 22 = .ok (.aload_n 2, 1) := by decide +kernel
theorem dX7_beginAct_23 : decode cX7_beginAct 23 = .ok (.aastore, 1) := by decide +kernel
theorem dX7_beginAct_24 : decode cX7_beginAct 24 = .ok (.aload_n 0, 1) := by decide +kernel
theorem dX7_beginAct_25 : decode cX7_beginAct 25 = .ok (.dup, 1) := by decide +kernel
theorem dX7_beginAct_26 : decode cX7_beginAct 26 = .ok (.getfield 91, 3) := by decide +kernel
theorem dX7_beginAct_29 : decode cX7_beginAct 29 = .ok (.iconst 1, 1) := by decide +kernel
theorem dX7_beginAct_30 : decode cX7_beginAct 30 = .ok (.iadd, 1) := by decide +kernel
theorem dX7_beginAct_31 : decode cX7_beginAct 31 = .ok (.putfield 91, 3) := by decide +kernel
theorem dX7_beginAct_34 : decode cX7_beginAct 34 = .ok (.aload_n 0, 1) := by decide +kernel
theorem dX7_beginAct_35 : decode cX7_beginAct 35 = .ok (.dup, 1) := by decide +kernel
theorem dX7_beginAct_36 : decode cX7_beginAct 36 = .ok (.getfield 113, 3) := by decide +kernel
theorem dX7_beginAct_39 : decode cX7_beginAct 39 = .ok (.iconst 1, 1) := by decide +kernel
theorem dX7_beginAct_40 : decode cX7_beginAct 40 = .ok (.iadd, 1) := by decide +kernel
theorem dX7_beginAct_41 : decode cX7_beginAct 41 = .ok (.putfield 113, 3) := by decide +kernel
theorem dX7_beginAct_44 : decode cX7_beginAct 44 = .ok (.aload_n 2, 1) := by decide +kernel
theorem dX7_beginAct_45 : decode cX7_beginAct 45 = .ok (.aload_n 0, 1) := by decide +kernel
theorem dX7_beginAct_46 : decode cX7_beginAct 46 = .ok (.getfield 113, 3) := by decide +kernel
theorem dX7_beginAct_49 : decode cX7_beginAct 49 = .ok (.putfield 218, 3) := by decide +kernel
theorem dX7_beginAct_52 : decode cX7_beginAct 52 = .ok (.aload_n 1, 1) := by decide +kernel
theorem dX7_beginAct_53 : decode cX7_beginAct 53 = .ok (.aload_n 2, 1) := by decide +kernel
theorem dX7_beginAct_54 : decode cX7_beginAct 54 = .ok (.putfield 105, 3) := by decide +kernel
theorem dX7_beginAct_57 : decode cX7_beginAct 57 = .ok (.aload_n 1, 1) := by decide +kernel
theorem dX7_beginAct_58 : decode cX7_beginAct 58 = .ok (.iconst 0, 1) := by decide +kernel
theorem dX7_beginAct_59 : decode cX7_beginAct 59 = .ok (.putfield 246, 3) := by decide +kernel
theorem dX7_beginAct_62 : decode cX7_beginAct 62 = .ok (.aload_n 1, 1) := by decide +kernel
theorem dX7_beginAct_63 : decode cX7_beginAct 63 = .ok (.getfield 247, 3) := by decide +kernel
theorem dX7_beginAct_66 : decode cX7_beginAct 66 = .ok (.iconst 0, 1) := by decide +kernel
theorem dX7_beginAct_67 : decode cX7_beginAct 67 = .ok (.iconst 0, 1) := by decide +kernel
theorem dX7_beginAct_68 : decode cX7_beginAct 68 = .ok (.lconst 0, 1) := by decide +kernel
theorem dX7_beginAct_69 : decode cX7_beginAct 69 = .ok (.invokevirtual 248, 3) := by decide +kernel
theorem dX7_beginAct_72 : decode cX7_beginAct 72 = .ok (.aload_n 0, 1) := by decide +kernel
theorem dX7_beginAct_73 : decode cX7_beginAct 73 = .ok (.aload_n 1, 1) := by decide +kernel
theorem dX7_beginAct_74 : decode cX7_beginAct 74 = .ok (.aload_n 2, 1) := by decide +kernel
theorem dX7_beginAct_75 : decode cX7_beginAct 75 = .ok (.iload_n 3, 1) := by decide +kernel
theorem dX7_beginAct_76 : decode cX7_beginAct 76 = .ok (.invokevirtual 252, 3) := by decide +kernel
theorem dX7_beginAct_79 : decode cX7_beginAct 79 = .ok (.aload_n 2, 1) := by decide +kernel
theorem dX7_beginAct_80 : decode cX7_beginAct 80 = .ok (.getfield 119, 3) := by decide +kernel
theorem dX7_beginAct_83 : decode cX7_beginAct 83 = .ok (.ireturn, 1) := by decide +kernel
theorem dX7_beginPhase_0 : decode cX7_beginPhase 0 = .ok (.aload_n 1, 1) := by decide +kernel
theorem dX7_beginPhase_1 : decode cX7_beginPhase 1 = .ok (.iload_n 3, 1) := by decide +kernel
theorem dX7_beginPhase_2 : decode cX7_beginPhase 2 = .ok (.putfield 189, 3) := by decide +kernel
theorem dX7_beginPhase_5 : decode cX7_beginPhase 5 = .ok (.aload_n 1, 1) := by decide +kernel
theorem dX7_beginPhase_6 : decode cX7_beginPhase 6 = .ok (.dup, 1) := by decide +kernel
theorem dX7_beginPhase_7 : decode cX7_beginPhase 7 = .ok (.getfield 246, 3) := by decide +kernel
theorem dX7_beginPhase_10 : decode cX7_beginPhase 10 = .ok (.iconst 1, 1) := by decide +kernel
theorem dX7_beginPhase_11 : decode cX7_beginPhase 11 = .ok (.iadd, 1) := by decide +kernel
theorem dX7_beginPhase_12 : decode cX7_beginPhase 12 = .ok (.putfield 246, 3) := by decide +kernel
theorem dX7_beginPhase_15 : decode cX7_beginPhase 15 = .ok (.aload_n 1, 1) := by decide +kernel
theorem dX7_beginPhase_16 : decode cX7_beginPhase 16 = .ok (.iconst 0, 1) := by decide +kernel
theorem dX7_beginPhase_17 : decode cX7_beginPhase 17 = .ok (.putfield 192, 3) := by decide +kernel
theorem dX7_beginPhase_20 : decode cX7_beginPhase 20 = .ok (.iload_n 3, 1) := by decide +kernel
theorem dX7_beginPhase_21 : decode cX7_beginPhase 21 = .ok (.iconst 5, 1) := by decide +kernel
theorem dX7_beginPhase_22 : decode cX7_beginPhase 22 = .ok (.if_icmp .ne 11, 3) := by decide +kernel
theorem dX7_beginPhase_25 : decode cX7_beginPhase 25 = .ok (.aload_n 1, 1) := by decide +kernel
theorem dX7_beginPhase_26 : decode cX7_beginPhase 26 = .ok (.aload_n 2, 1) := by decide +kernel
theorem dX7_beginPhase_27 : decode cX7_beginPhase 27 = .ok (.getfield 226, 3) := by decide +kernel
theorem dX7_beginPhase_30 : decode cX7_beginPhase 30 = .ok (.putfield 77, 3) := by decide +kernel
theorem dX7_beginPhase_33 : decode cX7_beginPhase 33 = .ok (.aload_n 0, 1) := by decide +kernel
theorem dX7_beginPhase_34 : decode cX7_beginPhase 34 = .ok (.aload_n 1, 1) := by decide +kernel
theorem dX7_beginPhase_35 : decode cX7_beginPhase 35 = .ok (.aload_n 2, 1) := by decide +kernel
theorem dX7_beginPhase_36 : decode cX7_beginPhase 36 = .ok (.invokevirtual 109, 3) := by decide +kernel
theorem dX7_beginPhase_39 : decode cX7_beginPhase 39 = .ok (.pop, 1) := by decide +kernel
theorem dX7_beginPhase_40 : decode cX7_beginPhase 40 = .ok (.return_, 1) := by decide +kernel
theorem dX7_sendRequests_0 : decode cX7_sendRequests 0 = .ok (.iconst 0, 1) := by decide +kernel
theorem dX7_sendRequests_1 : decode cX7_sendRequests 1 = .ok (.istore_n 3, 1) := by decide +kernel
theorem dX7_sendRequests_2 : decode cX7_sendRequests 2 = .ok (.iconst 0, 1) := by decide +kernel
theorem dX7_sendRequests_3 : decode cX7_sendRequests 3 = .ok (.istore 4, 2) := by decide +kernel
theorem dX7_sendRequests_5 : decode cX7_sendRequests 5 = .ok (.iload 4, 2) := by decide +kernel
theorem dX7_sendRequests_7 : decode cX7_sendRequests 7 = .ok (.aload_n 0, 1) := by decide +kernel
theorem dX7_sendRequests_8 : decode cX7_sendRequests 8 = .ok (.getfield 20, 3) := by decide +kernel
theorem dX7_sendRequests_11 : decode cX7_sendRequests 11 = .ok (.arraylength, 1) := by decide +kernel
theorem dX7_sendRequests_12 : decode cX7_sendRequests 12 = .ok (.if_icmp .ge 29, 3) := by decide +kernel
theorem dX7_sendRequests_15 : decode cX7_sendRequests 15 = .ok (.aload_n 1, 1) := by decide +kernel
theorem dX7_sendRequests_16 : decode cX7_sendRequests 16 = .ok (.iload 4, 2) := by decide +kernel
theorem dX7_sendRequests_18 : decode cX7_sendRequests 18 = .ok (.invokevirtual 256, 3) := by decide +kernel
theorem dX7_sendRequests_21 : decode cX7_sendRequests 21 = .ok (.ifCond .ne 14, 3) := by decide +kernel
theorem dX7_sendRequests_24 : decode cX7_sendRequests 24 = .ok (.aload_n 0, 1) := by decide +kernel
theorem dX7_sendRequests_25 : decode cX7_sendRequests 25 = .ok (.aload_n 1, 1) := by decide +kernel
theorem dX7_sendRequests_26 : decode cX7_sendRequests 26 = .ok (.aload_n 2, 1) := by decide +kernel
theorem dX7_sendRequests_27 : decode cX7_sendRequests 27 = .ok (.iload 4, 2) := by decide +kernel
theorem dX7_sendRequests_29 : decode cX7_sendRequests 29 = .ok (.invokevirtual 259, 3) := by decide +kernel
theorem dX7_sendRequests_32 : decode cX7_sendRequests 32 = .ok (.iinc 3 1, 3) := by decide +kernel
theorem dX7_sendRequests_35 : decode cX7_sendRequests 35 = .ok (.iinc 4 1, 3) := by decide +kernel
theorem dX7_sendRequests_38 : decode cX7_sendRequests 38 = .ok (.goto (-33), 3) := by decide +kernel
theorem dX7_sendRequests_41 : decode cX7_sendRequests 41 = .ok (.iload_n 3, 1) := by decide +kernel
theorem dX7_sendRequests_42 : decode cX7_sendRequests 42 = .ok (.ireturn, 1) := by decide +kernel
theorem dX7_sendRequest_0 : decode cX7_sendRequest 0 = .ok (.aload_n 0, 1) := by decide +kernel
theorem dX7_sendRequest_1 : decode cX7_sendRequest 1 = .ok (.getfield 65, 3) := by decide +kernel
theorem dX7_sendRequest_4 : decode cX7_sendRequest 4 = .ok (.invokevirtual 154, 3) := by decide +kernel
theorem dX7_sendRequest_7 : decode cX7_sendRequest 7 = .ok (.astore 4, 2) := by decide +kernel
theorem dX7_sendRequest_9 : decode cX7_sendRequest 9 = .ok (.aload 4, 2) := by decide +kernel
theorem dX7_sendRequest_11 : decode cX7_sendRequest 11 = .ok (.ifnonnull 4, 3) := by decide +kernel
theorem dX7_sendRequest_14 : decode cX7_sendRequest 14 = .ok (.return_, 1) := by decide +kernel
theorem dX7_sendRequest_15 : decode cX7_sendRequest 15 = .ok (.aload_n 1, 1) := by decide +kernel
theorem dX7_sendRequest_16 : decode cX7_sendRequest 16 = .ok (.getfield 189, 3) := by decide +kernel
theorem dX7_sendRequest_19 : decode cX7_sendRequest 19 = .ok (.istore 5, 2) := by decide +kernel
theorem dX7_sendRequest_21 : decode cX7_sendRequest 21 = .ok (.aload 4, 2) := by decide +kernel
theorem dX7_sendRequest_23 : decode cX7_sendRequest 23 = .ok (.iconst 0, 1) := by decide +kernel
theorem dX7_sendRequest_24 : decode cX7_sendRequest 24 = .ok (.putfield 134, 3) := by decide +kernel
theorem dX7_sendRequest_27 : decode cX7_sendRequest 27 = .ok (.aload 4, 2) := by decide +kernel
theorem dX7_sendRequest_29 : decode cX7_sendRequest 29 = .ok (.iload_n 3, 1) := by decide +kernel
theorem dX7_sendRequest_30 : decode cX7_sendRequest 30 = .ok (.putfield 195, 3) := by decide +kernel
theorem dX7_sendRequest_33 : decode cX7_sendRequest 33 = .ok (.aload 4, 2) := by decide +kernel
theorem dX7_sendRequest_35 : decode cX7_sendRequest 35 = .ok (.aload_n 1, 1) := by decide +kernel
theorem dX7_sendRequest_36 : decode cX7_sendRequest 36 = .ok (.getfield 245, 3) := by decide +kernel
theorem dX7_sendRequest_39 : decode cX7_sendRequest 39 = .ok (.putfield 198, 3) := by decide +kernel
theorem dX7_sendRequest_42 : decode cX7_sendRequest 42 = .ok (.aload 4, 2) := by decide +kernel
theorem dX7_sendRequest_44 : decode cX7_sendRequest 44 = .ok (.aload_n 2, 1) := by decide +kernel
theorem dX7_sendRequest_45 : decode cX7_sendRequest 45 = .ok (.getfield 119, 3) := by decide +kernel
theorem dX7_sendRequest_48 : decode cX7_sendRequest 48 = .ok (.putfield 201, 3) := by decide +kernel
theorem dX7_sendRequest_51 : decode cX7_sendRequest 51 = .ok (.aload 4, 2) := by decide +kernel
theorem dX7_sendRequest_53 : decode cX7_sendRequest 53 = .ok (.iload 5, 2) := by decide +kernel
theorem dX7_sendRequest_55 : decode cX7_sendRequest 55 = .ok (.putfield 204, 3) := by decide +kernel
theorem dX7_sendRequest_58 : decode cX7_sendRequest 58 = .ok (.aload 4, 2) := by decide +kernel
theorem dX7_sendRequest_60 : decode cX7_sendRequest 60 = .ok (.aload_n 1, 1) := by decide +kernel
theorem dX7_sendRequest_61 : decode cX7_sendRequest 61 = .ok (.getfield 246, 3) := by decide +kernel
theorem dX7_sendRequest_64 : decode cX7_sendRequest 64 = .ok (.putfield 207, 3) := by decide +kernel
theorem dX7_sendRequest_67 : decode cX7_sendRequest 67 = .ok (.aload 4, 2) := by decide +kernel
theorem dX7_sendRequest_69 : decode cX7_sendRequest 69 = .ok (.iconst (-1), 1) := by decide +kernel
theorem dX7_sendRequest_70 : decode cX7_sendRequest 70 = .ok (.putfield 262, 3) := by decide +kernel
theorem dX7_sendRequest_73 : decode cX7_sendRequest 73 = .ok (.aload 4, 2) := by decide +kernel
theorem dX7_sendRequest_75 : decode cX7_sendRequest 75 = .ok (.iload 5, 2) := by decide +kernel
theorem dX7_sendRequest_77 : decode cX7_sendRequest 77 = .ok (.iconst 3, 1) := by decide +kernel
theorem dX7_sendRequest_78 : decode cX7_sendRequest 78 = .ok (.if_icmp .eq 9, 3) := by decide +kernel
theorem dX7_sendRequest_81 : decode cX7_sendRequest 81 = .ok (.iload 5, 2) := by decide +kernel
theorem dX7_sendRequest_83 : decode cX7_sendRequest 83 = .ok (.iconst 5, 1) := by decide +kernel
theorem dX7_sendRequest_84 : decode cX7_sendRequest 84 = .ok (.if_icmp .ne 10, 3) := by decide +kernel
theorem dX7_sendRequest_87 : decode cX7_sendRequest 87 = .ok (.aload_n 2, 1) := by decide +kernel
theorem dX7_sendRequest_88 : decode cX7_sendRequest 88 = .ok (.getfield 226, 3) := by decide +kernel
theorem dX7_sendRequest_91 : decode cX7_sendRequest 91 = .ok (.goto 4, 3) := by decide +kernel
theorem dX7_sendRequest_94 : decode cX7_sendRequest 94 = .ok (.iconst (-1), 1) := by decide +kernel
theorem dX7_sendRequest_95 : decode cX7_sendRequest 95 = .ok (.putfield 206, 3) := by decide +kernel
theorem dX7_sendRequest_98 : decode cX7_sendRequest 98 = .ok (.iload 5, 2) := by decide +kernel
theorem dX7_sendRequest_100 : decode cX7_sendRequest 100 = .ok (.iconst 2, 1) := by decide +kernel
theorem dX7_sendRequest_101 : decode cX7_sendRequest 101 = .ok (.if_icmp .eq 9, 3) := by decide +kernel
theorem dX7_sendRequest_104 : decode cX7_sendRequest 104 = .ok (.iload 5, 2) := by decide +kernel
theorem dX7_sendRequest_106 : decode cX7_sendRequest 106 = .ok (.iconst 4, 1) := by decide +kernel
theorem dX7_sendRequest_107 : decode cX7_sendRequest 107 = .ok (.if_icmp .ne 18, 3) := by decide +kernel
theorem dX7_sendRequest_110 : decode cX7_sendRequest 110 = .ok (.aload 4, 2) := by decide +kernel
theorem dX7_sendRequest_112 : decode cX7_sendRequest 112 = .ok (.getfield 205, 3) := by decide +kernel
theorem dX7_sendRequest_115 : decode cX7_sendRequest 115 = .ok (.aload_n 1, 1) := by decide +kernel
theorem dX7_sendRequest_116 : decode cX7_sendRequest 116 = .ok (.getfield 247, 3) := by decide +kernel
theorem dX7_sendRequest_119 : decode cX7_sendRequest 119 = .ok (.invokevirtual 263, 3) := by decide +kernel
theorem dX7_sendRequest_122 : decode cX7_sendRequest 122 = .ok (.goto 14, 3) := by decide +kernel
theorem dX7_sendRequest_125 : decode cX7_sendRequest 125 = .ok (.aload 4, 2) := by decide +kernel
theorem dX7_sendRequest_127 : decode cX7_sendRequest 127 = .ok (.getfield 205, 3) := by decide +kernel
theorem dX7_sendRequest_130 : decode cX7_sendRequest 130 = .ok (.iconst 0, 1) := by decide +kernel
theorem dX7_sendRequest_131 : decode cX7_sendRequest 131 = .ok (.iconst 0, 1) := by decide +kernel
theorem dX7_sendRequest_132 : decode cX7_sendRequest 132 = .ok (.lconst 0, 1) := by decide +kernel
theorem dX7_sendRequest_133 : decode cX7_sendRequest 133 = .ok (.invokevirtual 248, 3) := by decide +kernel
theorem dX7_sendRequest_136 : decode cX7_sendRequest 136 = .ok (.return_, 1) := by decide +kernel
theorem dX7_canPass_0 : decode cX7_canPass 0 = .ok (.aload_n 0, 1) := by decide +kernel
theorem dX7_canPass_1 : decode cX7_canPass 1 = .ok (.aload_n 1, 1) := by decide +kernel
theorem dX7_canPass_2 : decode cX7_canPass 2 = .ok (.getfield 195, 3) := by decide +kernel
theorem dX7_canPass_5 : decode cX7_canPass 5 = .ok (.invokevirtual 161, 3) := by decide +kernel
theorem dX7_canPass_8 : decode cX7_canPass 8 = .ok (.astore_n 2, 1) := by decide +kernel
theorem dX7_canPass_9 : decode cX7_canPass 9 = .ok (.aload_n 0, 1) := by decide +kernel
theorem dX7_canPass_10 : decode cX7_canPass 10 = .ok (.aload_n 1, 1) := by decide +kernel
theorem dX7_canPass_11 : decode cX7_canPass 11 = .ok (.getfield 198, 3) := by decide +kernel
theorem dX7_canPass_14 : decode cX7_canPass 14 = .ok (.invokevirtual 69, 3) := by decide +kernel
theorem dX7_canPass_17 : decode cX7_canPass 17 = .ok (.astore_n 3, 1) := by decide +kernel
theorem dX7_canPass_18 : decode cX7_canPass 18 = .ok (.aload_n 2, 1) := by decide +kernel
theorem dX7_canPass_19 : decode cX7_canPass 19 = .ok (.ifnull 29, 3) := by decide +kernel
theorem dX7_canPass_22 : decode cX7_canPass 22 = .ok (.aload_n 3, 1) := by decide +kernel
theorem dX7_canPass_23 : decode cX7_canPass 23 = .ok (.ifnull 25, 3) := by decide +kernel
theorem dX7_canPass_26 : decode cX7_canPass 26 = .ok (.aload_n 2, 1) := by decide +kernel
theorem dX7_canPass_27 : decode cX7_canPass 27 = .ok (.getfield 165, 3) := by decide +kernel
theorem dX7_canPass_30 : decode cX7_canPass 30 = .ok (.ifCond .ne 18, 3) := by decide +kernel
theorem dX7_canPass_33 : decode cX7_canPass 33 = .ok (.aload_n 2, 1) := by decide +kernel
theorem dX7_canPass_34 : decode cX7_canPass 34 = .ok (.getfield 168, 3) := by decide +kernel
theorem dX7_canPass_37 : decode cX7_canPass 37 = .ok (.aload_n 3, 1) := by decide +kernel
theorem dX7_canPass_38 : decode cX7_canPass 38 = .ok (.getfield 171, 3) := by decide +kernel
theorem dX7_canPass_41 : decode cX7_canPass 41 = .ok (.if_icmp .ne 7, 3) := by decide +kernel
theorem dX7_canPass_44 : decode cX7_canPass 44 = .ok (.iconst 1, 1) := by decide +kernel
theorem dX7_canPass_45 : decode cX7_canPass 45 = .ok (.goto 4, 3) := by decide +kernel
theorem dX7_canPass_48 : decode cX7_canPass 48 = .ok (.iconst 0, 1) := by decide +kernel
theorem dX7_canPass_49 : decode cX7_canPass 49 = .ok (.ireturn, 1) := by decide +kernel
