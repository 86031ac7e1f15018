theorem dX7_serve_0 : decode cX7_serve 0 = .ok (.aload_n 0, 1) := by decide +kernel
theorem dX7_serve_1 : decode cX7_serve 1 = .ok (.aload_n 1, 1) := by decide +kernel
theorem dX7_serve_2 : decode cX7_serve 2 = .ok (.getfield 195, 3) := by decide +kernel
theorem dX7_serve_5 : decode cX7_serve 5 = .ok (.invokevirtual 161, 3) := by decide +kernel
theorem dX7_serve_8 : decode cX7_serve 8 = .ok (.astore_n 2, 1) := by decide +kernel
theorem dX7_serve_9 : decode cX7_serve 9 = .ok (.aload_n 2, 1) := by decide +kernel
theorem dX7_serve_10 : decode cX7_serve 10 = .ok (.ifnonnull 4, 3) := by decide +kernel
theorem dX7_serve_13 : decode cX7_serve 13 = .ok (.return_, 1) := by decide +kernel
theorem dX7_serve_14 : decode cX7_serve 14 = .ok (.aload_n 2, 1) := by decide +kernel
theorem dX7_serve_15 : decode cX7_serve 15 = .ok (.aload_n 1, 1) := by decide +kernel
theorem dX7_serve_16 : decode cX7_serve 16 = .ok (.invokevirtual 267, 3) := by decide +kernel
theorem dX7_serve_19 : decode cX7_serve 19 = .ok (.aload_n 0, 1) := by decide +kernel
theorem dX7_serve_20 : decode cX7_serve 20 = .ok (.getfield 65, 3) := by decide +kernel
theorem dX7_serve_23 : decode cX7_serve 23 = .ok (.invokevirtual 154, 3) := by decide +kernel
theorem dX7_serve_26 : decode cX7_serve 26 = .ok (.astore_n 3, 1) := by decide +kernel
theorem dX7_serve_27 : decode cX7_serve 27 = .ok (.aload_n 3, 1) := by decide +kernel
theorem dX7_serve_28 : decode cX7_serve 28 = .ok (.ifnonnull 4, 3) := by decide +kernel
theorem dX7_serve_31 : decode cX7_serve 31 = .ok (.return_, 1) := by decide +kernel
theorem dX7_serve_32 : decode cX7_serve 32 = .ok (.aload_n 3, 1) := by decide +kernel
theorem dX7_serve_33 : decode cX7_serve 33 = .ok (.aload_n 1, 1) := by decide +kernel
theorem dX7_serve_34 : decode cX7_serve 34 = .ok (.invokevirtual 158, 3) := by decide +kernel
theorem dX7_serve_37 : decode cX7_serve 37 = .ok (.aload_n 3, 1) := by decide +kernel
theorem dX7_serve_38 : decode cX7_serve 38 = .ok (.iconst 1, 1) := by decide +kernel
theorem dX7_serve_39 : decode cX7_serve 39 = .ok (.putfield 134, 3) := by decide +kernel
theorem dX7_serve_42 : decode cX7_serve 42 = .ok (.aload_n 3, 1) := by decide +kernel
theorem dX7_serve_43 : decode cX7_serve 43 = .ok (.aload_n 2, 1) := by decide +kernel
theorem dX7_serve_44 : decode cX7_serve 44 = .ok (.getfield 184, 3) := by decide +kernel
theorem dX7_serve_47 : decode cX7_serve 47 = .ok (.putfield 262, 3) := by decide +kernel
theorem dX7_serve_50 : decode cX7_serve 50 = .ok (.aload_n 3, 1) := by decide +kernel
theorem dX7_serve_51 : decode cX7_serve 51 = .ok (.aload_n 2, 1) := by decide +kernel
theorem dX7_serve_52 : decode cX7_serve 52 = .ok (.getfield 185, 3) := by decide +kernel
theorem dX7_serve_55 : decode cX7_serve 55 = .ok (.putfield 206, 3) := by decide +kernel
theorem dX7_serve_58 : decode cX7_serve 58 = .ok (.aload_n 3, 1) := by decide +kernel
theorem dX7_serve_59 : decode cX7_serve 59 = .ok (.getfield 205, 3) := by decide +kernel
theorem dX7_serve_62 : decode cX7_serve 62 = .ok (.aload_n 2, 1) := by decide +kernel
theorem dX7_serve_63 : decode cX7_serve 63 = .ok (.getfield 172, 3) := by decide +kernel
theorem dX7_serve_66 : decode cX7_serve 66 = .ok (.invokevirtual 263, 3) := by decide +kernel
theorem dX7_serve_69 : decode cX7_serve 69 = .ok (.return_, 1) := by decide +kernel
theorem dX7_hear_0 : decode cX7_hear 0 = .ok (.aload_n 0, 1) := by decide +kernel
theorem dX7_hear_1 : decode cX7_hear 1 = .ok (.aload_n 1, 1) := by decide +kernel
theorem dX7_hear_2 : decode cX7_hear 2 = .ok (.getfield 198, 3) := by decide +kernel
theorem dX7_hear_5 : decode cX7_hear 5 = .ok (.invokevirtual 69, 3) := by decide +kernel
theorem dX7_hear_8 : decode cX7_hear 8 = .ok (.astore_n 2, 1) := by decide +kernel
theorem dX7_hear_9 : decode cX7_hear 9 = .ok (.aload_n 2, 1) := by decide +kernel
theorem dX7_hear_10 : decode cX7_hear 10 = .ok (.ifnonnull 4, 3) := by decide +kernel
theorem dX7_hear_13 : decode cX7_hear 13 = .ok (.return_, 1) := by decide +kernel
theorem dX7_hear_14 : decode cX7_hear 14 = .ok (.aload_n 2, 1) := by decide +kernel
theorem dX7_hear_15 : decode cX7_hear 15 = .ok (.getfield 105, 3) := by decide +kernel
theorem dX7_hear_18 : decode cX7_hear 18 = .ok (.astore_n 3, 1) := by decide +kernel
theorem dX7_hear_19 : decode cX7_hear 19 = .ok (.aload_n 3, 1) := by decide +kernel
theorem dX7_hear_20 : decode cX7_hear 20 = .ok (.ifnull 12, 3) := by decide +kernel
theorem dX7_hear_23 : decode cX7_hear 23 = .ok (.aload_n 2, 1) := by decide +kernel
theorem dX7_hear_24 : decode cX7_hear 24 = .ok (.aload_n 1, 1) := by decide +kernel
theorem dX7_hear_25 : decode cX7_hear 25 = .ok (.aload_n 3, 1) := by decide +kernel
theorem dX7_hear_26 : decode cX7_hear 26 = .ok (.invokevirtual 270, 3) := by decide +kernel
theorem dX7_hear_29 : decode cX7_hear 29 = .ok (.ifCond .ne 4, 3) := by decide +kernel
theorem dX7_hear_32 : decode cX7_hear 32 = .ok (.return_, 1) := by decide +kernel
theorem dX7_hear_33 : decode cX7_hear 33 = .ok (.aload_n 1, 1) := by decide +kernel
theorem dX7_hear_34 : decode cX7_hear 34 = .ok (.getfield 262, 3) := by decide +kernel
theorem dX7_hear_37 : decode cX7_hear 37 = .ok (.aload_n 2, 1) := by decide +kernel
theorem dX7_hear_38 : decode cX7_hear 38 = .ok (.getfield 77, 3) := by decide +kernel
theorem dX7_hear_41 : decode cX7_hear 41 = .ok (.if_icmp .le 7, 3) := by decide +kernel
theorem dX7_hear_44 : decode cX7_hear 44 = .ok (.iconst 1, 1) := by decide +kernel
theorem dX7_hear_45 : decode cX7_hear 45 = .ok (.goto 4, 3) := by decide +kernel
theorem dX7_hear_48 : decode cX7_hear 48 = .ok (.iconst 0, 1) := by decide +kernel
theorem dX7_hear_49 : decode cX7_hear 49 = .ok (.istore 4, 2) := by decide +kernel
theorem dX7_hear_51 : decode cX7_hear 51 = .ok (.aload_n 2, 1) := by decide +kernel
theorem dX7_hear_52 : decode cX7_hear 52 = .ok (.aload_n 1, 1) := by decide +kernel
theorem dX7_hear_53 : decode cX7_hear 53 = .ok (.invokevirtual 274, 3) := by decide +kernel
theorem dX7_hear_56 : decode cX7_hear 56 = .ok (.iload 4, 2) := by decide +kernel
theorem dX7_hear_58 : decode cX7_hear 58 = .ok (.ifCond .eq 21, 3) := by decide +kernel
theorem dX7_hear_61 : decode cX7_hear 61 = .ok (.aload_n 2, 1) := by decide +kernel
theorem dX7_hear_62 : decode cX7_hear 62 = .ok (.getfield 189, 3) := by decide +kernel
theorem dX7_hear_65 : decode cX7_hear 65 = .ok (.iconst 1, 1) := by decide +kernel
theorem dX7_hear_66 : decode cX7_hear 66 = .ok (.if_icmp .ne 13, 3) := by decide +kernel
theorem dX7_hear_69 : decode cX7_hear 69 = .ok (.aload_n 0, 1) := by decide +kernel
theorem dX7_hear_70 : decode cX7_hear 70 = .ok (.aload_n 2, 1) := by decide +kernel
theorem dX7_hear_71 : decode cX7_hear 71 = .ok (.aload_n 3, 1) := by decide +kernel
theorem dX7_hear_72 : decode cX7_hear 72 = .ok (.iconst 1, 1) := by decide +kernel
theorem dX7_hear_73 : decode cX7_hear 73 = .ok (.invokevirtual 252, 3) := by decide +kernel
theorem dX7_hear_76 : decode cX7_hear 76 = .ok (.goto 48, 3) := by decide +kernel
theorem dX7_hear_79 : decode cX7_hear 79 = .ok (.aload_n 0, 1) := by decide +kernel
theorem dX7_hear_80 : decode cX7_hear 80 = .ok (.aload_n 2, 1) := by decide +kernel
theorem dX7_hear_81 : decode cX7_hear 81 = .ok (.aload_n 3, 1) := by decide +kernel
theorem dX7_hear_82 : decode cX7_hear 82 = .ok (.invokevirtual 277, 3) := by decide +kernel
theorem dX7_hear_85 : decode cX7_hear 85 = .ok (.ifCond .eq 39, 3) := by decide +kernel
theorem dX7_hear_88 : decode cX7_hear 88 = .ok (.aload_n 0, 1) := by decide +kernel
theorem dX7_hear_89 : decode cX7_hear 89 = .ok (.aload_n 2, 1) := by decide +kernel
theorem dX7_hear_90 : decode cX7_hear 90 = .ok (.aload_n 3, 1) := by decide +kernel
theorem dX7_hear_91 : decode cX7_hear 91 = .ok (.invokevirtual 281, 3) := by decide +kernel
theorem dX7_hear_94 : decode cX7_hear 94 = .ok (.istore 5, 2) := by decide +kernel
theorem dX7_hear_96 : decode cX7_hear 96 = .ok (.iload 5, 2) := by decide +kernel
theorem dX7_hear_98 : decode cX7_hear 98 = .ok (.ifCond .ne 18, 3) := by decide +kernel
theorem dX7_hear_101 : decode cX7_hear 101 = .ok (.aload_n 3, 1) := by decide +kernel
theorem dX7_hear_102 : decode cX7_hear 102 = .ok (.aload_n 0, 1) := by decide +kernel
theorem dX7_hear_103 : decode cX7_hear 103 = .ok (.getfield 113, 3) := by decide +kernel
theorem dX7_hear_106 : decode cX7_hear 106 = .ok (.putfield 221, 3) := by decide +kernel
theorem dX7_hear_109 : decode cX7_hear 109 = .ok (.aload_n 2, 1) := by decide +kernel
theorem dX7_hear_110 : decode cX7_hear 110 = .ok (.invokevirtual 116, 3) := by decide +kernel
theorem dX7_hear_113 : decode cX7_hear 113 = .ok (.goto 11, 3) := by decide +kernel
theorem dX7_hear_116 : decode cX7_hear 116 = .ok (.aload_n 0, 1) := by decide +kernel
theorem dX7_hear_117 : decode cX7_hear 117 = .ok (.aload_n 2, 1) := by decide +kernel
theorem dX7_hear_118 : decode cX7_hear 118 = .ok (.aload_n 3, 1) := by decide +kernel
theorem dX7_hear_119 : decode cX7_hear 119 = .ok (.iload 5, 2) := by decide +kernel
theorem dX7_hear_121 : decode cX7_hear 121 = .ok (.invokevirtual 252, 3) := by decide +kernel
theorem dX7_hear_124 : decode cX7_hear 124 = .ok (.return_, 1) := by decide +kernel
theorem dX7_hasQuorum_0 : decode cX7_hasQuorum 0 = .ok (.aload_n 1, 1) := by decide +kernel
theorem dX7_hasQuorum_1 : decode cX7_hasQuorum 1 = .ok (.getfield 77, 3) := by decide +kernel
theorem dX7_hasQuorum_4 : decode cX7_hasQuorum 4 = .ok (.istore_n 3, 1) := by decide +kernel
theorem dX7_hasQuorum_5 : decode cX7_hasQuorum 5 = .ok (.aload_n 1, 1) := by decide +kernel
theorem dX7_hasQuorum_6 : decode cX7_hasQuorum 6 = .ok (.getfield 80, 3) := by decide +kernel
theorem dX7_hasQuorum_9 : decode cX7_hasQuorum 9 = .ok (.istore 4, 2) := by decide +kernel
theorem dX7_hasQuorum_11 : decode cX7_hasQuorum 11 = .ok (.aload_n 1, 1) := by decide +kernel
theorem dX7_hasQuorum_12 : decode cX7_hasQuorum 12 = .ok (.getfield 189, 3) := by decide +kernel
theorem dX7_hasQuorum_15 : decode cX7_hasQuorum 15 = .ok (.iconst 3, 1) := by decide +kernel
theorem dX7_hasQuorum_16 : decode cX7_hasQuorum 16 = .ok (.if_icmp .ne 14, 3) := by decide +kernel
theorem dX7_hasQuorum_19 : decode cX7_hasQuorum 19 = .ok (.aload_n 2, 1) := by decide +kernel
theorem dX7_hasQuorum_20 : decode cX7_hasQuorum 20 = .ok (.getfield 226, 3) := by decide +kernel
theorem dX7_hasQuorum_23 : decode cX7_hasQuorum 23 = .ok (.iconst 1, 1) := by decide +kernel
theorem dX7_hasQuorum_24 : decode cX7_hasQuorum 24 = .ok (.isub, 1) := by decide +kernel
theorem dX7_hasQuorum_25 : decode cX7_hasQuorum 25 = .ok (.istore 4, 2) := by decide +kernel
theorem dX7_hasQuorum_27 : decode cX7_hasQuorum 27 = .ok (.goto 30, 3) := by decide +kernel
theorem dX7_hasQuorum_30 : decode cX7_hasQuorum 30 = .ok (.aload_n 1, 1) := by decide +kernel
theorem dX7_hasQuorum_31 : decode cX7_hasQuorum 31 = .ok (.getfield 189, 3) := by decide +kernel
theorem dX7_hasQuorum_34 : decode cX7_hasQuorum 34 = .ok (.iconst 4, 1) := by decide +kernel
theorem dX7_hasQuorum_35 : decode cX7_hasQuorum 35 = .ok (.if_icmp .eq 11, 3) := by decide +kernel
theorem dX7_hasQuorum_38 : decode cX7_hasQuorum 38 = .ok (.aload_n 1, 1) := by decide +kernel
theorem dX7_hasQuorum_39 : decode cX7_hasQuorum 39 = .ok (.getfield 189, 3) := by decide +kernel
theorem dX7_hasQuorum_42 : decode cX7_hasQuorum 42 = .ok (.iconst 5, 1) := by decide +kernel
theorem dX7_hasQuorum_43 : decode cX7_hasQuorum 43 = .ok (.if_icmp .ne 14, 3) := by decide +kernel
theorem dX7_hasQuorum_46 : decode cX7_hasQuorum 46 = .ok (.aload_n 2, 1) := by decide +kernel
theorem dX7_hasQuorum_47 : decode cX7_hasQuorum 47 = .ok (.getfield 226, 3) := by decide +kernel
theorem dX7_hasQuorum_50 : decode cX7_hasQuorum 50 = .ok (.istore_n 3, 1) := by decide +kernel
theorem dX7_hasQuorum_51 : decode cX7_hasQuorum 51 = .ok (.aload_n 2, 1) := by decide +kernel
theorem dX7_hasQuorum_52 : decode cX7_hasQuorum 52 = .ok (.getfield 226, 3) := by decide +kernel
theorem dX7_hasQuorum_55 : decode cX7_hasQuorum 55 = .ok (.istore 4, 2) := by decide +kernel
theorem dX7_hasQuorum_57 : decode cX7_hasQuorum 57 = .ok (.iload_n 3, 1) := by decide +kernel
theorem dX7_hasQuorum_58 : decode cX7_hasQuorum 58 = .ok (.istore 5, 2) := by decide +kernel
theorem dX7_hasQuorum_60 : decode cX7_hasQuorum 60 = .ok (.iload 5, 2) := by decide +kernel
theorem dX7_hasQuorum_62 : decode cX7_hasQuorum 62 = .ok (.iload 4, 2) := by decide +kernel
theorem dX7_hasQuorum_64 : decode cX7_hasQuorum 64 = .ok (.if_icmp .gt 66, 3) := by decide +kernel
theorem dX7_hasQuorum_67 : decode cX7_hasQuorum 67 = .ok (.aload_n 0, 1) := by decide +kernel
theorem dX7_hasQuorum_68 : decode cX7_hasQuorum 68 = .ok (.iload 5, 2) := by decide +kernel
theorem dX7_hasQuorum_70 : decode cX7_hasQuorum 70 = .ok (.invokevirtual 229, 3) := by decide +kernel
theorem dX7_hasQuorum_73 : decode cX7_hasQuorum 73 = .ok (.astore 6, 2) := by decide +kernel
theorem dX7_hasQuorum_75 : decode cX7_hasQuorum 75 = .ok (.aload 6, 2) := by decide +kernel
theorem dX7_hasQuorum_77 : decode cX7_hasQuorum 77 = .ok (.ifnonnull 5, 3) := by decide +kernel
theorem dX7_hasQuorum_80 : decode cX7_hasQuorum 80 = .ok (.iconst 0, 1) := by decide +kernel
theorem dX7_hasQuorum_81 : decode cX7_hasQuorum 81 = .ok (.ireturn, 1) := by decide +kernel
theorem dX7_hasQuorum_82 : decode cX7_hasQuorum 82 = .ok (.aload_n 1, 1) := by decide +kernel
theorem dX7_hasQuorum_83 : decode cX7_hasQuorum 83 = .ok (.getfield 189, 3) := by decide +kernel
theorem dX7_hasQuorum_86 : decode cX7_hasQuorum 86 = .ok (.iconst 1, 1) := by decide +kernel
theorem dX7_hasQuorum_87 : decode cX7_hasQuorum 87 = .ok (.if_icmp .ne 11, 3) := by decide +kernel
theorem dX7_hasQuorum_90 : decode cX7_hasQuorum 90 = .ok (.aload 6, 2) := by decide +kernel
theorem dX7_hasQuorum_92 : decode cX7_hasQuorum 92 = .ok (.getfield 236, 3) := by decide +kernel
theorem dX7_hasQuorum_95 : decode cX7_hasQuorum 95 = .ok (.goto 8, 3) := by decide +kernel
theorem dX7_hasQuorum_98 : decode cX7_hasQuorum 98 = .ok (.aload 6, 2) := by decide +kernel
theorem dX7_hasQuorum_100 : decode cX7_hasQuorum 100 = .ok (.getfield 239, 3) := by decide +kernel
theorem dX7_hasQuorum_103 : decode cX7_hasQuorum 103 = .ok (.istore 7, 2) := by decide +kernel
theorem dX7_hasQuorum_105 : decode cX7_hasQuorum 105 = .ok (.aload 6, 2) := by decide +kernel
theorem dX7_hasQuorum_107 : decode cX7_hasQuorum 107 = .ok (.getfield 233, 3) := by decide +kernel
theorem dX7_hasQuorum_110 : decode cX7_hasQuorum 110 = .ok (.aload_n 1, 1) := by decide +kernel
theorem dX7_hasQuorum_111 : decode cX7_hasQuorum 111 = .ok (.getfield 192, 3) := by decide +kernel
theorem dX7_hasQuorum_114 : decode cX7_hasQuorum 114 = .ok (.invokestatic 284, 3) := by decide +kernel
theorem dX7_hasQuorum_117 : decode cX7_hasQuorum 117 = .ok (.iload 7, 2) := by decide +kernel
theorem dX7_hasQuorum_119 : decode cX7_hasQuorum 119 = .ok (.if_icmp .ge 5, 3) := by decide +kernel
theorem dX7_hasQuorum_122 : decode cX7_hasQuorum 122 = .ok (.iconst 0, 1) := by decide +kernel
theorem dX7_hasQuorum_123 : decode cX7_hasQuorum 123 = .ok (.ireturn, 1) := by decide +kernel
theorem dX7_hasQuorum_124 : decode cX7_hasQuorum 124 = .ok (.iinc 5 1, 3) := by decide +kernel
theorem dX7_hasQuorum_127 : decode cX7_hasQuorum 127 = .ok (.goto (-67), 3) := by decide +kernel
theorem dX7_hasQuorum_130 : decode cX7_hasQuorum 130 = .ok (.iconst 1, 1) := by decide +kernel
theorem dX7_hasQuorum_131 : decode cX7_hasQuorum 131 = .ok (.ireturn, 1) := by decide +kernel
theorem dX7_endPhase_0 : decode cX7_endPhase 0 = .ok (.aload_n 1, 1) := by decide +kernel
theorem dX7_endPhase_1 : decode cX7_endPhase 1 = .ok (.getfield 189, 3) := by decide +kernel
theorem dX7_endPhase_4 : decode cX7_endPhase 4 = .ok (.tableswitch 114 1 4 #[32, 74, 102, 112], 32) := by decide +kernel
theorem dX7_endPhase_36 : decode cX7_endPhase 36 = .ok (.aload_n 2, 1) := by decide +kernel
theorem dX7_endPhase_37 : decode cX7_endPhase 37 = .ok (.getfield 214, 3) := by decide +kernel
theorem dX7_endPhase_40 : decode cX7_endPhase 40 = .ok (.iconst 1, 1) := by decide +kernel
theorem dX7_endPhase_41 : decode cX7_endPhase 41 = .ok (.if_icmp .ne 35, 3) := by decide +kernel
theorem dX7_endPhase_44 : decode cX7_endPhase 44 = .ok (.aload_n 1, 1) := by decide +kernel
theorem dX7_endPhase_45 : decode cX7_endPhase 45 = .ok (.getfield 247, 3) := by decide +kernel
theorem dX7_endPhase_48 : decode cX7_endPhase 48 = .ok (.aload_n 1, 1) := by decide +kernel
theorem dX7_endPhase_49 : decode cX7_endPhase 49 = .ok (.getfield 247, 3) := by decide +kernel
theorem dX7_endPhase_52 : decode cX7_endPhase 52 = .ok (.getfield 176, 3) := by decide +kernel
theorem dX7_endPhase_55 : decode cX7_endPhase 55 = .ok (.iconst 1, 1) := by decide +kernel
theorem dX7_endPhase_56 : decode cX7_endPhase 56 = .ok (.iadd, 1) := by decide +kernel
theorem dX7_endPhase_57 : decode cX7_endPhase 57 = .ok (.aload_n 2, 1) := by decide +kernel
theorem dX7_endPhase_58 : decode cX7_endPhase 58 = .ok (.getfield 119, 3) := by decide +kernel
theorem dX7_endPhase_61 : decode cX7_endPhase 61 = .ok (.aload_n 2, 1) := by decide +kernel
theorem dX7_endPhase_62 : decode cX7_endPhase 62 = .ok (.getfield 101, 3) := by decide +kernel
theorem dX7_endPhase_65 : decode cX7_endPhase 65 = .ok (.invokevirtual 248, 3) := by decide +kernel
theorem dX7_endPhase_68 : decode cX7_endPhase 68 = .ok (.aload_n 2, 1) := by decide +kernel
theorem dX7_endPhase_69 : decode cX7_endPhase 69 = .ok (.aload_n 1, 1) := by decide +kernel
theorem dX7_endPhase_70 : decode cX7_endPhase 70 = .ok (.getfield 247, 3) := by decide +kernel
theorem dX7_endPhase_73 : decode cX7_endPhase 73 = .ok (.invokevirtual 288, 3) := by decide +kernel
theorem dX7_endPhase_76 : decode cX7_endPhase 76 = .ok (.iconst 2, 1) := by decide +kernel
theorem dX7_endPhase_77 : decode cX7_endPhase 77 = .ok (.ireturn, 1) := by decide +kernel
theorem dX7_endPhase_78 : decode cX7_endPhase 78 = .ok (.aload_n 2, 1) := by decide +kernel
theorem dX7_endPhase_79 : decode cX7_endPhase 79 = .ok (.getfield 214, 3) := by decide +kernel
theorem dX7_endPhase_82 : decode cX7_endPhase 82 = .ok (.ifCond .ne 22, 3) := by decide +kernel
theorem dX7_endPhase_85 : decode cX7_endPhase 85 = .ok (.aload_n 2, 1) := by decide +kernel
theorem dX7_endPhase_86 : decode cX7_endPhase 86 = .ok (.aload_n 1, 1) := by decide +kernel
theorem dX7_endPhase_87 : decode cX7_endPhase 87 = .ok (.getfield 247, 3) := by decide +kernel
theorem dX7_endPhase_90 : decode cX7_endPhase 90 = .ok (.invokevirtual 288, 3) := by decide +kernel
theorem dX7_endPhase_93 : decode cX7_endPhase 93 = .ok (.aload_n 2, 1) := by decide +kernel
theorem dX7_endPhase_94 : decode cX7_endPhase 94 = .ok (.aload_n 1, 1) := by decide +kernel
theorem dX7_endPhase_95 : decode cX7_endPhase 95 = .ok (.getfield 247, 3) := by decide +kernel
theorem dX7_endPhase_98 : decode cX7_endPhase 98 = .ok (.getfield 186, 3) := by decide +kernel
theorem dX7_endPhase_101 : decode cX7_endPhase 101 = .ok (.putfield 101, 3) := by decide +kernel
theorem dX7_endPhase_104 : decode cX7_endPhase 104 = .ok (.iconst 0, 1) := by decide +kernel
theorem dX7_endPhase_105 : decode cX7_endPhase 105 = .ok (.ireturn, 1) := by decide +kernel
theorem dX7_endPhase_106 : decode cX7_endPhase 106 = .ok (.aload_n 2, 1) := by decide +kernel
theorem dX7_endPhase_107 : decode cX7_endPhase 107 = .ok (.aload_n 1, 1) := by decide +kernel
theorem dX7_endPhase_108 : decode cX7_endPhase 108 = .ok (.getfield 247, 3) := by decide +kernel
theorem dX7_endPhase_111 : decode cX7_endPhase 111 = .ok (.invokevirtual 288, 3) := by decide +kernel
theorem dX7_endPhase_114 : decode cX7_endPhase 114 = .ok (.iconst 4, 1) := by decide +kernel
theorem dX7_endPhase_115 : decode cX7_endPhase 115 = .ok (.ireturn, 1) := by decide +kernel
theorem dX7_endPhase_116 : decode cX7_endPhase 116 = .ok (.iconst 5, 1) := by decide +kernel
theorem dX7_endPhase_117 : decode cX7_endPhase 117 = .ok (.ireturn, 1) := by decide +kernel
theorem dX7_endPhase_118 : decode cX7_endPhase 118 = .ok (.iconst 0, 1) := by decide +kernel
theorem dX7_endPhase_119 : decode cX7_endPhase 119 = .ok (.ireturn, 1) := by decide +kernel
theorem dX8_init_0 : decode cX8_init 0 = .ok (.aload_n 0, 1) := by decide +kernel
theorem dX8_init_1 : decode cX8_init 1 = .ok (.invokespecial 1, 3) := by decide +kernel
theorem dX8_init_4 : decode cX8_init 4 = .ok (.aload_n 0, 1) := by decide +kernel
theorem dX8_init_5 : decode cX8_init 5 = .ok (.bipush 7, 2) := by decide +kernel
theorem dX8_init_7 : decode cX8_init 7 = .ok (.newarray .long, 2) := by decide +kernel
theorem dX8_init_9 : decode cX8_init 9 = .ok (.putfield 7, 3) := by decide +kernel
theorem dX8_init_12 : decode cX8_init 12 = .ok (.aload_n 0, 1) := by decide +kernel
theorem dX8_init_13 : decode cX8_init 13 = .ok (.bipush 7, 2) := by decide +kernel
theorem dX8_init_15 : decode cX8_init 15 = .ok (.newarray .int, 2) := by decide +kernel
theorem dX8_init_17 : decode cX8_init 17 = .ok (.putfield 13, 3) := by decide +kernel
theorem dX8_init_20 : decode cX8_init 20 = .ok (.aload_n 0, 1) := by decide +kernel
theorem dX8_init_21 : decode cX8_init 21 = .ok (.bipush 7, 2) := by decide +kernel
theorem dX8_init_23 : decode cX8_init 23 = .ok (.newarray .int, 2) := by decide +kernel
theorem dX8_init_25 : decode cX8_init 25 = .ok (.putfield 17, 3) := by decide +kernel
theorem dX8_init_28 : decode cX8_init 28 = .ok (.aload_n 0, 1) := by decide +kernel
theorem dX8_init_29 : decode cX8_init 29 = .ok (.bipush 7, 2) := by decide +kernel
theorem dX8_init_31 : decode cX8_init 31 = .ok (.newarray .int, 2) := by decide +kernel
theorem dX8_init_33 : decode cX8_init 33 = .ok (.putfield 20, 3) := by decide +kernel
theorem dX8_init_36 : decode cX8_init 36 = .ok (.aload_n 0, 1) := by decide +kernel
theorem dX8_init_37 : decode cX8_init 37 = .ok (.bipush 7, 2) := by decide +kernel
theorem dX8_init_39 : decode cX8_init 39 = .ok (.newarray .int, 2) := by decide +kernel
theorem dX8_init_41 : decode cX8_init 41 = .ok (.putfield 23, 3) := by decide +kernel
theorem dX8_init_44 : decode cX8_init 44 = .ok (.aload_n 0, 1) := by decide +kernel
theorem dX8_init_45 : decode cX8_init 45 = .ok (.bipush 7, 2) := by decide +kernel
theorem dX8_init_47 : decode cX8_init 47 = .ok (.newarray .int, 2) := by decide +kernel
theorem dX8_init_49 : decode cX8_init 49 = .ok (.putfield 26, 3) := by decide +kernel
theorem dX8_init_52 : decode cX8_init 52 = .ok (.aload_n 0, 1) := by decide +kernel
theorem dX8_init_53 : decode cX8_init 53 = .ok (.bipush 7, 2) := by decide +kernel
theorem dX8_init_55 : decode cX8_init 55 = .ok (.newarray .boolean, 2) := by decide +kernel
theorem dX8_init_57 : decode cX8_init 57 = .ok (.putfield 29, 3) := by decide +kernel
theorem dX8_init_60 : decode cX8_init 60 = .ok (.aload_n 0, 1) := by decide +kernel
theorem dX8_init_61 : decode cX8_init 61 = .ok (.sipush 144, 3) := by decide +kernel
theorem dX8_init_64 : decode cX8_init 64 = .ok (.newarray .int, 2) := by decide +kernel
theorem dX8_init_66 : decode cX8_init 66 = .ok (.putfield 33, 3) := by decide +kernel
theorem dX8_init_69 : decode cX8_init 69 = .ok (.aload_n 0, 1) := by decide +kernel
theorem dX8_init_70 : decode cX8_init 70 = .ok (.bipush 7, 2) := by decide +kernel
theorem dX8_init_72 : decode cX8_init 72 = .ok (.newarray .int, 2) := by decide +kernel
theorem dX8_init_74 : decode cX8_init 74 = .ok (.putfield 36, 3) := by decide +kernel
theorem dX8_init_77 : decode cX8_init 77 = .ok (.aload_n 0, 1) := by decide +kernel
theorem dX8_init_78 : decode cX8_init 78 = .ok (.iconst 4, 1) := by decide +kernel
theorem dX8_init_79 : decode cX8_init 79 = .ok (.newarray .int, 2) := by decide +kernel
theorem dX8_init_81 : decode cX8_init 81 = .ok (.putfield 39, 3) := by decide +kernel
theorem dX8_init_84 : decode cX8_init 84 = .ok (.aload_n 0, 1) := by decide +kernel
theorem dX8_init_85 : decode cX8_init 85 = .ok (.iconst 4, 1) := by decide +kernel
theorem dX8_init_86 : decode cX8_init 86 = .ok (.newarray .int, 2) := by decide +kernel
theorem dX8_init_88 : decode cX8_init 88 = .ok (.putfield 42, 3) := by decide +kernel
theorem dX8_init_91 : decode cX8_init 91 = .ok (.aload_n 0, 1) := by decide +kernel
theorem dX8_init_92 : decode cX8_init 92 = .ok (.iconst 4, 1) := by decide +kernel
theorem dX8_init_93 : decode cX8_init 93 = .ok (.newarray .int, 2) := by decide +kernel
theorem dX8_init_95 : decode cX8_init 95 = .ok (.putfield 45, 3) := by decide +kernel
theorem dX8_init_98 : decode cX8_init 98 = .ok (.aload_n 0, 1) := by decide +kernel
theorem dX8_init_99 : decode cX8_init 99 = .ok (.iconst 4, 1) := by decide +kernel
theorem dX8_init_100 : decode cX8_init 100 = .ok (.newarray .int, 2) := by decide +kernel
theorem dX8_init_102 : decode cX8_init 102 = .ok (.putfield 48, 3) := by decide +kernel
theorem dX8_init_105 : decode cX8_init 105 = .ok (.aload_n 0, 1) := by decide +kernel
theorem dX8_init_106 : decode cX8_init 106 = .ok (.iconst 4, 1) := by decide +kernel
theorem dX8_init_107 : decode cX8_init 107 = .ok (.newarray .int, 2) := by decide +kernel
theorem dX8_init_109 : decode cX8_init 109 = .ok (.putfield 51, 3) := by decide +kernel
theorem dX8_init_112 : decode cX8_init 112 = .ok (.aload_n 0, 1) := by decide +kernel
theorem dX8_init_113 : decode cX8_init 113 = .ok (.iconst 4, 1) := by decide +kernel
theorem dX8_init_114 : decode cX8_init 114 = .ok (.newarray .int, 2) := by decide +kernel
theorem dX8_init_116 : decode cX8_init 116 = .ok (.putfield 54, 3) := by decide +kernel
theorem dX8_init_119 : decode cX8_init 119 = .ok (.aload_n 0, 1) := by decide +kernel
theorem dX8_init_120 : decode cX8_init 120 = .ok (.iconst 4, 1) := by decide +kernel
theorem dX8_init_121 : decode cX8_init 121 = .ok (.newarray .int, 2) := by decide +kernel
theorem dX8_init_123 : decode cX8_init 123 = .ok (.putfield 57, 3) := by decide +kernel
theorem dX8_init_126 : decode cX8_init 126 = .ok (.aload_n 0, 1) := by decide +kernel
theorem dX8_init_127 : decode cX8_init 127 = .ok (.iconst 4, 1) := by decide +kernel
theorem dX8_init_128 : decode cX8_init 128 = .ok (.newarray .int, 2) := by decide +kernel
theorem dX8_init_130 : decode cX8_init 130 = .ok (.putfield 60, 3) := by decide +kernel
theorem dX8_init_133 : decode cX8_init 133 = .ok (.aload_n 0, 1) := by decide +kernel
theorem dX8_init_134 : decode cX8_init 134 = .ok (.iconst 4, 1) := by decide +kernel
theorem dX8_init_135 : decode cX8_init 135 = .ok (.newarray .int, 2) := by decide +kernel
theorem dX8_init_137 : decode cX8_init 137 = .ok (.putfield 63, 3) := by decide +kernel
theorem dX8_init_140 : decode cX8_init 140 = .ok (.aload_n 0, 1) := by decide +kernel
theorem dX8_init_141 : decode cX8_init 141 = .ok (.iconst 4, 1) := by decide +kernel
theorem dX8_init_142 : decode cX8_init 142 = .ok (.newarray .long, 2) := by decide +kernel
theorem dX8_init_144 : decode cX8_init 144 = .ok (.putfield 66, 3) := by decide +kernel
theorem dX8_init_147 : decode cX8_init 147 = .ok (.aload_n 0, 1) := by decide +kernel
theorem dX8_init_148 : decode cX8_init 148 = .ok (.sipush 201, 3) := by decide +kernel
theorem dX8_init_151 : decode cX8_init 151 = .ok (.newarray .int, 2) := by decide +kernel
theorem dX8_init_153 : decode cX8_init 153 = .ok (.putfield 69, 3) := by decide +kernel
theorem dX8_init_156 : decode cX8_init 156 = .ok (.aload_n 0, 1) := by decide +kernel
theorem dX8_init_157 : decode cX8_init 157 = .ok (.sipush 201, 3) := by decide +kernel
theorem dX8_init_160 : decode cX8_init 160 = .ok (.newarray .int, 2) := by decide +kernel
theorem dX8_init_162 : decode cX8_init 162 = .ok (.putfield 72, 3) := by decide +kernel
theorem dX8_init_165 : decode cX8_init 165 = .ok (.aload_n 0, 1) := by decide +kernel
theorem dX8_init_166 : decode cX8_init 166 = .ok (.sipush 201, 3) := by decide +kernel
theorem dX8_init_169 : decode cX8_init 169 = .ok (.newarray .int, 2) := by decide +kernel
theorem dX8_init_171 : decode cX8_init 171 = .ok (.putfield 75, 3) := by decide +kernel
theorem dX8_init_174 : decode cX8_init 174 = .ok (.aload_n 0, 1) := by decide +kernel
theorem dX8_init_175 : decode cX8_init 175 = .ok (.sipush 201, 3) := by decide +kernel
theorem dX8_init_178 : decode cX8_init 178 = .ok (.newarray .int, 2) := by decide +kernel
theorem dX8_init_180 : decode cX8_init 180 = .ok (.putfield 78, 3) := by decide +kernel
theorem dX8_init_183 : decode cX8_init 183 = .ok (.aload_n 0, 1) := by decide +kernel
theorem dX8_init_184 : decode cX8_init 184 = .ok (.sipush 201, 3) := by decide +kernel
theorem dX8_init_187 : decode cX8_init 187 = .ok (.newarray .int, 2) := by decide +kernel
theorem dX8_init_189 : decode cX8_init 189 = .ok (.putfield 81, 3) := by decide +kernel
theorem dX8_init_192 : decode cX8_init 192 = .ok (.aload_n 0, 1) := by decide +kernel
theorem dX8_init_193 : decode cX8_init 193 = .ok (.sipush 201, 3) := by decide +kernel
theorem dX8_init_196 : decode cX8_init 196 = .ok (.newarray .int, 2) := by decide +kernel
theorem dX8_init_198 : decode cX8_init 198 = .ok (.putfield 84, 3) := by decide +kernel
theorem dX8_init_201 : decode cX8_init 201 = .ok (.aload_n 0, 1) := by decide +kernel
theorem dX8_init_202 : decode cX8_init 202 = .ok (.sipush 201, 3) := by decide +kernel
theorem dX8_init_205 : decode cX8_init 205 = .ok (.newarray .int, 2) := by decide +kernel
theorem dX8_init_207 : decode cX8_init 207 = .ok (.putfield 87, 3) := by decide +kernel
theorem dX8_init_210 : decode cX8_init 210 = .ok (.aload_n 0, 1) := by decide +kernel
theorem dX8_init_211 : decode cX8_init 211 = .ok (.sipush 201, 3) := by decide +kernel
theorem dX8_init_214 : decode cX8_init 214 = .ok (.newarray .long, 2) := by decide +kernel
theorem dX8_init_216 : decode cX8_init 216 = .ok (.putfield 90, 3) := by decide +kernel
theorem dX8_init_219 : decode cX8_init 219 = .ok (.aload_n 0, 1) := by decide +kernel
theorem dX8_init_220 : decode cX8_init 220 = .ok (.sipush 300, 3) := by decide +kernel
theorem dX8_init_223 : decode cX8_init 223 = .ok (.newarray .boolean, 2) := by decide +kernel
theorem dX8_init_225 : decode cX8_init 225 = .ok (.putfield 93, 3) := by decide +kernel
theorem dX8_init_228 : decode cX8_init 228 = .ok (.aload_n 0, 1) := by decide +kernel
theorem dX8_init_229 : decode cX8_init 229 = .ok (.sipush 300, 3) := by decide +kernel
theorem dX8_init_232 : decode cX8_init 232 = .ok (.newarray .int, 2) := by decide +kernel
theorem dX8_init_234 : decode cX8_init 234 = .ok (.putfield 96, 3) := by decide +kernel
theorem dX8_init_237 : decode cX8_init 237 = .ok (.aload_n 0, 1) := by decide +kernel
theorem dX8_init_238 : decode cX8_init 238 = .ok (.sipush 300, 3) := by decide +kernel
theorem dX8_init_241 : decode cX8_init 241 = .ok (.newarray .int, 2) := by decide +kernel
theorem dX8_init_243 : decode cX8_init 243 = .ok (.putfield 99, 3) := by decide +kernel
theorem dX8_init_246 : decode cX8_init 246 = .ok (.aload_n 0, 1) := by decide +kernel
theorem dX8_init_247 : decode cX8_init 247 = .ok (.sipush 300, 3) := by decide +kernel
theorem dX8_init_250 : decode cX8_init 250 = .ok (.newarray .int, 2) := by decide +kernel
theorem dX8_init_252 : decode cX8_init 252 = .ok (.putfield 102, 3) := by decide +kernel
theorem dX8_init_255 : decode cX8_init 255 = .ok (.aload_n 0, 1) := by decide +kernel
theorem dX8_init_256 : decode cX8_init 256 = .ok (.sipush 300, 3) := by decide +kernel
theorem dX8_init_259 : decode cX8_init 259 = .ok (.newarray .int, 2) := by decide +kernel
theorem dX8_init_261 : decode cX8_init 261 = .ok (.putfield 105, 3) := by decide +kernel
theorem dX8_init_264 : decode cX8_init 264 = .ok (.aload_n 0, 1) := by decide +kernel
theorem dX8_init_265 : decode cX8_init 265 = .ok (.sipush 300, 3) := by decide +kernel
theorem dX8_init_268 : decode cX8_init 268 = .ok (.newarray .int, 2) := by decide +kernel
theorem dX8_init_270 : decode cX8_init 270 = .ok (.putfield 108, 3) := by decide +kernel
theorem dX8_init_273 : decode cX8_init 273 = .ok (.aload_n 0, 1) := by decide +kernel
theorem dX8_init_274 : decode cX8_init 274 = .ok (.sipush 300, 3) := by decide +kernel
theorem dX8_init_277 : decode cX8_init 277 = .ok (.newarray .int, 2) := by decide +kernel
theorem dX8_init_279 : decode cX8_init 279 = .ok (.putfield 111, 3) := by decide +kernel
theorem dX8_init_282 : decode cX8_init 282 = .ok (.aload_n 0, 1) := by decide +kernel
theorem dX8_init_283 : decode cX8_init 283 = .ok (.sipush 300, 3) := by decide +kernel
theorem dX8_init_286 : decode cX8_init 286 = .ok (.newarray .int, 2) := by decide +kernel
theorem dX8_init_288 : decode cX8_init 288 = .ok (.putfield 114, 3) := by decide +kernel
theorem dX8_init_291 : decode cX8_init 291 = .ok (.aload_n 0, 1) := by decide +kernel
theorem dX8_init_292 : decode cX8_init 292 = .ok (.sipush 300, 3) := by decide +kernel
theorem dX8_init_295 : decode cX8_init 295 = .ok (.newarray .int, 2) := by decide +kernel
theorem dX8_init_297 : decode cX8_init 297 = .ok (.putfield 117, 3) := by decide +kernel
theorem dX8_init_300 : decode cX8_init 300 = .ok (.aload_n 0, 1) := by decide +kernel
theorem dX8_init_301 : decode cX8_init 301 = .ok (.sipush 300, 3) := by decide +kernel
theorem dX8_init_304 : decode cX8_init 304 = .ok (.newarray .int, 2) := by decide +kernel
theorem dX8_init_306 : decode cX8_init 306 = .ok (.putfield 120, 3) := by decide +kernel
theorem dX8_init_309 : decode cX8_init 309 = .ok (.aload_n 0, 1) := by decide +kernel
theorem dX8_init_310 : decode cX8_init 310 = .ok (.sipush 300, 3) := by decide +kernel
theorem dX8_init_313 : decode cX8_init 313 = .ok (.newarray .int, 2) := by decide +kernel
theorem dX8_init_315 : decode cX8_init 315 = .ok (.putfield 123, 3) := by decide +kernel
theorem dX8_init_318 : decode cX8_init 318 = .ok (.aload_n 0, 1) := by decide +kernel
theorem dX8_init_319 : decode cX8_init 319 = .ok (.sipush 300, 3) := by decide +kernel
theorem dX8_init_322 : decode cX8_init 322 = .ok (.newarray .long, 2) := by decide +kernel
theorem dX8_init_324 : decode cX8_init 324 = .ok (.putfield 126, 3) := by decide +kernel
theorem dX8_init_327 : decode cX8_init 327 = .ok (.aload_n 0, 1) := by decide +kernel
theorem dX8_init_328 : decode cX8_init 328 = .ok (.iload_n 1, 1) := by decide +kernel
theorem dX8_init_329 : decode cX8_init 329 = .ok (.iconst 1, 1) := by decide +kernel
theorem dX8_init_330 : decode cX8_init 330 = .ok (.if_icmp .ge 7, 3) := by decide +kernel
theorem dX8_init_333 : decode cX8_init 333 = .ok (.iconst 1, 1) := by decide +kernel
theorem dX8_init_334 : decode cX8_init 334 = .ok (.goto 15, 3) := by decide +kernel
theorem dX8_init_337 : decode cX8_init 337 = .ok (.iload_n 1, 1) := by decide +kernel
theorem dX8_init_338 : decode cX8_init 338 = .ok (.bipush 7, 2) := by decide +kernel
theorem dX8_init_340 : decode cX8_init 340 = .ok (.if_icmp .le 8, 3) := by decide +kernel
theorem dX8_init_343 : decode cX8_init 343 = .ok (.bipush 7, 2) := by decide +kernel
theorem dX8_init_345 : decode cX8_init 345 = .ok (.goto 4, 3) := by decide +kernel
theorem dX8_init_348 : decode cX8_init 348 = .ok (.iload_n 1, 1) := by decide +kernel
theorem dX8_init_349 : decode cX8_init 349 = .ok (.putfield 129, 3) := by decide +kernel
theorem dX8_init_352 : decode cX8_init 352 = .ok (.iconst 0, 1) := by decide +kernel
theorem dX8_init_353 : decode cX8_init 353 = .ok (.istore_n 2, 1) := by decide +kernel
theorem dX8_init_354 : decode cX8_init 354 = .ok (.iload_n 2, 1) := by decide +kernel
theorem dX8_init_355 : decode cX8_init 355 = .ok (.aload_n 0, 1) := by decide +kernel
theorem dX8_init_356 : decode cX8_init 356 = .ok (.getfield 129, 3) := by decide +kernel
theorem dX8_init_359 : decode cX8_init 359 = .ok (.if_icmp .ge 23, 3) := by decide +kernel
theorem dX8_init_362 : decode cX8_init 362 = .ok (.aload_n 0, 1) := by decide +kernel
theorem dX8_init_363 : decode cX8_init 363 = .ok (.getfield 36, 3) := by decide +kernel
theorem dX8_init_366 : decode cX8_init 366 = .ok (.iload_n 2, 1) := by decide +kernel
theorem dX8_init_367 : decode cX8_init 367 = .ok (.iconst 1, 1) := by decide +kernel
theorem dX8_init_368 : decode cX8_init 368 = .ok (.iastore, 1) := by decide +kernel
theorem dX8_init_369 : decode cX8_init 369 = .ok (.aload_n 0, 1) := by decide +kernel
theorem dX8_init_370 : decode cX8_init 370 = .ok (.getfield 33, 3) := by decide +kernel
theorem dX8_init_373 : decode cX8_init 373 = .ok (.iload_n 2, 1) := by decide +kernel
theorem dX8_init_374 : decode cX8_init 374 = .ok (.iconst 1, 1) := by decide +kernel
theorem dX8_init_375 : decode cX8_init 375 = .ok (.iastore, 1) := by decide +kernel
theorem dX8_init_376 : decode cX8_init 376 = .ok (.iinc 2 1, 3) := by decide +kernel
theorem dX8_init_379 : decode cX8_init 379 = .ok (.goto (-25), 3) := by decide +kernel
theorem dX8_init_382 : decode cX8_init 382 = .ok (.aload_n 0, 1) := by decide +kernel
theorem dX8_init_383 : decode cX8_init 383 = .ok (.getfield 33, 3) := by decide +kernel
theorem dX8_init_386 : decode cX8_init 386 = .ok (.bipush 7, 2) := by decide +kernel
theorem dX8_init_388 : decode cX8_init 388 = .ok (.aload_n 0, 1) := by decide +kernel
theorem dX8_init_389 : decode cX8_init 389 = .ok (.getfield 129, 3) := by decide +kernel
theorem dX8_init_392 : decode cX8_init 392 = .ok (.iconst 2, 1) := by decide +kernel
theorem dX8_init_393 : decode cX8_init 393 = .ok (.idiv, 1) := by decide +kernel
theorem dX8_init_394 : decode cX8_init 394 = .ok (.iconst 1, 1) := by decide +kernel
theorem dX8_init_395 : decode cX8_init 395 = .ok (.iadd, 1) := by decide +kernel
theorem dX8_init_396 : decode cX8_init 396 = .ok (.iastore, 1) := by decide +kernel
theorem dX8_init_397 : decode cX8_init 397 = .ok (.aload_n 0, 1) := by decide +kernel
theorem dX8_init_398 : decode cX8_init 398 = .ok (.getfield 33, 3) := by decide +kernel
theorem dX8_init_401 : decode cX8_init 401 = .ok (.bipush 8, 2) := by decide +kernel
theorem dX8_init_403 : decode cX8_init 403 = .ok (.aload_n 0, 1) := by decide +kernel
theorem dX8_init_404 : decode cX8_init 404 = .ok (.getfield 129, 3) := by decide +kernel
theorem dX8_init_407 : decode cX8_init 407 = .ok (.iconst 2, 1) := by decide +kernel
theorem dX8_init_408 : decode cX8_init 408 = .ok (.idiv, 1) := by decide +kernel
theorem dX8_init_409 : decode cX8_init 409 = .ok (.iconst 1, 1) := by decide +kernel
theorem dX8_init_410 : decode cX8_init 410 = .ok (.iadd, 1) := by decide +kernel
theorem dX8_init_411 : decode cX8_init 411 = .ok (.iastore, 1) := by decide +kernel
theorem dX8_init_412 : decode cX8_init 412 = .ok (.aload_n 0, 1) := by decide +kernel
theorem dX8_init_413 : decode cX8_init 413 = .ok (.iconst 1, 1) := by decide +kernel
theorem dX8_init_414 : decode cX8_init 414 = .ok (.putfield 133, 3) := by decide +kernel
theorem dX8_init_417 : decode cX8_init 417 = .ok (.iconst 0, 1) := by decide +kernel
theorem dX8_init_418 : decode cX8_init 418 = .ok (.istore_n 2, 1) := by decide +kernel
theorem dX8_init_419 : decode cX8_init 419 = .ok (.iload_n 2, 1) := by decide +kernel
theorem dX8_init_420 : decode cX8_init 420 = .ok (.iconst 4, 1) := by decide +kernel
theorem dX8_init_421 : decode cX8_init 421 = .ok (.if_icmp .ge 16, 3) := by decide +kernel
theorem dX8_init_424 : decode cX8_init 424 = .ok (.aload_n 0, 1) := by decide +kernel
theorem dX8_init_425 : decode cX8_init 425 = .ok (.getfield 39, 3) := by decide +kernel
theorem dX8_init_428 : decode cX8_init 428 = .ok (.iload_n 2, 1) := by decide +kernel
theorem dX8_init_429 : decode cX8_init 429 = .ok (.iconst (-1), 1) := by decide +kernel
theorem dX8_init_430 : decode cX8_init 430 = .ok (.iastore, 1) := by decide +kernel
theorem dX8_init_431 : decode cX8_init 431 = .ok (.iinc 2 1, 3) := by decide +kernel
theorem dX8_init_434 : decode cX8_init 434 = .ok (.goto (-15), 3) := by decide +kernel
theorem dX8_init_437 : decode cX8_init 437 = .ok (.return_, 1) := by decide +kernel
theorem dX8_isCopy_0 : decode cX8_isCopy 0 = .ok (.iload_n 1, 1) := by decide +kernel
theorem dX8_isCopy_1 : decode cX8_isCopy 1 = .ok (.ifCond .lt 15, 3) := by decide +kernel
theorem dX8_isCopy_4 : decode cX8_isCopy 4 = .ok (.iload_n 1, 1) := by decide +kernel
theorem dX8_isCopy_5 : decode cX8_isCopy 5 = .ok (.aload_n 0, 1) := by decide +kernel
theorem dX8_isCopy_6 : decode cX8_isCopy 6 = .ok (.getfield 129, 3) := by decide +kernel
theorem dX8_isCopy_9 : decode cX8_isCopy 9 = .ok (.if_icmp .ge 7, 3) := by decide +kernel
theorem dX8_isCopy_12 : decode cX8_isCopy 12 = .ok (.iconst 1, 1) := by decide +kernel
theorem dX8_isCopy_13 : decode cX8_isCopy 13 = .ok (.goto 4, 3) := by decide +kernel
theorem dX8_isCopy_16 : decode cX8_isCopy 16 = .ok (.iconst 0, 1) := by decide +kernel
theorem dX8_isCopy_17 : decode cX8_isCopy 17 = .ok (.ireturn, 1) := by decide +kernel
theorem dX8_isClient_0 : decode cX8_isClient 0 = .ok (.iload_n 0, 1) := by decide +kernel
theorem dX8_isClient_1 : decode cX8_isClient 1 = .ok (.ifCond .lt 12, 3) := by decide +kernel
theorem dX8_isClient_4 : decode cX8_isClient 4 = .ok (.iload_n 0, 1) := by decide +kernel
theorem dX8_isClient_5 : decode cX8_isClient 5 = .ok (.iconst 4, 1) := by decide +kernel
theorem dX8_isClient_6 : decode cX8_isClient 6 = .ok (.if_icmp .ge 7, 3) := by decide +kernel
theorem dX8_isClient_9 : decode cX8_isClient 9 = .ok (.iconst 1, 1) := by decide +kernel
theorem dX8_isClient_10 : decode cX8_isClient 10 = .ok (.goto 4, 3) := by decide +kernel
theorem dX8_isClient_13 : decode cX8_isClient 13 = .ok (.iconst 0, 1) := by decide +kernel
theorem dX8_isClient_14 : decode cX8_isClient 14 = .ok (.ireturn, 1) := by decide +kernel
theorem dX8_votes_0 : decode cX8_votes 0 = .ok (.aload_n 0, 1) := by decide +kernel
theorem dX8_votes_1 : decode cX8_votes 1 = .ok (.iload_n 1, 1) := by decide +kernel
theorem dX8_votes_2 : decode cX8_votes 2 = .ok (.invokevirtual 136, 3) := by decide +kernel
theorem dX8_votes_5 : decode cX8_votes 5 = .ok (.ifCond .eq 13, 3) := by decide +kernel
theorem dX8_votes_8 : decode cX8_votes 8 = .ok (.iload_n 2, 1) := by decide +kernel
theorem dX8_votes_9 : decode cX8_votes 9 = .ok (.ifCond .lt 9, 3) := by decide +kernel
theorem dX8_votes_12 : decode cX8_votes 12 = .ok (.iload_n 2, 1) := by decide +kernel
theorem dX8_votes_13 : decode cX8_votes 13 = .ok (.bipush 9, 2) := by decide +kernel
theorem dX8_votes_15 : decode cX8_votes 15 = .ok (.if_icmp .le 5, 3) := by decide +kernel
theorem dX8_votes_18 : decode cX8_votes 18 = .ok (.iconst 0, 1) := by decide +kernel
theorem dX8_votes_19 : decode cX8_votes 19 = .ok (.ireturn, 1) := by decide +kernel
theorem dX8_votes_20 : decode cX8_votes 20 = .ok (.aload_n 0, 1) := by decide +kernel
theorem dX8_votes_21 : decode cX8_votes 21 = .ok (.getfield 36, 3) := by decide +kernel
theorem dX8_votes_24 : decode cX8_votes 24 = .ok (.iload_n 1, 1) := by decide +kernel
theorem dX8_votes_25 : decode cX8_votes 25 = .ok (.iload_n 2, 1) := by decide +kernel
theorem dX8_votes_26 : decode cX8_votes 26 = .ok (.iastore, 1) := by decide +kernel
theorem dX8_votes_27 : decode cX8_votes 27 = .ok (.iconst 1, 1) := by decide +kernel
theorem dX8_votes_28 : decode cX8_votes 28 = .ok (.ireturn, 1) := by decide +kernel
theorem dX8_put_0 : decode cX8_put 0 = .ok (.aload_n 0, 1) := by decide +kernel
theorem dX8_put_1 : decode cX8_put 1 = .ok (.getfield 140, 3) := by decide +kernel
theorem dX8_put_4 : decode cX8_put 4 = .ok (.sipush 300, 3) := by decide +kernel
theorem dX8_put_7 : decode cX8_put 7 = .ok (.if_icmp .ne 14, 3) := by decide +kernel
theorem dX8_put_10 : decode cX8_put 10 = .ok (.aload_n 0, 1) := by decide +kernel
theorem dX8_put_11 : decode cX8_put 11 = .ok (.dup, 1) := by decide +kernel
theorem dX8_put_12 : decode cX8_put 12 = .ok (.getfield 143, 3) := by decide +kernel
theorem dX8_put_15 : decode cX8_put 15 = .ok (.iconst 1, 1) := by decide +kernel
theorem dX8_put_16 : decode cX8_put 16 = .ok (.iadd, 1) := by decide +kernel
theorem dX8_put_17 : decode cX8_put 17 = .ok (.putfield 143, 3) := by decide +kernel
theorem dX8_put_20 : decode cX8_put 20 = .ok (.return_, 1) := by decide +kernel
theorem dX8_put_21 : decode cX8_put 21 = .ok (.aload_n 0, 1) := by decide +kernel
theorem dX8_put_22 : decode cX8_put 22 = .ok (.getfield 93, 3) := by decide +kernel
theorem dX8_put_25 : decode cX8_put 25 = .ok (.aload_n 0, 1) := by decide +kernel
theorem dX8_put_26 : decode cX8_put 26 = .ok (.getfield 140, 3) := by decide +kernel
theorem dX8_put_29 : decode cX8_put 29 = .ok (.iload_n 1, 1) := by decide +kernel
theorem dX8_put_30 : decode cX8_put 30 = .ok (.bastore, 1) := by decide +kernel
theorem dX8_put_31 : decode cX8_put 31 = .ok (.aload_n 0, 1) := by decide +kernel
theorem dX8_put_32 : decode cX8_put 32 = .ok (.getfield 96, 3) := by decide +kernel
theorem dX8_put_35 : decode cX8_put 35 = .ok (.aload_n 0, 1) := by decide +kernel
theorem dX8_put_36 : decode cX8_put 36 = .ok (.getfield 140, 3) := by decide +kernel
theorem dX8_put_39 : decode cX8_put 39 = .ok (.iload_n 2, 1) := by decide +kernel
theorem dX8_put_40 : decode cX8_put 40 = .ok (.iastore, 1) := by decide +kernel
theorem dX8_put_41 : decode cX8_put 41 = .ok (.aload_n 0, 1) := by decide +kernel
theorem dX8_put_42 : decode cX8_put 42 = .ok (.getfield 99, 3) := by decide +kernel
theorem dX8_put_45 : decode cX8_put 45 = .ok (.aload_n 0, 1) := by decide +kernel
theorem dX8_put_46 : decode cX8_put 46 = .ok (.getfield 140, 3) := by decide +kernel
theorem dX8_put_49 : decode cX8_put 49 = .ok (.iload_n 3, 1) := by decide +kernel
theorem dX8_put_50 : decode cX8_put 50 = .ok (.iastore, 1) := by decide +kernel
theorem dX8_put_51 : decode cX8_put 51 = .ok (.aload_n 0, 1) := by decide +kernel
theorem dX8_put_52 : decode cX8_put 52 = .ok (.getfield 102, 3) := by decide +kernel
theorem dX8_put_55 : decode cX8_put 55 = .ok (.aload_n 0, 1) := by decide +kernel
theorem dX8_put_56 : decode cX8_put 56 = .ok (.getfield 140, 3) := by decide +kernel
theorem dX8_put_59 : decode cX8_put 59 = .ok (.iload 4, 2) := by decide +kernel
theorem dX8_put_61 : decode cX8_put 61 = .ok (.iastore, 1) := by decide +kernel
theorem dX8_put_62 : decode cX8_put 62 = .ok (.aload_n 0, 1) := by decide +kernel
theorem dX8_put_63 : decode cX8_put 63 = .ok (.getfield 105, 3) := by decide +kernel
theorem dX8_put_66 : decode cX8_put 66 = .ok (.aload_n 0, 1) := by decide +kernel
theorem dX8_put_67 : decode cX8_put 67 = .ok (.getfield 140, 3) := by decide +kernel
theorem dX8_put_70 : decode cX8_put 70 = .ok (.iload 5, 2) := by decide +kernel
theorem dX8_put_72 : decode cX8_put 72 = .ok (.iastore, 1) := by decide +kernel
theorem dX8_put_73 : decode cX8_put 73 = .ok (.aload_n 0, 1) := by decide +kernel
theorem dX8_put_74 : decode cX8_put 74 = .ok (.getfield 108, 3) := by decide +kernel
theorem dX8_put_77 : decode cX8_put 77 = .ok (.aload_n 0, 1) := by decide +kernel
theorem dX8_put_78 : decode cX8_put 78 = .ok (.getfield 140, 3) := by decide +kernel
theorem dX8_put_81 : decode cX8_put 81 = .ok (.iload 6, 2) := by decide +kernel
theorem dX8_put_83 : decode cX8_put 83 = .ok (.iastore, 1) := by decide +kernel
theorem dX8_put_84 : decode cX8_put 84 = .ok (.aload_n 0, 1) := by decide +kernel
theorem dX8_put_85 : decode cX8_put 85 = .ok (.getfield 111, 3) := by decide +kernel
theorem dX8_put_88 : decode cX8_put 88 = .ok (.aload_n 0, 1) := by decide +kernel
theorem dX8_put_89 : decode cX8_put 89 = .ok (.getfield 140, 3) := by decide +kernel
theorem dX8_put_92 : decode cX8_put 92 = .ok (.iload 7, 2) := by decide +kernel
theorem dX8_put_94 : decode cX8_put 94 = .ok (.iastore, 1) := by decide +kernel
theorem dX8_put_95 : decode cX8_put 95 = .ok (.aload_n 0, 1) := by decide +kernel
theorem dX8_put_96 : decode cX8_put 96 = .ok (.getfield 114, 3) := by decide +kernel
theorem dX8_put_99 : decode cX8_put 99 = .ok (.aload_n 0, 1) := by decide +kernel
theorem dX8_put_100 : decode cX8_put 100 = .ok (.getfield 140, 3) := by decide +kernel
theorem dX8_put_103 : decode cX8_put 103 = .ok (.iload 8, 2) := by decide +kernel
theorem dX8_put_105 : decode cX8_put 105 = .ok (.iastore, 1) := by decide +kernel
theorem dX8_put_106 : decode cX8_put 106 = .ok (.aload_n 0, 1) := by decide +kernel
theorem dX8_put_107 : decode cX8_put 107 = .ok (.getfield 126, 3) := by decide +kernel
theorem dX8_put_110 : decode cX8_put 110 = .ok (.aload_n 0, 1) := by decide +kernel
theorem dX8_put_111 : decode cX8_put 111 = .ok (.getfield 140, 3) := by decide +kernel
theorem dX8_put_114 : decode cX8_put 114 = .ok (.lload 9, 2) := by decide +kernel
theorem dX8_put_116 : decode cX8_put 116 = .ok (.lastore, 1) := by decide +kernel
theorem dX8_put_117 : decode cX8_put 117 = .ok (.aload_n 0, 1) := by decide +kernel
theorem dX8_put_118 : decode cX8_put 118 = .ok (.getfield 117, 3) := by decide +kernel
theorem dX8_put_121 : decode cX8_put 121 = .ok (.aload_n 0, 1) := by decide +kernel
theorem dX8_put_122 : decode cX8_put 122 = .ok (.getfield 140, 3) := by decide +kernel
theorem dX8_put_125 : decode cX8_put 125 = .ok (.iload 11, 2) := by decide +kernel
theorem dX8_put_127 : decode cX8_put 127 = .ok (.iastore, 1) := by decide +kernel
theorem dX8_put_128 : decode cX8_put 128 = .ok (.aload_n 0, 1) := by decide +kernel
theorem dX8_put_129 : decode cX8_put 129 = .ok (.getfield 120, 3) := by decide +kernel
theorem dX8_put_132 : decode cX8_put 132 = .ok (.aload_n 0, 1) := by decide +kernel
theorem dX8_put_133 : decode cX8_put 133 = .ok (.getfield 140, 3) := by decide +kernel
theorem dX8_put_136 : decode cX8_put 136 = .ok (.iload 12, 2) := by decide +kernel
theorem dX8_put_138 : decode cX8_put 138 = .ok (.iastore, 1) := by decide +kernel
theorem dX8_put_139 : decode cX8_put 139 = .ok (.aload_n 0, 1) := by decide +kernel
theorem dX8_put_140 : decode cX8_put 140 = .ok (.getfield 123, 3) := by decide +kernel
theorem dX8_put_143 : decode cX8_put 143 = .ok (.aload_n 0, 1) := by decide +kernel
theorem dX8_put_144 : decode cX8_put 144 = .ok (.getfield 140, 3) := by decide +kernel
theorem dX8_put_147 : decode cX8_put 147 = .ok (.iload 13, 2) := by decide +kernel
theorem dX8_put_149 : decode cX8_put 149 = .ok (.iastore, 1) := by decide +kernel
theorem dX8_put_150 : decode cX8_put 150 = .ok (.aload_n 0, 1) := by decide +kernel
theorem dX8_put_151 : decode cX8_put 151 = .ok (.dup, 1) := by decide +kernel
theorem dX8_put_152 : decode cX8_put 152 = .ok (.getfield 140, 3) := by decide +kernel
theorem dX8_put_155 : decode cX8_put 155 = .ok (.iconst 1, 1) := by decide +kernel
theorem dX8_put_156 : decode cX8_put 156 = .ok (.iadd, 1) := by decide +kernel
theorem dX8_put_157 : decode cX8_put 157 = .ok (.putfield 140, 3) := by decide +kernel
theorem dX8_put_160 : decode cX8_put 160 = .ok (.return_, 1) := by decide +kernel
theorem dX8_take_0 : decode cX8_take 0 = .ok (.aload_n 0, 1) := by decide +kernel
theorem dX8_take_1 : decode cX8_take 1 = .ok (.dup, 1) := by decide +kernel
theorem dX8_take_2 : decode cX8_take 2 = .ok (.getfield 140, 3) := by decide +kernel
theorem dX8_take_5 : decode cX8_take 5 = .ok (.iconst 1, 1) := by decide +kernel
theorem dX8_take_6 : decode cX8_take 6 = .ok (.isub, 1) := by decide +kernel
theorem dX8_take_7 : decode cX8_take 7 = .ok (.putfield 140, 3) := by decide +kernel
theorem dX8_take_10 : decode cX8_take 10 = .ok (.iload_n 1, 1) := by decide +kernel
theorem dX8_take_11 : decode cX8_take 11 = .ok (.istore_n 2, 1) := by decide +kernel
theorem dX8_take_12 : decode cX8_take 12 = .ok (.iload_n 2, 1) := by decide +kernel
theorem dX8_take_13 : decode cX8_take 13 = .ok (.aload_n 0, 1) := by decide +kernel
theorem dX8_take_14 : decode cX8_take 14 = .ok (.getfield 140, 3) := by decide +kernel
theorem dX8_take_17 : decode cX8_take 17 = .ok (.if_icmp .ge 177, 3) := by decide +kernel
theorem dX8_take_20 : decode cX8_take 20 = .ok (.aload_n 0, 1) := by decide +kernel
theorem dX8_take_21 : decode cX8_take 21 = .ok (.getfield 93, 3) := by decide +kernel
theorem dX8_take_24 : decode cX8_take 24 = .ok (.iload_n 2, 1) := by decide +kernel
theorem dX8_take_25 : decode cX8_take 25 = .ok (.aload_n 0, 1) := by decide +kernel
theorem dX8_take_26 : decode cX8_take 26 = .ok (.getfield 93, 3) := by decide +kernel
theorem dX8_take_29 : decode cX8_take 29 = .ok (.iload_n 2, 1) := by decide +kernel
theorem dX8_take_30 : decode cX8_take 30 = .ok (.iconst 1, 1) := by decide +kernel
theorem dX8_take_31 : decode cX8_take 31 = .ok (.iadd, 1) := by decide +kernel
theorem dX8_take_32 : decode cX8_take 32 = .ok (.baload, 1) := by decide +kernel
theorem dX8_take_33 : decode cX8_take 33 = .ok (.bastore, 1) := by decide +kernel
theorem dX8_take_34 : decode cX8_take 34 = .ok (.aload_n 0, 1) := by decide +kernel
theorem dX8_take_35 : decode cX8_take 35 = .ok (.getfield 96, 3) := by decide +kernel
theorem dX8_take_38 : decode cX8_take 38 = .ok (.iload_n 2, 1) := by decide +kernel
theorem dX8_take_39 : decode cX8_take 39 = .ok (.aload_n 0, 1) := by decide +kernel
theorem dX8_take_40 : decode cX8_take 40 = .ok (.getfield 96, 3) := by decide +kernel
theorem dX8_take_43 : decode cX8_take 43 = .ok (.iload_n 2, 1) := by decide +kernel
theorem dX8_take_44 : decode cX8_take 44 = .ok (.iconst 1, 1) := by decide +kernel
theorem dX8_take_45 : decode cX8_take 45 = .ok (.iadd, 1) := by decide +kernel
theorem dX8_take_46 : decode cX8_take 46 = .ok (.iaload, 1) := by decide +kernel
theorem dX8_take_47 : decode cX8_take 47 = .ok (.iastore, 1) := by decide +kernel
theorem dX8_take_48 : decode cX8_take 48 = .ok (.aload_n 0, 1) := by decide +kernel
theorem dX8_take_49 : decode cX8_take 49 = .ok (.getfield 99, 3) := by decide +kernel
theorem dX8_take_52 : decode cX8_take 52 = .ok (.iload_n 2, 1) := by decide +kernel
theorem dX8_take_53 : decode cX8_take 53 = .ok (.aload_n 0, 1) := by decide +kernel
theorem dX8_take_54 : decode cX8_take 54 = .ok (.getfield 99, 3) := by decide +kernel
theorem dX8_take_57 : decode cX8_take 57 = .ok (.iload_n 2, 1) := by decide +kernel
theorem dX8_take_58 : decode cX8_take 58 = .ok (.iconst 1, 1) := by decide +kernel
theorem dX8_take_59 : decode cX8_take 59 = .ok (.iadd, 1) := by decide +kernel
theorem dX8_take_60 : decode cX8_take 60 = .ok (.iaload, 1) := by decide +kernel
theorem dX8_take_61 : decode cX8_take 61 = .ok (.iastore, 1) := by decide +kernel
theorem dX8_take_62 : decode cX8_take 62 = .ok (.aload_n 0, 1) := by decide +kernel
theorem dX8_take_63 : decode cX8_take 63 = .ok (.getfield 102, 3) := by decide +kernel
theorem dX8_take_66 : decode cX8_take 66 = .ok (.iload_n 2, 1) := by decide +kernel
theorem dX8_take_67 : decode cX8_take 67 = .ok (.aload_n 0, 1) := by decide +kernel
theorem dX8_take_68 : decode cX8_take 68 = .ok (.getfield 102, 3) := by decide +kernel
theorem dX8_take_71 : decode cX8_take 71 = .ok (.iload_n 2, 1) := by decide +kernel
theorem dX8_take_72 : decode cX8_take 72 = .ok (.iconst 1, 1) := by decide +kernel
theorem dX8_take_73 : decode cX8_take 73 = .ok (.iadd, 1) := by decide +kernel
theorem dX8_take_74 : decode cX8_take 74 = .ok (.iaload, 1) := by decide +kernel
theorem dX8_take_75 : decode cX8_take 75 = .ok (.iastore, 1) := by decide +kernel
theorem dX8_take_76 : decode cX8_take 76 = .ok (.aload_n 0, 1) := by decide +kernel
theorem dX8_take_77 : decode cX8_take 77 = .ok (.getfield 105, 3) := by decide +kernel
theorem dX8_take_80 : decode cX8_take 80 = .ok (.iload_n 2, 1) := by decide +kernel
theorem dX8_take_81 : decode cX8_take 81 = .ok (.aload_n 0, 1) := by decide +kernel
theorem dX8_take_82 : decode cX8_take 82 = .ok (.getfield 105, 3) := by decide +kernel
theorem dX8_take_85 : decode cX8_take 85 = .ok (.iload_n 2, 1) := by decide +kernel
theorem dX8_take_86 : decode cX8_take 86 = .ok (.iconst 1, 1) := by decide +kernel
theorem dX8_take_87 : decode cX8_take 87 = .ok (.iadd, 1) := by decide +kernel
theorem dX8_take_88 : decode cX8_take 88 = .ok (.iaload, 1) := by decide +kernel
theorem dX8_take_89 : decode cX8_take 89 = .ok (.iastore, 1) := by decide +kernel
theorem dX8_take_90 : decode cX8_take 90 = .ok (.aload_n 0, 1) := by decide +kernel
theorem dX8_take_91 : decode cX8_take 91 = .ok (.getfield 108, 3) := by decide +kernel
theorem dX8_take_94 : decode cX8_take 94 = .ok (.iload_n 2, 1) := by decide +kernel
theorem dX8_take_95 : decode cX8_take 95 = .ok (.aload_n 0, 1) := by decide +kernel
theorem dX8_take_96 : decode cX8_take 96 = .ok (.getfield 108, 3) := by decide +kernel
theorem dX8_take_99 : decode cX8_take 99 = .ok (.iload_n 2, 1) := by decide +kernel
theorem dX8_take_100 : decode cX8_take 100 = .ok (.iconst 1, 1) := by decide +kernel
theorem dX8_take_101 : decode cX8_take 101 = .ok (.iadd, 1) := by decide +kernel
theorem dX8_take_102 : decode cX8_take 102 = .ok (.iaload, 1) := by decide +kernel
theorem dX8_take_103 : decode cX8_take 103 = .ok (.iastore, 1) := by decide +kernel
theorem dX8_take_104 : decode cX8_take 104 = .ok (.aload_n 0, 1) := by decide +kernel
theorem dX8_take_105 : decode cX8_take 105 = .ok (.getfield 111, 3) := by decide +kernel
theorem dX8_take_108 : decode cX8_take 108 = .ok (.iload_n 2, 1) := by decide +kernel
theorem dX8_take_109 : decode cX8_take 109 = .ok (.aload_n 0, 1) := by decide +kernel
theorem dX8_take_110 : decode cX8_take 110 = .ok (.getfield 111, 3) := by decide +kernel
theorem dX8_take_113 : decode cX8_take 113 = .ok (.iload_n 2, 1) := by decide +kernel
theorem dX8_take_114 : decode cX8_take 114 = .ok (.iconst 1, 1) := by decide +kernel
theorem dX8_take_115 : decode cX8_take 115 = .ok (.iadd, 1) := by decide +kernel
theorem dX8_take_116 : decode cX8_take 116 = .ok (.iaload, 1) := by decide +kernel
theorem dX8_take_117 : decode cX8_take 117 = .ok (.iastore, 1) := by decide +kernel
theorem dX8_take_118 : decode cX8_take 118 = .ok (.aload_n 0, 1) := by decide +kernel
theorem dX8_take_119 : decode cX8_take 119 = .ok (.getfield 114, 3) := by decide +kernel
theorem dX8_take_122 : decode cX8_take 122 = .ok (.iload_n 2, 1) := by decide +kernel
theorem dX8_take_123 : decode cX8_take 123 = .ok (.aload_n 0, 1) := by decide +kernel
theorem dX8_take_124 : decode cX8_take 124 = .ok (.getfield 114, 3) := by decide +kernel
theorem dX8_take_127 : decode cX8_take 127 = .ok (.iload_n 2, 1) := by decide +kernel
theorem dX8_take_128 : decode cX8_take 128 = .ok (.iconst 1, 1) := by decide +kernel
theorem dX8_take_129 : decode cX8_take 129 = .ok (.iadd, 1) := by decide +kernel
theorem dX8_take_130 : decode cX8_take 130 = .ok (.iaload, 1) := by decide +kernel
theorem dX8_take_131 : decode cX8_take 131 = .ok (.iastore, 1) := by decide +kernel
theorem dX8_take_132 : decode cX8_take 132 = .ok (.aload_n 0, 1) := by decide +kernel
theorem dX8_take_133 : decode cX8_take 133 = .ok (.getfield 126, 3) := by decide +kernel
theorem dX8_take_136 : decode cX8_take 136 = .ok (.iload_n 2, 1) := by decide +kernel
theorem dX8_take_137 : decode cX8_take 137 = .ok (.aload_n 0, 1) := by decide +kernel
theorem dX8_take_138 : decode cX8_take 138 = .ok (.getfield 126, 3) := by decide +kernel
theorem dX8_take_141 : decode cX8_take 141 = .ok (.iload_n 2, 1) := by decide +kernel
theorem dX8_take_142 : decode cX8_take 142 = .ok (.iconst 1, 1) := by decide +kernel
theorem dX8_take_143 : decode cX8_take 143 = .ok (.iadd, 1) := by decide +kernel
theorem dX8_take_144 : decode cX8_take 144 = .ok (.laload, 1) := by decide +kernel
theorem dX8_take_145 : decode cX8_take 145 = .ok (.lastore, 1) := by decide +kernel
theorem dX8_take_146 : decode cX8_take 146 = .ok (.aload_n 0, 1) := by decide +kernel
theorem dX8_take_147 : decode cX8_take 147 = .ok (.getfield 117, 3) := by decide +kernel
theorem dX8_take_150 : decode cX8_take 150 = .ok (.iload_n 2, 1) := by decide +kernel
theorem dX8_take_151 : decode cX8_take 151 = .ok (.aload_n 0, 1) := by decide +kernel
theorem dX8_take_152 : decode cX8_take 152 = .ok (.getfield 117, 3) := by decide +kernel
theorem dX8_take_155 : decode cX8_take 155 = .ok (.iload_n 2, 1) := by decide +kernel
theorem dX8_take_156 : decode cX8_take 156 = .ok (.iconst 1, 1) := by decide +kernel
theorem dX8_take_157 : decode cX8_take 157 = .ok (.iadd, 1) := by decide +kernel
theorem dX8_take_158 : decode cX8_take 158 = .ok (.iaload, 1) := by decide +kernel
theorem dX8_take_159 : decode cX8_take 159 = .ok (.iastore, 1) := by decide +kernel
theorem dX8_take_160 : decode cX8_take 160 = .ok (.aload_n 0, 1) := by decide +kernel
theorem dX8_take_161 : decode cX8_take 161 = .ok (.getfield 120, 3) := by decide +kernel
theorem dX8_take_164 : decode cX8_take 164 = .ok (.iload_n 2, 1) := by decide +kernel
theorem dX8_take_165 : decode cX8_take 165 = .ok (.aload_n 0, 1) := by decide +kernel
theorem dX8_take_166 : decode cX8_take 166 = .ok (.getfield 120, 3) := by decide +kernel
theorem dX8_take_169 : decode cX8_take 169 = .ok (.iload_n 2, 1) := by decide +kernel
theorem dX8_take_170 : decode cX8_take 170 = .ok (.iconst 1, 1) := by decide +kernel
theorem dX8_take_171 : decode cX8_take 171 = .ok (.iadd, 1) := by decide +kernel
theorem dX8_take_172 : decode cX8_take 172 = .ok (.iaload, 1) := by decide +kernel
theorem dX8_take_173 : decode cX8_take 173 = .ok (.iastore, 1) := by decide +kernel
theorem dX8_take_174 : decode cX8_take 174 = .ok (.aload_n 0, 1) := by decide +kernel
theorem dX8_take_175 : decode cX8_take 175 = .ok (.getfield 123, 3) := by decide +kernel
theorem dX8_take_178 : decode cX8_take 178 = .ok (.iload_n 2, 1) := by decide +kernel
theorem dX8_take_179 : decode cX8_take 179 = .ok (.aload_n 0, 1) := by decide +kernel
theorem dX8_take_180 : decode cX8_take 180 = .ok (.getfield 123, 3) := by decide +kernel
theorem dX8_take_183 : decode cX8_take 183 = .ok (.iload_n 2, 1) := by decide +kernel
theorem dX8_take_184 : decode cX8_take 184 = .ok (.iconst 1, 1) := by decide +kernel
theorem dX8_take_185 : decode cX8_take 185 = .ok (.iadd, 1) := by decide +kernel
theorem dX8_take_186 : decode cX8_take 186 = .ok (.iaload, 1) := by decide +kernel
theorem dX8_take_187 : decode cX8_take 187 = .ok (.iastore, 1) := by decide +kernel
theorem dX8_take_188 : decode cX8_take 188 = .ok (.iinc 2 1, 3) := by decide +kernel
theorem dX8_take_191 : decode cX8_take 191 = .ok (.goto (-179), 3) := by decide +kernel
theorem dX8_take_194 : decode cX8_take 194 = .ok (.return_, 1) := by decide +kernel
