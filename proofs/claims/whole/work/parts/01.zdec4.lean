theorem dX8_ask_0 : decode cX8_ask 0 = .ok (.aload_n 0, 1) := by decide +kernel
theorem dX8_ask_1 : decode cX8_ask 1 = .ok (.getfield 39, 3) := by decide +kernel
theorem dX8_ask_4 : decode cX8_ask 4 = .ok (.iload_n 1, 1) := by decide +kernel
theorem dX8_ask_5 : decode cX8_ask 5 = .ok (.iaload, 1) := by decide +kernel
theorem dX8_ask_6 : decode cX8_ask 6 = .ok (.istore_n 3, 1) := by decide +kernel
theorem dX8_ask_7 : decode cX8_ask 7 = .ok (.aload_n 0, 1) := by decide +kernel
theorem dX8_ask_8 : decode cX8_ask 8 = .ok (.getfield 42, 3) := by decide +kernel
theorem dX8_ask_11 : decode cX8_ask 11 = .ok (.iload_n 1, 1) := by decide +kernel
theorem dX8_ask_12 : decode cX8_ask 12 = .ok (.iaload, 1) := by decide +kernel
theorem dX8_ask_13 : decode cX8_ask 13 = .ok (.iconst 2, 1) := by decide +kernel
theorem dX8_ask_14 : decode cX8_ask 14 = .ok (.if_icmp .eq 13, 3) := by decide +kernel
theorem dX8_ask_17 : decode cX8_ask 17 = .ok (.aload_n 0, 1) := by decide +kernel
theorem dX8_ask_18 : decode cX8_ask 18 = .ok (.getfield 42, 3) := by decide +kernel
theorem dX8_ask_21 : decode cX8_ask 21 = .ok (.iload_n 1, 1) := by decide +kernel
theorem dX8_ask_22 : decode cX8_ask 22 = .ok (.iaload, 1) := by decide +kernel
theorem dX8_ask_23 : decode cX8_ask 23 = .ok (.iconst 4, 1) := by decide +kernel
theorem dX8_ask_24 : decode cX8_ask 24 = .ok (.if_icmp .ne 7, 3) := by decide +kernel
theorem dX8_ask_27 : decode cX8_ask 27 = .ok (.iconst 1, 1) := by decide +kernel
theorem dX8_ask_28 : decode cX8_ask 28 = .ok (.goto 4, 3) := by decide +kernel
theorem dX8_ask_31 : decode cX8_ask 31 = .ok (.iconst 0, 1) := by decide +kernel
theorem dX8_ask_32 : decode cX8_ask 32 = .ok (.istore 4, 2) := by decide +kernel
theorem dX8_ask_34 : decode cX8_ask 34 = .ok (.aload_n 0, 1) := by decide +kernel
theorem dX8_ask_35 : decode cX8_ask 35 = .ok (.getfield 42, 3) := by decide +kernel
theorem dX8_ask_38 : decode cX8_ask 38 = .ok (.iload_n 1, 1) := by decide +kernel
theorem dX8_ask_39 : decode cX8_ask 39 = .ok (.iaload, 1) := by decide +kernel
theorem dX8_ask_40 : decode cX8_ask 40 = .ok (.iconst 2, 1) := by decide +kernel
theorem dX8_ask_41 : decode cX8_ask 41 = .ok (.if_icmp .ne 17, 3) := by decide +kernel
theorem dX8_ask_44 : decode cX8_ask 44 = .ok (.aload_n 0, 1) := by decide +kernel
theorem dX8_ask_45 : decode cX8_ask 45 = .ok (.getfield 69, 3) := by decide +kernel
theorem dX8_ask_48 : decode cX8_ask 48 = .ok (.iload_n 3, 1) := by decide +kernel
theorem dX8_ask_49 : decode cX8_ask 49 = .ok (.iaload, 1) := by decide +kernel
theorem dX8_ask_50 : decode cX8_ask 50 = .ok (.iconst 1, 1) := by decide +kernel
theorem dX8_ask_51 : decode cX8_ask 51 = .ok (.if_icmp .ne 7, 3) := by decide +kernel
theorem dX8_ask_54 : decode cX8_ask 54 = .ok (.iconst 1, 1) := by decide +kernel
theorem dX8_ask_55 : decode cX8_ask 55 = .ok (.goto 4, 3) := by decide +kernel
theorem dX8_ask_58 : decode cX8_ask 58 = .ok (.iconst 0, 1) := by decide +kernel
theorem dX8_ask_59 : decode cX8_ask 59 = .ok (.istore 5, 2) := by decide +kernel
theorem dX8_ask_61 : decode cX8_ask 61 = .ok (.iload 4, 2) := by decide +kernel
theorem dX8_ask_63 : decode cX8_ask 63 = .ok (.ifCond .ne 7, 3) := by decide +kernel
theorem dX8_ask_66 : decode cX8_ask 66 = .ok (.iconst 0, 1) := by decide +kernel
theorem dX8_ask_67 : decode cX8_ask 67 = .ok (.goto 23, 3) := by decide +kernel
theorem dX8_ask_70 : decode cX8_ask 70 = .ok (.iload 5, 2) := by decide +kernel
theorem dX8_ask_72 : decode cX8_ask 72 = .ok (.ifCond .eq 12, 3) := by decide +kernel
theorem dX8_ask_75 : decode cX8_ask 75 = .ok (.aload_n 0, 1) := by decide +kernel
theorem dX8_ask_76 : decode cX8_ask 76 = .ok (.getfield 81, 3) := by decide +kernel
theorem dX8_ask_79 : decode cX8_ask 79 = .ok (.iload_n 3, 1) := by decide +kernel
theorem dX8_ask_80 : decode cX8_ask 80 = .ok (.iaload, 1) := by decide +kernel
theorem dX8_ask_81 : decode cX8_ask 81 = .ok (.goto 9, 3) := by decide +kernel
theorem dX8_ask_84 : decode cX8_ask 84 = .ok (.aload_n 0, 1) := by decide +kernel
theorem dX8_ask_85 : decode cX8_ask 85 = .ok (.getfield 60, 3) := by decide +kernel
theorem dX8_ask_88 : decode cX8_ask 88 = .ok (.iload_n 1, 1) := by decide +kernel
theorem dX8_ask_89 : decode cX8_ask 89 = .ok (.iaload, 1) := by decide +kernel
theorem dX8_ask_90 : decode cX8_ask 90 = .ok (.istore 6, 2) := by decide +kernel
theorem dX8_ask_92 : decode cX8_ask 92 = .ok (.iload 4, 2) := by decide +kernel
theorem dX8_ask_94 : decode cX8_ask 94 = .ok (.ifCond .ne 7, 3) := by decide +kernel
theorem dX8_ask_97 : decode cX8_ask 97 = .ok (.iconst 0, 1) := by decide +kernel
theorem dX8_ask_98 : decode cX8_ask 98 = .ok (.goto 23, 3) := by decide +kernel
theorem dX8_ask_101 : decode cX8_ask 101 = .ok (.iload 5, 2) := by decide +kernel
theorem dX8_ask_103 : decode cX8_ask 103 = .ok (.ifCond .eq 12, 3) := by decide +kernel
theorem dX8_ask_106 : decode cX8_ask 106 = .ok (.aload_n 0, 1) := by decide +kernel
theorem dX8_ask_107 : decode cX8_ask 107 = .ok (.getfield 84, 3) := by decide +kernel
theorem dX8_ask_110 : decode cX8_ask 110 = .ok (.iload_n 3, 1) := by decide +kernel
theorem dX8_ask_111 : decode cX8_ask 111 = .ok (.iaload, 1) := by decide +kernel
theorem dX8_ask_112 : decode cX8_ask 112 = .ok (.goto 9, 3) := by decide +kernel
theorem dX8_ask_115 : decode cX8_ask 115 = .ok (.aload_n 0, 1) := by decide +kernel
theorem dX8_ask_116 : decode cX8_ask 116 = .ok (.getfield 63, 3) := by decide +kernel
theorem dX8_ask_119 : decode cX8_ask 119 = .ok (.iload_n 1, 1) := by decide +kernel
theorem dX8_ask_120 : decode cX8_ask 120 = .ok (.iaload, 1) := by decide +kernel
theorem dX8_ask_121 : decode cX8_ask 121 = .ok (.istore 7, 2) := by decide +kernel
theorem dX8_ask_123 : decode cX8_ask 123 = .ok (.iload 4, 2) := by decide +kernel
theorem dX8_ask_125 : decode cX8_ask 125 = .ok (.ifCond .ne 7, 3) := by decide +kernel
theorem dX8_ask_128 : decode cX8_ask 128 = .ok (.lconst 0, 1) := by decide +kernel
theorem dX8_ask_129 : decode cX8_ask 129 = .ok (.goto 23, 3) := by decide +kernel
theorem dX8_ask_132 : decode cX8_ask 132 = .ok (.iload 5, 2) := by decide +kernel
theorem dX8_ask_134 : decode cX8_ask 134 = .ok (.ifCond .eq 12, 3) := by decide +kernel
theorem dX8_ask_137 : decode cX8_ask 137 = .ok (.aload_n 0, 1) := by decide +kernel
theorem dX8_ask_138 : decode cX8_ask 138 = .ok (.getfield 90, 3) := by decide +kernel
theorem dX8_ask_141 : decode cX8_ask 141 = .ok (.iload_n 3, 1) := by decide +kernel
theorem dX8_ask_142 : decode cX8_ask 142 = .ok (.laload, 1) := by decide +kernel
theorem dX8_ask_143 : decode cX8_ask 143 = .ok (.goto 9, 3) := by decide +kernel
theorem dX8_ask_146 : decode cX8_ask 146 = .ok (.aload_n 0, 1) := by decide +kernel
theorem dX8_ask_147 : decode cX8_ask 147 = .ok (.getfield 66, 3) := by decide +kernel
theorem dX8_ask_150 : decode cX8_ask 150 = .ok (.iload_n 1, 1) := by decide +kernel
theorem dX8_ask_151 : decode cX8_ask 151 = .ok (.laload, 1) := by decide +kernel
theorem dX8_ask_152 : decode cX8_ask 152 = .ok (.lstore 8, 2) := by decide +kernel
theorem dX8_ask_154 : decode cX8_ask 154 = .ok (.aload_n 0, 1) := by decide +kernel
theorem dX8_ask_155 : decode cX8_ask 155 = .ok (.iconst 0, 1) := by decide +kernel
theorem dX8_ask_156 : decode cX8_ask 156 = .ok (.iload_n 2, 1) := by decide +kernel
theorem dX8_ask_157 : decode cX8_ask 157 = .ok (.iload_n 1, 1) := by decide +kernel
theorem dX8_ask_158 : decode cX8_ask 158 = .ok (.iload_n 3, 1) := by decide +kernel
theorem dX8_ask_159 : decode cX8_ask 159 = .ok (.aload_n 0, 1) := by decide +kernel
theorem dX8_ask_160 : decode cX8_ask 160 = .ok (.getfield 42, 3) := by decide +kernel
theorem dX8_ask_163 : decode cX8_ask 163 = .ok (.iload_n 1, 1) := by decide +kernel
theorem dX8_ask_164 : decode cX8_ask 164 = .ok (.iaload, 1) := by decide +kernel
theorem dX8_ask_165 : decode cX8_ask 165 = .ok (.aload_n 0, 1) := by decide +kernel
theorem dX8_ask_166 : decode cX8_ask 166 = .ok (.getfield 45, 3) := by decide +kernel
theorem dX8_ask_169 : decode cX8_ask 169 = .ok (.iload_n 1, 1) := by decide +kernel
theorem dX8_ask_170 : decode cX8_ask 170 = .ok (.iaload, 1) := by decide +kernel
theorem dX8_ask_171 : decode cX8_ask 171 = .ok (.iload 6, 2) := by decide +kernel
theorem dX8_ask_173 : decode cX8_ask 173 = .ok (.iload 7, 2) := by decide +kernel
theorem dX8_ask_175 : decode cX8_ask 175 = .ok (.lload 8, 2) := by decide +kernel
theorem dX8_ask_177 : decode cX8_ask 177 = .ok (.aload_n 0, 1) := by decide +kernel
theorem dX8_ask_178 : decode cX8_ask 178 = .ok (.getfield 42, 3) := by decide +kernel
theorem dX8_ask_181 : decode cX8_ask 181 = .ok (.iload_n 1, 1) := by decide +kernel
theorem dX8_ask_182 : decode cX8_ask 182 = .ok (.iaload, 1) := by decide +kernel
theorem dX8_ask_183 : decode cX8_ask 183 = .ok (.iconst 3, 1) := by decide +kernel
theorem dX8_ask_184 : decode cX8_ask 184 = .ok (.if_icmp .eq 13, 3) := by decide +kernel
theorem dX8_ask_187 : decode cX8_ask 187 = .ok (.aload_n 0, 1) := by decide +kernel
theorem dX8_ask_188 : decode cX8_ask 188 = .ok (.getfield 42, 3) := by decide +kernel
theorem dX8_ask_191 : decode cX8_ask 191 = .ok (.iload_n 1, 1) := by decide +kernel
theorem dX8_ask_192 : decode cX8_ask 192 = .ok (.iaload, 1) := by decide +kernel
theorem dX8_ask_193 : decode cX8_ask 193 = .ok (.iconst 5, 1) := by decide +kernel
theorem dX8_ask_194 : decode cX8_ask 194 = .ok (.if_icmp .ne 12, 3) := by decide +kernel
theorem dX8_ask_197 : decode cX8_ask 197 = .ok (.aload_n 0, 1) := by decide +kernel
theorem dX8_ask_198 : decode cX8_ask 198 = .ok (.getfield 87, 3) := by decide +kernel
theorem dX8_ask_201 : decode cX8_ask 201 = .ok (.iload_n 3, 1) := by decide +kernel
theorem dX8_ask_202 : decode cX8_ask 202 = .ok (.iaload, 1) := by decide +kernel
theorem dX8_ask_203 : decode cX8_ask 203 = .ok (.goto 4, 3) := by decide +kernel
theorem dX8_ask_206 : decode cX8_ask 206 = .ok (.iconst (-1), 1) := by decide +kernel
theorem dX8_ask_207 : decode cX8_ask 207 = .ok (.iconst 0, 1) := by decide +kernel
theorem dX8_ask_208 : decode cX8_ask 208 = .ok (.iconst 0, 1) := by decide +kernel
theorem dX8_ask_209 : decode cX8_ask 209 = .ok (.invokevirtual 146, 3) := by decide +kernel
theorem dX8_ask_212 : decode cX8_ask 212 = .ok (.return_, 1) := by decide +kernel
theorem dX8_beginPhase_0 : decode cX8_beginPhase 0 = .ok (.aload_n 0, 1) := by decide +kernel
theorem dX8_beginPhase_1 : decode cX8_beginPhase 1 = .ok (.getfield 42, 3) := by decide +kernel
theorem dX8_beginPhase_4 : decode cX8_beginPhase 4 = .ok (.iload_n 1, 1) := by decide +kernel
theorem dX8_beginPhase_5 : decode cX8_beginPhase 5 = .ok (.iload_n 2, 1) := by decide +kernel
theorem dX8_beginPhase_6 : decode cX8_beginPhase 6 = .ok (.iastore, 1) := by decide +kernel
theorem dX8_beginPhase_7 : decode cX8_beginPhase 7 = .ok (.aload_n 0, 1) := by decide +kernel
theorem dX8_beginPhase_8 : decode cX8_beginPhase 8 = .ok (.getfield 45, 3) := by decide +kernel
theorem dX8_beginPhase_11 : decode cX8_beginPhase 11 = .ok (.iload_n 1, 1) := by decide +kernel
theorem dX8_beginPhase_12 : decode cX8_beginPhase 12 = .ok (.dup2, 1) := by decide +kernel
theorem dX8_beginPhase_13 : decode cX8_beginPhase 13 = .ok (.iaload, 1) := by decide +kernel
theorem dX8_beginPhase_14 : decode cX8_beginPhase 14 = .ok (.iconst 1, 1) := by decide +kernel
theorem dX8_beginPhase_15 : decode cX8_beginPhase 15 = .ok (.iadd, 1) := by decide +kernel
theorem dX8_beginPhase_16 : decode cX8_beginPhase 16 = .ok (.iastore, 1) := by decide +kernel
theorem dX8_beginPhase_17 : decode cX8_beginPhase 17 = .ok (.aload_n 0, 1) := by decide +kernel
theorem dX8_beginPhase_18 : decode cX8_beginPhase 18 = .ok (.getfield 57, 3) := by decide +kernel
theorem dX8_beginPhase_21 : decode cX8_beginPhase 21 = .ok (.iload_n 1, 1) := by decide +kernel
theorem dX8_beginPhase_22 : decode cX8_beginPhase 22 = .ok (.iconst 0, 1) := by decide +kernel
theorem dX8_beginPhase_23 : decode cX8_beginPhase 23 = .ok (.iastore, 1) := by decide +kernel
theorem dX8_beginPhase_24 : decode cX8_beginPhase 24 = .ok (.iconst 0, 1) := by decide +kernel
theorem dX8_beginPhase_25 : decode cX8_beginPhase 25 = .ok (.istore_n 3, 1) := by decide +kernel
theorem dX8_beginPhase_26 : decode cX8_beginPhase 26 = .ok (.iload_n 3, 1) := by decide +kernel
theorem dX8_beginPhase_27 : decode cX8_beginPhase 27 = .ok (.aload_n 0, 1) := by decide +kernel
theorem dX8_beginPhase_28 : decode cX8_beginPhase 28 = .ok (.getfield 129, 3) := by decide +kernel
theorem dX8_beginPhase_31 : decode cX8_beginPhase 31 = .ok (.if_icmp .ge 15, 3) := by decide +kernel
theorem dX8_beginPhase_34 : decode cX8_beginPhase 34 = .ok (.aload_n 0, 1) := by decide +kernel
theorem dX8_beginPhase_35 : decode cX8_beginPhase 35 = .ok (.iload_n 1, 1) := by decide +kernel
theorem dX8_beginPhase_36 : decode cX8_beginPhase 36 = .ok (.iload_n 3, 1) := by decide +kernel
theorem dX8_beginPhase_37 : decode cX8_beginPhase 37 = .ok (.invokevirtual 150, 3) := by decide +kernel
theorem dX8_beginPhase_40 : decode cX8_beginPhase 40 = .ok (.iinc 3 1, 3) := by decide +kernel
theorem dX8_beginPhase_43 : decode cX8_beginPhase 43 = .ok (.goto (-17), 3) := by decide +kernel
theorem dX8_beginPhase_46 : decode cX8_beginPhase 46 = .ok (.return_, 1) := by decide +kernel
theorem dX8_beginAct_0 : decode cX8_beginAct 0 = .ok (.aload_n 0, 1) := by decide +kernel
theorem dX8_beginAct_1 : decode cX8_beginAct 1 = .ok (.dup, 1) := by decide +kernel
theorem dX8_beginAct_2 : decode cX8_beginAct 2 = .ok (.getfield 154, 3) := by decide +kernel
theorem dX8_beginAct_5 : decode cX8_beginAct 5 = .ok (.iconst 1, 1) := by decide +kernel
theorem dX8_beginAct_6 : decode cX8_beginAct 6 = .ok (.iadd, 1) := by decide +kernel
theorem dX8_beginAct_7 : decode cX8_beginAct 7 = .ok (.putfield 154, 3) := by decide +kernel
theorem dX8_beginAct_10 : decode cX8_beginAct 10 = .ok (.aload_n 0, 1) := by decide +kernel
theorem dX8_beginAct_11 : decode cX8_beginAct 11 = .ok (.dup, 1) := by decide +kernel
theorem dX8_beginAct_12 : decode cX8_beginAct 12 = .ok (.getfield 157, 3) := by decide +kernel
theorem dX8_beginAct_15 : decode cX8_beginAct 15 = .ok (.iconst 1, 1) := by decide +kernel
theorem dX8_beginAct_16 : decode cX8_beginAct 16 = .ok (.iadd, 1) := by decide +kernel
theorem dX8_beginAct_17 : decode cX8_beginAct 17 = .ok (.putfield 157, 3) := by decide +kernel
theorem dX8_beginAct_20 : decode cX8_beginAct 20 = .ok (.aload_n 0, 1) := by decide +kernel
theorem dX8_beginAct_21 : decode cX8_beginAct 21 = .ok (.getfield 69, 3) := by decide +kernel
theorem dX8_beginAct_24 : decode cX8_beginAct 24 = .ok (.aload_n 0, 1) := by decide +kernel
theorem dX8_beginAct_25 : decode cX8_beginAct 25 = .ok (.getfield 154, 3) := by decide +kernel
theorem dX8_beginAct_28 : decode cX8_beginAct 28 = .ok (.iload_n 2, 1) := by decide +kernel
theorem dX8_beginAct_29 : decode cX8_beginAct 29 = .ok (.iastore, 1) := by decide +kernel
theorem dX8_beginAct_30 : decode cX8_beginAct 30 = .ok (.aload_n 0, 1) := by decide +kernel
theorem dX8_beginAct_31 : decode cX8_beginAct 31 = .ok (.getfield 72, 3) := by decide +kernel
theorem dX8_beginAct_34 : decode cX8_beginAct 34 = .ok (.aload_n 0, 1) := by decide +kernel
theorem dX8_beginAct_35 : decode cX8_beginAct 35 = .ok (.getfield 154, 3) := by decide +kernel
theorem dX8_beginAct_38 : decode cX8_beginAct 38 = .ok (.iload_n 1, 1) := by decide +kernel
theorem dX8_beginAct_39 : decode cX8_beginAct 39 = .ok (.iastore, 1) := by decide +kernel
theorem dX8_beginAct_40 : decode cX8_beginAct 40 = .ok (.aload_n 0, 1) := by decide +kernel
theorem dX8_beginAct_41 : decode cX8_beginAct 41 = .ok (.getfield 75, 3) := by decide +kernel
theorem dX8_beginAct_44 : decode cX8_beginAct 44 = .ok (.aload_n 0, 1) := by decide +kernel
theorem dX8_beginAct_45 : decode cX8_beginAct 45 = .ok (.getfield 154, 3) := by decide +kernel
theorem dX8_beginAct_48 : decode cX8_beginAct 48 = .ok (.aload_n 0, 1) := by decide +kernel
theorem dX8_beginAct_49 : decode cX8_beginAct 49 = .ok (.getfield 157, 3) := by decide +kernel
theorem dX8_beginAct_52 : decode cX8_beginAct 52 = .ok (.iastore, 1) := by decide +kernel
theorem dX8_beginAct_53 : decode cX8_beginAct 53 = .ok (.aload_n 0, 1) := by decide +kernel
theorem dX8_beginAct_54 : decode cX8_beginAct 54 = .ok (.getfield 78, 3) := by decide +kernel
theorem dX8_beginAct_57 : decode cX8_beginAct 57 = .ok (.aload_n 0, 1) := by decide +kernel
theorem dX8_beginAct_58 : decode cX8_beginAct 58 = .ok (.getfield 154, 3) := by decide +kernel
theorem dX8_beginAct_61 : decode cX8_beginAct 61 = .ok (.iconst (-1), 1) := by decide +kernel
theorem dX8_beginAct_62 : decode cX8_beginAct 62 = .ok (.iastore, 1) := by decide +kernel
theorem dX8_beginAct_63 : decode cX8_beginAct 63 = .ok (.aload_n 0, 1) := by decide +kernel
theorem dX8_beginAct_64 : decode cX8_beginAct 64 = .ok (.getfield 81, 3) := by decide +kernel
theorem dX8_beginAct_67 : decode cX8_beginAct 67 = .ok (.aload_n 0, 1) := by decide +kernel
theorem dX8_beginAct_68 : decode cX8_beginAct 68 = .ok (.getfield 154, 3) := by decide +kernel
theorem dX8_beginAct_71 : decode cX8_beginAct 71 = .ok (.iconst (-1), 1) := by decide +kernel
theorem dX8_beginAct_72 : decode cX8_beginAct 72 = .ok (.iastore, 1) := by decide +kernel
theorem dX8_beginAct_73 : decode cX8_beginAct 73 = .ok (.aload_n 0, 1) := by decide +kernel
theorem dX8_beginAct_74 : decode cX8_beginAct 74 = .ok (.getfield 84, 3) := by decide +kernel
theorem dX8_beginAct_77 : decode cX8_beginAct 77 = .ok (.aload_n 0, 1) := by decide +kernel
theorem dX8_beginAct_78 : decode cX8_beginAct 78 = .ok (.getfield 154, 3) := by decide +kernel
theorem dX8_beginAct_81 : decode cX8_beginAct 81 = .ok (.iconst (-1), 1) := by decide +kernel
theorem dX8_beginAct_82 : decode cX8_beginAct 82 = .ok (.iastore, 1) := by decide +kernel
theorem dX8_beginAct_83 : decode cX8_beginAct 83 = .ok (.aload_n 0, 1) := by decide +kernel
theorem dX8_beginAct_84 : decode cX8_beginAct 84 = .ok (.getfield 87, 3) := by decide +kernel
theorem dX8_beginAct_87 : decode cX8_beginAct 87 = .ok (.aload_n 0, 1) := by decide +kernel
theorem dX8_beginAct_88 : decode cX8_beginAct 88 = .ok (.getfield 154, 3) := by decide +kernel
theorem dX8_beginAct_91 : decode cX8_beginAct 91 = .ok (.iload 5, 2) := by decide +kernel
theorem dX8_beginAct_93 : decode cX8_beginAct 93 = .ok (.iastore, 1) := by decide +kernel
theorem dX8_beginAct_94 : decode cX8_beginAct 94 = .ok (.aload_n 0, 1) := by decide +kernel
theorem dX8_beginAct_95 : decode cX8_beginAct 95 = .ok (.getfield 90, 3) := by decide +kernel
theorem dX8_beginAct_98 : decode cX8_beginAct 98 = .ok (.aload_n 0, 1) := by decide +kernel
theorem dX8_beginAct_99 : decode cX8_beginAct 99 = .ok (.getfield 154, 3) := by decide +kernel
theorem dX8_beginAct_102 : decode cX8_beginAct 102 = .ok (.lload_n 3, 1) := by decide +kernel
theorem dX8_beginAct_103 : decode cX8_beginAct 103 = .ok (.lastore, 1) := by decide +kernel
theorem dX8_beginAct_104 : decode cX8_beginAct 104 = .ok (.aload_n 0, 1) := by decide +kernel
theorem dX8_beginAct_105 : decode cX8_beginAct 105 = .ok (.getfield 39, 3) := by decide +kernel
theorem dX8_beginAct_108 : decode cX8_beginAct 108 = .ok (.iload_n 1, 1) := by decide +kernel
theorem dX8_beginAct_109 : decode cX8_beginAct 109 = .ok (.aload_n 0, 1) := by decide +kernel
theorem dX8_beginAct_110 : decode cX8_beginAct 110 = .ok (.getfield 154, 3) := by decide +kernel
theorem dX8_beginAct_113 : decode cX8_beginAct 113 = .ok (.iastore, 1) := by decide +kernel
theorem dX8_beginAct_114 : decode cX8_beginAct 114 = .ok (.aload_n 0, 1) := by decide +kernel
theorem dX8_beginAct_115 : decode cX8_beginAct 115 = .ok (.getfield 45, 3) := by decide +kernel
theorem dX8_beginAct_118 : decode cX8_beginAct 118 = .ok (.iload_n 1, 1) := by decide +kernel
theorem dX8_beginAct_119 : decode cX8_beginAct 119 = .ok (.iconst 0, 1) := by decide +kernel
theorem dX8_beginAct_120 : decode cX8_beginAct 120 = .ok (.iastore, 1) := by decide +kernel
theorem dX8_beginAct_121 : decode cX8_beginAct 121 = .ok (.aload_n 0, 1) := by decide +kernel
theorem dX8_beginAct_122 : decode cX8_beginAct 122 = .ok (.getfield 60, 3) := by decide +kernel
theorem dX8_beginAct_125 : decode cX8_beginAct 125 = .ok (.iload_n 1, 1) := by decide +kernel
theorem dX8_beginAct_126 : decode cX8_beginAct 126 = .ok (.iconst 0, 1) := by decide +kernel
theorem dX8_beginAct_127 : decode cX8_beginAct 127 = .ok (.iastore, 1) := by decide +kernel
theorem dX8_beginAct_128 : decode cX8_beginAct 128 = .ok (.aload_n 0, 1) := by decide +kernel
theorem dX8_beginAct_129 : decode cX8_beginAct 129 = .ok (.getfield 63, 3) := by decide +kernel
theorem dX8_beginAct_132 : decode cX8_beginAct 132 = .ok (.iload_n 1, 1) := by decide +kernel
theorem dX8_beginAct_133 : decode cX8_beginAct 133 = .ok (.iconst 0, 1) := by decide +kernel
theorem dX8_beginAct_134 : decode cX8_beginAct 134 = .ok (.iastore, 1) := by decide +kernel
theorem dX8_beginAct_135 : decode cX8_beginAct 135 = .ok (.aload_n 0, 1) := by decide +kernel
theorem dX8_beginAct_136 : decode cX8_beginAct 136 = .ok (.getfield 66, 3) := by decide +kernel
theorem dX8_beginAct_139 : decode cX8_beginAct 139 = .ok (.iload_n 1, 1) := by decide +kernel
theorem dX8_beginAct_140 : decode cX8_beginAct 140 = .ok (.lconst 0, 1) := by decide +kernel
theorem dX8_beginAct_141 : decode cX8_beginAct 141 = .ok (.lastore, 1) := by decide +kernel
theorem dX8_beginAct_142 : decode cX8_beginAct 142 = .ok (.iload_n 2, 1) := by decide +kernel
theorem dX8_beginAct_143 : decode cX8_beginAct 143 = .ok (.iconst 2, 1) := by decide +kernel
theorem dX8_beginAct_144 : decode cX8_beginAct 144 = .ok (.if_icmp .ne 11, 3) := by decide +kernel
theorem dX8_beginAct_147 : decode cX8_beginAct 147 = .ok (.aload_n 0, 1) := by decide +kernel
theorem dX8_beginAct_148 : decode cX8_beginAct 148 = .ok (.getfield 51, 3) := by decide +kernel
theorem dX8_beginAct_151 : decode cX8_beginAct 151 = .ok (.iload_n 1, 1) := by decide +kernel
theorem dX8_beginAct_152 : decode cX8_beginAct 152 = .ok (.iload 5, 2) := by decide +kernel
theorem dX8_beginAct_154 : decode cX8_beginAct 154 = .ok (.iastore, 1) := by decide +kernel
theorem dX8_beginAct_155 : decode cX8_beginAct 155 = .ok (.aload_n 0, 1) := by decide +kernel
theorem dX8_beginAct_156 : decode cX8_beginAct 156 = .ok (.iload_n 1, 1) := by decide +kernel
theorem dX8_beginAct_157 : decode cX8_beginAct 157 = .ok (.iload_n 2, 1) := by decide +kernel
theorem dX8_beginAct_158 : decode cX8_beginAct 158 = .ok (.iconst 2, 1) := by decide +kernel
theorem dX8_beginAct_159 : decode cX8_beginAct 159 = .ok (.if_icmp .ne 7, 3) := by decide +kernel
theorem dX8_beginAct_162 : decode cX8_beginAct 162 = .ok (.iconst 3, 1) := by decide +kernel
theorem dX8_beginAct_163 : decode cX8_beginAct 163 = .ok (.goto 4, 3) := by decide +kernel
theorem dX8_beginAct_166 : decode cX8_beginAct 166 = .ok (.iconst 1, 1) := by decide +kernel
theorem dX8_beginAct_167 : decode cX8_beginAct 167 = .ok (.invokevirtual 160, 3) := by decide +kernel
theorem dX8_beginAct_170 : decode cX8_beginAct 170 = .ok (.aload_n 0, 1) := by decide +kernel
theorem dX8_beginAct_171 : decode cX8_beginAct 171 = .ok (.getfield 154, 3) := by decide +kernel
theorem dX8_beginAct_174 : decode cX8_beginAct 174 = .ok (.ireturn, 1) := by decide +kernel
theorem dX8_change_0 : decode cX8_change 0 = .ok (.iconst 0, 1) := by decide +kernel
theorem dX8_change_1 : decode cX8_change 1 = .ok (.istore_n 3, 1) := by decide +kernel
theorem dX8_change_2 : decode cX8_change 2 = .ok (.iconst 0, 1) := by decide +kernel
theorem dX8_change_3 : decode cX8_change 3 = .ok (.istore 4, 2) := by decide +kernel
theorem dX8_change_5 : decode cX8_change 5 = .ok (.iload 4, 2) := by decide +kernel
theorem dX8_change_7 : decode cX8_change 7 = .ok (.aload_n 0, 1) := by decide +kernel
theorem dX8_change_8 : decode cX8_change 8 = .ok (.getfield 129, 3) := by decide +kernel
theorem dX8_change_11 : decode cX8_change 11 = .ok (.if_icmp .ge 19, 3) := by decide +kernel
theorem dX8_change_14 : decode cX8_change 14 = .ok (.iload_n 3, 1) := by decide +kernel
theorem dX8_change_15 : decode cX8_change 15 = .ok (.aload_n 0, 1) := by decide +kernel
theorem dX8_change_16 : decode cX8_change 16 = .ok (.getfield 36, 3) := by decide +kernel
theorem dX8_change_19 : decode cX8_change 19 = .ok (.iload 4, 2) := by decide +kernel
theorem dX8_change_21 : decode cX8_change 21 = .ok (.iaload, 1) := by decide +kernel
theorem dX8_change_22 : decode cX8_change 22 = .ok (.iadd, 1) := by decide +kernel
theorem dX8_change_23 : decode cX8_change 23 = .ok (.istore_n 3, 1) := by decide +kernel
theorem dX8_change_24 : decode cX8_change 24 = .ok (.iinc 4 1, 3) := by decide +kernel
theorem dX8_change_27 : decode cX8_change 27 = .ok (.goto (-22), 3) := by decide +kernel
theorem dX8_change_30 : decode cX8_change 30 = .ok (.iload_n 1, 1) := by decide +kernel
theorem dX8_change_31 : decode cX8_change 31 = .ok (.iconst 1, 1) := by decide +kernel
theorem dX8_change_32 : decode cX8_change 32 = .ok (.if_icmp .lt 36, 3) := by decide +kernel
theorem dX8_change_35 : decode cX8_change 35 = .ok (.iload_n 2, 1) := by decide +kernel
theorem dX8_change_36 : decode cX8_change 36 = .ok (.iconst 1, 1) := by decide +kernel
theorem dX8_change_37 : decode cX8_change 37 = .ok (.if_icmp .lt 31, 3) := by decide +kernel
theorem dX8_change_40 : decode cX8_change 40 = .ok (.iload_n 1, 1) := by decide +kernel
theorem dX8_change_41 : decode cX8_change 41 = .ok (.iload_n 3, 1) := by decide +kernel
theorem dX8_change_42 : decode cX8_change 42 = .ok (.if_icmp .gt 26, 3) := by decide +kernel
theorem dX8_change_45 : decode cX8_change 45 = .ok (.iload_n 2, 1) := by decide +kernel
theorem dX8_change_46 : decode cX8_change 46 = .ok (.iload_n 3, 1) := by decide +kernel
theorem dX8_change_47 : decode cX8_change 47 = .ok (.if_icmp .gt 21, 3) := by decide +kernel
theorem dX8_change_50 : decode cX8_change 50 = .ok (.iload_n 1, 1) := by decide +kernel
theorem dX8_change_51 : decode cX8_change 51 = .ok (.iload_n 2, 1) := by decide +kernel
theorem dX8_change_52 : decode cX8_change 52 = .ok (.iadd, 1) := by decide +kernel
theorem dX8_change_53 : decode cX8_change 53 = .ok (.iload_n 3, 1) := by decide +kernel
theorem dX8_change_54 : decode cX8_change 54 = .ok (.if_icmp .le 14, 3) := by decide +kernel
theorem dX8_change_57 : decode cX8_change 57 = .ok (.iconst 2, 1) := by decide +kernel
theorem dX8_change_58 : decode cX8_change 58 = .ok (.iload_n 2, 1) := by decide +kernel
theorem dX8_change_59 : decode cX8_change 59 = .ok (.imul, 1) := by decide +kernel
theorem dX8_change_60 : decode cX8_change 60 = .ok (.iload_n 3, 1) := by decide +kernel
theorem dX8_change_61 : decode cX8_change 61 = .ok (.if_icmp .le 7, 3) := by decide +kernel
theorem dX8_change_64 : decode cX8_change 64 = .ok (.iconst 1, 1) := by decide +kernel
theorem dX8_change_65 : decode cX8_change 65 = .ok (.goto 4, 3) := by decide +kernel
theorem dX8_change_68 : decode cX8_change 68 = .ok (.iconst 0, 1) := by decide +kernel
theorem dX8_change_69 : decode cX8_change 69 = .ok (.istore 4, 2) := by decide +kernel
theorem dX8_change_71 : decode cX8_change 71 = .ok (.iload 4, 2) := by decide +kernel
theorem dX8_change_73 : decode cX8_change 73 = .ok (.ifCond .eq 46, 3) := by decide +kernel
theorem dX8_change_76 : decode cX8_change 76 = .ok (.aload_n 0, 1) := by decide +kernel
theorem dX8_change_77 : decode cX8_change 77 = .ok (.getfield 133, 3) := by decide +kernel
theorem dX8_change_80 : decode cX8_change 80 = .ok (.bipush 16, 2) := by decide +kernel
theorem dX8_change_82 : decode cX8_change 82 = .ok (.if_icmp .eq 37, 3) := by decide +kernel
theorem dX8_change_85 : decode cX8_change 85 = .ok (.aload_n 0, 1) := by decide +kernel
theorem dX8_change_86 : decode cX8_change 86 = .ok (.getfield 154, 3) := by decide +kernel
theorem dX8_change_89 : decode cX8_change 89 = .ok (.sipush 200, 3) := by decide +kernel
theorem dX8_change_92 : decode cX8_change 92 = .ok (.if_icmp .eq 27, 3) := by decide +kernel
theorem dX8_change_95 : decode cX8_change 95 = .ok (.aload_n 0, 1) := by decide +kernel
theorem dX8_change_96 : decode cX8_change 96 = .ok (.getfield 39, 3) := by decide +kernel
theorem dX8_change_99 : decode cX8_change 99 = .ok (.iconst 0, 1) := by decide +kernel
theorem dX8_change_100 : decode cX8_change 100 = .ok (.iaload, 1) := by decide +kernel
theorem dX8_change_101 : decode cX8_change 101 = .ok (.ifCond .ge 18, 3) := by decide +kernel
theorem dX8_change_104 : decode cX8_change 104 = .ok (.aload_n 0, 1) := by decide +kernel
theorem dX8_change_105 : decode cX8_change 105 = .ok (.getfield 48, 3) := by decide +kernel
theorem dX8_change_108 : decode cX8_change 108 = .ok (.iconst 0, 1) := by decide +kernel
theorem dX8_change_109 : decode cX8_change 109 = .ok (.iaload, 1) := by decide +kernel
theorem dX8_change_110 : decode cX8_change 110 = .ok (.aload_n 0, 1) := by decide +kernel
theorem dX8_change_111 : decode cX8_change 111 = .ok (.getfield 51, 3) := by decide +kernel
theorem dX8_change_114 : decode cX8_change 114 = .ok (.iconst 0, 1) := by decide +kernel
theorem dX8_change_115 : decode cX8_change 115 = .ok (.iaload, 1) := by decide +kernel
theorem dX8_change_116 : decode cX8_change 116 = .ok (.if_icmp .ge 5, 3) := by decide +kernel
theorem dX8_change_119 : decode cX8_change 119 = .ok (.iconst (-1), 1) := by decide +kernel
theorem dX8_change_120 : decode cX8_change 120 = .ok (.ireturn, 1) := by decide +kernel
theorem dX8_change_121 : decode cX8_change 121 = .ok (.iconst 0, 1) := by decide +kernel
theorem dX8_change_122 : decode cX8_change 122 = .ok (.istore 5, 2) := by decide +kernel
theorem dX8_change_124 : decode cX8_change 124 = .ok (.iload 5, 2) := by decide +kernel
theorem dX8_change_126 : decode cX8_change 126 = .ok (.aload_n 0, 1) := by decide +kernel
theorem dX8_change_127 : decode cX8_change 127 = .ok (.getfield 129, 3) := by decide +kernel
theorem dX8_change_130 : decode cX8_change 130 = .ok (.if_icmp .ge 31, 3) := by decide +kernel
theorem dX8_change_133 : decode cX8_change 133 = .ok (.aload_n 0, 1) := by decide +kernel
theorem dX8_change_134 : decode cX8_change 134 = .ok (.getfield 33, 3) := by decide +kernel
theorem dX8_change_137 : decode cX8_change 137 = .ok (.bipush 9, 2) := by decide +kernel
theorem dX8_change_139 : decode cX8_change 139 = .ok (.aload_n 0, 1) := by decide +kernel
theorem dX8_change_140 : decode cX8_change 140 = .ok (.getfield 133, 3) := by decide +kernel
theorem dX8_change_143 : decode cX8_change 143 = .ok (.imul, 1) := by decide +kernel
theorem dX8_change_144 : decode cX8_change 144 = .ok (.iload 5, 2) := by decide +kernel
theorem dX8_change_146 : decode cX8_change 146 = .ok (.iadd, 1) := by decide +kernel
theorem dX8_change_147 : decode cX8_change 147 = .ok (.aload_n 0, 1) := by decide +kernel
theorem dX8_change_148 : decode cX8_change 148 = .ok (.getfield 36, 3) := by decide +kernel
theorem dX8_change_151 : decode cX8_change 151 = .ok (.iload 5, 2) := by decide +kernel
theorem dX8_change_153 : decode cX8_change 153 = .ok (.iaload, 1) := by decide +kernel
theorem dX8_change_154 : decode cX8_change 154 = .ok (.iastore, 1) := by decide +kernel
theorem dX8_change_155 : decode cX8_change 155 = .ok (.iinc 5 1, 3) := by decide +kernel
theorem dX8_change_158 : decode cX8_change 158 = .ok (.goto (-34), 3) := by decide +kernel
theorem dX8_change_161 : decode cX8_change 161 = .ok (.aload_n 0, 1) := by decide +kernel
theorem dX8_change_162 : decode cX8_change 162 = .ok (.getfield 33, 3) := by decide +kernel
theorem dX8_change_165 : decode cX8_change 165 = .ok (.bipush 9, 2) := by decide +kernel
theorem dX8_change_167 : decode cX8_change 167 = .ok (.aload_n 0, 1) := by decide +kernel
theorem dX8_change_168 : decode cX8_change 168 = .ok (.getfield 133, 3) := by decide +kernel
theorem dX8_change_171 : decode cX8_change 171 = .ok (.imul, 1) := by decide +kernel
theorem dX8_change_172 : decode cX8_change 172 = .ok (.bipush 7, 2) := by decide +kernel
theorem dX8_change_174 : decode cX8_change 174 = .ok (.iadd, 1) := by decide +kernel
theorem dX8_change_175 : decode cX8_change 175 = .ok (.iload_n 1, 1) := by decide +kernel
theorem dX8_change_176 : decode cX8_change 176 = .ok (.iastore, 1) := by decide +kernel
theorem dX8_change_177 : decode cX8_change 177 = .ok (.aload_n 0, 1) := by decide +kernel
theorem dX8_change_178 : decode cX8_change 178 = .ok (.getfield 33, 3) := by decide +kernel
theorem dX8_change_181 : decode cX8_change 181 = .ok (.bipush 9, 2) := by decide +kernel
theorem dX8_change_183 : decode cX8_change 183 = .ok (.aload_n 0, 1) := by decide +kernel
theorem dX8_change_184 : decode cX8_change 184 = .ok (.getfield 133, 3) := by decide +kernel
theorem dX8_change_187 : decode cX8_change 187 = .ok (.imul, 1) := by decide +kernel
theorem dX8_change_188 : decode cX8_change 188 = .ok (.bipush 8, 2) := by decide +kernel
theorem dX8_change_190 : decode cX8_change 190 = .ok (.iadd, 1) := by decide +kernel
theorem dX8_change_191 : decode cX8_change 191 = .ok (.iload_n 2, 1) := by decide +kernel
theorem dX8_change_192 : decode cX8_change 192 = .ok (.iastore, 1) := by decide +kernel
theorem dX8_change_193 : decode cX8_change 193 = .ok (.aload_n 0, 1) := by decide +kernel
theorem dX8_change_194 : decode cX8_change 194 = .ok (.dup, 1) := by decide +kernel
theorem dX8_change_195 : decode cX8_change 195 = .ok (.getfield 133, 3) := by decide +kernel
theorem dX8_change_198 : decode cX8_change 198 = .ok (.iconst 1, 1) := by decide +kernel
theorem dX8_change_199 : decode cX8_change 199 = .ok (.iadd, 1) := by decide +kernel
theorem dX8_change_200 : decode cX8_change 200 = .ok (.putfield 133, 3) := by decide +kernel
theorem dX8_change_203 : decode cX8_change 203 = .ok (.aload_n 0, 1) := by decide +kernel
theorem dX8_change_204 : decode cX8_change 204 = .ok (.iconst 0, 1) := by decide +kernel
theorem dX8_change_205 : decode cX8_change 205 = .ok (.iconst 2, 1) := by decide +kernel
theorem dX8_change_206 : decode cX8_change 206 = .ok (.lconst 0, 1) := by decide +kernel
theorem dX8_change_207 : decode cX8_change 207 = .ok (.aload_n 0, 1) := by decide +kernel
theorem dX8_change_208 : decode cX8_change 208 = .ok (.getfield 133, 3) := by decide +kernel
theorem dX8_change_211 : decode cX8_change 211 = .ok (.iconst 1, 1) := by decide +kernel
theorem dX8_change_212 : decode cX8_change 212 = .ok (.isub, 1) := by decide +kernel
theorem dX8_change_213 : decode cX8_change 213 = .ok (.invokevirtual 163, 3) := by decide +kernel
theorem dX8_change_216 : decode cX8_change 216 = .ok (.ireturn, 1) := by decide +kernel
theorem dX8_resume_0 : decode cX8_resume 0 = .ok (.aload_n 0, 1) := by decide +kernel
theorem dX8_resume_1 : decode cX8_resume 1 = .ok (.getfield 39, 3) := by decide +kernel
theorem dX8_resume_4 : decode cX8_resume 4 = .ok (.iconst 0, 1) := by decide +kernel
theorem dX8_resume_5 : decode cX8_resume 5 = .ok (.iaload, 1) := by decide +kernel
theorem dX8_resume_6 : decode cX8_resume 6 = .ok (.ifCond .ge 28, 3) := by decide +kernel
theorem dX8_resume_9 : decode cX8_resume 9 = .ok (.aload_n 0, 1) := by decide +kernel
theorem dX8_resume_10 : decode cX8_resume 10 = .ok (.getfield 48, 3) := by decide +kernel
theorem dX8_resume_13 : decode cX8_resume 13 = .ok (.iconst 0, 1) := by decide +kernel
theorem dX8_resume_14 : decode cX8_resume 14 = .ok (.iaload, 1) := by decide +kernel
theorem dX8_resume_15 : decode cX8_resume 15 = .ok (.aload_n 0, 1) := by decide +kernel
theorem dX8_resume_16 : decode cX8_resume 16 = .ok (.getfield 51, 3) := by decide +kernel
theorem dX8_resume_19 : decode cX8_resume 19 = .ok (.iconst 0, 1) := by decide +kernel
theorem dX8_resume_20 : decode cX8_resume 20 = .ok (.iaload, 1) := by decide +kernel
theorem dX8_resume_21 : decode cX8_resume 21 = .ok (.if_icmp .ge 13, 3) := by decide +kernel
theorem dX8_resume_24 : decode cX8_resume 24 = .ok (.aload_n 0, 1) := by decide +kernel
theorem dX8_resume_25 : decode cX8_resume 25 = .ok (.getfield 154, 3) := by decide +kernel
theorem dX8_resume_28 : decode cX8_resume 28 = .ok (.sipush 200, 3) := by decide +kernel
theorem dX8_resume_31 : decode cX8_resume 31 = .ok (.if_icmp .ne 5, 3) := by decide +kernel
theorem dX8_resume_34 : decode cX8_resume 34 = .ok (.iconst (-1), 1) := by decide +kernel
theorem dX8_resume_35 : decode cX8_resume 35 = .ok (.ireturn, 1) := by decide +kernel
theorem dX8_resume_36 : decode cX8_resume 36 = .ok (.aload_n 0, 1) := by decide +kernel
theorem dX8_resume_37 : decode cX8_resume 37 = .ok (.iconst 0, 1) := by decide +kernel
theorem dX8_resume_38 : decode cX8_resume 38 = .ok (.iconst 2, 1) := by decide +kernel
theorem dX8_resume_39 : decode cX8_resume 39 = .ok (.lconst 0, 1) := by decide +kernel
theorem dX8_resume_40 : decode cX8_resume 40 = .ok (.aload_n 0, 1) := by decide +kernel
theorem dX8_resume_41 : decode cX8_resume 41 = .ok (.getfield 51, 3) := by decide +kernel
theorem dX8_resume_44 : decode cX8_resume 44 = .ok (.iconst 0, 1) := by decide +kernel
theorem dX8_resume_45 : decode cX8_resume 45 = .ok (.iaload, 1) := by decide +kernel
theorem dX8_resume_46 : decode cX8_resume 46 = .ok (.invokevirtual 163, 3) := by decide +kernel
theorem dX8_resume_49 : decode cX8_resume 49 = .ok (.ireturn, 1) := by decide +kernel
theorem dX8_read_0 : decode cX8_read 0 = .ok (.iload_n 1, 1) := by decide +kernel
theorem dX8_read_1 : decode cX8_read 1 = .ok (.invokestatic 167, 3) := by decide +kernel
theorem dX8_read_4 : decode cX8_read 4 = .ok (.ifCond .eq 22, 3) := by decide +kernel
theorem dX8_read_7 : decode cX8_read 7 = .ok (.aload_n 0, 1) := by decide +kernel
theorem dX8_read_8 : decode cX8_read 8 = .ok (.getfield 39, 3) := by decide +kernel
theorem dX8_read_11 : decode cX8_read 11 = .ok (.iload_n 1, 1) := by decide +kernel
theorem dX8_read_12 : decode cX8_read 12 = .ok (.iaload, 1) := by decide +kernel
theorem dX8_read_13 : decode cX8_read 13 = .ok (.ifCond .ge 13, 3) := by decide +kernel
theorem dX8_read_16 : decode cX8_read 16 = .ok (.aload_n 0, 1) := by decide +kernel
theorem dX8_read_17 : decode cX8_read 17 = .ok (.getfield 154, 3) := by decide +kernel
theorem dX8_read_20 : decode cX8_read 20 = .ok (.sipush 200, 3) := by decide +kernel
theorem dX8_read_23 : decode cX8_read 23 = .ok (.if_icmp .ne 7, 3) := by decide +kernel
theorem dX8_read_26 : decode cX8_read 26 = .ok (.iconst (-1), 1) := by decide +kernel
theorem dX8_read_27 : decode cX8_read 27 = .ok (.goto 11, 3) := by decide +kernel
theorem dX8_read_30 : decode cX8_read 30 = .ok (.aload_n 0, 1) := by decide +kernel
theorem dX8_read_31 : decode cX8_read 31 = .ok (.iload_n 1, 1) := by decide +kernel
theorem dX8_read_32 : decode cX8_read 32 = .ok (.iconst 0, 1) := by decide +kernel
theorem dX8_read_33 : decode cX8_read 33 = .ok (.lconst 0, 1) := by decide +kernel
theorem dX8_read_34 : decode cX8_read 34 = .ok (.iconst (-1), 1) := by decide +kernel
theorem dX8_read_35 : decode cX8_read 35 = .ok (.invokevirtual 163, 3) := by decide +kernel
theorem dX8_read_38 : decode cX8_read 38 = .ok (.ireturn, 1) := by decide +kernel
theorem dX8_write_0 : decode cX8_write 0 = .ok (.iload_n 1, 1) := by decide +kernel
theorem dX8_write_1 : decode cX8_write 1 = .ok (.invokestatic 167, 3) := by decide +kernel
theorem dX8_write_4 : decode cX8_write 4 = .ok (.ifCond .eq 22, 3) := by decide +kernel
theorem dX8_write_7 : decode cX8_write 7 = .ok (.aload_n 0, 1) := by decide +kernel
theorem dX8_write_8 : decode cX8_write 8 = .ok (.getfield 39, 3) := by decide +kernel
theorem dX8_write_11 : decode cX8_write 11 = .ok (.iload_n 1, 1) := by decide +kernel
theorem dX8_write_12 : decode cX8_write 12 = .ok (.iaload, 1) := by decide +kernel
theorem dX8_write_13 : decode cX8_write 13 = .ok (.ifCond .ge 13, 3) := by decide +kernel
theorem dX8_write_16 : decode cX8_write 16 = .ok (.aload_n 0, 1) := by decide +kernel
theorem dX8_write_17 : decode cX8_write 17 = .ok (.getfield 154, 3) := by decide +kernel
theorem dX8_write_20 : decode cX8_write 20 = .ok (.sipush 200, 3) := by decide +kernel
theorem dX8_write_23 : decode cX8_write 23 = .ok (.if_icmp .ne 7, 3) := by decide +kernel
theorem dX8_write_26 : decode cX8_write 26 = .ok (.iconst (-1), 1) := by decide +kernel
theorem dX8_write_27 : decode cX8_write 27 = .ok (.goto 11, 3) := by decide +kernel
theorem dX8_write_30 : decode cX8_write 30 = .ok (.aload_n 0, 1) := by decide +kernel
theorem dX8_write_31 : decode cX8_write 31 = .ok (.iload_n 1, 1) := by decide +kernel
theorem dX8_write_32 : decode cX8_write 32 = .ok (.iconst 1, 1) := by decide +kernel
theorem dX8_write_33 : decode cX8_write 33 = .ok (.lload_n 2, 1) := by decide +kernel
theorem dX8_write_34 : decode cX8_write 34 = .ok (.iconst (-1), 1) := by decide +kernel
theorem dX8_write_35 : decode cX8_write 35 = .ok (.invokevirtual 163, 3) := by decide +kernel
theorem dX8_write_38 : decode cX8_write 38 = .ok (.ireturn, 1) := by decide +kernel
theorem dX8_again_0 : decode cX8_again 0 = .ok (.iload_n 1, 1) := by decide +kernel
theorem dX8_again_1 : decode cX8_again 1 = .ok (.invokestatic 167, 3) := by decide +kernel
theorem dX8_again_4 : decode cX8_again 4 = .ok (.ifCond .eq 12, 3) := by decide +kernel
theorem dX8_again_7 : decode cX8_again 7 = .ok (.aload_n 0, 1) := by decide +kernel
theorem dX8_again_8 : decode cX8_again 8 = .ok (.getfield 39, 3) := by decide +kernel
theorem dX8_again_11 : decode cX8_again 11 = .ok (.iload_n 1, 1) := by decide +kernel
theorem dX8_again_12 : decode cX8_again 12 = .ok (.iaload, 1) := by decide +kernel
theorem dX8_again_13 : decode cX8_again 13 = .ok (.ifCond .ge 5, 3) := by decide +kernel
theorem dX8_again_16 : decode cX8_again 16 = .ok (.iconst (-1), 1) := by decide +kernel
theorem dX8_again_17 : decode cX8_again 17 = .ok (.ireturn, 1) := by decide +kernel
theorem dX8_again_18 : decode cX8_again 18 = .ok (.iconst 0, 1) := by decide +kernel
theorem dX8_again_19 : decode cX8_again 19 = .ok (.istore_n 2, 1) := by decide +kernel
theorem dX8_again_20 : decode cX8_again 20 = .ok (.iconst 0, 1) := by decide +kernel
theorem dX8_again_21 : decode cX8_again 21 = .ok (.istore_n 3, 1) := by decide +kernel
theorem dX8_again_22 : decode cX8_again 22 = .ok (.iload_n 3, 1) := by decide +kernel
theorem dX8_again_23 : decode cX8_again 23 = .ok (.aload_n 0, 1) := by decide +kernel
theorem dX8_again_24 : decode cX8_again 24 = .ok (.getfield 129, 3) := by decide +kernel
theorem dX8_again_27 : decode cX8_again 27 = .ok (.if_icmp .ge 35, 3) := by decide +kernel
theorem dX8_again_30 : decode cX8_again 30 = .ok (.aload_n 0, 1) := by decide +kernel
theorem dX8_again_31 : decode cX8_again 31 = .ok (.getfield 57, 3) := by decide +kernel
theorem dX8_again_34 : decode cX8_again 34 = .ok (.iload_n 1, 1) := by decide +kernel
theorem dX8_again_35 : decode cX8_again 35 = .ok (.iaload, 1) := by decide +kernel
theorem dX8_again_36 : decode cX8_again 36 = .ok (.iload_n 3, 1) := by decide +kernel
theorem dX8_again_37 : decode cX8_again 37 = .ok (.ishr, 1) := by decide +kernel
theorem dX8_again_38 : decode cX8_again 38 = .ok (.iconst 1, 1) := by decide +kernel
theorem dX8_again_39 : decode cX8_again 39 = .ok (.iand, 1) := by decide +kernel
theorem dX8_again_40 : decode cX8_again 40 = .ok (.iconst 1, 1) := by decide +kernel
theorem dX8_again_41 : decode cX8_again 41 = .ok (.if_icmp .ne 6, 3) := by decide +kernel
theorem dX8_again_44 : decode cX8_again 44 = .ok (.goto 12, 3) := by decide +kernel
theorem dX8_again_47 : decode cX8_again 47 = .ok (.aload_n 0, 1) := by decide +kernel
theorem dX8_again_48 : decode cX8_again 48 = .ok (.iload_n 1, 1) := by decide +kernel
theorem dX8_again_49 : decode cX8_again 49 = .ok (.iload_n 3, 1) := by decide +kernel
theorem dX8_again_50 : decode cX8_again 50 = .ok (.invokevirtual 150, 3) := by decide +kernel
theorem dX8_again_53 : decode cX8_again 53 = .ok (.iinc 2 1, 3) := by decide +kernel
theorem dX8_again_56 : decode cX8_again 56 = .ok (.iinc 3 1, 3) := by decide +kernel
theorem dX8_again_59 : decode cX8_again 59 = .ok (.goto (-37), 3) := by decide +kernel
theorem dX8_again_62 : decode cX8_again 62 = .ok (.iload_n 2, 1) := by decide +kernel
theorem dX8_again_63 : decode cX8_again 63 = .ok (.ireturn, 1) := by decide +kernel
theorem dX8_isGreater_0 : decode cX8_isGreater 0 = .ok (.iload_n 0, 1) := by decide +kernel
theorem dX8_isGreater_1 : decode cX8_isGreater 1 = .ok (.iload_n 2, 1) := by decide +kernel
theorem dX8_isGreater_2 : decode cX8_isGreater 2 = .ok (.if_icmp .gt 13, 3) := by decide +kernel
theorem dX8_isGreater_5 : decode cX8_isGreater 5 = .ok (.iload_n 0, 1) := by decide +kernel
theorem dX8_isGreater_6 : decode cX8_isGreater 6 = .ok (.iload_n 2, 1) := by decide +kernel
theorem dX8_isGreater_7 : decode cX8_isGreater 7 = .ok (.if_icmp .ne 12, 3) := by decide +kernel
theorem dX8_isGreater_10 : decode cX8_isGreater 10 = .ok (.iload_n 1, 1) := by decide +kernel
theorem dX8_isGreater_11 : decode cX8_isGreater 11 = .ok (.iload_n 3, 1) := by decide +kernel
theorem dX8_isGreater_12 : decode cX8_isGreater 12 = .ok (.if_icmp .le 7, 3) := by decide +kernel
theorem dX8_isGreater_15 : decode cX8_isGreater 15 = .ok (.iconst 1, 1) := by decide +kernel
theorem dX8_isGreater_16 : decode cX8_isGreater 16 = .ok (.goto 4, 3) := by decide +kernel
theorem dX8_isGreater_19 : decode cX8_isGreater 19 = .ok (.iconst 0, 1) := by decide +kernel
theorem dX8_isGreater_20 : decode cX8_isGreater 20 = .ok (.ireturn, 1) := by decide +kernel
theorem dX8_isQuorum_0 : decode cX8_isQuorum 0 = .ok (.iconst 0, 1) := by decide +kernel
theorem dX8_isQuorum_1 : decode cX8_isQuorum 1 = .ok (.istore 4, 2) := by decide +kernel
theorem dX8_isQuorum_3 : decode cX8_isQuorum 3 = .ok (.iconst 0, 1) := by decide +kernel
theorem dX8_isQuorum_4 : decode cX8_isQuorum 4 = .ok (.istore 5, 2) := by decide +kernel
theorem dX8_isQuorum_6 : decode cX8_isQuorum 6 = .ok (.iload 5, 2) := by decide +kernel
theorem dX8_isQuorum_8 : decode cX8_isQuorum 8 = .ok (.aload_n 0, 1) := by decide +kernel
theorem dX8_isQuorum_9 : decode cX8_isQuorum 9 = .ok (.getfield 129, 3) := by decide +kernel
theorem dX8_isQuorum_12 : decode cX8_isQuorum 12 = .ok (.if_icmp .ge 45, 3) := by decide +kernel
theorem dX8_isQuorum_15 : decode cX8_isQuorum 15 = .ok (.iload 4, 2) := by decide +kernel
theorem dX8_isQuorum_17 : decode cX8_isQuorum 17 = .ok (.aload_n 0, 1) := by decide +kernel
theorem dX8_isQuorum_18 : decode cX8_isQuorum 18 = .ok (.getfield 57, 3) := by decide +kernel
theorem dX8_isQuorum_21 : decode cX8_isQuorum 21 = .ok (.iload_n 1, 1) := by decide +kernel
theorem dX8_isQuorum_22 : decode cX8_isQuorum 22 = .ok (.iaload, 1) := by decide +kernel
theorem dX8_isQuorum_23 : decode cX8_isQuorum 23 = .ok (.iload 5, 2) := by decide +kernel
theorem dX8_isQuorum_25 : decode cX8_isQuorum 25 = .ok (.ishr, 1) := by decide +kernel
theorem dX8_isQuorum_26 : decode cX8_isQuorum 26 = .ok (.iconst 1, 1) := by decide +kernel
theorem dX8_isQuorum_27 : decode cX8_isQuorum 27 = .ok (.iand, 1) := by decide +kernel
theorem dX8_isQuorum_28 : decode cX8_isQuorum 28 = .ok (.iconst 1, 1) := by decide +kernel
theorem dX8_isQuorum_29 : decode cX8_isQuorum 29 = .ok (.if_icmp .ne 18, 3) := by decide +kernel
theorem dX8_isQuorum_32 : decode cX8_isQuorum 32 = .ok (.aload_n 0, 1) := by decide +kernel
theorem dX8_isQuorum_33 : decode cX8_isQuorum 33 = .ok (.getfield 33, 3) := by decide +kernel
theorem dX8_isQuorum_36 : decode cX8_isQuorum 36 = .ok (.bipush 9, 2) := by decide +kernel
theorem dX8_isQuorum_38 : decode cX8_isQuorum 38 = .ok (.iload_n 2, 1) := by decide +kernel
theorem dX8_isQuorum_39 : decode cX8_isQuorum 39 = .ok (.imul, 1) := by decide +kernel
theorem dX8_isQuorum_40 : decode cX8_isQuorum 40 = .ok (.iload 5, 2) := by decide +kernel
theorem dX8_isQuorum_42 : decode cX8_isQuorum 42 = .ok (.iadd, 1) := by decide +kernel
theorem dX8_isQuorum_43 : decode cX8_isQuorum 43 = .ok (.iaload, 1) := by decide +kernel
theorem dX8_isQuorum_44 : decode cX8_isQuorum 44 = .ok (.goto 4, 3) := by decide +kernel
theorem dX8_isQuorum_47 : decode cX8_isQuorum 47 = .ok (.iconst 0, 1) := by decide +kernel
theorem dX8_isQuorum_48 : decode cX8_isQuorum 48 = .ok (.iadd, 1) := by decide +kernel
theorem dX8_isQuorum_49 : decode cX8_isQuorum 49 = .ok (.istore 4, 2) := by decide +kernel
theorem dX8_isQuorum_51 : decode cX8_isQuorum 51 = .ok (.iinc 5 1, 3) := by decide +kernel
theorem dX8_isQuorum_54 : decode cX8_isQuorum 54 = .ok (.goto (-48), 3) := by decide +kernel
theorem dX8_isQuorum_57 : decode cX8_isQuorum 57 = .ok (.iload 4, 2) := by decide +kernel
theorem dX8_isQuorum_59 : decode cX8_isQuorum 59 = .ok (.aload_n 0, 1) := by decide +kernel
theorem dX8_isQuorum_60 : decode cX8_isQuorum 60 = .ok (.getfield 33, 3) := by decide +kernel
theorem dX8_isQuorum_63 : decode cX8_isQuorum 63 = .ok (.bipush 9, 2) := by decide +kernel
theorem dX8_isQuorum_65 : decode cX8_isQuorum 65 = .ok (.iload_n 2, 1) := by decide +kernel
theorem dX8_isQuorum_66 : decode cX8_isQuorum 66 = .ok (.imul, 1) := by decide +kernel
theorem dX8_isQuorum_67 : decode cX8_isQuorum 67 = .ok (.iload_n 3, 1) := by decide +kernel
theorem dX8_isQuorum_68 : decode cX8_isQuorum 68 = .ok (.iadd, 1) := by decide +kernel
theorem dX8_isQuorum_69 : decode cX8_isQuorum 69 = .ok (.iaload, 1) := by decide +kernel
theorem dX8_isQuorum_70 : decode cX8_isQuorum 70 = .ok (.if_icmp .lt 7, 3) := by decide +kernel
theorem dX8_isQuorum_73 : decode cX8_isQuorum 73 = .ok (.iconst 1, 1) := by decide +kernel
theorem dX8_isQuorum_74 : decode cX8_isQuorum 74 = .ok (.goto 4, 3) := by decide +kernel
theorem dX8_isQuorum_77 : decode cX8_isQuorum 77 = .ok (.iconst 0, 1) := by decide +kernel
theorem dX8_isQuorum_78 : decode cX8_isQuorum 78 = .ok (.ireturn, 1) := by decide +kernel
theorem dX8_areQuorums_0 : decode cX8_areQuorums 0 = .ok (.iconst 1, 1) := by decide +kernel
theorem dX8_areQuorums_1 : decode cX8_areQuorums 1 = .ok (.istore 5, 2) := by decide +kernel
theorem dX8_areQuorums_3 : decode cX8_areQuorums 3 = .ok (.iload_n 2, 1) := by decide +kernel
theorem dX8_areQuorums_4 : decode cX8_areQuorums 4 = .ok (.istore 6, 2) := by decide +kernel
theorem dX8_areQuorums_6 : decode cX8_areQuorums 6 = .ok (.iload 6, 2) := by decide +kernel
theorem dX8_areQuorums_8 : decode cX8_areQuorums 8 = .ok (.iload_n 3, 1) := by decide +kernel
theorem dX8_areQuorums_9 : decode cX8_areQuorums 9 = .ok (.if_icmp .gt 25, 3) := by decide +kernel
theorem dX8_areQuorums_12 : decode cX8_areQuorums 12 = .ok (.iload 5, 2) := by decide +kernel
theorem dX8_areQuorums_14 : decode cX8_areQuorums 14 = .ok (.ifCond .eq 20, 3) := by decide +kernel
theorem dX8_areQuorums_17 : decode cX8_areQuorums 17 = .ok (.aload_n 0, 1) := by decide +kernel
theorem dX8_areQuorums_18 : decode cX8_areQuorums 18 = .ok (.iload_n 1, 1) := by decide +kernel
theorem dX8_areQuorums_19 : decode cX8_areQuorums 19 = .ok (.iload 6, 2) := by decide +kernel
theorem dX8_areQuorums_21 : decode cX8_areQuorums 21 = .ok (.iload 4, 2) := by decide +kernel
theorem dX8_areQuorums_23 : decode cX8_areQuorums 23 = .ok (.invokevirtual 170, 3) := by decide +kernel
theorem dX8_areQuorums_26 : decode cX8_areQuorums 26 = .ok (.istore 5, 2) := by decide +kernel
theorem dX8_areQuorums_28 : decode cX8_areQuorums 28 = .ok (.iinc 6 1, 3) := by decide +kernel
theorem dX8_areQuorums_31 : decode cX8_areQuorums 31 = .ok (.goto (-25), 3) := by decide +kernel
theorem dX8_areQuorums_34 : decode cX8_areQuorums 34 = .ok (.iload 5, 2) := by decide +kernel
theorem dX8_areQuorums_36 : decode cX8_areQuorums 36 = .ok (.ireturn, 1) := by decide +kernel
theorem dX8_isOver_0 : decode cX8_isOver 0 = .ok (.aload_n 0, 1) := by decide +kernel
theorem dX8_isOver_1 : decode cX8_isOver 1 = .ok (.getfield 87, 3) := by decide +kernel
theorem dX8_isOver_4 : decode cX8_isOver 4 = .ok (.aload_n 0, 1) := by decide +kernel
theorem dX8_isOver_5 : decode cX8_isOver 5 = .ok (.getfield 39, 3) := by decide +kernel
theorem dX8_isOver_8 : decode cX8_isOver 8 = .ok (.iload_n 1, 1) := by decide +kernel
theorem dX8_isOver_9 : decode cX8_isOver 9 = .ok (.iaload, 1) := by decide +kernel
theorem dX8_isOver_10 : decode cX8_isOver 10 = .ok (.iaload, 1) := by decide +kernel
theorem dX8_isOver_11 : decode cX8_isOver 11 = .ok (.istore_n 2, 1) := by decide +kernel
theorem dX8_isOver_12 : decode cX8_isOver 12 = .ok (.aload_n 0, 1) := by decide +kernel
theorem dX8_isOver_13 : decode cX8_isOver 13 = .ok (.getfield 42, 3) := by decide +kernel
theorem dX8_isOver_16 : decode cX8_isOver 16 = .ok (.iload_n 1, 1) := by decide +kernel
theorem dX8_isOver_17 : decode cX8_isOver 17 = .ok (.iaload, 1) := by decide +kernel
theorem dX8_isOver_18 : decode cX8_isOver 18 = .ok (.tableswitch 83 1 3 #[26, 46, 66], 26) := by decide +kernel
theorem dX8_isOver_44 : decode cX8_isOver 44 = .ok (.aload_n 0, 1) := by decide +kernel
theorem dX8_isOver_45 : decode cX8_isOver 45 = .ok (.iload_n 1, 1) := by decide +kernel
theorem dX8_isOver_46 : decode cX8_isOver 46 = .ok (.aload_n 0, 1) := by decide +kernel
theorem dX8_isOver_47 : decode cX8_isOver 47 = .ok (.getfield 48, 3) := by decide +kernel
theorem dX8_isOver_50 : decode cX8_isOver 50 = .ok (.iload_n 1, 1) := by decide +kernel
theorem dX8_isOver_51 : decode cX8_isOver 51 = .ok (.iaload, 1) := by decide +kernel
theorem dX8_isOver_52 : decode cX8_isOver 52 = .ok (.aload_n 0, 1) := by decide +kernel
theorem dX8_isOver_53 : decode cX8_isOver 53 = .ok (.getfield 51, 3) := by decide +kernel
theorem dX8_isOver_56 : decode cX8_isOver 56 = .ok (.iload_n 1, 1) := by decide +kernel
theorem dX8_isOver_57 : decode cX8_isOver 57 = .ok (.iaload, 1) := by decide +kernel
theorem dX8_isOver_58 : decode cX8_isOver 58 = .ok (.bipush 7, 2) := by decide +kernel
theorem dX8_isOver_60 : decode cX8_isOver 60 = .ok (.invokevirtual 174, 3) := by decide +kernel
theorem dX8_isOver_63 : decode cX8_isOver 63 = .ok (.ireturn, 1) := by decide +kernel
theorem dX8_isOver_64 : decode cX8_isOver 64 = .ok (.aload_n 0, 1) := by decide +kernel
theorem dX8_isOver_65 : decode cX8_isOver 65 = .ok (.iload_n 1, 1) := by decide +kernel
theorem dX8_isOver_66 : decode cX8_isOver 66 = .ok (.aload_n 0, 1) := by decide +kernel
theorem dX8_isOver_67 : decode cX8_isOver 67 = .ok (.getfield 48, 3) := by decide +kernel
theorem dX8_isOver_70 : decode cX8_isOver 70 = .ok (.iload_n 1, 1) := by decide +kernel
theorem dX8_isOver_71 : decode cX8_isOver 71 = .ok (.iaload, 1) := by decide +kernel
theorem dX8_isOver_72 : decode cX8_isOver 72 = .ok (.aload_n 0, 1) := by decide +kernel
theorem dX8_isOver_73 : decode cX8_isOver 73 = .ok (.getfield 51, 3) := by decide +kernel
theorem dX8_isOver_76 : decode cX8_isOver 76 = .ok (.iload_n 1, 1) := by decide +kernel
theorem dX8_isOver_77 : decode cX8_isOver 77 = .ok (.iaload, 1) := by decide +kernel
theorem dX8_isOver_78 : decode cX8_isOver 78 = .ok (.bipush 8, 2) := by decide +kernel
theorem dX8_isOver_80 : decode cX8_isOver 80 = .ok (.invokevirtual 174, 3) := by decide +kernel
theorem dX8_isOver_83 : decode cX8_isOver 83 = .ok (.ireturn, 1) := by decide +kernel
theorem dX8_isOver_84 : decode cX8_isOver 84 = .ok (.aload_n 0, 1) := by decide +kernel
theorem dX8_isOver_85 : decode cX8_isOver 85 = .ok (.iload_n 1, 1) := by decide +kernel
theorem dX8_isOver_86 : decode cX8_isOver 86 = .ok (.aload_n 0, 1) := by decide +kernel
theorem dX8_isOver_87 : decode cX8_isOver 87 = .ok (.getfield 48, 3) := by decide +kernel
theorem dX8_isOver_90 : decode cX8_isOver 90 = .ok (.iload_n 1, 1) := by decide +kernel
theorem dX8_isOver_91 : decode cX8_isOver 91 = .ok (.iaload, 1) := by decide +kernel
theorem dX8_isOver_92 : decode cX8_isOver 92 = .ok (.iload_n 2, 1) := by decide +kernel
theorem dX8_isOver_93 : decode cX8_isOver 93 = .ok (.iconst 1, 1) := by decide +kernel
theorem dX8_isOver_94 : decode cX8_isOver 94 = .ok (.isub, 1) := by decide +kernel
theorem dX8_isOver_95 : decode cX8_isOver 95 = .ok (.bipush 8, 2) := by decide +kernel
theorem dX8_isOver_97 : decode cX8_isOver 97 = .ok (.invokevirtual 174, 3) := by decide +kernel
theorem dX8_isOver_100 : decode cX8_isOver 100 = .ok (.ireturn, 1) := by decide +kernel
theorem dX8_isOver_101 : decode cX8_isOver 101 = .ok (.aload_n 0, 1) := by decide +kernel
theorem dX8_isOver_102 : decode cX8_isOver 102 = .ok (.iload_n 1, 1) := by decide +kernel
theorem dX8_isOver_103 : decode cX8_isOver 103 = .ok (.iload_n 2, 1) := by decide +kernel
theorem dX8_isOver_104 : decode cX8_isOver 104 = .ok (.bipush 8, 2) := by decide +kernel
theorem dX8_isOver_106 : decode cX8_isOver 106 = .ok (.invokevirtual 170, 3) := by decide +kernel
theorem dX8_isOver_109 : decode cX8_isOver 109 = .ok (.ireturn, 1) := by decide +kernel
theorem dX8_finish_0 : decode cX8_finish 0 = .ok (.aload_n 0, 1) := by decide +kernel
theorem dX8_finish_1 : decode cX8_finish 1 = .ok (.getfield 39, 3) := by decide +kernel
theorem dX8_finish_4 : decode cX8_finish 4 = .ok (.iload_n 1, 1) := by decide +kernel
theorem dX8_finish_5 : decode cX8_finish 5 = .ok (.iaload, 1) := by decide +kernel
theorem dX8_finish_6 : decode cX8_finish 6 = .ok (.istore_n 2, 1) := by decide +kernel
theorem dX8_finish_7 : decode cX8_finish 7 = .ok (.aload_n 0, 1) := by decide +kernel
theorem dX8_finish_8 : decode cX8_finish 8 = .ok (.getfield 78, 3) := by decide +kernel
theorem dX8_finish_11 : decode cX8_finish 11 = .ok (.iload_n 2, 1) := by decide +kernel
theorem dX8_finish_12 : decode cX8_finish 12 = .ok (.aload_n 0, 1) := by decide +kernel
theorem dX8_finish_13 : decode cX8_finish 13 = .ok (.getfield 157, 3) := by decide +kernel
theorem dX8_finish_16 : decode cX8_finish 16 = .ok (.iastore, 1) := by decide +kernel
theorem dX8_finish_17 : decode cX8_finish 17 = .ok (.aload_n 0, 1) := by decide +kernel
theorem dX8_finish_18 : decode cX8_finish 18 = .ok (.getfield 69, 3) := by decide +kernel
theorem dX8_finish_21 : decode cX8_finish 21 = .ok (.iload_n 2, 1) := by decide +kernel
theorem dX8_finish_22 : decode cX8_finish 22 = .ok (.iaload, 1) := by decide +kernel
theorem dX8_finish_23 : decode cX8_finish 23 = .ok (.ifCond .ne 39, 3) := by decide +kernel
theorem dX8_finish_26 : decode cX8_finish 26 = .ok (.aload_n 0, 1) := by decide +kernel
theorem dX8_finish_27 : decode cX8_finish 27 = .ok (.getfield 81, 3) := by decide +kernel
theorem dX8_finish_30 : decode cX8_finish 30 = .ok (.iload_n 2, 1) := by decide +kernel
theorem dX8_finish_31 : decode cX8_finish 31 = .ok (.aload_n 0, 1) := by decide +kernel
theorem dX8_finish_32 : decode cX8_finish 32 = .ok (.getfield 60, 3) := by decide +kernel
theorem dX8_finish_35 : decode cX8_finish 35 = .ok (.iload_n 1, 1) := by decide +kernel
theorem dX8_finish_36 : decode cX8_finish 36 = .ok (.iaload, 1) := by decide +kernel
theorem dX8_finish_37 : decode cX8_finish 37 = .ok (.iastore, 1) := by decide +kernel
theorem dX8_finish_38 : decode cX8_finish 38 = .ok (.aload_n 0, 1) := by decide +kernel
theorem dX8_finish_39 : decode cX8_finish 39 = .ok (.getfield 84, 3) := by decide +kernel
theorem dX8_finish_42 : decode cX8_finish 42 = .ok (.iload_n 2, 1) := by decide +kernel
theorem dX8_finish_43 : decode cX8_finish 43 = .ok (.aload_n 0, 1) := by decide +kernel
theorem dX8_finish_44 : decode cX8_finish 44 = .ok (.getfield 63, 3) := by decide +kernel
theorem dX8_finish_47 : decode cX8_finish 47 = .ok (.iload_n 1, 1) := by decide +kernel
theorem dX8_finish_48 : decode cX8_finish 48 = .ok (.iaload, 1) := by decide +kernel
theorem dX8_finish_49 : decode cX8_finish 49 = .ok (.iastore, 1) := by decide +kernel
theorem dX8_finish_50 : decode cX8_finish 50 = .ok (.aload_n 0, 1) := by decide +kernel
theorem dX8_finish_51 : decode cX8_finish 51 = .ok (.getfield 90, 3) := by decide +kernel
theorem dX8_finish_54 : decode cX8_finish 54 = .ok (.iload_n 2, 1) := by decide +kernel
theorem dX8_finish_55 : decode cX8_finish 55 = .ok (.aload_n 0, 1) := by decide +kernel
theorem dX8_finish_56 : decode cX8_finish 56 = .ok (.getfield 66, 3) := by decide +kernel
theorem dX8_finish_59 : decode cX8_finish 59 = .ok (.iload_n 1, 1) := by decide +kernel
theorem dX8_finish_60 : decode cX8_finish 60 = .ok (.laload, 1) := by decide +kernel
theorem dX8_finish_61 : decode cX8_finish 61 = .ok (.lastore, 1) := by decide +kernel
theorem dX8_finish_62 : decode cX8_finish 62 = .ok (.aload_n 0, 1) := by decide +kernel
theorem dX8_finish_63 : decode cX8_finish 63 = .ok (.iload_n 1, 1) := by decide +kernel
theorem dX8_finish_64 : decode cX8_finish 64 = .ok (.invokevirtual 178, 3) := by decide +kernel
theorem dX8_finish_67 : decode cX8_finish 67 = .ok (.return_, 1) := by decide +kernel
theorem dX8_end_0 : decode cX8_end 0 = .ok (.aload_n 0, 1) := by decide +kernel
theorem dX8_end_1 : decode cX8_end 1 = .ok (.getfield 39, 3) := by decide +kernel
theorem dX8_end_4 : decode cX8_end 4 = .ok (.iload_n 1, 1) := by decide +kernel
theorem dX8_end_5 : decode cX8_end 5 = .ok (.iconst (-1), 1) := by decide +kernel
theorem dX8_end_6 : decode cX8_end 6 = .ok (.iastore, 1) := by decide +kernel
theorem dX8_end_7 : decode cX8_end 7 = .ok (.aload_n 0, 1) := by decide +kernel
theorem dX8_end_8 : decode cX8_end 8 = .ok (.getfield 42, 3) := by decide +kernel
theorem dX8_end_11 : decode cX8_end 11 = .ok (.iload_n 1, 1) := by decide +kernel
theorem dX8_end_12 : decode cX8_end 12 = .ok (.iconst 0, 1) := by decide +kernel
theorem dX8_end_13 : decode cX8_end 13 = .ok (.iastore, 1) := by decide +kernel
theorem dX8_end_14 : decode cX8_end 14 = .ok (.aload_n 0, 1) := by decide +kernel
theorem dX8_end_15 : decode cX8_end 15 = .ok (.getfield 57, 3) := by decide +kernel
theorem dX8_end_18 : decode cX8_end 18 = .ok (.iload_n 1, 1) := by decide +kernel
theorem dX8_end_19 : decode cX8_end 19 = .ok (.iconst 0, 1) := by decide +kernel
theorem dX8_end_20 : decode cX8_end 20 = .ok (.iastore, 1) := by decide +kernel
theorem dX8_end_21 : decode cX8_end 21 = .ok (.return_, 1) := by decide +kernel
theorem dX8_goOn_0 : decode cX8_goOn 0 = .ok (.aload_n 0, 1) := by decide +kernel
theorem dX8_goOn_1 : decode cX8_goOn 1 = .ok (.getfield 39, 3) := by decide +kernel
theorem dX8_goOn_4 : decode cX8_goOn 4 = .ok (.iload_n 1, 1) := by decide +kernel
theorem dX8_goOn_5 : decode cX8_goOn 5 = .ok (.iaload, 1) := by decide +kernel
theorem dX8_goOn_6 : decode cX8_goOn 6 = .ok (.istore_n 2, 1) := by decide +kernel
theorem dX8_goOn_7 : decode cX8_goOn 7 = .ok (.aload_n 0, 1) := by decide +kernel
theorem dX8_goOn_8 : decode cX8_goOn 8 = .ok (.getfield 42, 3) := by decide +kernel
theorem dX8_goOn_11 : decode cX8_goOn 11 = .ok (.iload_n 1, 1) := by decide +kernel
theorem dX8_goOn_12 : decode cX8_goOn 12 = .ok (.iaload, 1) := by decide +kernel
theorem dX8_goOn_13 : decode cX8_goOn 13 = .ok (.tableswitch 125 1 4 #[31, 125, 71, 104], 31) := by decide +kernel
theorem dX8_goOn_44 : decode cX8_goOn 44 = .ok (.aload_n 0, 1) := by decide +kernel
theorem dX8_goOn_45 : decode cX8_goOn 45 = .ok (.getfield 69, 3) := by decide +kernel
theorem dX8_goOn_48 : decode cX8_goOn 48 = .ok (.iload_n 2, 1) := by decide +kernel
theorem dX8_goOn_49 : decode cX8_goOn 49 = .ok (.iaload, 1) := by decide +kernel
theorem dX8_goOn_50 : decode cX8_goOn 50 = .ok (.iconst 1, 1) := by decide +kernel
theorem dX8_goOn_51 : decode cX8_goOn 51 = .ok (.if_icmp .ne 24, 3) := by decide +kernel
theorem dX8_goOn_54 : decode cX8_goOn 54 = .ok (.aload_n 0, 1) := by decide +kernel
theorem dX8_goOn_55 : decode cX8_goOn 55 = .ok (.getfield 81, 3) := by decide +kernel
theorem dX8_goOn_58 : decode cX8_goOn 58 = .ok (.iload_n 2, 1) := by decide +kernel
theorem dX8_goOn_59 : decode cX8_goOn 59 = .ok (.aload_n 0, 1) := by decide +kernel
theorem dX8_goOn_60 : decode cX8_goOn 60 = .ok (.getfield 60, 3) := by decide +kernel
theorem dX8_goOn_63 : decode cX8_goOn 63 = .ok (.iload_n 1, 1) := by decide +kernel
theorem dX8_goOn_64 : decode cX8_goOn 64 = .ok (.iaload, 1) := by decide +kernel
theorem dX8_goOn_65 : decode cX8_goOn 65 = .ok (.iconst 1, 1) := by decide +kernel
theorem dX8_goOn_66 : decode cX8_goOn 66 = .ok (.iadd, 1) := by decide +kernel
theorem dX8_goOn_67 : decode cX8_goOn 67 = .ok (.iastore, 1) := by decide +kernel
theorem dX8_goOn_68 : decode cX8_goOn 68 = .ok (.aload_n 0, 1) := by decide +kernel
theorem dX8_goOn_69 : decode cX8_goOn 69 = .ok (.getfield 84, 3) := by decide +kernel
theorem dX8_goOn_72 : decode cX8_goOn 72 = .ok (.iload_n 2, 1) := by decide +kernel
theorem dX8_goOn_73 : decode cX8_goOn 73 = .ok (.iload_n 2, 1) := by decide +kernel
theorem dX8_goOn_74 : decode cX8_goOn 74 = .ok (.iastore, 1) := by decide +kernel
theorem dX8_goOn_75 : decode cX8_goOn 75 = .ok (.aload_n 0, 1) := by decide +kernel
theorem dX8_goOn_76 : decode cX8_goOn 76 = .ok (.iload_n 1, 1) := by decide +kernel
theorem dX8_goOn_77 : decode cX8_goOn 77 = .ok (.iconst 2, 1) := by decide +kernel
theorem dX8_goOn_78 : decode cX8_goOn 78 = .ok (.invokevirtual 160, 3) := by decide +kernel
theorem dX8_goOn_81 : decode cX8_goOn 81 = .ok (.goto 62, 3) := by decide +kernel
theorem dX8_goOn_84 : decode cX8_goOn 84 = .ok (.aload_n 0, 1) := by decide +kernel
theorem dX8_goOn_85 : decode cX8_goOn 85 = .ok (.getfield 81, 3) := by decide +kernel
theorem dX8_goOn_88 : decode cX8_goOn 88 = .ok (.iload_n 2, 1) := by decide +kernel
theorem dX8_goOn_89 : decode cX8_goOn 89 = .ok (.aload_n 0, 1) := by decide +kernel
theorem dX8_goOn_90 : decode cX8_goOn 90 = .ok (.getfield 60, 3) := by decide +kernel
theorem dX8_goOn_93 : decode cX8_goOn 93 = .ok (.iload_n 1, 1) := by decide +kernel
theorem dX8_goOn_94 : decode cX8_goOn 94 = .ok (.iaload, 1) := by decide +kernel
theorem dX8_goOn_95 : decode cX8_goOn 95 = .ok (.iastore, 1) := by decide +kernel
theorem dX8_goOn_96 : decode cX8_goOn 96 = .ok (.aload_n 0, 1) := by decide +kernel
theorem dX8_goOn_97 : decode cX8_goOn 97 = .ok (.getfield 84, 3) := by decide +kernel
theorem dX8_goOn_100 : decode cX8_goOn 100 = .ok (.iload_n 2, 1) := by decide +kernel
theorem dX8_goOn_101 : decode cX8_goOn 101 = .ok (.aload_n 0, 1) := by decide +kernel
theorem dX8_goOn_102 : decode cX8_goOn 102 = .ok (.getfield 63, 3) := by decide +kernel
theorem dX8_goOn_105 : decode cX8_goOn 105 = .ok (.iload_n 1, 1) := by decide +kernel
theorem dX8_goOn_106 : decode cX8_goOn 106 = .ok (.iaload, 1) := by decide +kernel
theorem dX8_goOn_107 : decode cX8_goOn 107 = .ok (.iastore, 1) := by decide +kernel
theorem dX8_goOn_108 : decode cX8_goOn 108 = .ok (.aload_n 0, 1) := by decide +kernel
theorem dX8_goOn_109 : decode cX8_goOn 109 = .ok (.iload_n 1, 1) := by decide +kernel
theorem dX8_goOn_110 : decode cX8_goOn 110 = .ok (.iconst 4, 1) := by decide +kernel
theorem dX8_goOn_111 : decode cX8_goOn 111 = .ok (.invokevirtual 160, 3) := by decide +kernel
theorem dX8_goOn_114 : decode cX8_goOn 114 = .ok (.goto 29, 3) := by decide +kernel
theorem dX8_goOn_117 : decode cX8_goOn 117 = .ok (.aload_n 0, 1) := by decide +kernel
theorem dX8_goOn_118 : decode cX8_goOn 118 = .ok (.getfield 48, 3) := by decide +kernel
theorem dX8_goOn_121 : decode cX8_goOn 121 = .ok (.iload_n 1, 1) := by decide +kernel
theorem dX8_goOn_122 : decode cX8_goOn 122 = .ok (.aload_n 0, 1) := by decide +kernel
theorem dX8_goOn_123 : decode cX8_goOn 123 = .ok (.getfield 87, 3) := by decide +kernel
theorem dX8_goOn_126 : decode cX8_goOn 126 = .ok (.iload_n 2, 1) := by decide +kernel
theorem dX8_goOn_127 : decode cX8_goOn 127 = .ok (.iaload, 1) := by decide +kernel
theorem dX8_goOn_128 : decode cX8_goOn 128 = .ok (.iastore, 1) := by decide +kernel
theorem dX8_goOn_129 : decode cX8_goOn 129 = .ok (.aload_n 0, 1) := by decide +kernel
theorem dX8_goOn_130 : decode cX8_goOn 130 = .ok (.iload_n 1, 1) := by decide +kernel
theorem dX8_goOn_131 : decode cX8_goOn 131 = .ok (.iconst 5, 1) := by decide +kernel
theorem dX8_goOn_132 : decode cX8_goOn 132 = .ok (.invokevirtual 160, 3) := by decide +kernel
theorem dX8_goOn_135 : decode cX8_goOn 135 = .ok (.goto 8, 3) := by decide +kernel
theorem dX8_goOn_138 : decode cX8_goOn 138 = .ok (.aload_n 0, 1) := by decide +kernel
theorem dX8_goOn_139 : decode cX8_goOn 139 = .ok (.iload_n 1, 1) := by decide +kernel
theorem dX8_goOn_140 : decode cX8_goOn 140 = .ok (.invokevirtual 182, 3) := by decide +kernel
theorem dX8_goOn_143 : decode cX8_goOn 143 = .ok (.return_, 1) := by decide +kernel
