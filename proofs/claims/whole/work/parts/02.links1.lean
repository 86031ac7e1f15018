set_option maxRecDepth 20000 in
theorem lz_L : Cond.initialized RL ∈ zU := zU_in 0 (by decide +kernel) (by decide +kernel)
set_option maxRecDepth 20000 in
theorem lz_X7 : Cond.initialized RX7 ∈ zU := zU_in 1 (by decide +kernel) (by decide +kernel)
set_option maxRecDepth 20000 in
theorem lz_J : Cond.initialized "java/lang/Math" ∈ zU := zU_in 2 (by decide +kernel) (by decide +kernel)
set_option maxRecDepth 20000 in
theorem lz_X3 : Cond.initialized RX3 ∈ zU := zU_in 3 (by decide +kernel) (by decide +kernel)
set_option maxRecDepth 20000 in
theorem lz_X6 : Cond.initialized RX6 ∈ zU := zU_in 4 (by decide +kernel) (by decide +kernel)
set_option maxRecDepth 20000 in
theorem lz_X2 : Cond.initialized RX2 ∈ zU := zU_in 5 (by decide +kernel) (by decide +kernel)
set_option maxRecDepth 20000 in
theorem lz_X5 : Cond.initialized RX5 ∈ zU := zU_in 6 (by decide +kernel) (by decide +kernel)
set_option maxRecDepth 20000 in
theorem lz_X1 : Cond.initialized RX1 ∈ zU := zU_in 7 (by decide +kernel) (by decide +kernel)
set_option maxRecDepth 20000 in
theorem lz_X4 : Cond.initialized RX4 ∈ zU := zU_in 8 (by decide +kernel) (by decide +kernel)
set_option maxRecDepth 20000 in
theorem lz_X8 : Cond.initialized RX8 ∈ zU := zU_in 9 (by decide +kernel) (by decide +kernel)
set_option maxRecDepth 20000 in
theorem lz_X0 : Cond.initialized RX0 ∈ zU := zU_in 10 (by decide +kernel) (by decide +kernel)
set_option maxRecDepth 20000 in
theorem lk_L_7 : Cond.classLink RL 7 RX7 ∈ zU := zU_in 11 (by decide +kernel) (by decide +kernel)
set_option maxRecDepth 20000 in
theorem lt_X7 : Cond.instantiable RX7 9 ∈ zU := zU_in 12 (by decide +kernel) (by decide +kernel)
set_option maxRecDepth 20000 in
theorem lm_L_15 : Cond.methodLink RL 15 yX7_init ∈ zU := zU_in 13 (by decide +kernel) (by decide +kernel)
set_option maxRecDepth 20000 in
theorem li_yX7_init : Cond.instanceMethod yX7_init ∈ zU := zU_in 14 (by decide +kernel) (by decide +kernel)
set_option maxRecDepth 20000 in
theorem lc_yX7_init : Cond.code yX7_init prog_1_method_1_code 4 none ∈ zU := zU_in 15 (by decide +kernel) (by decide +kernel)
set_option maxRecDepth 20000 in
theorem lm_X7_1 : Cond.methodLink RX7 1 objectInit ∈ zU := zU_in 16 (by decide +kernel) (by decide +kernel)
set_option maxRecDepth 20000 in
theorem li_objectInit : Cond.instanceMethod objectInit ∈ zU := zU_in 17 (by decide +kernel) (by decide +kernel)
set_option maxRecDepth 20000 in
theorem lc_objectInit : Cond.code objectInit object_method_1_code 1 none ∈ zU := zU_in 18 (by decide +kernel) (by decide +kernel)
set_option maxRecDepth 20000 in
theorem lm_X7_9 : Cond.methodLink RX7 9 (⟨"java/lang/Math", "min", "(II)I"⟩ : MethodName) ∈ zU := zU_in 19 (by decide +kernel) (by decide +kernel)
set_option maxRecDepth 20000 in
theorem ls_J_min : Cond.static (⟨"java/lang/Math", "min", "(II)I"⟩ : MethodName) ∈ zU := zU_in 20 (by decide +kernel) (by decide +kernel)
set_option maxRecDepth 20000 in
theorem lc_J_min : Cond.code (⟨"java/lang/Math", "min", "(II)I"⟩ : MethodName) prog_12_method_69_code 2 (some .int) ∈ zU := zU_in 21 (by decide +kernel) (by decide +kernel)
set_option maxRecDepth 20000 in
theorem lm_X7_15 : Cond.methodLink RX7 15 (⟨"java/lang/Math", "max", "(II)I"⟩ : MethodName) ∈ zU := zU_in 22 (by decide +kernel) (by decide +kernel)
set_option maxRecDepth 20000 in
theorem ls_J_max : Cond.static (⟨"java/lang/Math", "max", "(II)I"⟩ : MethodName) ∈ zU := zU_in 23 (by decide +kernel) (by decide +kernel)
set_option maxRecDepth 20000 in
theorem lc_J_max : Cond.code (⟨"java/lang/Math", "max", "(II)I"⟩ : MethodName) prog_12_method_65_code 2 (some .int) ∈ zU := zU_in 24 (by decide +kernel) (by decide +kernel)
set_option maxRecDepth 20000 in
theorem lk_X7_18 : Cond.classLink RX7 18 RX3 ∈ zU := zU_in 25 (by decide +kernel) (by decide +kernel)
set_option maxRecDepth 20000 in
theorem lt_X3 : Cond.instantiable RX3 5 ∈ zU := zU_in 27 (by decide +kernel) (by decide +kernel)
set_option maxRecDepth 20000 in
theorem li_yX3_init : Cond.instanceMethod yX3_init ∈ zU := zU_in 29 (by decide +kernel) (by decide +kernel)
set_option maxRecDepth 20000 in
theorem lc_yX3_init : Cond.code yX3_init prog_5_method_1_code 1 none ∈ zU := zU_in 30 (by decide +kernel) (by decide +kernel)
set_option maxRecDepth 20000 in
theorem lm_X3_3 : Cond.methodLink RX3 3 objectInit ∈ zU := zU_in 31 (by decide +kernel) (by decide +kernel)
set_option maxRecDepth 20000 in
theorem lk_X3_9 : Cond.classLink RX3 9 RX6 ∈ zU := zU_in 32 (by decide +kernel) (by decide +kernel)
set_option maxRecDepth 20000 in
theorem lt_X6 : Cond.instantiable RX6 3 ∈ zU := zU_in 33 (by decide +kernel) (by decide +kernel)
set_option maxRecDepth 20000 in
theorem li_yX6_init : Cond.instanceMethod yX6_init ∈ zU := zU_in 35 (by decide +kernel) (by decide +kernel)
set_option maxRecDepth 20000 in
theorem lc_yX6_init : Cond.code yX6_init prog_8_method_1_code 1 none ∈ zU := zU_in 36 (by decide +kernel) (by decide +kernel)
set_option maxRecDepth 20000 in
theorem lm_X6_1 : Cond.methodLink RX6 1 objectInit ∈ zU := zU_in 37 (by decide +kernel) (by decide +kernel)
set_option maxRecDepth 20000 in
theorem lf_X6_7 : Cond.fieldLink RX6 7 "VotedFile$Version" "often" "I" ∈ zU := zU_in 38 (by decide +kernel) (by decide +kernel)
set_option maxRecDepth 20000 in
theorem lf_X0_33 : Cond.fieldLink RX0 33 "VotedFile$Version" "often" "I" ∈ zU := zU_in 39 (by decide +kernel) (by decide +kernel)
set_option maxRecDepth 20000 in
theorem lf_X7_176 : Cond.fieldLink RX7 176 "VotedFile$Version" "often" "I" ∈ zU := zU_in 40 (by decide +kernel) (by decide +kernel)
set_option maxRecDepth 20000 in
theorem lf_X0_36 : Cond.fieldLink RX0 36 "VotedFile$Version" "writer" "I" ∈ zU := zU_in 41 (by decide +kernel) (by decide +kernel)
set_option maxRecDepth 20000 in
theorem lf_X6_13 : Cond.fieldLink RX6 13 "VotedFile$Version" "writer" "I" ∈ zU := zU_in 42 (by decide +kernel) (by decide +kernel)
set_option maxRecDepth 20000 in
theorem lf_X7_181 : Cond.fieldLink RX7 181 "VotedFile$Version" "writer" "I" ∈ zU := zU_in 43 (by decide +kernel) (by decide +kernel)
set_option maxRecDepth 20000 in
theorem lf_X6_16 : Cond.fieldLink RX6 16 "VotedFile$Version" "content" "J" ∈ zU := zU_in 44 (by decide +kernel) (by decide +kernel)
set_option maxRecDepth 20000 in
theorem lf_X7_186 : Cond.fieldLink RX7 186 "VotedFile$Version" "content" "J" ∈ zU := zU_in 45 (by decide +kernel) (by decide +kernel)
set_option maxRecDepth 20000 in
theorem la_int : Cond.arrayClass .int ∈ zU := zU_in 53 (by decide +kernel) (by decide +kernel)
set_option maxRecDepth 20000 in
theorem lf_X3_12 : Cond.fieldLink RX3 12 "VotedFile$Copy" "version" "LVotedFile$Version;" ∈ zU := zU_in 54 (by decide +kernel) (by decide +kernel)
set_option maxRecDepth 20000 in
theorem lf_X7_172 : Cond.fieldLink RX7 172 "VotedFile$Copy" "version" "LVotedFile$Version;" ∈ zU := zU_in 55 (by decide +kernel) (by decide +kernel)
set_option maxRecDepth 20000 in
theorem lf_X3_43 : Cond.fieldLink RX3 43 "VotedFile$Copy" "base" "I" ∈ zU := zU_in 56 (by decide +kernel) (by decide +kernel)
set_option maxRecDepth 20000 in
theorem lf_X7_184 : Cond.fieldLink RX7 184 "VotedFile$Copy" "base" "I" ∈ zU := zU_in 57 (by decide +kernel) (by decide +kernel)
set_option maxRecDepth 20000 in
theorem lf_X3_33 : Cond.fieldLink RX3 33 "VotedFile$Copy" "last" "I" ∈ zU := zU_in 58 (by decide +kernel) (by decide +kernel)
set_option maxRecDepth 20000 in
theorem lf_X7_185 : Cond.fieldLink RX7 185 "VotedFile$Copy" "last" "I" ∈ zU := zU_in 59 (by decide +kernel) (by decide +kernel)
set_option maxRecDepth 20000 in
theorem lf_X7_165 : Cond.fieldLink RX7 165 "VotedFile$Copy" "isSilent" "Z" ∈ zU := zU_in 60 (by decide +kernel) (by decide +kernel)
set_option maxRecDepth 20000 in
theorem lf_X7_168 : Cond.fieldLink RX7 168 "VotedFile$Copy" "place" "I" ∈ zU := zU_in 61 (by decide +kernel) (by decide +kernel)
set_option maxRecDepth 20000 in
theorem lk_X7_29 : Cond.classLink RX7 29 RX2 ∈ zU := zU_in 73 (by decide +kernel) (by decide +kernel)
set_option maxRecDepth 20000 in
theorem lt_X2 : Cond.instantiable RX2 9 ∈ zU := zU_in 75 (by decide +kernel) (by decide +kernel)
set_option maxRecDepth 20000 in
theorem lm_X7_35 : Cond.methodLink RX7 35 yX2_init ∈ zU := zU_in 76 (by decide +kernel) (by decide +kernel)
set_option maxRecDepth 20000 in
theorem li_yX2_init : Cond.instanceMethod yX2_init ∈ zU := zU_in 77 (by decide +kernel) (by decide +kernel)
set_option maxRecDepth 20000 in
theorem lc_yX2_init : Cond.code yX2_init prog_4_method_1_code 2 none ∈ zU := zU_in 78 (by decide +kernel) (by decide +kernel)
set_option maxRecDepth 20000 in
theorem lm_X2_3 : Cond.methodLink RX2 3 objectInit ∈ zU := zU_in 79 (by decide +kernel) (by decide +kernel)
set_option maxRecDepth 20000 in
theorem lk_X2_9 : Cond.classLink RX2 9 RX6 ∈ zU := zU_in 80 (by decide +kernel) (by decide +kernel)
set_option maxRecDepth 20000 in
theorem lf_X2_18 : Cond.fieldLink RX2 18 "VotedFile$Client" "number" "I" ∈ zU := zU_in 82 (by decide +kernel) (by decide +kernel)
set_option maxRecDepth 20000 in
theorem lf_X7_245 : Cond.fieldLink RX7 245 "VotedFile$Client" "number" "I" ∈ zU := zU_in 83 (by decide +kernel) (by decide +kernel)
set_option maxRecDepth 20000 in
theorem lf_X2_12 : Cond.fieldLink RX2 12 "VotedFile$Client" "version" "LVotedFile$Version;" ∈ zU := zU_in 84 (by decide +kernel) (by decide +kernel)
set_option maxRecDepth 20000 in
theorem lf_X7_247 : Cond.fieldLink RX7 247 "VotedFile$Client" "version" "LVotedFile$Version;" ∈ zU := zU_in 85 (by decide +kernel) (by decide +kernel)
set_option maxRecDepth 20000 in
theorem lf_X2_70 : Cond.fieldLink RX2 70 "VotedFile$Client" "doing" "LVotedFile$Act;" ∈ zU := zU_in 86 (by decide +kernel) (by decide +kernel)
set_option maxRecDepth 20000 in
theorem lf_X7_105 : Cond.fieldLink RX7 105 "VotedFile$Client" "doing" "LVotedFile$Act;" ∈ zU := zU_in 87 (by decide +kernel) (by decide +kernel)
set_option maxRecDepth 20000 in
theorem lf_X2_58 : Cond.fieldLink RX2 58 "VotedFile$Client" "phase" "I" ∈ zU := zU_in 88 (by decide +kernel) (by decide +kernel)
set_option maxRecDepth 20000 in
theorem lf_X7_189 : Cond.fieldLink RX7 189 "VotedFile$Client" "phase" "I" ∈ zU := zU_in 89 (by decide +kernel) (by decide +kernel)
set_option maxRecDepth 20000 in
theorem lf_X2_36 : Cond.fieldLink RX2 36 "VotedFile$Client" "round" "I" ∈ zU := zU_in 90 (by decide +kernel) (by decide +kernel)
set_option maxRecDepth 20000 in
theorem lf_X7_246 : Cond.fieldLink RX7 246 "VotedFile$Client" "round" "I" ∈ zU := zU_in 91 (by decide +kernel) (by decide +kernel)
set_option maxRecDepth 20000 in
theorem lf_X2_22 : Cond.fieldLink RX2 22 "VotedFile$Client" "answered" "I" ∈ zU := zU_in 92 (by decide +kernel) (by decide +kernel)
set_option maxRecDepth 20000 in
theorem lf_X7_192 : Cond.fieldLink RX7 192 "VotedFile$Client" "answered" "I" ∈ zU := zU_in 93 (by decide +kernel) (by decide +kernel)
set_option maxRecDepth 20000 in
theorem lf_X7_77 : Cond.fieldLink RX7 77 "VotedFile$Client" "base" "I" ∈ zU := zU_in 94 (by decide +kernel) (by decide +kernel)
set_option maxRecDepth 20000 in
theorem lf_X2_44 : Cond.fieldLink RX2 44 "VotedFile$Client" "base" "I" ∈ zU := zU_in 95 (by decide +kernel) (by decide +kernel)
set_option maxRecDepth 20000 in
theorem lf_X7_80 : Cond.fieldLink RX7 80 "VotedFile$Client" "last" "I" ∈ zU := zU_in 96 (by decide +kernel) (by decide +kernel)
set_option maxRecDepth 20000 in
theorem lf_X2_54 : Cond.fieldLink RX2 54 "VotedFile$Client" "last" "I" ∈ zU := zU_in 97 (by decide +kernel) (by decide +kernel)
set_option maxRecDepth 20000 in
theorem lf_X7_171 : Cond.fieldLink RX7 171 "VotedFile$Client" "place" "I" ∈ zU := zU_in 98 (by decide +kernel) (by decide +kernel)
set_option maxRecDepth 20000 in
theorem lk_X7_38 : Cond.classLink RX7 38 RX5 ∈ zU := zU_in 118 (by decide +kernel) (by decide +kernel)
set_option maxRecDepth 20000 in
theorem lt_X5 : Cond.instantiable RX5 3 ∈ zU := zU_in 120 (by decide +kernel) (by decide +kernel)
set_option maxRecDepth 20000 in
theorem lm_X7_44 : Cond.methodLink RX7 44 (⟨"[I", "clone", "()Ljava/lang/Object;"⟩ : MethodName) ∈ zU := zU_in 121 (by decide +kernel) (by decide +kernel)
set_option maxRecDepth 20000 in
theorem lb_clone : Cond.sameMethod "[I" "java/lang/Object" "clone" "()Ljava/lang/Object;" ∈ zU := zU_in 122 (by decide +kernel) (by decide +kernel)
set_option maxRecDepth 20000 in
theorem ln_J_clone : Cond.native (⟨"java/lang/Object", "clone", "()Ljava/lang/Object;"⟩ : MethodName) ∈ zU := zU_in 123 (by decide +kernel) (by decide +kernel)
set_option maxRecDepth 20000 in
theorem li_J_clone : Cond.instanceMethod (⟨"java/lang/Object", "clone", "()Ljava/lang/Object;"⟩ : MethodName) ∈ zU := zU_in 124 (by decide +kernel) (by decide +kernel)
set_option maxRecDepth 20000 in
theorem le_clone : Cond.selects "[I" (⟨"[I", "clone", "()Ljava/lang/Object;"⟩ : MethodName) (⟨"java/lang/Object", "clone", "()Ljava/lang/Object;"⟩ : MethodName) ∈ zU := zU_in 125 (by decide +kernel) (by decide +kernel)
set_option maxRecDepth 20000 in
theorem lk_X7_45 : Cond.classLink RX7 45 "[I" ∈ zU := zU_in 127 (by decide +kernel) (by decide +kernel)
set_option maxRecDepth 20000 in
theorem lm_X7_49 : Cond.methodLink RX7 49 yX5_init ∈ zU := zU_in 128 (by decide +kernel) (by decide +kernel)
set_option maxRecDepth 20000 in
theorem li_yX5_init : Cond.instanceMethod yX5_init ∈ zU := zU_in 129 (by decide +kernel) (by decide +kernel)
set_option maxRecDepth 20000 in
theorem lc_yX5_init : Cond.code yX5_init prog_7_method_1_code 4 none ∈ zU := zU_in 130 (by decide +kernel) (by decide +kernel)
set_option maxRecDepth 20000 in
theorem lm_X5_1 : Cond.methodLink RX5 1 objectInit ∈ zU := zU_in 131 (by decide +kernel) (by decide +kernel)
set_option maxRecDepth 20000 in
theorem lf_X5_7 : Cond.fieldLink RX5 7 "VotedFile$Table" "shares" "[I" ∈ zU := zU_in 132 (by decide +kernel) (by decide +kernel)
set_option maxRecDepth 20000 in
theorem lf_X7_233 : Cond.fieldLink RX7 233 "VotedFile$Table" "shares" "[I" ∈ zU := zU_in 133 (by decide +kernel) (by decide +kernel)
set_option maxRecDepth 20000 in
theorem lf_X5_13 : Cond.fieldLink RX5 13 "VotedFile$Table" "\x72" "I" ∈ zU := zU_in 134 (by decide +kernel) (by decide +kernel)
set_option maxRecDepth 20000 in
theorem lf_X7_236 : Cond.fieldLink RX7 236 "VotedFile$Table" "\x72" "I" ∈ zU := zU_in 135 (by decide +kernel) (by decide +kernel)
set_option maxRecDepth 20000 in
theorem lf_X5_17 : Cond.fieldLink RX5 17 "VotedFile$Table" "w" "I" ∈ zU := zU_in 136 (by decide +kernel) (by decide +kernel)
set_option maxRecDepth 20000 in
theorem lf_X7_239 : Cond.fieldLink RX7 239 "VotedFile$Table" "w" "I" ∈ zU := zU_in 137 (by decide +kernel) (by decide +kernel)
set_option maxRecDepth 20000 in
theorem lk_X7_56 : Cond.classLink RX7 56 RX0 ∈ zU := zU_in 145 (by decide +kernel) (by decide +kernel)
set_option maxRecDepth 20000 in
theorem lk_X7_62 : Cond.classLink RX7 62 RX1 ∈ zU := zU_in 147 (by decide +kernel) (by decide +kernel)
set_option maxRecDepth 20000 in
theorem lt_X1 : Cond.instantiable RX1 4 ∈ zU := zU_in 148 (by decide +kernel) (by decide +kernel)
set_option maxRecDepth 20000 in
theorem lm_X7_64 : Cond.methodLink RX7 64 yX1_init ∈ zU := zU_in 149 (by decide +kernel) (by decide +kernel)
set_option maxRecDepth 20000 in
theorem li_yX1_init : Cond.instanceMethod yX1_init ∈ zU := zU_in 150 (by decide +kernel) (by decide +kernel)
set_option maxRecDepth 20000 in
theorem lc_yX1_init : Cond.code yX1_init prog_3_method_1_code 2 none ∈ zU := zU_in 151 (by decide +kernel) (by decide +kernel)
set_option maxRecDepth 20000 in
theorem lm_X1_3 : Cond.methodLink RX1 3 objectInit ∈ zU := zU_in 152 (by decide +kernel) (by decide +kernel)
set_option maxRecDepth 20000 in
theorem lk_X1_9 : Cond.classLink RX1 9 RX4 ∈ zU := zU_in 153 (by decide +kernel) (by decide +kernel)
set_option maxRecDepth 20000 in
theorem lt_X4 : Cond.instantiable RX4 9 ∈ zU := zU_in 155 (by decide +kernel) (by decide +kernel)
set_option maxRecDepth 20000 in
theorem li_yX4_init : Cond.instanceMethod yX4_init ∈ zU := zU_in 157 (by decide +kernel) (by decide +kernel)
set_option maxRecDepth 20000 in
theorem lc_yX4_init : Cond.code yX4_init prog_6_method_1_code 1 none ∈ zU := zU_in 158 (by decide +kernel) (by decide +kernel)
set_option maxRecDepth 20000 in
theorem lm_X4_1 : Cond.methodLink RX4 1 objectInit ∈ zU := zU_in 159 (by decide +kernel) (by decide +kernel)
set_option maxRecDepth 20000 in
theorem lk_X4_7 : Cond.classLink RX4 7 RX6 ∈ zU := zU_in 160 (by decide +kernel) (by decide +kernel)
set_option maxRecDepth 20000 in
theorem lf_X4_10 : Cond.fieldLink RX4 10 "VotedFile$Message" "version" "LVotedFile$Version;" ∈ zU := zU_in 162 (by decide +kernel) (by decide +kernel)
set_option maxRecDepth 20000 in
theorem lf_X3_24 : Cond.fieldLink RX3 24 "VotedFile$Message" "version" "LVotedFile$Version;" ∈ zU := zU_in 163 (by decide +kernel) (by decide +kernel)
set_option maxRecDepth 20000 in
theorem lf_X2_61 : Cond.fieldLink RX2 61 "VotedFile$Message" "version" "LVotedFile$Version;" ∈ zU := zU_in 164 (by decide +kernel) (by decide +kernel)
set_option maxRecDepth 20000 in
theorem lf_X7_205 : Cond.fieldLink RX7 205 "VotedFile$Message" "version" "LVotedFile$Version;" ∈ zU := zU_in 165 (by decide +kernel) (by decide +kernel)
set_option maxRecDepth 20000 in
theorem lf_X4_16 : Cond.fieldLink RX4 16 "VotedFile$Message" "isAnswer" "Z" ∈ zU := zU_in 166 (by decide +kernel) (by decide +kernel)
set_option maxRecDepth 20000 in
theorem lf_X7_134 : Cond.fieldLink RX7 134 "VotedFile$Message" "isAnswer" "Z" ∈ zU := zU_in 167 (by decide +kernel) (by decide +kernel)
set_option maxRecDepth 20000 in
theorem lf_X4_20 : Cond.fieldLink RX4 20 "VotedFile$Message" "copyNumber" "I" ∈ zU := zU_in 168 (by decide +kernel) (by decide +kernel)
set_option maxRecDepth 20000 in
theorem lf_X2_37 : Cond.fieldLink RX2 37 "VotedFile$Message" "copyNumber" "I" ∈ zU := zU_in 169 (by decide +kernel) (by decide +kernel)
set_option maxRecDepth 20000 in
theorem lf_X7_195 : Cond.fieldLink RX7 195 "VotedFile$Message" "copyNumber" "I" ∈ zU := zU_in 170 (by decide +kernel) (by decide +kernel)
set_option maxRecDepth 20000 in
theorem lf_X4_24 : Cond.fieldLink RX4 24 "VotedFile$Message" "clientNumber" "I" ∈ zU := zU_in 171 (by decide +kernel) (by decide +kernel)
set_option maxRecDepth 20000 in
theorem lf_X7_198 : Cond.fieldLink RX7 198 "VotedFile$Message" "clientNumber" "I" ∈ zU := zU_in 172 (by decide +kernel) (by decide +kernel)
set_option maxRecDepth 20000 in
theorem lf_X4_27 : Cond.fieldLink RX4 27 "VotedFile$Message" "actNumber" "I" ∈ zU := zU_in 173 (by decide +kernel) (by decide +kernel)
set_option maxRecDepth 20000 in
theorem lf_X2_25 : Cond.fieldLink RX2 25 "VotedFile$Message" "actNumber" "I" ∈ zU := zU_in 174 (by decide +kernel) (by decide +kernel)
set_option maxRecDepth 20000 in
theorem lf_X7_201 : Cond.fieldLink RX7 201 "VotedFile$Message" "actNumber" "I" ∈ zU := zU_in 175 (by decide +kernel) (by decide +kernel)
set_option maxRecDepth 20000 in
theorem lf_X3_18 : Cond.fieldLink RX3 18 "VotedFile$Message" "phase" "I" ∈ zU := zU_in 176 (by decide +kernel) (by decide +kernel)
set_option maxRecDepth 20000 in
theorem lf_X4_30 : Cond.fieldLink RX4 30 "VotedFile$Message" "phase" "I" ∈ zU := zU_in 177 (by decide +kernel) (by decide +kernel)
set_option maxRecDepth 20000 in
theorem lf_X7_204 : Cond.fieldLink RX7 204 "VotedFile$Message" "phase" "I" ∈ zU := zU_in 178 (by decide +kernel) (by decide +kernel)
set_option maxRecDepth 20000 in
theorem lf_X4_33 : Cond.fieldLink RX4 33 "VotedFile$Message" "round" "I" ∈ zU := zU_in 179 (by decide +kernel) (by decide +kernel)
set_option maxRecDepth 20000 in
theorem lf_X2_33 : Cond.fieldLink RX2 33 "VotedFile$Message" "round" "I" ∈ zU := zU_in 180 (by decide +kernel) (by decide +kernel)
set_option maxRecDepth 20000 in
theorem lf_X7_207 : Cond.fieldLink RX7 207 "VotedFile$Message" "round" "I" ∈ zU := zU_in 181 (by decide +kernel) (by decide +kernel)
set_option maxRecDepth 20000 in
theorem lf_X4_36 : Cond.fieldLink RX4 36 "VotedFile$Message" "base" "I" ∈ zU := zU_in 182 (by decide +kernel) (by decide +kernel)
set_option maxRecDepth 20000 in
theorem lf_X2_47 : Cond.fieldLink RX2 47 "VotedFile$Message" "base" "I" ∈ zU := zU_in 183 (by decide +kernel) (by decide +kernel)
set_option maxRecDepth 20000 in
theorem lf_X7_262 : Cond.fieldLink RX7 262 "VotedFile$Message" "base" "I" ∈ zU := zU_in 184 (by decide +kernel) (by decide +kernel)
set_option maxRecDepth 20000 in
theorem lf_X4_39 : Cond.fieldLink RX4 39 "VotedFile$Message" "last" "I" ∈ zU := zU_in 185 (by decide +kernel) (by decide +kernel)
set_option maxRecDepth 20000 in
theorem lf_X3_36 : Cond.fieldLink RX3 36 "VotedFile$Message" "last" "I" ∈ zU := zU_in 186 (by decide +kernel) (by decide +kernel)
set_option maxRecDepth 20000 in
theorem lf_X2_57 : Cond.fieldLink RX2 57 "VotedFile$Message" "last" "I" ∈ zU := zU_in 187 (by decide +kernel) (by decide +kernel)
set_option maxRecDepth 20000 in
theorem lf_X7_206 : Cond.fieldLink RX7 206 "VotedFile$Message" "last" "I" ∈ zU := zU_in 188 (by decide +kernel) (by decide +kernel)
set_option maxRecDepth 20000 in
theorem lf_X1_11 : Cond.fieldLink RX1 11 "VotedFile$Air" "rows" "[LVotedFile$Message;" ∈ zU := zU_in 208 (by decide +kernel) (by decide +kernel)
set_option maxRecDepth 20000 in
theorem lf_X1_18 : Cond.fieldLink RX1 18 "VotedFile$Air" "taken" "LVotedFile$Message;" ∈ zU := zU_in 209 (by decide +kernel) (by decide +kernel)
set_option maxRecDepth 20000 in
theorem lf_X1_22 : Cond.fieldLink RX1 22 "VotedFile$Air" "count" "I" ∈ zU := zU_in 210 (by decide +kernel) (by decide +kernel)
set_option maxRecDepth 20000 in
theorem lf_X7_148 : Cond.fieldLink RX7 148 "VotedFile$Air" "count" "I" ∈ zU := zU_in 211 (by decide +kernel) (by decide +kernel)
set_option maxRecDepth 20000 in
theorem lf_X1_26 : Cond.fieldLink RX1 26 "VotedFile$Air" "lost" "I" ∈ zU := zU_in 212 (by decide +kernel) (by decide +kernel)
set_option maxRecDepth 20000 in
theorem lf_X7_242 : Cond.fieldLink RX7 242 "VotedFile$Air" "lost" "I" ∈ zU := zU_in 213 (by decide +kernel) (by decide +kernel)
set_option maxRecDepth 20000 in
theorem lf_X7_20 : Cond.fieldLink RX7 20 "VotedFile" "copies" "[LVotedFile$Copy;" ∈ zU := zU_in 223 (by decide +kernel) (by decide +kernel)
set_option maxRecDepth 20000 in
theorem lf_X7_31 : Cond.fieldLink RX7 31 "VotedFile" "clients" "[LVotedFile$Client;" ∈ zU := zU_in 224 (by decide +kernel) (by decide +kernel)
set_option maxRecDepth 20000 in
theorem lf_X7_40 : Cond.fieldLink RX7 40 "VotedFile" "tables" "[LVotedFile$Table;" ∈ zU := zU_in 225 (by decide +kernel) (by decide +kernel)
set_option maxRecDepth 20000 in
theorem lf_X7_58 : Cond.fieldLink RX7 58 "VotedFile" "acts" "[LVotedFile$Act;" ∈ zU := zU_in 226 (by decide +kernel) (by decide +kernel)
set_option maxRecDepth 20000 in
theorem lf_X7_65 : Cond.fieldLink RX7 65 "VotedFile" "air" "LVotedFile$Air;" ∈ zU := zU_in 227 (by decide +kernel) (by decide +kernel)
set_option maxRecDepth 20000 in
theorem lf_X7_24 : Cond.fieldLink RX7 24 "VotedFile" "votesOfNext" "[I" ∈ zU := zU_in 228 (by decide +kernel) (by decide +kernel)
set_option maxRecDepth 20000 in
theorem lf_X7_52 : Cond.fieldLink RX7 52 "VotedFile" "tableCount" "I" ∈ zU := zU_in 229 (by decide +kernel) (by decide +kernel)
set_option maxRecDepth 20000 in
theorem lf_X7_91 : Cond.fieldLink RX7 91 "VotedFile" "actCount" "I" ∈ zU := zU_in 230 (by decide +kernel) (by decide +kernel)
set_option maxRecDepth 20000 in
theorem lf_X7_113 : Cond.fieldLink RX7 113 "VotedFile" "clock" "I" ∈ zU := zU_in 231 (by decide +kernel) (by decide +kernel)
set_option maxRecDepth 20000 in
theorem lm_L_21 : Cond.methodLink RL 21 yX7_votes ∈ zU := zU_in 251 (by decide +kernel) (by decide +kernel)
set_option maxRecDepth 20000 in
theorem li_yX7_votes : Cond.instanceMethod yX7_votes ∈ zU := zU_in 252 (by decide +kernel) (by decide +kernel)
set_option maxRecDepth 20000 in
theorem le_yX7_votes : Cond.selects RX7 yX7_votes yX7_votes ∈ zU := zU_in 253 (by decide +kernel) (by decide +kernel)
set_option maxRecDepth 20000 in
theorem lc_yX7_votes : Cond.code yX7_votes prog_1_method_2_code 3 (some .boolean) ∈ zU := zU_in 254 (by decide +kernel) (by decide +kernel)
set_option maxRecDepth 20000 in
theorem lm_L_26 : Cond.methodLink RL 26 yX7_change ∈ zU := zU_in 255 (by decide +kernel) (by decide +kernel)
set_option maxRecDepth 20000 in
theorem li_yX7_change : Cond.instanceMethod yX7_change ∈ zU := zU_in 256 (by decide +kernel) (by decide +kernel)
set_option maxRecDepth 20000 in
theorem le_yX7_change : Cond.selects RX7 yX7_change yX7_change ∈ zU := zU_in 257 (by decide +kernel) (by decide +kernel)
set_option maxRecDepth 20000 in
theorem lc_yX7_change : Cond.code yX7_change prog_1_method_3_code 5 (some .int) ∈ zU := zU_in 258 (by decide +kernel) (by decide +kernel)
set_option maxRecDepth 20000 in
theorem lm_X7_69 : Cond.methodLink RX7 69 yX7_clientAt ∈ zU := zU_in 259 (by decide +kernel) (by decide +kernel)
set_option maxRecDepth 20000 in
theorem li_yX7_clientAt : Cond.instanceMethod yX7_clientAt ∈ zU := zU_in 261 (by decide +kernel) (by decide +kernel)
set_option maxRecDepth 20000 in
theorem lc_yX7_clientAt : Cond.code yX7_clientAt prog_1_method_24_code 2 (some (.object "VotedFile$Client")) ∈ zU := zU_in 262 (by decide +kernel) (by decide +kernel)
set_option maxRecDepth 20000 in
theorem lm_X7_73 : Cond.methodLink RX7 73 yX7_canBegin ∈ zU := zU_in 263 (by decide +kernel) (by decide +kernel)
set_option maxRecDepth 20000 in
theorem li_yX7_canBegin : Cond.instanceMethod yX7_canBegin ∈ zU := zU_in 265 (by decide +kernel) (by decide +kernel)
set_option maxRecDepth 20000 in
theorem lc_yX7_canBegin : Cond.code yX7_canBegin prog_1_method_27_code 2 (some .boolean) ∈ zU := zU_in 266 (by decide +kernel) (by decide +kernel)
set_option maxRecDepth 20000 in
theorem lm_X7_83 : Cond.methodLink RX7 83 yX5_canBe ∈ zU := zU_in 267 (by decide +kernel) (by decide +kernel)
set_option maxRecDepth 20000 in
theorem ls_yX5_canBe : Cond.static yX5_canBe ∈ zU := zU_in 268 (by decide +kernel) (by decide +kernel)
set_option maxRecDepth 20000 in
theorem lc_yX5_canBe : Cond.code yX5_canBe prog_7_method_2_code 4 (some .boolean) ∈ zU := zU_in 269 (by decide +kernel) (by decide +kernel)
set_option maxRecDepth 20000 in
theorem lm_X5_20 : Cond.methodLink RX5 20 yX5_sum ∈ zU := zU_in 270 (by decide +kernel) (by decide +kernel)
set_option maxRecDepth 20000 in
theorem ls_yX5_sum : Cond.static yX5_sum ∈ zU := zU_in 271 (by decide +kernel) (by decide +kernel)
set_option maxRecDepth 20000 in
theorem lc_yX5_sum : Cond.code yX5_sum prog_7_method_3_code 4 (some .int) ∈ zU := zU_in 272 (by decide +kernel) (by decide +kernel)
set_option maxRecDepth 20000 in
theorem lm_X7_87 : Cond.methodLink RX7 87 yX7_beginChange ∈ zU := zU_in 273 (by decide +kernel) (by decide +kernel)
set_option maxRecDepth 20000 in
theorem li_yX7_beginChange : Cond.instanceMethod yX7_beginChange ∈ zU := zU_in 275 (by decide +kernel) (by decide +kernel)
set_option maxRecDepth 20000 in
theorem lc_yX7_beginChange : Cond.code yX7_beginChange prog_1_method_28_code 4 (some .int) ∈ zU := zU_in 276 (by decide +kernel) (by decide +kernel)
set_option maxRecDepth 20000 in
theorem lt_X0 : Cond.instantiable RX0 9 ∈ zU := zU_in 277 (by decide +kernel) (by decide +kernel)
set_option maxRecDepth 20000 in
theorem lm_X7_94 : Cond.methodLink RX7 94 yX0_init ∈ zU := zU_in 278 (by decide +kernel) (by decide +kernel)
set_option maxRecDepth 20000 in
theorem li_yX0_init : Cond.instanceMethod yX0_init ∈ zU := zU_in 279 (by decide +kernel) (by decide +kernel)
set_option maxRecDepth 20000 in
theorem lc_yX0_init : Cond.code yX0_init prog_2_method_1_code 4 none ∈ zU := zU_in 280 (by decide +kernel) (by decide +kernel)
set_option maxRecDepth 20000 in
theorem lm_X0_3 : Cond.methodLink RX0 3 objectInit ∈ zU := zU_in 281 (by decide +kernel) (by decide +kernel)
set_option maxRecDepth 20000 in
theorem lf_X0_24 : Cond.fieldLink RX0 24 "VotedFile$Act" "number" "I" ∈ zU := zU_in 282 (by decide +kernel) (by decide +kernel)
set_option maxRecDepth 20000 in
theorem lf_X2_30 : Cond.fieldLink RX2 30 "VotedFile$Act" "number" "I" ∈ zU := zU_in 283 (by decide +kernel) (by decide +kernel)
set_option maxRecDepth 20000 in
theorem lf_X7_119 : Cond.fieldLink RX7 119 "VotedFile$Act" "number" "I" ∈ zU := zU_in 284 (by decide +kernel) (by decide +kernel)
set_option maxRecDepth 20000 in
theorem lf_X0_27 : Cond.fieldLink RX0 27 "VotedFile$Act" "kind" "I" ∈ zU := zU_in 285 (by decide +kernel) (by decide +kernel)
set_option maxRecDepth 20000 in
theorem lf_X7_214 : Cond.fieldLink RX7 214 "VotedFile$Act" "kind" "I" ∈ zU := zU_in 286 (by decide +kernel) (by decide +kernel)
set_option maxRecDepth 20000 in
theorem lf_X0_30 : Cond.fieldLink RX0 30 "VotedFile$Act" "clientNumber" "I" ∈ zU := zU_in 287 (by decide +kernel) (by decide +kernel)
set_option maxRecDepth 20000 in
theorem lf_X7_217 : Cond.fieldLink RX7 217 "VotedFile$Act" "clientNumber" "I" ∈ zU := zU_in 288 (by decide +kernel) (by decide +kernel)
set_option maxRecDepth 20000 in
theorem lf_X7_218 : Cond.fieldLink RX7 218 "VotedFile$Act" "began" "I" ∈ zU := zU_in 289 (by decide +kernel) (by decide +kernel)
set_option maxRecDepth 20000 in
theorem lf_X0_9 : Cond.fieldLink RX0 9 "VotedFile$Act" "ended" "I" ∈ zU := zU_in 290 (by decide +kernel) (by decide +kernel)
set_option maxRecDepth 20000 in
theorem lf_X7_221 : Cond.fieldLink RX7 221 "VotedFile$Act" "ended" "I" ∈ zU := zU_in 291 (by decide +kernel) (by decide +kernel)
set_option maxRecDepth 20000 in
theorem lf_X0_15 : Cond.fieldLink RX0 15 "VotedFile$Act" "often" "I" ∈ zU := zU_in 292 (by decide +kernel) (by decide +kernel)
set_option maxRecDepth 20000 in
theorem lf_X7_224 : Cond.fieldLink RX7 224 "VotedFile$Act" "often" "I" ∈ zU := zU_in 293 (by decide +kernel) (by decide +kernel)
set_option maxRecDepth 20000 in
theorem lf_X0_18 : Cond.fieldLink RX0 18 "VotedFile$Act" "writer" "I" ∈ zU := zU_in 294 (by decide +kernel) (by decide +kernel)
set_option maxRecDepth 20000 in
theorem lf_X7_225 : Cond.fieldLink RX7 225 "VotedFile$Act" "writer" "I" ∈ zU := zU_in 295 (by decide +kernel) (by decide +kernel)
set_option maxRecDepth 20000 in
theorem lf_X0_21 : Cond.fieldLink RX0 21 "VotedFile$Act" "target" "I" ∈ zU := zU_in 296 (by decide +kernel) (by decide +kernel)
set_option maxRecDepth 20000 in
theorem lf_X7_226 : Cond.fieldLink RX7 226 "VotedFile$Act" "target" "I" ∈ zU := zU_in 297 (by decide +kernel) (by decide +kernel)
set_option maxRecDepth 20000 in
theorem lf_X7_101 : Cond.fieldLink RX7 101 "VotedFile$Act" "result" "J" ∈ zU := zU_in 298 (by decide +kernel) (by decide +kernel)
set_option maxRecDepth 20000 in
theorem lm_X7_97 : Cond.methodLink RX7 97 yX7_beginAct ∈ zU := zU_in 318 (by decide +kernel) (by decide +kernel)
set_option maxRecDepth 20000 in
theorem li_yX7_beginAct : Cond.instanceMethod yX7_beginAct ∈ zU := zU_in 320 (by decide +kernel) (by decide +kernel)
set_option maxRecDepth 20000 in
theorem lc_yX7_beginAct : Cond.code yX7_beginAct prog_1_method_29_code 4 (some .int) ∈ zU := zU_in 321 (by decide +kernel) (by decide +kernel)
set_option maxRecDepth 20000 in
theorem lm_X7_248 : Cond.methodLink RX7 248 yX6_put ∈ zU := zU_in 322 (by decide +kernel) (by decide +kernel)
set_option maxRecDepth 20000 in
theorem li_yX6_put : Cond.instanceMethod yX6_put ∈ zU := zU_in 323 (by decide +kernel) (by decide +kernel)
