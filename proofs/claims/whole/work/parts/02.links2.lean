set_option maxRecDepth 20000 in
theorem le_yX6_put : Cond.selects RX6 yX6_put yX6_put ∈ zU := zU_in 324 (by decide +kernel) (by decide +kernel)
set_option maxRecDepth 20000 in
theorem lc_yX6_put : Cond.code yX6_put prog_8_method_3_code 5 none ∈ zU := zU_in 325 (by decide +kernel) (by decide +kernel)
set_option maxRecDepth 20000 in
theorem lm_X7_252 : Cond.methodLink RX7 252 yX7_beginPhase ∈ zU := zU_in 326 (by decide +kernel) (by decide +kernel)
set_option maxRecDepth 20000 in
theorem li_yX7_beginPhase : Cond.instanceMethod yX7_beginPhase ∈ zU := zU_in 328 (by decide +kernel) (by decide +kernel)
set_option maxRecDepth 20000 in
theorem lc_yX7_beginPhase : Cond.code yX7_beginPhase prog_1_method_30_code 4 none ∈ zU := zU_in 329 (by decide +kernel) (by decide +kernel)
set_option maxRecDepth 20000 in
theorem lm_X7_109 : Cond.methodLink RX7 109 yX7_sendRequests ∈ zU := zU_in 330 (by decide +kernel) (by decide +kernel)
set_option maxRecDepth 20000 in
theorem li_yX7_sendRequests : Cond.instanceMethod yX7_sendRequests ∈ zU := zU_in 332 (by decide +kernel) (by decide +kernel)
set_option maxRecDepth 20000 in
theorem lc_yX7_sendRequests : Cond.code yX7_sendRequests prog_1_method_31_code 5 (some .int) ∈ zU := zU_in 333 (by decide +kernel) (by decide +kernel)
set_option maxRecDepth 20000 in
theorem lm_X7_256 : Cond.methodLink RX7 256 yX2_hasAnswerOf ∈ zU := zU_in 334 (by decide +kernel) (by decide +kernel)
set_option maxRecDepth 20000 in
theorem li_yX2_hasAnswerOf : Cond.instanceMethod yX2_hasAnswerOf ∈ zU := zU_in 335 (by decide +kernel) (by decide +kernel)
set_option maxRecDepth 20000 in
theorem le_yX2_hasAnswerOf : Cond.selects RX2 yX2_hasAnswerOf yX2_hasAnswerOf ∈ zU := zU_in 336 (by decide +kernel) (by decide +kernel)
set_option maxRecDepth 20000 in
theorem lc_yX2_hasAnswerOf : Cond.code yX2_hasAnswerOf prog_4_method_2_code 2 (some .boolean) ∈ zU := zU_in 337 (by decide +kernel) (by decide +kernel)
set_option maxRecDepth 20000 in
theorem lm_X7_259 : Cond.methodLink RX7 259 yX7_sendRequest ∈ zU := zU_in 338 (by decide +kernel) (by decide +kernel)
set_option maxRecDepth 20000 in
theorem li_yX7_sendRequest : Cond.instanceMethod yX7_sendRequest ∈ zU := zU_in 340 (by decide +kernel) (by decide +kernel)
set_option maxRecDepth 20000 in
theorem lc_yX7_sendRequest : Cond.code yX7_sendRequest prog_1_method_32_code 6 none ∈ zU := zU_in 341 (by decide +kernel) (by decide +kernel)
set_option maxRecDepth 20000 in
theorem lm_X7_154 : Cond.methodLink RX7 154 yX1_next ∈ zU := zU_in 342 (by decide +kernel) (by decide +kernel)
set_option maxRecDepth 20000 in
theorem li_yX1_next : Cond.instanceMethod yX1_next ∈ zU := zU_in 343 (by decide +kernel) (by decide +kernel)
set_option maxRecDepth 20000 in
theorem le_yX1_next : Cond.selects RX1 yX1_next yX1_next ∈ zU := zU_in 344 (by decide +kernel) (by decide +kernel)
set_option maxRecDepth 20000 in
theorem lc_yX1_next : Cond.code yX1_next prog_3_method_3_code 2 (some (.object "VotedFile$Message")) ∈ zU := zU_in 345 (by decide +kernel) (by decide +kernel)
set_option maxRecDepth 20000 in
theorem lm_X7_263 : Cond.methodLink RX7 263 yX6_set ∈ zU := zU_in 346 (by decide +kernel) (by decide +kernel)
set_option maxRecDepth 20000 in
theorem li_yX6_set : Cond.instanceMethod yX6_set ∈ zU := zU_in 347 (by decide +kernel) (by decide +kernel)
set_option maxRecDepth 20000 in
theorem le_yX6_set : Cond.selects RX6 yX6_set yX6_set ∈ zU := zU_in 348 (by decide +kernel) (by decide +kernel)
set_option maxRecDepth 20000 in
theorem lc_yX6_set : Cond.code yX6_set prog_8_method_4_code 2 none ∈ zU := zU_in 349 (by decide +kernel) (by decide +kernel)
set_option maxRecDepth 20000 in
theorem lm_L_31 : Cond.methodLink RL 31 yX7_resume ∈ zU := zU_in 350 (by decide +kernel) (by decide +kernel)
set_option maxRecDepth 20000 in
theorem li_yX7_resume : Cond.instanceMethod yX7_resume ∈ zU := zU_in 351 (by decide +kernel) (by decide +kernel)
set_option maxRecDepth 20000 in
theorem le_yX7_resume : Cond.selects RX7 yX7_resume yX7_resume ∈ zU := zU_in 352 (by decide +kernel) (by decide +kernel)
set_option maxRecDepth 20000 in
theorem lc_yX7_resume : Cond.code yX7_resume prog_1_method_4_code 2 (some .int) ∈ zU := zU_in 353 (by decide +kernel) (by decide +kernel)
set_option maxRecDepth 20000 in
theorem lm_L_36 : Cond.methodLink RL 36 yX7_read ∈ zU := zU_in 354 (by decide +kernel) (by decide +kernel)
set_option maxRecDepth 20000 in
theorem li_yX7_read : Cond.instanceMethod yX7_read ∈ zU := zU_in 355 (by decide +kernel) (by decide +kernel)
set_option maxRecDepth 20000 in
theorem le_yX7_read : Cond.selects RX7 yX7_read yX7_read ∈ zU := zU_in 356 (by decide +kernel) (by decide +kernel)
set_option maxRecDepth 20000 in
theorem lc_yX7_read : Cond.code yX7_read prog_1_method_5_code 3 (some .int) ∈ zU := zU_in 357 (by decide +kernel) (by decide +kernel)
set_option maxRecDepth 20000 in
theorem lm_L_43 : Cond.methodLink RL 43 yX7_write ∈ zU := zU_in 358 (by decide +kernel) (by decide +kernel)
set_option maxRecDepth 20000 in
theorem li_yX7_write : Cond.instanceMethod yX7_write ∈ zU := zU_in 359 (by decide +kernel) (by decide +kernel)
set_option maxRecDepth 20000 in
theorem le_yX7_write : Cond.selects RX7 yX7_write yX7_write ∈ zU := zU_in 360 (by decide +kernel) (by decide +kernel)
set_option maxRecDepth 20000 in
theorem lc_yX7_write : Cond.code yX7_write prog_1_method_6_code 6 (some .int) ∈ zU := zU_in 361 (by decide +kernel) (by decide +kernel)
set_option maxRecDepth 20000 in
theorem lm_L_48 : Cond.methodLink RL 48 yX7_again ∈ zU := zU_in 362 (by decide +kernel) (by decide +kernel)
set_option maxRecDepth 20000 in
theorem li_yX7_again : Cond.instanceMethod yX7_again ∈ zU := zU_in 363 (by decide +kernel) (by decide +kernel)
set_option maxRecDepth 20000 in
theorem le_yX7_again : Cond.selects RX7 yX7_again yX7_again ∈ zU := zU_in 364 (by decide +kernel) (by decide +kernel)
set_option maxRecDepth 20000 in
theorem lc_yX7_again : Cond.code yX7_again prog_1_method_7_code 3 (some .int) ∈ zU := zU_in 365 (by decide +kernel) (by decide +kernel)
set_option maxRecDepth 20000 in
theorem lm_L_78 : Cond.methodLink RL 78 yX7_halt ∈ zU := zU_in 366 (by decide +kernel) (by decide +kernel)
set_option maxRecDepth 20000 in
theorem li_yX7_halt : Cond.instanceMethod yX7_halt ∈ zU := zU_in 367 (by decide +kernel) (by decide +kernel)
set_option maxRecDepth 20000 in
theorem le_yX7_halt : Cond.selects RX7 yX7_halt yX7_halt ∈ zU := zU_in 368 (by decide +kernel) (by decide +kernel)
set_option maxRecDepth 20000 in
theorem lc_yX7_halt : Cond.code yX7_halt prog_1_method_8_code 4 (some .int) ∈ zU := zU_in 369 (by decide +kernel) (by decide +kernel)
set_option maxRecDepth 20000 in
theorem lm_X7_116 : Cond.methodLink RX7 116 yX2_rest ∈ zU := zU_in 370 (by decide +kernel) (by decide +kernel)
set_option maxRecDepth 20000 in
theorem li_yX2_rest : Cond.instanceMethod yX2_rest ∈ zU := zU_in 371 (by decide +kernel) (by decide +kernel)
set_option maxRecDepth 20000 in
theorem le_yX2_rest : Cond.selects RX2 yX2_rest yX2_rest ∈ zU := zU_in 372 (by decide +kernel) (by decide +kernel)
set_option maxRecDepth 20000 in
theorem lc_yX2_rest : Cond.code yX2_rest prog_4_method_5_code 1 none ∈ zU := zU_in 373 (by decide +kernel) (by decide +kernel)
set_option maxRecDepth 20000 in
theorem lm_L_52 : Cond.methodLink RL 52 yX7_deliver ∈ zU := zU_in 374 (by decide +kernel) (by decide +kernel)
set_option maxRecDepth 20000 in
theorem li_yX7_deliver : Cond.instanceMethod yX7_deliver ∈ zU := zU_in 375 (by decide +kernel) (by decide +kernel)
set_option maxRecDepth 20000 in
theorem le_yX7_deliver : Cond.selects RX7 yX7_deliver yX7_deliver ∈ zU := zU_in 376 (by decide +kernel) (by decide +kernel)
set_option maxRecDepth 20000 in
theorem lc_yX7_deliver : Cond.code yX7_deliver prog_1_method_9_code 3 (some .boolean) ∈ zU := zU_in 377 (by decide +kernel) (by decide +kernel)
set_option maxRecDepth 20000 in
theorem lm_X7_122 : Cond.methodLink RX7 122 yX1_at ∈ zU := zU_in 378 (by decide +kernel) (by decide +kernel)
set_option maxRecDepth 20000 in
theorem li_yX1_at : Cond.instanceMethod yX1_at ∈ zU := zU_in 379 (by decide +kernel) (by decide +kernel)
set_option maxRecDepth 20000 in
theorem le_yX1_at : Cond.selects RX1 yX1_at yX1_at ∈ zU := zU_in 380 (by decide +kernel) (by decide +kernel)
set_option maxRecDepth 20000 in
theorem lc_yX1_at : Cond.code yX1_at prog_3_method_2_code 2 (some (.object "VotedFile$Message")) ∈ zU := zU_in 381 (by decide +kernel) (by decide +kernel)
set_option maxRecDepth 20000 in
theorem lm_X7_126 : Cond.methodLink RX7 126 yX7_canPass ∈ zU := zU_in 382 (by decide +kernel) (by decide +kernel)
set_option maxRecDepth 20000 in
theorem li_yX7_canPass : Cond.instanceMethod yX7_canPass ∈ zU := zU_in 384 (by decide +kernel) (by decide +kernel)
set_option maxRecDepth 20000 in
theorem lc_yX7_canPass : Cond.code yX7_canPass prog_1_method_33_code 4 (some .boolean) ∈ zU := zU_in 385 (by decide +kernel) (by decide +kernel)
set_option maxRecDepth 20000 in
theorem lm_X7_161 : Cond.methodLink RX7 161 yX7_copyAt ∈ zU := zU_in 386 (by decide +kernel) (by decide +kernel)
set_option maxRecDepth 20000 in
theorem li_yX7_copyAt : Cond.instanceMethod yX7_copyAt ∈ zU := zU_in 388 (by decide +kernel) (by decide +kernel)
set_option maxRecDepth 20000 in
theorem lc_yX7_copyAt : Cond.code yX7_copyAt prog_1_method_23_code 2 (some (.object "VotedFile$Copy")) ∈ zU := zU_in 389 (by decide +kernel) (by decide +kernel)
set_option maxRecDepth 20000 in
theorem lm_X7_130 : Cond.methodLink RX7 130 yX1_take ∈ zU := zU_in 390 (by decide +kernel) (by decide +kernel)
set_option maxRecDepth 20000 in
theorem li_yX1_take : Cond.instanceMethod yX1_take ∈ zU := zU_in 391 (by decide +kernel) (by decide +kernel)
set_option maxRecDepth 20000 in
theorem le_yX1_take : Cond.selects RX1 yX1_take yX1_take ∈ zU := zU_in 392 (by decide +kernel) (by decide +kernel)
set_option maxRecDepth 20000 in
theorem lc_yX1_take : Cond.code yX1_take prog_3_method_4_code 4 (some .boolean) ∈ zU := zU_in 393 (by decide +kernel) (by decide +kernel)
set_option maxRecDepth 20000 in
theorem lm_X1_29 : Cond.methodLink RX1 29 yX1_at ∈ zU := zU_in 394 (by decide +kernel) (by decide +kernel)
set_option maxRecDepth 20000 in
theorem lm_X7_140 : Cond.methodLink RX7 140 yX7_hear ∈ zU := zU_in 395 (by decide +kernel) (by decide +kernel)
set_option maxRecDepth 20000 in
theorem li_yX7_hear : Cond.instanceMethod yX7_hear ∈ zU := zU_in 397 (by decide +kernel) (by decide +kernel)
set_option maxRecDepth 20000 in
theorem lc_yX7_hear : Cond.code yX7_hear prog_1_method_35_code 6 none ∈ zU := zU_in 398 (by decide +kernel) (by decide +kernel)
set_option maxRecDepth 20000 in
theorem lm_X7_270 : Cond.methodLink RX7 270 yX2_counts ∈ zU := zU_in 399 (by decide +kernel) (by decide +kernel)
set_option maxRecDepth 20000 in
theorem li_yX2_counts : Cond.instanceMethod yX2_counts ∈ zU := zU_in 400 (by decide +kernel) (by decide +kernel)
set_option maxRecDepth 20000 in
theorem le_yX2_counts : Cond.selects RX2 yX2_counts yX2_counts ∈ zU := zU_in 401 (by decide +kernel) (by decide +kernel)
set_option maxRecDepth 20000 in
theorem lc_yX2_counts : Cond.code yX2_counts prog_4_method_3_code 3 (some .boolean) ∈ zU := zU_in 402 (by decide +kernel) (by decide +kernel)
set_option maxRecDepth 20000 in
theorem lm_X2_40 : Cond.methodLink RX2 40 yX2_hasAnswerOf ∈ zU := zU_in 403 (by decide +kernel) (by decide +kernel)
set_option maxRecDepth 20000 in
theorem lm_X7_274 : Cond.methodLink RX7 274 yX2_learn ∈ zU := zU_in 404 (by decide +kernel) (by decide +kernel)
set_option maxRecDepth 20000 in
theorem li_yX2_learn : Cond.instanceMethod yX2_learn ∈ zU := zU_in 405 (by decide +kernel) (by decide +kernel)
set_option maxRecDepth 20000 in
theorem le_yX2_learn : Cond.selects RX2 yX2_learn yX2_learn ∈ zU := zU_in 406 (by decide +kernel) (by decide +kernel)
set_option maxRecDepth 20000 in
theorem lc_yX2_learn : Cond.code yX2_learn prog_4_method_4_code 3 none ∈ zU := zU_in 407 (by decide +kernel) (by decide +kernel)
set_option maxRecDepth 20000 in
theorem lm_X2_48 : Cond.methodLink RX2 48 (⟨"java/lang/Math", "max", "(II)I"⟩ : MethodName) ∈ zU := zU_in 408 (by decide +kernel) (by decide +kernel)
set_option maxRecDepth 20000 in
theorem lm_X2_62 : Cond.methodLink RX2 62 yX6_isAbove ∈ zU := zU_in 409 (by decide +kernel) (by decide +kernel)
set_option maxRecDepth 20000 in
theorem li_yX6_isAbove : Cond.instanceMethod yX6_isAbove ∈ zU := zU_in 410 (by decide +kernel) (by decide +kernel)
set_option maxRecDepth 20000 in
theorem le_yX6_isAbove : Cond.selects RX6 yX6_isAbove yX6_isAbove ∈ zU := zU_in 411 (by decide +kernel) (by decide +kernel)
set_option maxRecDepth 20000 in
theorem lc_yX6_isAbove : Cond.code yX6_isAbove prog_8_method_2_code 2 (some .boolean) ∈ zU := zU_in 412 (by decide +kernel) (by decide +kernel)
set_option maxRecDepth 20000 in
theorem lm_X2_66 : Cond.methodLink RX2 66 yX6_set ∈ zU := zU_in 413 (by decide +kernel) (by decide +kernel)
set_option maxRecDepth 20000 in
theorem lm_X7_277 : Cond.methodLink RX7 277 yX7_hasQuorum ∈ zU := zU_in 414 (by decide +kernel) (by decide +kernel)
set_option maxRecDepth 20000 in
theorem li_yX7_hasQuorum : Cond.instanceMethod yX7_hasQuorum ∈ zU := zU_in 416 (by decide +kernel) (by decide +kernel)
set_option maxRecDepth 20000 in
theorem lc_yX7_hasQuorum : Cond.code yX7_hasQuorum prog_1_method_36_code 8 (some .boolean) ∈ zU := zU_in 417 (by decide +kernel) (by decide +kernel)
set_option maxRecDepth 20000 in
theorem lm_X7_229 : Cond.methodLink RX7 229 yX7_tableAt ∈ zU := zU_in 418 (by decide +kernel) (by decide +kernel)
set_option maxRecDepth 20000 in
theorem li_yX7_tableAt : Cond.instanceMethod yX7_tableAt ∈ zU := zU_in 420 (by decide +kernel) (by decide +kernel)
set_option maxRecDepth 20000 in
theorem lc_yX7_tableAt : Cond.code yX7_tableAt prog_1_method_25_code 2 (some (.object "VotedFile$Table")) ∈ zU := zU_in 421 (by decide +kernel) (by decide +kernel)
set_option maxRecDepth 20000 in
theorem lm_X7_284 : Cond.methodLink RX7 284 yX5_sum ∈ zU := zU_in 422 (by decide +kernel) (by decide +kernel)
set_option maxRecDepth 20000 in
theorem lm_X7_281 : Cond.methodLink RX7 281 yX7_endPhase ∈ zU := zU_in 423 (by decide +kernel) (by decide +kernel)
set_option maxRecDepth 20000 in
theorem li_yX7_endPhase : Cond.instanceMethod yX7_endPhase ∈ zU := zU_in 425 (by decide +kernel) (by decide +kernel)
set_option maxRecDepth 20000 in
theorem lc_yX7_endPhase : Cond.code yX7_endPhase prog_1_method_37_code 3 (some .int) ∈ zU := zU_in 426 (by decide +kernel) (by decide +kernel)
set_option maxRecDepth 20000 in
theorem lm_X7_288 : Cond.methodLink RX7 288 yX0_showTag ∈ zU := zU_in 427 (by decide +kernel) (by decide +kernel)
set_option maxRecDepth 20000 in
theorem li_yX0_showTag : Cond.instanceMethod yX0_showTag ∈ zU := zU_in 428 (by decide +kernel) (by decide +kernel)
set_option maxRecDepth 20000 in
theorem le_yX0_showTag : Cond.selects RX0 yX0_showTag yX0_showTag ∈ zU := zU_in 429 (by decide +kernel) (by decide +kernel)
set_option maxRecDepth 20000 in
theorem lc_yX0_showTag : Cond.code yX0_showTag prog_2_method_2_code 2 none ∈ zU := zU_in 430 (by decide +kernel) (by decide +kernel)
set_option maxRecDepth 20000 in
theorem lm_X7_144 : Cond.methodLink RX7 144 yX7_serve ∈ zU := zU_in 431 (by decide +kernel) (by decide +kernel)
set_option maxRecDepth 20000 in
theorem li_yX7_serve : Cond.instanceMethod yX7_serve ∈ zU := zU_in 433 (by decide +kernel) (by decide +kernel)
set_option maxRecDepth 20000 in
theorem lc_yX7_serve : Cond.code yX7_serve prog_1_method_34_code 4 none ∈ zU := zU_in 434 (by decide +kernel) (by decide +kernel)
set_option maxRecDepth 20000 in
theorem lm_X7_267 : Cond.methodLink RX7 267 yX3_obey ∈ zU := zU_in 435 (by decide +kernel) (by decide +kernel)
set_option maxRecDepth 20000 in
theorem li_yX3_obey : Cond.instanceMethod yX3_obey ∈ zU := zU_in 436 (by decide +kernel) (by decide +kernel)
set_option maxRecDepth 20000 in
theorem le_yX3_obey : Cond.selects RX3 yX3_obey yX3_obey ∈ zU := zU_in 437 (by decide +kernel) (by decide +kernel)
set_option maxRecDepth 20000 in
theorem lc_yX3_obey : Cond.code yX3_obey prog_5_method_2_code 2 none ∈ zU := zU_in 438 (by decide +kernel) (by decide +kernel)
set_option maxRecDepth 20000 in
theorem lm_X3_25 : Cond.methodLink RX3 25 yX6_isAbove ∈ zU := zU_in 439 (by decide +kernel) (by decide +kernel)
set_option maxRecDepth 20000 in
theorem lm_X3_29 : Cond.methodLink RX3 29 yX6_set ∈ zU := zU_in 440 (by decide +kernel) (by decide +kernel)
set_option maxRecDepth 20000 in
theorem lm_X3_37 : Cond.methodLink RX3 37 (⟨"java/lang/Math", "max", "(II)I"⟩ : MethodName) ∈ zU := zU_in 441 (by decide +kernel) (by decide +kernel)
set_option maxRecDepth 20000 in
theorem lm_X7_158 : Cond.methodLink RX7 158 yX4_repeat ∈ zU := zU_in 442 (by decide +kernel) (by decide +kernel)
set_option maxRecDepth 20000 in
theorem li_yX4_repeat : Cond.instanceMethod yX4_repeat ∈ zU := zU_in 443 (by decide +kernel) (by decide +kernel)
set_option maxRecDepth 20000 in
theorem le_yX4_repeat : Cond.selects RX4 yX4_repeat yX4_repeat ∈ zU := zU_in 444 (by decide +kernel) (by decide +kernel)
set_option maxRecDepth 20000 in
theorem lc_yX4_repeat : Cond.code yX4_repeat prog_6_method_2_code 2 none ∈ zU := zU_in 445 (by decide +kernel) (by decide +kernel)
set_option maxRecDepth 20000 in
theorem lm_X4_42 : Cond.methodLink RX4 42 yX6_set ∈ zU := zU_in 446 (by decide +kernel) (by decide +kernel)
set_option maxRecDepth 20000 in
theorem lm_L_57 : Cond.methodLink RL 57 yX7_settle ∈ zU := zU_in 447 (by decide +kernel) (by decide +kernel)
set_option maxRecDepth 20000 in
theorem li_yX7_settle : Cond.instanceMethod yX7_settle ∈ zU := zU_in 448 (by decide +kernel) (by decide +kernel)
set_option maxRecDepth 20000 in
theorem le_yX7_settle : Cond.selects RX7 yX7_settle yX7_settle ∈ zU := zU_in 449 (by decide +kernel) (by decide +kernel)
set_option maxRecDepth 20000 in
theorem lc_yX7_settle : Cond.code yX7_settle prog_1_method_10_code 5 (some .int) ∈ zU := zU_in 450 (by decide +kernel) (by decide +kernel)
set_option maxRecDepth 20000 in
theorem lq_const : Cond.constant RX7 147 1000000 ∈ zU := zU_in 451 (by decide +kernel) (by decide +kernel)
set_option maxRecDepth 20000 in
theorem lm_X7_151 : Cond.methodLink RX7 151 yX7_deliver ∈ zU := zU_in 452 (by decide +kernel) (by decide +kernel)
set_option maxRecDepth 20000 in
theorem lm_L_61 : Cond.methodLink RL 61 yX7_lose ∈ zU := zU_in 453 (by decide +kernel) (by decide +kernel)
set_option maxRecDepth 20000 in
theorem li_yX7_lose : Cond.instanceMethod yX7_lose ∈ zU := zU_in 454 (by decide +kernel) (by decide +kernel)
set_option maxRecDepth 20000 in
theorem le_yX7_lose : Cond.selects RX7 yX7_lose yX7_lose ∈ zU := zU_in 455 (by decide +kernel) (by decide +kernel)
set_option maxRecDepth 20000 in
theorem lc_yX7_lose : Cond.code yX7_lose prog_1_method_11_code 2 (some .boolean) ∈ zU := zU_in 456 (by decide +kernel) (by decide +kernel)
set_option maxRecDepth 20000 in
theorem lm_L_65 : Cond.methodLink RL 65 yX7_twice ∈ zU := zU_in 457 (by decide +kernel) (by decide +kernel)
set_option maxRecDepth 20000 in
theorem li_yX7_twice : Cond.instanceMethod yX7_twice ∈ zU := zU_in 458 (by decide +kernel) (by decide +kernel)
set_option maxRecDepth 20000 in
theorem le_yX7_twice : Cond.selects RX7 yX7_twice yX7_twice ∈ zU := zU_in 459 (by decide +kernel) (by decide +kernel)
set_option maxRecDepth 20000 in
theorem lc_yX7_twice : Cond.code yX7_twice prog_1_method_12_code 4 (some .boolean) ∈ zU := zU_in 460 (by decide +kernel) (by decide +kernel)
set_option maxRecDepth 20000 in
theorem lm_L_69 : Cond.methodLink RL 69 yX7_silent ∈ zU := zU_in 461 (by decide +kernel) (by decide +kernel)
set_option maxRecDepth 20000 in
theorem li_yX7_silent : Cond.instanceMethod yX7_silent ∈ zU := zU_in 462 (by decide +kernel) (by decide +kernel)
set_option maxRecDepth 20000 in
theorem le_yX7_silent : Cond.selects RX7 yX7_silent yX7_silent ∈ zU := zU_in 463 (by decide +kernel) (by decide +kernel)
set_option maxRecDepth 20000 in
theorem lc_yX7_silent : Cond.code yX7_silent prog_1_method_13_code 4 (some .boolean) ∈ zU := zU_in 464 (by decide +kernel) (by decide +kernel)
set_option maxRecDepth 20000 in
theorem lm_L_74 : Cond.methodLink RL 74 yX7_side ∈ zU := zU_in 465 (by decide +kernel) (by decide +kernel)
set_option maxRecDepth 20000 in
theorem li_yX7_side : Cond.instanceMethod yX7_side ∈ zU := zU_in 466 (by decide +kernel) (by decide +kernel)
set_option maxRecDepth 20000 in
theorem le_yX7_side : Cond.selects RX7 yX7_side yX7_side ∈ zU := zU_in 467 (by decide +kernel) (by decide +kernel)
set_option maxRecDepth 20000 in
theorem lc_yX7_side : Cond.code yX7_side prog_1_method_14_code 5 (some .boolean) ∈ zU := zU_in 468 (by decide +kernel) (by decide +kernel)
set_option maxRecDepth 20000 in
theorem lm_L_82 : Cond.methodLink RL 82 yX7_copy ∈ zU := zU_in 469 (by decide +kernel) (by decide +kernel)
set_option maxRecDepth 20000 in
theorem li_yX7_copy : Cond.instanceMethod yX7_copy ∈ zU := zU_in 470 (by decide +kernel) (by decide +kernel)
set_option maxRecDepth 20000 in
theorem le_yX7_copy : Cond.selects RX7 yX7_copy yX7_copy ∈ zU := zU_in 471 (by decide +kernel) (by decide +kernel)
set_option maxRecDepth 20000 in
theorem lc_yX7_copy : Cond.code yX7_copy prog_1_method_15_code 4 (some .int) ∈ zU := zU_in 472 (by decide +kernel) (by decide +kernel)
set_option maxRecDepth 20000 in
theorem lm_L_86 : Cond.methodLink RL 86 yX7_kept ∈ zU := zU_in 473 (by decide +kernel) (by decide +kernel)
set_option maxRecDepth 20000 in
theorem li_yX7_kept : Cond.instanceMethod yX7_kept ∈ zU := zU_in 474 (by decide +kernel) (by decide +kernel)
set_option maxRecDepth 20000 in
theorem le_yX7_kept : Cond.selects RX7 yX7_kept yX7_kept ∈ zU := zU_in 475 (by decide +kernel) (by decide +kernel)
set_option maxRecDepth 20000 in
theorem lc_yX7_kept : Cond.code yX7_kept prog_1_method_16_code 3 (some .long) ∈ zU := zU_in 476 (by decide +kernel) (by decide +kernel)
set_option maxRecDepth 20000 in
theorem lm_L_91 : Cond.methodLink RL 91 yX7_client ∈ zU := zU_in 477 (by decide +kernel) (by decide +kernel)
set_option maxRecDepth 20000 in
theorem li_yX7_client : Cond.instanceMethod yX7_client ∈ zU := zU_in 478 (by decide +kernel) (by decide +kernel)
set_option maxRecDepth 20000 in
theorem le_yX7_client : Cond.selects RX7 yX7_client yX7_client ∈ zU := zU_in 479 (by decide +kernel) (by decide +kernel)
set_option maxRecDepth 20000 in
theorem lc_yX7_client : Cond.code yX7_client prog_1_method_17_code 5 (some .int) ∈ zU := zU_in 480 (by decide +kernel) (by decide +kernel)
set_option maxRecDepth 20000 in
theorem lm_L_95 : Cond.methodLink RL 95 yX7_air ∈ zU := zU_in 481 (by decide +kernel) (by decide +kernel)
set_option maxRecDepth 20000 in
theorem li_yX7_air : Cond.instanceMethod yX7_air ∈ zU := zU_in 482 (by decide +kernel) (by decide +kernel)
set_option maxRecDepth 20000 in
theorem le_yX7_air : Cond.selects RX7 yX7_air yX7_air ∈ zU := zU_in 483 (by decide +kernel) (by decide +kernel)
set_option maxRecDepth 20000 in
theorem lc_yX7_air : Cond.code yX7_air prog_1_method_18_code 4 (some .int) ∈ zU := zU_in 484 (by decide +kernel) (by decide +kernel)
set_option maxRecDepth 20000 in
theorem lm_L_99 : Cond.methodLink RL 99 yX7_act ∈ zU := zU_in 485 (by decide +kernel) (by decide +kernel)
set_option maxRecDepth 20000 in
theorem li_yX7_act : Cond.instanceMethod yX7_act ∈ zU := zU_in 486 (by decide +kernel) (by decide +kernel)
set_option maxRecDepth 20000 in
theorem le_yX7_act : Cond.selects RX7 yX7_act yX7_act ∈ zU := zU_in 487 (by decide +kernel) (by decide +kernel)
set_option maxRecDepth 20000 in
theorem lc_yX7_act : Cond.code yX7_act prog_1_method_19_code 4 (some .int) ∈ zU := zU_in 488 (by decide +kernel) (by decide +kernel)
set_option maxRecDepth 20000 in
theorem lm_X7_210 : Cond.methodLink RX7 210 yX7_actAt ∈ zU := zU_in 489 (by decide +kernel) (by decide +kernel)
set_option maxRecDepth 20000 in
theorem li_yX7_actAt : Cond.instanceMethod yX7_actAt ∈ zU := zU_in 491 (by decide +kernel) (by decide +kernel)
set_option maxRecDepth 20000 in
theorem lc_yX7_actAt : Cond.code yX7_actAt prog_1_method_26_code 2 (some (.object "VotedFile$Act")) ∈ zU := zU_in 492 (by decide +kernel) (by decide +kernel)
set_option maxRecDepth 20000 in
theorem lm_L_103 : Cond.methodLink RL 103 yX7_value ∈ zU := zU_in 493 (by decide +kernel) (by decide +kernel)
set_option maxRecDepth 20000 in
theorem li_yX7_value : Cond.instanceMethod yX7_value ∈ zU := zU_in 494 (by decide +kernel) (by decide +kernel)
set_option maxRecDepth 20000 in
theorem le_yX7_value : Cond.selects RX7 yX7_value yX7_value ∈ zU := zU_in 495 (by decide +kernel) (by decide +kernel)
set_option maxRecDepth 20000 in
theorem lc_yX7_value : Cond.code yX7_value prog_1_method_20_code 3 (some .long) ∈ zU := zU_in 496 (by decide +kernel) (by decide +kernel)
set_option maxRecDepth 20000 in
theorem lm_L_107 : Cond.methodLink RL 107 yX7_table ∈ zU := zU_in 497 (by decide +kernel) (by decide +kernel)
set_option maxRecDepth 20000 in
theorem li_yX7_table : Cond.instanceMethod yX7_table ∈ zU := zU_in 498 (by decide +kernel) (by decide +kernel)
set_option maxRecDepth 20000 in
theorem le_yX7_table : Cond.selects RX7 yX7_table yX7_table ∈ zU := zU_in 499 (by decide +kernel) (by decide +kernel)
set_option maxRecDepth 20000 in
theorem lc_yX7_table : Cond.code yX7_table prog_1_method_21_code 4 (some .int) ∈ zU := zU_in 500 (by decide +kernel) (by decide +kernel)
set_option maxRecDepth 20000 in
theorem lm_L_111 : Cond.methodLink RL 111 yX7_about ∈ zU := zU_in 501 (by decide +kernel) (by decide +kernel)
set_option maxRecDepth 20000 in
theorem li_yX7_about : Cond.instanceMethod yX7_about ∈ zU := zU_in 502 (by decide +kernel) (by decide +kernel)
set_option maxRecDepth 20000 in
theorem le_yX7_about : Cond.selects RX7 yX7_about yX7_about ∈ zU := zU_in 503 (by decide +kernel) (by decide +kernel)
set_option maxRecDepth 20000 in
theorem lc_yX7_about : Cond.code yX7_about prog_1_method_22_code 2 (some .int) ∈ zU := zU_in 504 (by decide +kernel) (by decide +kernel)
set_option maxRecDepth 20000 in
theorem lm_L_9 : Cond.methodLink RL 9 yL_cell ∈ zU := zU_in 505 (by decide +kernel) (by decide +kernel)
set_option maxRecDepth 20000 in
theorem ls_yL_cell : Cond.static yL_cell ∈ zU := zU_in 506 (by decide +kernel) (by decide +kernel)
set_option maxRecDepth 20000 in
theorem lc_yL_cell : Cond.code yL_cell method_2_code 2 (some .int) ∈ zU := zU_in 507 (by decide +kernel) (by decide +kernel)
set_option maxRecDepth 20000 in
theorem lk_L_18 : Cond.classLink RL 18 RX8 ∈ zU := zU_in 508 (by decide +kernel) (by decide +kernel)
set_option maxRecDepth 20000 in
theorem lt_X8 : Cond.instantiable RX8 45 ∈ zU := zU_in 509 (by decide +kernel) (by decide +kernel)
set_option maxRecDepth 20000 in
theorem lm_L_20 : Cond.methodLink RL 20 yX8_init ∈ zU := zU_in 510 (by decide +kernel) (by decide +kernel)
set_option maxRecDepth 20000 in
theorem li_yX8_init : Cond.instanceMethod yX8_init ∈ zU := zU_in 511 (by decide +kernel) (by decide +kernel)
set_option maxRecDepth 20000 in
theorem lc_yX8_init : Cond.code yX8_init prog_10_method_1_code 3 none ∈ zU := zU_in 512 (by decide +kernel) (by decide +kernel)
set_option maxRecDepth 20000 in
theorem lm_X8_1 : Cond.methodLink RX8 1 objectInit ∈ zU := zU_in 513 (by decide +kernel) (by decide +kernel)
set_option maxRecDepth 20000 in
theorem lf_X8_129 : Cond.fieldLink RX8 129 "VotedFileModel" "copies" "I" ∈ zU := zU_in 514 (by decide +kernel) (by decide +kernel)
set_option maxRecDepth 20000 in
theorem lf_X8_7 : Cond.fieldLink RX8 7 "VotedFileModel" "value" "[J" ∈ zU := zU_in 515 (by decide +kernel) (by decide +kernel)
set_option maxRecDepth 20000 in
theorem lf_X8_13 : Cond.fieldLink RX8 13 "VotedFileModel" "often" "[I" ∈ zU := zU_in 516 (by decide +kernel) (by decide +kernel)
set_option maxRecDepth 20000 in
theorem lf_X8_17 : Cond.fieldLink RX8 17 "VotedFileModel" "by" "[I" ∈ zU := zU_in 517 (by decide +kernel) (by decide +kernel)
set_option maxRecDepth 20000 in
theorem lf_X8_20 : Cond.fieldLink RX8 20 "VotedFileModel" "base" "[I" ∈ zU := zU_in 518 (by decide +kernel) (by decide +kernel)
set_option maxRecDepth 20000 in
theorem lf_X8_23 : Cond.fieldLink RX8 23 "VotedFileModel" "last" "[I" ∈ zU := zU_in 519 (by decide +kernel) (by decide +kernel)
set_option maxRecDepth 20000 in
theorem lf_X8_26 : Cond.fieldLink RX8 26 "VotedFileModel" "side" "[I" ∈ zU := zU_in 520 (by decide +kernel) (by decide +kernel)
set_option maxRecDepth 20000 in
theorem lf_X8_29 : Cond.fieldLink RX8 29 "VotedFileModel" "silent" "[Z" ∈ zU := zU_in 521 (by decide +kernel) (by decide +kernel)
set_option maxRecDepth 20000 in
theorem lf_X8_33 : Cond.fieldLink RX8 33 "VotedFileModel" "table" "[I" ∈ zU := zU_in 522 (by decide +kernel) (by decide +kernel)
set_option maxRecDepth 20000 in
theorem lf_X8_36 : Cond.fieldLink RX8 36 "VotedFileModel" "next" "[I" ∈ zU := zU_in 523 (by decide +kernel) (by decide +kernel)
set_option maxRecDepth 20000 in
theorem lf_X8_133 : Cond.fieldLink RX8 133 "VotedFileModel" "tables" "I" ∈ zU := zU_in 524 (by decide +kernel) (by decide +kernel)
set_option maxRecDepth 20000 in
theorem lf_X8_39 : Cond.fieldLink RX8 39 "VotedFileModel" "doing" "[I" ∈ zU := zU_in 525 (by decide +kernel) (by decide +kernel)
set_option maxRecDepth 20000 in
theorem lf_X8_42 : Cond.fieldLink RX8 42 "VotedFileModel" "phase" "[I" ∈ zU := zU_in 526 (by decide +kernel) (by decide +kernel)
set_option maxRecDepth 20000 in
theorem lf_X8_45 : Cond.fieldLink RX8 45 "VotedFileModel" "round" "[I" ∈ zU := zU_in 527 (by decide +kernel) (by decide +kernel)
set_option maxRecDepth 20000 in
theorem lf_X8_48 : Cond.fieldLink RX8 48 "VotedFileModel" "clientBase" "[I" ∈ zU := zU_in 528 (by decide +kernel) (by decide +kernel)
set_option maxRecDepth 20000 in
theorem lf_X8_51 : Cond.fieldLink RX8 51 "VotedFileModel" "clientLast" "[I" ∈ zU := zU_in 529 (by decide +kernel) (by decide +kernel)
set_option maxRecDepth 20000 in
theorem lf_X8_54 : Cond.fieldLink RX8 54 "VotedFileModel" "clientSide" "[I" ∈ zU := zU_in 530 (by decide +kernel) (by decide +kernel)
set_option maxRecDepth 20000 in
theorem lf_X8_57 : Cond.fieldLink RX8 57 "VotedFileModel" "answered" "[I" ∈ zU := zU_in 531 (by decide +kernel) (by decide +kernel)
set_option maxRecDepth 20000 in
theorem lf_X8_60 : Cond.fieldLink RX8 60 "VotedFileModel" "bestOften" "[I" ∈ zU := zU_in 532 (by decide +kernel) (by decide +kernel)
set_option maxRecDepth 20000 in
theorem lf_X8_63 : Cond.fieldLink RX8 63 "VotedFileModel" "bestBy" "[I" ∈ zU := zU_in 533 (by decide +kernel) (by decide +kernel)
