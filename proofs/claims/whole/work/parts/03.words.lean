theorem ini_K : Cond.initialized R_K ∈ kT := mk_T 1 rfl rfl
theorem ini_D : Cond.initialized R_D ∈ kT := mk_T 9 rfl rfl
theorem ini_M : Cond.initialized R_M ∈ kT := mk_T 3 rfl rfl
theorem ini_L : Cond.initialized R_L ∈ kT := mk_T 0 rfl rfl
theorem fl_K_11 : Cond.fieldLink R_K 11 R_K (T_K 0).2.1 (T_K 0).2.2.1 ∈ kT := mk_T 25 rfl rfl
theorem fl_K_15 : Cond.fieldLink R_K 15 R_K (T_K 1).2.1 (T_K 1).2.2.1 ∈ kT := mk_T 26 rfl rfl
theorem fl_K_19 : Cond.fieldLink R_K 19 R_K (T_K 2).2.1 (T_K 2).2.2.1 ∈ kT := mk_T 27 rfl rfl
theorem fl_K_23 : Cond.fieldLink R_K 23 R_K (T_K 3).2.1 (T_K 3).2.2.1 ∈ kT := mk_T 28 rfl rfl
theorem fl_K_26 : Cond.fieldLink R_K 26 R_K (T_K 4).2.1 (T_K 4).2.2.1 ∈ kT := mk_T 29 rfl rfl
theorem fl_K_29 : Cond.fieldLink R_K 29 R_K (T_K 5).2.1 (T_K 5).2.2.1 ∈ kT := mk_T 30 rfl rfl
theorem fl_K_32 : Cond.fieldLink R_K 32 R_K (T_K 6).2.1 (T_K 6).2.2.1 ∈ kT := mk_T 31 rfl rfl
theorem fl_K_35 : Cond.fieldLink R_K 35 R_K (T_K 7).2.1 (T_K 7).2.2.1 ∈ kT := mk_T 32 rfl rfl
theorem fl_K_38 : Cond.fieldLink R_K 38 R_K (T_K 8).2.1 (T_K 8).2.2.1 ∈ kT := mk_T 33 rfl rfl
theorem fl_K_41 : Cond.fieldLink R_K 41 R_K (T_K 9).2.1 (T_K 9).2.2.1 ∈ kT := mk_T 34 rfl rfl
theorem fl_K_44 : Cond.fieldLink R_K 44 R_K (T_K 10).2.1 (T_K 10).2.2.1 ∈ kT := mk_T 35 rfl rfl
theorem fl_K_47 : Cond.fieldLink R_K 47 R_K (T_K 11).2.1 (T_K 11).2.2.1 ∈ kT := mk_T 36 rfl rfl
theorem fl_K_50 : Cond.fieldLink R_K 50 R_K (T_K 12).2.1 (T_K 12).2.2.1 ∈ kT := mk_T 37 rfl rfl
theorem fl_D_35 : Cond.fieldLink R_D 35 R_D (T_D 0).2.1 (T_D 0).2.2.1 ∈ kT := mk_T 248 rfl rfl
theorem fl_K_117 : Cond.fieldLink R_K 117 R_D (T_D 0).2.1 (T_D 0).2.2.1 ∈ kT := mk_T 249 rfl rfl
theorem fl_D_38 : Cond.fieldLink R_D 38 R_D (T_D 1).2.1 (T_D 1).2.2.1 ∈ kT := mk_T 250 rfl rfl
theorem fl_D_9 : Cond.fieldLink R_D 9 R_D (T_D 2).2.1 (T_D 2).2.2.1 ∈ kT := mk_T 251 rfl rfl
theorem fl_D_41 : Cond.fieldLink R_D 41 R_D (T_D 3).2.1 (T_D 3).2.2.1 ∈ kT := mk_T 252 rfl rfl
theorem fl_K_191 : Cond.fieldLink R_K 191 R_D (T_D 3).2.1 (T_D 3).2.2.1 ∈ kT := mk_T 253 rfl rfl
theorem fl_D_15 : Cond.fieldLink R_D 15 R_D (T_D 4).2.1 (T_D 4).2.2.1 ∈ kT := mk_T 254 rfl rfl
theorem fl_K_92 : Cond.fieldLink R_K 92 R_D (T_D 4).2.1 (T_D 4).2.2.1 ∈ kT := mk_T 255 rfl rfl
theorem fl_D_19 : Cond.fieldLink R_D 19 R_D (T_D 5).2.1 (T_D 5).2.2.1 ∈ kT := mk_T 256 rfl rfl
theorem fl_K_167 : Cond.fieldLink R_K 167 R_D (T_D 5).2.1 (T_D 5).2.2.1 ∈ kT := mk_T 257 rfl rfl
theorem fl_D_22 : Cond.fieldLink R_D 22 R_D (T_D 6).2.1 (T_D 6).2.2.1 ∈ kT := mk_T 258 rfl rfl
theorem fl_K_120 : Cond.fieldLink R_K 120 R_D (T_D 6).2.1 (T_D 6).2.2.1 ∈ kT := mk_T 259 rfl rfl
theorem fl_D_25 : Cond.fieldLink R_D 25 R_D (T_D 7).2.1 (T_D 7).2.2.1 ∈ kT := mk_T 260 rfl rfl
theorem fl_K_188 : Cond.fieldLink R_K 188 R_D (T_D 7).2.1 (T_D 7).2.2.1 ∈ kT := mk_T 261 rfl rfl
theorem fl_D_28 : Cond.fieldLink R_D 28 R_D (T_D 8).2.1 (T_D 8).2.2.1 ∈ kT := mk_T 262 rfl rfl
theorem fl_K_134 : Cond.fieldLink R_K 134 R_D (T_D 8).2.1 (T_D 8).2.2.1 ∈ kT := mk_T 263 rfl rfl
theorem fl_D_32 : Cond.fieldLink R_D 32 R_D (T_D 9).2.1 (T_D 9).2.2.1 ∈ kT := mk_T 264 rfl rfl
theorem fl_K_197 : Cond.fieldLink R_K 197 R_D (T_D 9).2.1 (T_D 9).2.2.1 ∈ kT := mk_T 265 rfl rfl
set_option maxRecDepth 20000 in
theorem fl_M_46 : Cond.fieldLink R_M 46 R_M (T_M 0).2.1 (T_M 0).2.2.1 ∈ kT := mk_T 394 rfl rfl
set_option maxRecDepth 20000 in
theorem fl_M_50 : Cond.fieldLink R_M 50 R_M (T_M 1).2.1 (T_M 1).2.2.1 ∈ kT := mk_T 395 rfl rfl
set_option maxRecDepth 20000 in
theorem fl_M_7 : Cond.fieldLink R_M 7 R_M (T_M 2).2.1 (T_M 2).2.2.1 ∈ kT := mk_T 396 rfl rfl
set_option maxRecDepth 20000 in
theorem fl_M_13 : Cond.fieldLink R_M 13 R_M (T_M 3).2.1 (T_M 3).2.2.1 ∈ kT := mk_T 397 rfl rfl
set_option maxRecDepth 20000 in
theorem fl_M_16 : Cond.fieldLink R_M 16 R_M (T_M 4).2.1 (T_M 4).2.2.1 ∈ kT := mk_T 398 rfl rfl
set_option maxRecDepth 20000 in
theorem fl_M_19 : Cond.fieldLink R_M 19 R_M (T_M 5).2.1 (T_M 5).2.2.1 ∈ kT := mk_T 399 rfl rfl
set_option maxRecDepth 20000 in
theorem fl_M_22 : Cond.fieldLink R_M 22 R_M (T_M 6).2.1 (T_M 6).2.2.1 ∈ kT := mk_T 400 rfl rfl
set_option maxRecDepth 20000 in
theorem fl_M_25 : Cond.fieldLink R_M 25 R_M (T_M 7).2.1 (T_M 7).2.2.1 ∈ kT := mk_T 401 rfl rfl
set_option maxRecDepth 20000 in
theorem fl_M_28 : Cond.fieldLink R_M 28 R_M (T_M 8).2.1 (T_M 8).2.2.1 ∈ kT := mk_T 402 rfl rfl
set_option maxRecDepth 20000 in
theorem fl_M_31 : Cond.fieldLink R_M 31 R_M (T_M 9).2.1 (T_M 9).2.2.1 ∈ kT := mk_T 403 rfl rfl
set_option maxRecDepth 20000 in
theorem fl_M_34 : Cond.fieldLink R_M 34 R_M (T_M 10).2.1 (T_M 10).2.2.1 ∈ kT := mk_T 404 rfl rfl
set_option maxRecDepth 20000 in
theorem fl_M_37 : Cond.fieldLink R_M 37 R_M (T_M 11).2.1 (T_M 11).2.2.1 ∈ kT := mk_T 405 rfl rfl
set_option maxRecDepth 20000 in
theorem fl_M_91 : Cond.fieldLink R_M 91 R_M (T_M 12).2.1 (T_M 12).2.2.1 ∈ kT := mk_T 406 rfl rfl
set_option maxRecDepth 20000 in
theorem fl_M_40 : Cond.fieldLink R_M 40 R_M (T_M 13).2.1 (T_M 13).2.2.1 ∈ kT := mk_T 407 rfl rfl
set_option maxRecDepth 20000 in
theorem fl_M_104 : Cond.fieldLink R_M 104 R_M (T_M 14).2.1 (T_M 14).2.2.1 ∈ kT := mk_T 408 rfl rfl
set_option maxRecDepth 20000 in
theorem fl_M_107 : Cond.fieldLink R_M 107 R_M (T_M 15).2.1 (T_M 15).2.2.1 ∈ kT := mk_T 409 rfl rfl
set_option maxRecDepth 20000 in
theorem fl_M_110 : Cond.fieldLink R_M 110 R_M (T_M 16).2.1 (T_M 16).2.2.1 ∈ kT := mk_T 410 rfl rfl
set_option maxRecDepth 20000 in
theorem fl_M_78 : Cond.fieldLink R_M 78 R_M (T_M 17).2.1 (T_M 17).2.2.1 ∈ kT := mk_T 411 rfl rfl
set_option maxRecDepth 20000 in
theorem fl_M_43 : Cond.fieldLink R_M 43 R_M (T_M 18).2.1 (T_M 18).2.2.1 ∈ kT := mk_T 412 rfl rfl
set_option maxRecDepth 20000 in
theorem fl_M_84 : Cond.fieldLink R_M 84 R_M (T_M 19).2.1 (T_M 19).2.2.1 ∈ kT := mk_T 413 rfl rfl
set_option maxRecDepth 20000 in
theorem fl_M_61 : Cond.fieldLink R_M 61 R_M (T_M 20).2.1 (T_M 20).2.2.1 ∈ kT := mk_T 414 rfl rfl
set_option maxRecDepth 20000 in
theorem kc_I_265 : Cond.constant R_I 265 1431655765 ∈ kT := mk_T 348 rfl rfl
set_option maxRecDepth 20000 in
theorem kc_I_266 : Cond.constant R_I 266 858993459 ∈ kT := mk_T 349 rfl rfl
set_option maxRecDepth 20000 in
theorem kc_I_267 : Cond.constant R_I 267 252645135 ∈ kT := mk_T 350 rfl rfl
set_option maxRecDepth 20000 in
theorem kc_K_147 : Cond.constant R_K 147 100000 ∈ kT := mk_T 358 rfl rfl
set_option maxRecDepth 20000 in
theorem kc_M_119 : Cond.constant R_M 119 100000 ∈ kT := mk_T 551 rfl rfl
theorem im_K_init : Cond.instanceMethod y_K_init ∈ kT := mk_T 15 rfl rfl
theorem st_A_fill : Cond.static y_A_fill ∈ kT := mk_T 23 rfl rfl
theorem se_K_needs : Cond.selects R_K y_K_needs y_K_needs ∈ kT := mk_T 68 rfl rfl
theorem im_K_needs : Cond.instanceMethod y_K_needs ∈ kT := mk_T 67 rfl rfl
theorem se_K_deskAt : Cond.selects R_K y_K_deskAt y_K_deskAt ∈ kT := mk_S 0 rfl rfl
theorem im_K_deskAt : Cond.instanceMethod y_K_deskAt ∈ kT := mk_T 72 rfl rfl
theorem st_K_isSubject : Cond.static y_K_isSubject ∈ kT := mk_T 75 rfl rfl
theorem se_D_isAhead : Cond.selects R_D y_D_isAhead y_D_isAhead ∈ kT := mk_T 79 rfl rfl
theorem im_D_isAhead : Cond.instanceMethod y_D_isAhead ∈ kT := mk_T 78 rfl rfl
theorem se_D_hasNeed : Cond.selects R_D y_D_hasNeed y_D_hasNeed ∈ kT := mk_T 83 rfl rfl
theorem im_D_hasNeed : Cond.instanceMethod y_D_hasNeed ∈ kT := mk_T 82 rfl rfl
theorem se_K_isInTheMidst : Cond.selects R_K y_K_isInTheMidst y_K_isInTheMidst ∈ kT := mk_S 1 rfl rfl
theorem im_K_isInTheMidst : Cond.instanceMethod y_K_isInTheMidst ∈ kT := mk_T 87 rfl rfl
theorem se_K_heldBy : Cond.selects R_K y_K_heldBy y_K_heldBy ∈ kT := mk_S 2 rfl rfl
theorem im_K_heldBy : Cond.instanceMethod y_K_heldBy ∈ kT := mk_T 91 rfl rfl
theorem se_D_addNeed : Cond.selects R_D y_D_addNeed y_D_addNeed ∈ kT := mk_T 95 rfl rfl
theorem im_D_addNeed : Cond.instanceMethod y_D_addNeed ∈ kT := mk_T 94 rfl rfl
theorem se_K_log : Cond.selects R_K y_K_log y_K_log ∈ kT := mk_T 99 rfl rfl
theorem im_K_log : Cond.instanceMethod y_K_log ∈ kT := mk_T 98 rfl rfl
theorem se_K_interrupt : Cond.selects R_K y_K_interrupt y_K_interrupt ∈ kT := mk_T 103 rfl rfl
theorem im_K_interrupt : Cond.instanceMethod y_K_interrupt ∈ kT := mk_T 102 rfl rfl
theorem se_K_giveBackAll : Cond.selects R_K y_K_giveBackAll y_K_giveBackAll ∈ kT := mk_S 3 rfl rfl
theorem im_K_giveBackAll : Cond.instanceMethod y_K_giveBackAll ∈ kT := mk_T 107 rfl rfl
theorem se_K_giveBack : Cond.selects R_K y_K_giveBack y_K_giveBack ∈ kT := mk_S 4 rfl rfl
theorem im_K_giveBack : Cond.instanceMethod y_K_giveBack ∈ kT := mk_T 111 rfl rfl
theorem se_K_waiterFor : Cond.selects R_K y_K_waiterFor y_K_waiterFor ∈ kT := mk_S 5 rfl rfl
theorem im_K_waiterFor : Cond.instanceMethod y_K_waiterFor ∈ kT := mk_T 115 rfl rfl
theorem se_K_waitersAheadOf : Cond.selects R_K y_K_waitersAheadOf y_K_waitersAheadOf ∈ kT := mk_S 6 rfl rfl
theorem im_K_waitersAheadOf : Cond.instanceMethod y_K_waitersAheadOf ∈ kT := mk_T 119 rfl rfl
theorem se_K_take : Cond.selects R_K y_K_take y_K_take ∈ kT := mk_S 7 rfl rfl
theorem im_K_take : Cond.instanceMethod y_K_take ∈ kT := mk_T 123 rfl rfl
theorem se_K_tell : Cond.selects R_K y_K_tell y_K_tell ∈ kT := mk_S 8 rfl rfl
theorem im_K_tell : Cond.instanceMethod y_K_tell ∈ kT := mk_T 127 rfl rfl
theorem se_K_close : Cond.selects R_K y_K_close y_K_close ∈ kT := mk_T 131 rfl rfl
theorem im_K_close : Cond.instanceMethod y_K_close ∈ kT := mk_T 130 rfl rfl
theorem se_D_condition : Cond.selects R_D y_D_condition y_D_condition ∈ kT := mk_T 135 rfl rfl
theorem im_D_condition : Cond.instanceMethod y_D_condition ∈ kT := mk_T 134 rfl rfl
theorem se_K_end : Cond.selects R_K y_K_end y_K_end ∈ kT := mk_S 9 rfl rfl
theorem im_K_end : Cond.instanceMethod y_K_end ∈ kT := mk_T 139 rfl rfl
theorem se_K_count : Cond.selects R_K y_K_count y_K_count ∈ kT := mk_T 143 rfl rfl
theorem im_K_count : Cond.instanceMethod y_K_count ∈ kT := mk_T 142 rfl rfl
theorem se_K_subjectsHeld : Cond.selects R_K y_K_subjectsHeld y_K_subjectsHeld ∈ kT := mk_S 10 rfl rfl
theorem im_K_subjectsHeld : Cond.instanceMethod y_K_subjectsHeld ∈ kT := mk_T 147 rfl rfl
theorem st_L_desk : Cond.static y_L_desk ∈ kT := mk_T 150 rfl rfl
theorem se_K_desk : Cond.selects R_K y_K_desk y_K_desk ∈ kT := mk_T 156 rfl rfl
theorem im_K_desk : Cond.instanceMethod y_K_desk ∈ kT := mk_T 155 rfl rfl
theorem im_D_init : Cond.instanceMethod y_D_init ∈ kT := mk_T 245 rfl rfl
theorem st_L_turn : Cond.static y_L_turn ∈ kT := mk_T 288 rfl rfl
theorem se_K_turn : Cond.selects R_K y_K_turn y_K_turn ∈ kT := mk_T 292 rfl rfl
theorem im_K_turn : Cond.instanceMethod y_K_turn ∈ kT := mk_T 291 rfl rfl
theorem st_L_run : Cond.static y_L_run ∈ kT := mk_T 297 rfl rfl
set_option maxRecDepth 20000 in
theorem se_K_run : Cond.selects R_K y_K_run y_K_run ∈ kT := mk_T 301 rfl rfl
theorem im_K_run : Cond.instanceMethod y_K_run ∈ kT := mk_T 300 rfl rfl
theorem se_K_takeTurn : Cond.selects R_K y_K_takeTurn y_K_takeTurn ∈ kT := mk_S 12 rfl rfl
set_option maxRecDepth 20000 in
theorem im_K_takeTurn : Cond.instanceMethod y_K_takeTurn ∈ kT := mk_T 306 rfl rfl
theorem se_K_leastLacking : Cond.selects R_K y_K_leastLacking y_K_leastLacking ∈ kT := mk_S 13 rfl rfl
set_option maxRecDepth 20000 in
theorem im_K_leastLacking : Cond.instanceMethod y_K_leastLacking ∈ kT := mk_T 310 rfl rfl
theorem se_K_ask : Cond.selects R_K y_K_ask y_K_ask ∈ kT := mk_S 14 rfl rfl
set_option maxRecDepth 20000 in
theorem im_K_ask : Cond.instanceMethod y_K_ask ∈ kT := mk_T 314 rfl rfl
theorem se_K_doOrUndo : Cond.selects R_K y_K_doOrUndo y_K_doOrUndo ∈ kT := mk_S 15 rfl rfl
set_option maxRecDepth 20000 in
theorem im_K_doOrUndo : Cond.instanceMethod y_K_doOrUndo ∈ kT := mk_T 318 rfl rfl
set_option maxRecDepth 20000 in
theorem st_L_holder : Cond.static y_L_holder ∈ kT := mk_T 321 rfl rfl
set_option maxRecDepth 20000 in
theorem se_K_holder : Cond.selects R_K y_K_holder y_K_holder ∈ kT := mk_T 325 rfl rfl
set_option maxRecDepth 20000 in
theorem im_K_holder : Cond.instanceMethod y_K_holder ∈ kT := mk_T 324 rfl rfl
set_option maxRecDepth 20000 in
theorem st_L_waits : Cond.static y_L_waits ∈ kT := mk_T 329 rfl rfl
set_option maxRecDepth 20000 in
theorem se_K_waits : Cond.selects R_K y_K_waits y_K_waits ∈ kT := mk_T 333 rfl rfl
set_option maxRecDepth 20000 in
theorem im_K_waits : Cond.instanceMethod y_K_waits ∈ kT := mk_T 332 rfl rfl
set_option maxRecDepth 20000 in
theorem st_L_dead : Cond.static y_L_dead ∈ kT := mk_T 336 rfl rfl
set_option maxRecDepth 20000 in
theorem se_K_dead : Cond.selects R_K y_K_dead y_K_dead ∈ kT := mk_T 340 rfl rfl
set_option maxRecDepth 20000 in
theorem im_K_dead : Cond.instanceMethod y_K_dead ∈ kT := mk_T 339 rfl rfl
set_option maxRecDepth 20000 in
theorem st_K_isAlive : Cond.static y_K_isAlive ∈ kT := mk_T 343 rfl rfl
set_option maxRecDepth 20000 in
theorem st_I_bitCount : Cond.static y_I_bitCount ∈ kT := mk_T 346 rfl rfl
set_option maxRecDepth 20000 in
theorem st_L_tick : Cond.static y_L_tick ∈ kT := mk_T 352 rfl rfl
set_option maxRecDepth 20000 in
theorem se_K_tick : Cond.selects R_K y_K_tick y_K_tick ∈ kT := mk_T 356 rfl rfl
set_option maxRecDepth 20000 in
theorem im_K_tick : Cond.instanceMethod y_K_tick ∈ kT := mk_T 355 rfl rfl
theorem se_K_isOverdue : Cond.selects R_K y_K_isOverdue y_K_isOverdue ∈ kT := mk_S 16 rfl rfl
set_option maxRecDepth 20000 in
theorem im_K_isOverdue : Cond.instanceMethod y_K_isOverdue ∈ kT := mk_T 362 rfl rfl
set_option maxRecDepth 20000 in
theorem st_L_look : Cond.static y_L_look ∈ kT := mk_T 365 rfl rfl
set_option maxRecDepth 20000 in
theorem se_K_look : Cond.selects R_K y_K_look y_K_look ∈ kT := mk_T 370 rfl rfl
set_option maxRecDepth 20000 in
theorem im_K_look : Cond.instanceMethod y_K_look ∈ kT := mk_T 369 rfl rfl
set_option maxRecDepth 20000 in
theorem im_M_init : Cond.instanceMethod y_M_init ∈ kT := mk_T 391 rfl rfl
set_option maxRecDepth 20000 in
theorem se_M_thrown : Cond.selects R_M y_M_thrown y_M_thrown ∈ kT := mk_T 460 rfl rfl
set_option maxRecDepth 20000 in
theorem im_M_thrown : Cond.instanceMethod y_M_thrown ∈ kT := mk_T 459 rfl rfl
set_option maxRecDepth 20000 in
theorem se_M_desk : Cond.selects R_M y_M_desk y_M_desk ∈ kT := mk_T 464 rfl rfl
set_option maxRecDepth 20000 in
theorem im_M_desk : Cond.instanceMethod y_M_desk ∈ kT := mk_T 463 rfl rfl
set_option maxRecDepth 20000 in
theorem st_M_in : Cond.static y_M_in ∈ kT := mk_T 467 rfl rfl
theorem se_M_refuse : Cond.selects R_M y_M_refuse y_M_refuse ∈ kT := mk_S 17 rfl rfl
set_option maxRecDepth 20000 in
theorem im_M_refuse : Cond.instanceMethod y_M_refuse ∈ kT := mk_T 471 rfl rfl
set_option maxRecDepth 20000 in
theorem se_M_needs : Cond.selects R_M y_M_needs y_M_needs ∈ kT := mk_T 475 rfl rfl
set_option maxRecDepth 20000 in
theorem im_M_needs : Cond.instanceMethod y_M_needs ∈ kT := mk_T 474 rfl rfl
theorem se_M_isDesk : Cond.selects R_M y_M_isDesk y_M_isDesk ∈ kT := mk_S 18 rfl rfl
set_option maxRecDepth 20000 in
theorem im_M_isDesk : Cond.instanceMethod y_M_isDesk ∈ kT := mk_T 479 rfl rfl
set_option maxRecDepth 20000 in
theorem st_M_isSubject : Cond.static y_M_isSubject ∈ kT := mk_T 482 rfl rfl
theorem se_M_isMidst : Cond.selects R_M y_M_isMidst y_M_isMidst ∈ kT := mk_S 19 rfl rfl
set_option maxRecDepth 20000 in
theorem im_M_isMidst : Cond.instanceMethod y_M_isMidst ∈ kT := mk_T 486 rfl rfl
theorem se_M_held : Cond.selects R_M y_M_held y_M_held ∈ kT := mk_S 20 rfl rfl
set_option maxRecDepth 20000 in
theorem im_M_held : Cond.instanceMethod y_M_held ∈ kT := mk_T 490 rfl rfl
set_option maxRecDepth 20000 in
theorem se_M_turn : Cond.selects R_M y_M_turn y_M_turn ∈ kT := mk_T 494 rfl rfl
set_option maxRecDepth 20000 in
theorem im_M_turn : Cond.instanceMethod y_M_turn ∈ kT := mk_T 493 rfl rfl
set_option maxRecDepth 20000 in
theorem se_M_run : Cond.selects R_M y_M_run y_M_run ∈ kT := mk_T 498 rfl rfl
set_option maxRecDepth 20000 in
theorem im_M_run : Cond.instanceMethod y_M_run ∈ kT := mk_T 497 rfl rfl
theorem se_M_steps : Cond.selects R_M y_M_steps y_M_steps ∈ kT := mk_S 21 rfl rfl
set_option maxRecDepth 20000 in
theorem im_M_steps : Cond.instanceMethod y_M_steps ∈ kT := mk_T 502 rfl rfl
theorem se_M_write : Cond.selects R_M y_M_write y_M_write ∈ kT := mk_S 22 rfl rfl
set_option maxRecDepth 20000 in
theorem im_M_write : Cond.instanceMethod y_M_write ∈ kT := mk_T 506 rfl rfl
theorem se_M_giveAll : Cond.selects R_M y_M_giveAll y_M_giveAll ∈ kT := mk_S 23 rfl rfl
set_option maxRecDepth 20000 in
theorem im_M_giveAll : Cond.instanceMethod y_M_giveAll ∈ kT := mk_T 510 rfl rfl
theorem se_M_giveBack : Cond.selects R_M y_M_giveBack y_M_giveBack ∈ kT := mk_S 24 rfl rfl
set_option maxRecDepth 20000 in
theorem im_M_giveBack : Cond.instanceMethod y_M_giveBack ∈ kT := mk_T 514 rfl rfl
theorem se_M_first : Cond.selects R_M y_M_first y_M_first ∈ kT := mk_S 25 rfl rfl
set_option maxRecDepth 20000 in
theorem im_M_first : Cond.instanceMethod y_M_first ∈ kT := mk_T 518 rfl rfl
theorem se_M_goesOn : Cond.selects R_M y_M_goesOn y_M_goesOn ∈ kT := mk_S 26 rfl rfl
set_option maxRecDepth 20000 in
theorem im_M_goesOn : Cond.instanceMethod y_M_goesOn ∈ kT := mk_T 522 rfl rfl
set_option maxRecDepth 20000 in
theorem se_M_log : Cond.selects R_M y_M_log y_M_log ∈ kT := mk_T 526 rfl rfl
set_option maxRecDepth 20000 in
theorem im_M_log : Cond.instanceMethod y_M_log ∈ kT := mk_T 525 rfl rfl
set_option maxRecDepth 20000 in
theorem se_M_holder : Cond.selects R_M y_M_holder y_M_holder ∈ kT := mk_T 530 rfl rfl
set_option maxRecDepth 20000 in
theorem im_M_holder : Cond.instanceMethod y_M_holder ∈ kT := mk_T 529 rfl rfl
set_option maxRecDepth 20000 in
theorem se_M_waits : Cond.selects R_M y_M_waits y_M_waits ∈ kT := mk_T 534 rfl rfl
set_option maxRecDepth 20000 in
theorem im_M_waits : Cond.instanceMethod y_M_waits ∈ kT := mk_T 533 rfl rfl
set_option maxRecDepth 20000 in
theorem se_M_interrupt : Cond.selects R_M y_M_interrupt y_M_interrupt ∈ kT := mk_T 538 rfl rfl
set_option maxRecDepth 20000 in
theorem im_M_interrupt : Cond.instanceMethod y_M_interrupt ∈ kT := mk_T 537 rfl rfl
set_option maxRecDepth 20000 in
theorem se_M_dead : Cond.selects R_M y_M_dead y_M_dead ∈ kT := mk_T 542 rfl rfl
set_option maxRecDepth 20000 in
theorem im_M_dead : Cond.instanceMethod y_M_dead ∈ kT := mk_T 541 rfl rfl
set_option maxRecDepth 20000 in
theorem st_M_ones : Cond.static y_M_ones ∈ kT := mk_T 545 rfl rfl
set_option maxRecDepth 20000 in
theorem se_M_tick : Cond.selects R_M y_M_tick y_M_tick ∈ kT := mk_T 549 rfl rfl
set_option maxRecDepth 20000 in
theorem im_M_tick : Cond.instanceMethod y_M_tick ∈ kT := mk_T 548 rfl rfl
set_option maxRecDepth 20000 in
theorem se_M_close : Cond.selects R_M y_M_close y_M_close ∈ kT := mk_T 554 rfl rfl
set_option maxRecDepth 20000 in
theorem im_M_close : Cond.instanceMethod y_M_close ∈ kT := mk_T 553 rfl rfl
set_option maxRecDepth 20000 in
theorem se_M_look : Cond.selects R_M y_M_look y_M_look ∈ kT := mk_T 558 rfl rfl
set_option maxRecDepth 20000 in
theorem im_M_look : Cond.instanceMethod y_M_look ∈ kT := mk_T 557 rfl rfl
set_option maxRecDepth 20000 in
theorem se_M_count : Cond.selects R_M y_M_count y_M_count ∈ kT := mk_T 562 rfl rfl
set_option maxRecDepth 20000 in
theorem im_M_count : Cond.instanceMethod y_M_count ∈ kT := mk_T 561 rfl rfl
theorem ml_L_42 : Cond.methodLink R_L 42 y_K_init ∈ kT := mk_T 14 rfl rfl
theorem ml_K_54 : Cond.methodLink R_K 54 y_A_fill ∈ kT := mk_T 22 rfl rfl
theorem ml_L_55 : Cond.methodLink R_L 55 y_K_needs ∈ kT := mk_T 66 rfl rfl
theorem gd_L_55 : GoodIn kT (wsV R_L 55 R_K y_K_needs w_K_needs) := gdV ml_L_55 im_K_needs se_K_needs ini_K cd_K_needs
theorem ml_K_77 : Cond.methodLink R_K 77 y_K_deskAt ∈ kT := mk_T 70 rfl rfl
theorem gd_K_77 : GoodIn kT (wsV R_K 77 R_K y_K_deskAt w_K_deskAt) := gdV ml_K_77 im_K_deskAt se_K_deskAt ini_K cd_K_deskAt
theorem ml_K_81 : Cond.methodLink R_K 81 y_K_isSubject ∈ kT := mk_T 74 rfl rfl
theorem gd_K_81 : GoodIn kT (wsS R_K 81 y_K_isSubject w_K_isSubject) := gdS ml_K_81 st_K_isSubject ini_K cd_K_isSubject
theorem ml_K_85 : Cond.methodLink R_K 85 y_D_isAhead ∈ kT := mk_T 77 rfl rfl
theorem gd_K_85 : GoodIn kT (wsV R_K 85 R_D y_D_isAhead w_D_isAhead) := gdV ml_K_85 im_D_isAhead se_D_isAhead ini_D cd_D_isAhead
theorem ml_K_88 : Cond.methodLink R_K 88 y_D_hasNeed ∈ kT := mk_T 81 rfl rfl
theorem gd_K_88 : GoodIn kT (wsV R_K 88 R_D y_D_hasNeed w_D_hasNeed) := gdV ml_K_88 im_D_hasNeed se_D_hasNeed ini_D cd_D_hasNeed
theorem ml_K_95 : Cond.methodLink R_K 95 y_K_isInTheMidst ∈ kT := mk_T 85 rfl rfl
theorem gd_K_95 : GoodIn kT (wsV R_K 95 R_K y_K_isInTheMidst w_K_isInTheMidst) := gdV ml_K_95 im_K_isInTheMidst se_K_isInTheMidst ini_K cd_K_isInTheMidst
theorem ml_K_137 : Cond.methodLink R_K 137 y_K_heldBy ∈ kT := mk_T 89 rfl rfl
theorem gd_K_137 : GoodIn kT (wsV R_K 137 R_K y_K_heldBy w_K_heldBy) := gdV ml_K_137 im_K_heldBy se_K_heldBy ini_K cd_K_heldBy
theorem ml_K_99 : Cond.methodLink R_K 99 y_D_addNeed ∈ kT := mk_T 93 rfl rfl
theorem gd_K_99 : GoodIn kT (wsV R_K 99 R_D y_D_addNeed w_D_addNeed) := gdV ml_K_99 im_D_addNeed se_D_addNeed ini_D cd_D_addNeed
theorem ml_L_68 : Cond.methodLink R_L 68 y_K_log ∈ kT := mk_T 97 rfl rfl
theorem gd_L_68 : GoodIn kT (wsV R_L 68 R_K y_K_log w_K_log) := gdV ml_L_68 im_K_log se_K_log ini_K cd_K_log
theorem ml_L_78 : Cond.methodLink R_L 78 y_K_interrupt ∈ kT := mk_T 101 rfl rfl
theorem gd_L_78 : GoodIn kT (wsV R_L 78 R_K y_K_interrupt w_K_interrupt) := gdV ml_L_78 im_K_interrupt se_K_interrupt ini_K cd_K_interrupt
theorem ml_K_123 : Cond.methodLink R_K 123 y_K_giveBackAll ∈ kT := mk_T 105 rfl rfl
theorem gd_K_123 : GoodIn kT (wsV R_K 123 R_K y_K_giveBackAll w_K_giveBackAll) := gdV ml_K_123 im_K_giveBackAll se_K_giveBackAll ini_K cd_K_giveBackAll
theorem ml_K_153 : Cond.methodLink R_K 153 y_K_giveBack ∈ kT := mk_T 109 rfl rfl
theorem gd_K_153 : GoodIn kT (wsV R_K 153 R_K y_K_giveBack w_K_giveBack) := gdV ml_K_153 im_K_giveBack se_K_giveBack ini_K cd_K_giveBack
theorem ml_K_113 : Cond.methodLink R_K 113 y_K_waiterFor ∈ kT := mk_T 113 rfl rfl
theorem gd_K_113 : GoodIn kT (wsV R_K 113 R_K y_K_waiterFor w_K_waiterFor) := gdV ml_K_113 im_K_waiterFor se_K_waiterFor ini_K cd_K_waiterFor
theorem ml_K_194 : Cond.methodLink R_K 194 y_K_waitersAheadOf ∈ kT := mk_T 117 rfl rfl
theorem gd_K_194 : GoodIn kT (wsV R_K 194 R_K y_K_waitersAheadOf w_K_waitersAheadOf) := gdV ml_K_194 im_K_waitersAheadOf se_K_waitersAheadOf ini_K cd_K_waitersAheadOf
theorem ml_K_185 : Cond.methodLink R_K 185 y_K_take ∈ kT := mk_T 121 rfl rfl
theorem gd_K_185 : GoodIn kT (wsV R_K 185 R_K y_K_take w_K_take) := gdV ml_K_185 im_K_take se_K_take ini_K cd_K_take
theorem ml_K_127 : Cond.methodLink R_K 127 y_K_tell ∈ kT := mk_T 125 rfl rfl
theorem gd_K_127 : GoodIn kT (wsV R_K 127 R_K y_K_tell w_K_tell) := gdV ml_K_127 im_K_tell se_K_tell ini_K cd_K_tell
theorem ml_L_89 : Cond.methodLink R_L 89 y_K_close ∈ kT := mk_T 129 rfl rfl
theorem gd_L_89 : GoodIn kT (wsV R_L 89 R_K y_K_close w_K_close) := gdV ml_L_89 im_K_close se_K_close ini_K cd_K_close
theorem ml_K_157 : Cond.methodLink R_K 157 y_D_condition ∈ kT := mk_T 133 rfl rfl
theorem gd_K_157 : GoodIn kT (wsV R_K 157 R_D y_D_condition w_D_condition) := gdV ml_K_157 im_D_condition se_D_condition ini_D cd_D_condition
theorem ml_K_161 : Cond.methodLink R_K 161 y_K_end ∈ kT := mk_T 137 rfl rfl
theorem gd_K_161 : GoodIn kT (wsV R_K 161 R_K y_K_end w_K_end) := gdV ml_K_161 im_K_end se_K_end ini_K cd_K_end
theorem ml_L_96 : Cond.methodLink R_L 96 y_K_count ∈ kT := mk_T 141 rfl rfl
theorem gd_L_96 : GoodIn kT (wsV R_L 96 R_K y_K_count w_K_count) := gdV ml_L_96 im_K_count se_K_count ini_K cd_K_count
theorem ml_K_172 : Cond.methodLink R_K 172 y_K_subjectsHeld ∈ kT := mk_T 145 rfl rfl
theorem gd_K_172 : GoodIn kT (wsV R_K 172 R_K y_K_subjectsHeld w_K_subjectsHeld) := gdV ml_K_172 im_K_subjectsHeld se_K_subjectsHeld ini_K cd_K_subjectsHeld
theorem ml_L_46 : Cond.methodLink R_L 46 y_L_desk ∈ kT := mk_T 149 rfl rfl
theorem ml_L_7 : Cond.methodLink R_L 7 y_K_desk ∈ kT := mk_T 154 rfl rfl
theorem gd_L_7 : GoodIn kT (wsV R_L 7 R_K y_K_desk w_K_desk) := gdV ml_L_7 im_K_desk se_K_desk ini_K cd_K_desk
theorem ml_K_74 : Cond.methodLink R_K 74 y_D_init ∈ kT := mk_T 244 rfl rfl
theorem ml_L_60 : Cond.methodLink R_L 60 y_L_turn ∈ kT := mk_T 287 rfl rfl
theorem ml_L_17 : Cond.methodLink R_L 17 y_K_turn ∈ kT := mk_T 290 rfl rfl
theorem gd_L_17 : GoodIn kT (wsV R_L 17 R_K y_K_turn w_K_turn) := gdV ml_L_17 im_K_turn se_K_turn ini_K cd_K_turn
theorem ml_L_64 : Cond.methodLink R_L 64 y_L_run ∈ kT := mk_T 296 rfl rfl
theorem ml_L_21 : Cond.methodLink R_L 21 y_K_run ∈ kT := mk_T 299 rfl rfl
theorem gd_L_21 : GoodIn kT (wsV R_L 21 R_K y_K_run w_K_run) := gdV ml_L_21 im_K_run se_K_run ini_K cd_K_run
set_option maxRecDepth 20000 in
theorem ml_K_108 : Cond.methodLink R_K 108 y_K_takeTurn ∈ kT := mk_T 304 rfl rfl
theorem gd_K_108 : GoodIn kT (wsV R_K 108 R_K y_K_takeTurn w_K_takeTurn) := gdV ml_K_108 im_K_takeTurn se_K_takeTurn ini_K cd_K_takeTurn
set_option maxRecDepth 20000 in
theorem ml_K_175 : Cond.methodLink R_K 175 y_K_leastLacking ∈ kT := mk_T 308 rfl rfl
theorem gd_K_175 : GoodIn kT (wsV R_K 175 R_K y_K_leastLacking w_K_leastLacking) := gdV ml_K_175 im_K_leastLacking se_K_leastLacking ini_K cd_K_leastLacking
set_option maxRecDepth 20000 in
theorem ml_K_178 : Cond.methodLink R_K 178 y_K_ask ∈ kT := mk_T 312 rfl rfl
theorem gd_K_178 : GoodIn kT (wsV R_K 178 R_K y_K_ask w_K_ask) := gdV ml_K_178 im_K_ask se_K_ask ini_K cd_K_ask
set_option maxRecDepth 20000 in
theorem ml_K_182 : Cond.methodLink R_K 182 y_K_doOrUndo ∈ kT := mk_T 316 rfl rfl
theorem gd_K_182 : GoodIn kT (wsV R_K 182 R_K y_K_doOrUndo w_K_doOrUndo) := gdV ml_K_182 im_K_doOrUndo se_K_doOrUndo ini_K cd_K_doOrUndo
set_option maxRecDepth 20000 in
theorem ml_L_72 : Cond.methodLink R_L 72 y_L_holder ∈ kT := mk_T 320 rfl rfl
set_option maxRecDepth 20000 in
theorem ml_L_25 : Cond.methodLink R_L 25 y_K_holder ∈ kT := mk_T 323 rfl rfl
theorem gd_L_25 : GoodIn kT (wsV R_L 25 R_K y_K_holder w_K_holder) := gdV ml_L_25 im_K_holder se_K_holder ini_K cd_K_holder
set_option maxRecDepth 20000 in
theorem ml_L_75 : Cond.methodLink R_L 75 y_L_waits ∈ kT := mk_T 328 rfl rfl
set_option maxRecDepth 20000 in
theorem ml_L_28 : Cond.methodLink R_L 28 y_K_waits ∈ kT := mk_T 331 rfl rfl
theorem gd_L_28 : GoodIn kT (wsV R_L 28 R_K y_K_waits w_K_waits) := gdV ml_L_28 im_K_waits se_K_waits ini_K cd_K_waits
set_option maxRecDepth 20000 in
theorem ml_L_83 : Cond.methodLink R_L 83 y_L_dead ∈ kT := mk_T 335 rfl rfl
set_option maxRecDepth 20000 in
theorem ml_L_31 : Cond.methodLink R_L 31 y_K_dead ∈ kT := mk_T 338 rfl rfl
theorem gd_L_31 : GoodIn kT (wsV R_L 31 R_K y_K_dead w_K_dead) := gdV ml_L_31 im_K_dead se_K_dead ini_K cd_K_dead
set_option maxRecDepth 20000 in
theorem ml_K_131 : Cond.methodLink R_K 131 y_K_isAlive ∈ kT := mk_T 342 rfl rfl
theorem gd_K_131 : GoodIn kT (wsS R_K 131 y_K_isAlive w_K_isAlive) := gdS ml_K_131 st_K_isAlive ini_K cd_K_isAlive
set_option maxRecDepth 20000 in
theorem ml_K_141 : Cond.methodLink R_K 141 y_I_bitCount ∈ kT := mk_T 345 rfl rfl
set_option maxRecDepth 20000 in
theorem ml_L_86 : Cond.methodLink R_L 86 y_L_tick ∈ kT := mk_T 351 rfl rfl
set_option maxRecDepth 20000 in
theorem ml_L_34 : Cond.methodLink R_L 34 y_K_tick ∈ kT := mk_T 354 rfl rfl
theorem gd_L_34 : GoodIn kT (wsV R_L 34 R_K y_K_tick w_K_tick) := gdV ml_L_34 im_K_tick se_K_tick ini_K cd_K_tick
set_option maxRecDepth 20000 in
theorem ml_K_150 : Cond.methodLink R_K 150 y_K_isOverdue ∈ kT := mk_T 360 rfl rfl
theorem gd_K_150 : GoodIn kT (wsV R_K 150 R_K y_K_isOverdue w_K_isOverdue) := gdV ml_K_150 im_K_isOverdue se_K_isOverdue ini_K cd_K_isOverdue
set_option maxRecDepth 20000 in
theorem ml_L_93 : Cond.methodLink R_L 93 y_L_look ∈ kT := mk_T 364 rfl rfl
set_option maxRecDepth 20000 in
theorem ml_L_37 : Cond.methodLink R_L 37 y_K_look ∈ kT := mk_T 368 rfl rfl
theorem gd_L_37 : GoodIn kT (wsV R_L 37 R_K y_K_look w_K_look) := gdV ml_L_37 im_K_look se_K_look ini_K cd_K_look
set_option maxRecDepth 20000 in
theorem ml_L_45 : Cond.methodLink R_L 45 y_M_init ∈ kT := mk_T 390 rfl rfl
set_option maxRecDepth 20000 in
theorem ml_L_52 : Cond.methodLink R_L 52 y_M_thrown ∈ kT := mk_T 458 rfl rfl
theorem gd_L_52 : GoodIn kT (wsV R_L 52 R_M y_M_thrown w_M_thrown) := gdV ml_L_52 im_M_thrown se_M_thrown ini_M cd_M_thrown
set_option maxRecDepth 20000 in
theorem ml_L_51 : Cond.methodLink R_L 51 y_M_desk ∈ kT := mk_T 462 rfl rfl
theorem gd_L_51 : GoodIn kT (wsV R_L 51 R_M y_M_desk w_M_desk) := gdV ml_L_51 im_M_desk se_M_desk ini_M cd_M_desk
set_option maxRecDepth 20000 in
theorem ml_M_53 : Cond.methodLink R_M 53 y_M_in ∈ kT := mk_T 466 rfl rfl
theorem gd_M_53 : GoodIn kT (wsS R_M 53 y_M_in w_M_in) := gdS ml_M_53 st_M_in ini_M cd_M_in
set_option maxRecDepth 20000 in
theorem ml_M_57 : Cond.methodLink R_M 57 y_M_refuse ∈ kT := mk_T 469 rfl rfl
theorem gd_M_57 : GoodIn kT (wsV R_M 57 R_M y_M_refuse w_M_refuse) := gdV ml_M_57 im_M_refuse se_M_refuse ini_M cd_M_refuse
set_option maxRecDepth 20000 in
theorem ml_L_59 : Cond.methodLink R_L 59 y_M_needs ∈ kT := mk_T 473 rfl rfl
theorem gd_L_59 : GoodIn kT (wsV R_L 59 R_M y_M_needs w_M_needs) := gdV ml_L_59 im_M_needs se_M_needs ini_M cd_M_needs
set_option maxRecDepth 20000 in
theorem ml_M_68 : Cond.methodLink R_M 68 y_M_isDesk ∈ kT := mk_T 477 rfl rfl
theorem gd_M_68 : GoodIn kT (wsV R_M 68 R_M y_M_isDesk w_M_isDesk) := gdV ml_M_68 im_M_isDesk se_M_isDesk ini_M cd_M_isDesk
set_option maxRecDepth 20000 in
theorem ml_M_72 : Cond.methodLink R_M 72 y_M_isSubject ∈ kT := mk_T 481 rfl rfl
theorem gd_M_72 : GoodIn kT (wsS R_M 72 y_M_isSubject w_M_isSubject) := gdS ml_M_72 st_M_isSubject ini_M cd_M_isSubject
set_option maxRecDepth 20000 in
theorem ml_M_75 : Cond.methodLink R_M 75 y_M_isMidst ∈ kT := mk_T 484 rfl rfl
theorem gd_M_75 : GoodIn kT (wsV R_M 75 R_M y_M_isMidst w_M_isMidst) := gdV ml_M_75 im_M_isMidst se_M_isMidst ini_M cd_M_isMidst
set_option maxRecDepth 20000 in
theorem ml_M_65 : Cond.methodLink R_M 65 y_M_held ∈ kT := mk_T 488 rfl rfl
theorem gd_M_65 : GoodIn kT (wsV R_M 65 R_M y_M_held w_M_held) := gdV ml_M_65 im_M_held se_M_held ini_M cd_M_held
set_option maxRecDepth 20000 in
theorem ml_L_63 : Cond.methodLink R_L 63 y_M_turn ∈ kT := mk_T 492 rfl rfl
theorem gd_L_63 : GoodIn kT (wsV R_L 63 R_M y_M_turn w_M_turn) := gdV ml_L_63 im_M_turn se_M_turn ini_M cd_M_turn
set_option maxRecDepth 20000 in
theorem ml_L_67 : Cond.methodLink R_L 67 y_M_run ∈ kT := mk_T 496 rfl rfl
theorem gd_L_67 : GoodIn kT (wsV R_L 67 R_M y_M_run w_M_run) := gdV ml_L_67 im_M_run se_M_run ini_M cd_M_run
set_option maxRecDepth 20000 in
theorem ml_M_113 : Cond.methodLink R_M 113 y_M_steps ∈ kT := mk_T 500 rfl rfl
theorem gd_M_113 : GoodIn kT (wsV R_M 113 R_M y_M_steps w_M_steps) := gdV ml_M_113 im_M_steps se_M_steps ini_M cd_M_steps
set_option maxRecDepth 20000 in
theorem ml_M_94 : Cond.methodLink R_M 94 y_M_write ∈ kT := mk_T 504 rfl rfl
theorem gd_M_94 : GoodIn kT (wsV R_M 94 R_M y_M_write w_M_write) := gdV ml_M_94 im_M_write se_M_write ini_M cd_M_write
set_option maxRecDepth 20000 in
theorem ml_M_98 : Cond.methodLink R_M 98 y_M_giveAll ∈ kT := mk_T 508 rfl rfl
theorem gd_M_98 : GoodIn kT (wsV R_M 98 R_M y_M_giveAll w_M_giveAll) := gdV ml_M_98 im_M_giveAll se_M_giveAll ini_M cd_M_giveAll
set_option maxRecDepth 20000 in
theorem ml_M_87 : Cond.methodLink R_M 87 y_M_giveBack ∈ kT := mk_T 512 rfl rfl
theorem gd_M_87 : GoodIn kT (wsV R_M 87 R_M y_M_giveBack w_M_giveBack) := gdV ml_M_87 im_M_giveBack se_M_giveBack ini_M cd_M_giveBack
set_option maxRecDepth 20000 in
theorem ml_M_81 : Cond.methodLink R_M 81 y_M_first ∈ kT := mk_T 516 rfl rfl
theorem gd_M_81 : GoodIn kT (wsV R_M 81 R_M y_M_first w_M_first) := gdV ml_M_81 im_M_first se_M_first ini_M cd_M_first
set_option maxRecDepth 20000 in
theorem ml_M_101 : Cond.methodLink R_M 101 y_M_goesOn ∈ kT := mk_T 520 rfl rfl
theorem gd_M_101 : GoodIn kT (wsV R_M 101 R_M y_M_goesOn w_M_goesOn) := gdV ml_M_101 im_M_goesOn se_M_goesOn ini_M cd_M_goesOn
set_option maxRecDepth 20000 in
theorem ml_L_71 : Cond.methodLink R_L 71 y_M_log ∈ kT := mk_T 524 rfl rfl
theorem gd_L_71 : GoodIn kT (wsV R_L 71 R_M y_M_log w_M_log) := gdV ml_L_71 im_M_log se_M_log ini_M cd_M_log
set_option maxRecDepth 20000 in
theorem ml_L_74 : Cond.methodLink R_L 74 y_M_holder ∈ kT := mk_T 528 rfl rfl
theorem gd_L_74 : GoodIn kT (wsV R_L 74 R_M y_M_holder w_M_holder) := gdV ml_L_74 im_M_holder se_M_holder ini_M cd_M_holder
set_option maxRecDepth 20000 in
theorem ml_L_77 : Cond.methodLink R_L 77 y_M_waits ∈ kT := mk_T 532 rfl rfl
theorem gd_L_77 : GoodIn kT (wsV R_L 77 R_M y_M_waits w_M_waits) := gdV ml_L_77 im_M_waits se_M_waits ini_M cd_M_waits
set_option maxRecDepth 20000 in
theorem ml_L_82 : Cond.methodLink R_L 82 y_M_interrupt ∈ kT := mk_T 536 rfl rfl
theorem gd_L_82 : GoodIn kT (wsV R_L 82 R_M y_M_interrupt w_M_interrupt) := gdV ml_L_82 im_M_interrupt se_M_interrupt ini_M cd_M_interrupt
set_option maxRecDepth 20000 in
theorem ml_L_85 : Cond.methodLink R_L 85 y_M_dead ∈ kT := mk_T 540 rfl rfl
theorem gd_L_85 : GoodIn kT (wsV R_L 85 R_M y_M_dead w_M_dead) := gdV ml_L_85 im_M_dead se_M_dead ini_M cd_M_dead
set_option maxRecDepth 20000 in
theorem ml_M_116 : Cond.methodLink R_M 116 y_M_ones ∈ kT := mk_T 544 rfl rfl
theorem gd_M_116 : GoodIn kT (wsS R_M 116 y_M_ones w_M_ones) := gdS ml_M_116 st_M_ones ini_M cd_M_ones
set_option maxRecDepth 20000 in
theorem ml_L_88 : Cond.methodLink R_L 88 y_M_tick ∈ kT := mk_T 547 rfl rfl
theorem gd_L_88 : GoodIn kT (wsV R_L 88 R_M y_M_tick w_M_tick) := gdV ml_L_88 im_M_tick se_M_tick ini_M cd_M_tick
set_option maxRecDepth 20000 in
theorem ml_L_92 : Cond.methodLink R_L 92 y_M_close ∈ kT := mk_T 552 rfl rfl
theorem gd_L_92 : GoodIn kT (wsV R_L 92 R_M y_M_close w_M_close) := gdV ml_L_92 im_M_close se_M_close ini_M cd_M_close
set_option maxRecDepth 20000 in
theorem ml_L_95 : Cond.methodLink R_L 95 y_M_look ∈ kT := mk_T 556 rfl rfl
theorem gd_L_95 : GoodIn kT (wsV R_L 95 R_M y_M_look w_M_look) := gdV ml_L_95 im_M_look se_M_look ini_M cd_M_look
set_option maxRecDepth 20000 in
theorem ml_L_99 : Cond.methodLink R_L 99 y_M_count ∈ kT := mk_T 560 rfl rfl
theorem gd_L_99 : GoodIn kT (wsV R_L 99 R_M y_M_count w_M_count) := gdV ml_L_99 im_M_count se_M_count ini_M cd_M_count
