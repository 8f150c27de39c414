theorem xw {w : Cond} (i : Nat) (h : (decide (lw_tbl[i]? = some w) && goodWord w) = true) : w ∈ xws := by
  simp only [Bool.and_eq_true, decide_eq_true_eq] at h
  exact List.mem_filter.mpr ⟨List.mem_of_getElem? h.1, h.2⟩
theorem xwc {w : Cond} (i : Nat) (h : lw_tbl[i]? = some w) (hg : goodWord w = true) : w ∈ xws := List.mem_filter.mpr ⟨List.mem_of_getElem? h, hg⟩
abbrev kX0_init : xK := (RX0, cX0_init, 2, none, true)
set_option maxRecDepth 20000 in
theorem mX0_init : xcI yX0_init kX0_init 0 := ⟨⟨xwc 139 rfl rfl, xw 39 (by decide +kernel), by decide +kernel, by decide +kernel, by decide +kernel⟩, xw 138 (by decide +kernel), rfl⟩
abbrev kX0_decide : xK := (RX0, cX0_decide, 2, (some .boolean), false)
set_option maxRecDepth 20000 in
theorem mX0_decide : xcV yX0_decide kX0_decide 1 := ⟨⟨xwc 379 rfl rfl, xw 39 (by decide +kernel), by decide +kernel, by decide +kernel, by decide +kernel⟩, xw 377 (by decide +kernel), xw 378 (by decide +kernel)⟩
abbrev kX0_figureFor : xK := (RX0, cX0_figureFor, 2, (some .int), false)
set_option maxRecDepth 20000 in
theorem mX0_figureFor : xcV yX0_figureFor kX0_figureFor 1 := ⟨⟨xwc 421 rfl rfl, xw 39 (by decide +kernel), by decide +kernel, by decide +kernel, by decide +kernel⟩, xw 419 (by decide +kernel), xw 420 (by decide +kernel)⟩
abbrev kX0_lend : xK := (RX0, cX0_lend, 4, (some .boolean), false)
set_option maxRecDepth 20000 in
theorem mX0_lend : xcV yX0_lend kX0_lend 2 := ⟨⟨xwc 383 rfl rfl, xw 39 (by decide +kernel), by decide +kernel, by decide +kernel, by decide +kernel⟩, xw 382 (by decide +kernel), xw 10 (by decide +kernel)⟩
abbrev kX0_bringBack : xK := (RX0, cX0_bringBack, 2, (some .boolean), false)
set_option maxRecDepth 20000 in
theorem mX0_bringBack : xcV yX0_bringBack kX0_bringBack 1 := ⟨⟨xwc 391 rfl rfl, xw 39 (by decide +kernel), by decide +kernel, by decide +kernel, by decide +kernel⟩, xw 390 (by decide +kernel), xw 12 (by decide +kernel)⟩
abbrev kX0_pay : xK := (RX0, cX0_pay, 3, (some .boolean), false)
set_option maxRecDepth 20000 in
theorem mX0_pay : xcV yX0_pay kX0_pay 2 := ⟨⟨xwc 395 rfl rfl, xw 39 (by decide +kernel), by decide +kernel, by decide +kernel, by decide +kernel⟩, xw 394 (by decide +kernel), xw 13 (by decide +kernel)⟩
abbrev kX0_queueUp : xK := (RX0, cX0_queueUp, 5, (some .boolean), false)
set_option maxRecDepth 20000 in
theorem mX0_queueUp : xcV yX0_queueUp kX0_queueUp 2 := ⟨⟨xwc 399 rfl rfl, xw 39 (by decide +kernel), by decide +kernel, by decide +kernel, by decide +kernel⟩, xw 398 (by decide +kernel), xw 14 (by decide +kernel)⟩
abbrev kX0_renew : xK := (RX0, cX0_renew, 4, (some .boolean), false)
set_option maxRecDepth 20000 in
theorem mX0_renew : xcV yX0_renew kX0_renew 2 := ⟨⟨xwc 408 rfl rfl, xw 39 (by decide +kernel), by decide +kernel, by decide +kernel, by decide +kernel⟩, xw 407 (by decide +kernel), xw 16 (by decide +kernel)⟩
abbrev kX0_itemsOf : xK := (RX0, cX0_itemsOf, 4, (some .int), false)
set_option maxRecDepth 20000 in
theorem mX0_itemsOf : xcV yX0_itemsOf kX0_itemsOf 1 := ⟨⟨xwc 425 rfl rfl, xw 39 (by decide +kernel), by decide +kernel, by decide +kernel, by decide +kernel⟩, xw 424 (by decide +kernel), xw 17 (by decide +kernel)⟩
abbrev kX0_isInQueue : xK := (RX0, cX0_isInQueue, 4, (some .boolean), false)
set_option maxRecDepth 20000 in
theorem mX0_isInQueue : xcV yX0_isInQueue kX0_isInQueue 2 := ⟨⟨xwc 403 rfl rfl, xw 39 (by decide +kernel), by decide +kernel, by decide +kernel, by decide +kernel⟩, xw 402 (by decide +kernel), xw 15 (by decide +kernel)⟩
abbrev kX0_dropFirst : xK := (RX0, cX0_dropFirst, 3, none, false)
set_option maxRecDepth 20000 in
theorem mX0_dropFirst : xcV yX0_dropFirst kX0_dropFirst 1 := ⟨⟨xwc 387 rfl rfl, xw 39 (by decide +kernel), by decide +kernel, by decide +kernel, by decide +kernel⟩, xw 386 (by decide +kernel), xw 11 (by decide +kernel)⟩
abbrev kX1_init : xK := (RX1, cX1_init, 1, none, true)
set_option maxRecDepth 20000 in
theorem mX1_init : xcI yX1_init kX1_init 0 := ⟨⟨xwc 167 rfl rfl, xw 40 (by decide +kernel), by decide +kernel, by decide +kernel, by decide +kernel⟩, xw 166 (by decide +kernel), rfl⟩
abbrev kX1_add : xK := (RX1, cX1_add, 4, none, false)
set_option maxRecDepth 20000 in
theorem mX1_add : xcV yX1_add kX1_add 2 := ⟨⟨xwc 416 rfl rfl, xw 40 (by decide +kernel), by decide +kernel, by decide +kernel, by decide +kernel⟩, xw 414 (by decide +kernel), xw 415 (by decide +kernel)⟩
abbrev kX1_tell : xK := (RX1, cX1_tell, 3, (some .int), false)
set_option maxRecDepth 20000 in
theorem mX1_tell : xcV yX1_tell kX1_tell 2 := ⟨⟨xwc 483 rfl rfl, xw 40 (by decide +kernel), by decide +kernel, by decide +kernel, by decide +kernel⟩, xw 481 (by decide +kernel), xw 482 (by decide +kernel)⟩
abbrev kX2_init : xK := (RX2, cX2_init, 1, none, true)
set_option maxRecDepth 20000 in
theorem mX2_init : xcI yX2_init kX2_init 0 := ⟨⟨xwc 67 rfl rfl, xw 37 (by decide +kernel), by decide +kernel, by decide +kernel, by decide +kernel⟩, xw 66 (by decide +kernel), rfl⟩
abbrev kX2_take : xK := (RX2, cX2_take, 2, (some .int), false)
set_option maxRecDepth 20000 in
theorem mX2_take : xcV yX2_take kX2_take 1 := ⟨⟨xwc 239 rfl rfl, xw 37 (by decide +kernel), by decide +kernel, by decide +kernel, by decide +kernel⟩, xw 237 (by decide +kernel), xw 238 (by decide +kernel)⟩
abbrev kX2_clear : xK := (RX2, cX2_clear, 1, none, false)
set_option maxRecDepth 20000 in
theorem mX2_clear : xcV yX2_clear kX2_clear 0 := ⟨⟨xwc 450 rfl rfl, xw 37 (by decide +kernel), by decide +kernel, by decide +kernel, by decide +kernel⟩, xw 448 (by decide +kernel), xw 449 (by decide +kernel)⟩
abbrev kX2_addRow : xK := (RX2, cX2_addRow, 4, (some .int), false)
set_option maxRecDepth 20000 in
theorem mX2_addRow : xcV yX2_addRow kX2_addRow 3 := ⟨⟨xwc 458 rfl rfl, xw 37 (by decide +kernel), by decide +kernel, by decide +kernel, by decide +kernel⟩, xw 456 (by decide +kernel), xw 457 (by decide +kernel)⟩
abbrev kX3_init : xK := (RX3, cX3_init, 1, none, true)
set_option maxRecDepth 20000 in
theorem mX3_init : xcI yX3_init kX3_init 0 := ⟨⟨xwc 181 rfl rfl, xw 41 (by decide +kernel), by decide +kernel, by decide +kernel, by decide +kernel⟩, xw 180 (by decide +kernel), rfl⟩
abbrev kX3_fillFromRow : xK := (RX3, cX3_fillFromRow, 4, none, false)
set_option maxRecDepth 20000 in
theorem mX3_fillFromRow : xcV yX3_fillFromRow kX3_fillFromRow 3 := ⟨⟨xwc 466 rfl rfl, xw 41 (by decide +kernel), by decide +kernel, by decide +kernel, by decide +kernel⟩, xw 464 (by decide +kernel), xw 465 (by decide +kernel)⟩
abbrev kX3_read : xK := (RX3, cX3_read, 6, (some .boolean), false)
set_option maxRecDepth 20000 in
theorem mX3_read : xcV yX3_read kX3_read 2 := ⟨⟨xwc 248 rfl rfl, xw 41 (by decide +kernel), by decide +kernel, by decide +kernel, by decide +kernel⟩, xw 246 (by decide +kernel), xw 247 (by decide +kernel)⟩
abbrev kX3_firstBadField : xK := (RX3, cX3_firstBadField, 3, (some .int), false)
set_option maxRecDepth 20000 in
theorem mX3_firstBadField : xcV yX3_firstBadField kX3_firstBadField 0 := ⟨⟨xwc 361 rfl rfl, xw 41 (by decide +kernel), by decide +kernel, by decide +kernel, by decide +kernel⟩, xw 359 (by decide +kernel), xw 360 (by decide +kernel)⟩
abbrev kX3_changesTheHouse : xK := (RX3, cX3_changesTheHouse, 1, (some .boolean), false)
set_option maxRecDepth 20000 in
theorem mX3_changesTheHouse : xcV yX3_changesTheHouse kX3_changesTheHouse 0 := ⟨⟨xwc 412 rfl rfl, xw 41 (by decide +kernel), by decide +kernel, by decide +kernel, by decide +kernel⟩, xw 410 (by decide +kernel), xw 411 (by decide +kernel)⟩
abbrev kX3_forget : xK := (RX3, cX3_forget, 1, none, false)
set_option maxRecDepth 20000 in
theorem mX3_forget : xcV yX3_forget kX3_forget 0 := ⟨⟨xwc 252 rfl rfl, xw 41 (by decide +kernel), by decide +kernel, by decide +kernel, by decide +kernel⟩, xw 251 (by decide +kernel), xw 1 (by decide +kernel)⟩
abbrev kX3_fieldsOf : xK := (RX3, cX3_fieldsOf, 1, (some (.object "java/lang/String")), false)
set_option maxRecDepth 20000 in
theorem mX3_fieldsOf : xcS yX3_fieldsOf kX3_fieldsOf 1 := ⟨⟨xwc 255 rfl rfl, xw 41 (by decide +kernel), by decide +kernel, by decide +kernel, by decide +kernel⟩, xw 254 (by decide +kernel)⟩
abbrev kX3_readField : xK := (RX3, cX3_readField, 9, (some .int), false)
set_option maxRecDepth 20000 in
theorem mX3_readField : xcV yX3_readField kX3_readField 4 := ⟨⟨xwc 315 rfl rfl, xw 41 (by decide +kernel), by decide +kernel, by decide +kernel, by decide +kernel⟩, xw 314 (by decide +kernel), xw 2 (by decide +kernel)⟩
abbrev kX3_keepField : xK := (RX3, cX3_keepField, 3, none, false)
set_option maxRecDepth 20000 in
theorem mX3_keepField : xcV yX3_keepField kX3_keepField 2 := ⟨⟨xwc 322 rfl rfl, xw 41 (by decide +kernel), by decide +kernel, by decide +kernel, by decide +kernel⟩, xw 321 (by decide +kernel), xw 3 (by decide +kernel)⟩
abbrev kX3_isGoodField : xK := (RX3, cX3_isGoodField, 2, (some .boolean), false)
set_option maxRecDepth 20000 in
theorem mX3_isGoodField : xcV yX3_isGoodField kX3_isGoodField 1 := ⟨⟨xwc 365 rfl rfl, xw 41 (by decide +kernel), by decide +kernel, by decide +kernel, by decide +kernel⟩, xw 364 (by decide +kernel), xw 8 (by decide +kernel)⟩
abbrev kX3_endsWithSum : xK := (RX3, cX3_endsWithSum, 4, (some .boolean), false)
set_option maxRecDepth 20000 in
theorem mX3_endsWithSum : xcS yX3_endsWithSum kX3_endsWithSum 3 := ⟨⟨xwc 325 rfl rfl, xw 41 (by decide +kernel), by decide +kernel, by decide +kernel, by decide +kernel⟩, xw 324 (by decide +kernel)⟩
abbrev kX4_init : xK := (RX4, cX4_init, 1, none, true)
set_option maxRecDepth 20000 in
theorem mX4_init : xcI yX4_init kX4_init 0 := ⟨⟨xwc 73 rfl rfl, xw 38 (by decide +kernel), by decide +kernel, by decide +kernel, by decide +kernel⟩, xw 72 (by decide +kernel), rfl⟩
abbrev kX4_writeWrong : xK := (RX4, cX4_writeWrong, 1, none, false)
set_option maxRecDepth 20000 in
theorem mX4_writeWrong : xcV yX4_writeWrong kX4_writeWrong 0 := ⟨⟨xwc 335 rfl rfl, xw 38 (by decide +kernel), by decide +kernel, by decide +kernel, by decide +kernel⟩, xw 333 (by decide +kernel), xw 334 (by decide +kernel)⟩
abbrev kX4_writeNo : xK := (RX4, cX4_writeNo, 2, none, false)
set_option maxRecDepth 20000 in
theorem mX4_writeNo : xcV yX4_writeNo kX4_writeNo 1 := ⟨⟨xwc 349 rfl rfl, xw 38 (by decide +kernel), by decide +kernel, by decide +kernel, by decide +kernel⟩, xw 347 (by decide +kernel), xw 348 (by decide +kernel)⟩
abbrev kX4_writeError : xK := (RX4, cX4_writeError, 3, none, false)
set_option maxRecDepth 20000 in
theorem mX4_writeError : xcV yX4_writeError kX4_writeError 2 := ⟨⟨xwc 371 rfl rfl, xw 38 (by decide +kernel), by decide +kernel, by decide +kernel, by decide +kernel⟩, xw 369 (by decide +kernel), xw 370 (by decide +kernel)⟩
abbrev kX4_writeVerdict : xK := (RX4, cX4_writeVerdict, 4, none, false)
set_option maxRecDepth 20000 in
theorem mX4_writeVerdict : xcV yX4_writeVerdict kX4_writeVerdict 3 := ⟨⟨xwc 429 rfl rfl, xw 38 (by decide +kernel), by decide +kernel, by decide +kernel, by decide +kernel⟩, xw 427 (by decide +kernel), xw 428 (by decide +kernel)⟩
abbrev kX4_copy : xK := (RX4, cX4_copy, 2, none, false)
set_option maxRecDepth 20000 in
theorem mX4_copy : xcV yX4_copy kX4_copy 1 := ⟨⟨xwc 438 rfl rfl, xw 38 (by decide +kernel), by decide +kernel, by decide +kernel, by decide +kernel⟩, xw 436 (by decide +kernel), xw 437 (by decide +kernel)⟩
abbrev kX4_addSource : xK := (RX4, cX4_addSource, 2, none, false)
set_option maxRecDepth 20000 in
theorem mX4_addSource : xcV yX4_addSource kX4_addSource 1 := ⟨⟨xwc 353 rfl rfl, xw 38 (by decide +kernel), by decide +kernel, by decide +kernel, by decide +kernel⟩, xw 352 (by decide +kernel), xw 6 (by decide +kernel)⟩
abbrev kX4_addSumAndEnd : xK := (RX4, cX4_addSumAndEnd, 2, none, false)
set_option maxRecDepth 20000 in
theorem mX4_addSumAndEnd : xcV yX4_addSumAndEnd kX4_addSumAndEnd 0 := ⟨⟨xwc 343 rfl rfl, xw 38 (by decide +kernel), by decide +kernel, by decide +kernel, by decide +kernel⟩, xw 342 (by decide +kernel), xw 5 (by decide +kernel)⟩
abbrev kX4_addDigits : xK := (RX4, cX4_addDigits, 3, none, false)
set_option maxRecDepth 20000 in
theorem mX4_addDigits : xcV yX4_addDigits kX4_addDigits 1 := ⟨⟨xwc 433 rfl rfl, xw 38 (by decide +kernel), by decide +kernel, by decide +kernel, by decide +kernel⟩, xw 432 (by decide +kernel), xw 18 (by decide +kernel)⟩
abbrev kX4_add : xK := (RX4, cX4_add, 2, none, false)
set_option maxRecDepth 20000 in
theorem mX4_add : xcV yX4_add kX4_add 1 := ⟨⟨xwc 339 rfl rfl, xw 38 (by decide +kernel), by decide +kernel, by decide +kernel, by decide +kernel⟩, xw 338 (by decide +kernel), xw 4 (by decide +kernel)⟩
abbrev kX5_init : xK := (RX5, cX5_init, 2, none, true)
set_option maxRecDepth 20000 in
theorem mX5_init : xcI yX5_init kX5_init 0 := ⟨⟨xwc 58 rfl rfl, xw 36 (by decide +kernel), by decide +kernel, by decide +kernel, by decide +kernel⟩, xw 57 (by decide +kernel), rfl⟩
abbrev kX5_octet : xK := (RX5, cX5_octet, 5, (some .int), false)
set_option maxRecDepth 20000 in
theorem mX5_octet : xcV yX5_octet kX5_octet 2 := ⟨⟨xwc 232 rfl rfl, xw 36 (by decide +kernel), by decide +kernel, by decide +kernel, by decide +kernel⟩, xw 230 (by decide +kernel), xw 231 (by decide +kernel)⟩
abbrev kX5_answer : xK := (RX5, cX5_answer, 3, (some .int), false)
set_option maxRecDepth 20000 in
theorem mX5_answer : xcV yX5_answer kX5_answer 2 := ⟨⟨xwc 504 rfl rfl, xw 36 (by decide +kernel), by decide +kernel, by decide +kernel, by decide +kernel⟩, xw 502 (by decide +kernel), xw 503 (by decide +kernel)⟩
abbrev kX5_reset : xK := (RX5, cX5_reset, 3, (some .int), false)
set_option maxRecDepth 20000 in
theorem mX5_reset : xcV yX5_reset kX5_reset 1 := ⟨⟨xwc 446 rfl rfl, xw 36 (by decide +kernel), by decide +kernel, by decide +kernel, by decide +kernel⟩, xw 444 (by decide +kernel), xw 445 (by decide +kernel)⟩
abbrev kX5_offline : xK := (RX5, cX5_offline, 6, (some .int), false)
set_option maxRecDepth 20000 in
theorem mX5_offline : xcV yX5_offline kX5_offline 4 := ⟨⟨xwc 454 rfl rfl, xw 36 (by decide +kernel), by decide +kernel, by decide +kernel, by decide +kernel⟩, xw 452 (by decide +kernel), xw 453 (by decide +kernel)⟩
abbrev kX5_join : xK := (RX5, cX5_join, 5, (some .int), false)
set_option maxRecDepth 20000 in
theorem mX5_join : xcV yX5_join kX5_join 1 := ⟨⟨xwc 462 rfl rfl, xw 36 (by decide +kernel), by decide +kernel, by decide +kernel, by decide +kernel⟩, xw 460 (by decide +kernel), xw 461 (by decide +kernel)⟩
abbrev kX5_owes : xK := (RX5, cX5_owes, 4, (some .int), false)
set_option maxRecDepth 20000 in
theorem mX5_owes : xcV yX5_owes kX5_owes 2 := ⟨⟨xwc 470 rfl rfl, xw 36 (by decide +kernel), by decide +kernel, by decide +kernel, by decide +kernel⟩, xw 468 (by decide +kernel), xw 469 (by decide +kernel)⟩
abbrev kX5_acts : xK := (RX5, cX5_acts, 1, (some .int), false)
set_option maxRecDepth 20000 in
theorem mX5_acts : xcV yX5_acts kX5_acts 0 := ⟨⟨xwc 475 rfl rfl, xw 36 (by decide +kernel), by decide +kernel, by decide +kernel, by decide +kernel⟩, xw 473 (by decide +kernel), xw 474 (by decide +kernel)⟩
abbrev kX5_act : xK := (RX5, cX5_act, 3, (some .int), false)
set_option maxRecDepth 20000 in
theorem mX5_act : xcV yX5_act kX5_act 2 := ⟨⟨xwc 479 rfl rfl, xw 36 (by decide +kernel), by decide +kernel, by decide +kernel, by decide +kernel⟩, xw 477 (by decide +kernel), xw 478 (by decide +kernel)⟩
abbrev kX5_sum : xK := (RX5, cX5_sum, 3, (some .int), false)
set_option maxRecDepth 20000 in
theorem mX5_sum : xcV yX5_sum kX5_sum 1 := ⟨⟨xwc 488 rfl rfl, xw 36 (by decide +kernel), by decide +kernel, by decide +kernel, by decide +kernel⟩, xw 486 (by decide +kernel), xw 487 (by decide +kernel)⟩
abbrev kX5_state : xK := (RX5, cX5_state, 4, (some .int), false)
set_option maxRecDepth 20000 in
theorem mX5_state : xcV yX5_state kX5_state 2 := ⟨⟨xwc 492 rfl rfl, xw 36 (by decide +kernel), by decide +kernel, by decide +kernel, by decide +kernel⟩, xw 490 (by decide +kernel), xw 491 (by decide +kernel)⟩
abbrev kX5_waits : xK := (RX5, cX5_waits, 3, (some .int), false)
set_option maxRecDepth 20000 in
theorem mX5_waits : xcV yX5_waits kX5_waits 2 := ⟨⟨xwc 496 rfl rfl, xw 36 (by decide +kernel), by decide +kernel, by decide +kernel, by decide +kernel⟩, xw 494 (by decide +kernel), xw 495 (by decide +kernel)⟩
abbrev kX5_endMessage : xK := (RX5, cX5_endMessage, 4, none, false)
set_option maxRecDepth 20000 in
theorem mX5_endMessage : xcV yX5_endMessage kX5_endMessage 2 := ⟨⟨xwc 244 rfl rfl, xw 36 (by decide +kernel), by decide +kernel, by decide +kernel, by decide +kernel⟩, xw 243 (by decide +kernel), xw 0 (by decide +kernel)⟩
abbrev kX5_doMessage : xK := (RX5, cX5_doMessage, 5, none, false)
set_option maxRecDepth 20000 in
theorem mX5_doMessage : xcV yX5_doMessage kX5_doMessage 2 := ⟨⟨xwc 357 rfl rfl, xw 36 (by decide +kernel), by decide +kernel, by decide +kernel, by decide +kernel⟩, xw 356 (by decide +kernel), xw 7 (by decide +kernel)⟩
abbrev kX5_carryOut : xK := (RX5, cX5_carryOut, 3, (some .boolean), false)
set_option maxRecDepth 20000 in
theorem mX5_carryOut : xcV yX5_carryOut kX5_carryOut 1 := ⟨⟨xwc 375 rfl rfl, xw 36 (by decide +kernel), by decide +kernel, by decide +kernel, by decide +kernel⟩, xw 374 (by decide +kernel), xw 9 (by decide +kernel)⟩
abbrev kX5_isBelow : xK := (RX5, cX5_isBelow, 2, (some .boolean), false)
set_option maxRecDepth 20000 in
theorem mX5_isBelow : xcS yX5_isBelow kX5_isBelow 2 := ⟨⟨xwc 235 rfl rfl, xw 36 (by decide +kernel), by decide +kernel, by decide +kernel, by decide +kernel⟩, xw 234 (by decide +kernel)⟩
abbrev kX5_isDigit : xK := (RX5, cX5_isDigit, 1, (some .boolean), false)
set_option maxRecDepth 20000 in
theorem mX5_isDigit : xcS yX5_isDigit kX5_isDigit 1 := ⟨⟨xwc 263 rfl rfl, xw 36 (by decide +kernel), by decide +kernel, by decide +kernel, by decide +kernel⟩, xw 262 (by decide +kernel)⟩
abbrev kX5_hexDigit : xK := (RX5, cX5_hexDigit, 2, (some .int), false)
set_option maxRecDepth 20000 in
theorem mX5_hexDigit : xcS yX5_hexDigit kX5_hexDigit 1 := ⟨⟨xwc 331 rfl rfl, xw 36 (by decide +kernel), by decide +kernel, by decide +kernel, by decide +kernel⟩, xw 330 (by decide +kernel)⟩
abbrev kX5_sumOf : xK := (RX5, cX5_sumOf, 4, (some .int), false)
set_option maxRecDepth 20000 in
theorem mX5_sumOf : xcS yX5_sumOf kX5_sumOf 2 := ⟨⟨xwc 328 rfl rfl, xw 36 (by decide +kernel), by decide +kernel, by decide +kernel, by decide +kernel⟩, xw 327 (by decide +kernel)⟩
abbrev kX6_init : xK := (RX6, cX6_init, 2, none, true)
set_option maxRecDepth 20000 in
theorem mX6_init : xcI yX6_init kX6_init 0 := ⟨⟨xwc 579 rfl rfl, xw 42 (by decide +kernel), by decide +kernel, by decide +kernel, by decide +kernel⟩, xw 578 (by decide +kernel), rfl⟩
abbrev kX6_in : xK := (RX6, cX6_in, 3, (some .boolean), false)
set_option maxRecDepth 20000 in
theorem mX6_in : xcS yX6_in kX6_in 3 := ⟨⟨xwc 682 rfl rfl, xw 42 (by decide +kernel), by decide +kernel, by decide +kernel, by decide +kernel⟩, xw 681 (by decide +kernel)⟩
abbrev kX6_isDevice : xK := (RX6, cX6_isDevice, 1, (some .boolean), false)
set_option maxRecDepth 20000 in
theorem mX6_isDevice : xcS yX6_isDevice kX6_isDevice 1 := ⟨⟨xwc 679 rfl rfl, xw 42 (by decide +kernel), by decide +kernel, by decide +kernel, by decide +kernel⟩, xw 678 (by decide +kernel)⟩
abbrev kX6_look : xK := (RX6, cX6_look, 2, (some .int), false)
set_option maxRecDepth 20000 in
theorem mX6_look : xcV yX6_look kX6_look 1 := ⟨⟨xwc 694 rfl rfl, xw 42 (by decide +kernel), by decide +kernel, by decide +kernel, by decide +kernel⟩, xw 693 (by decide +kernel), xw 22 (by decide +kernel)⟩
abbrev kX6_isKind : xK := (RX6, cX6_isKind, 1, (some .boolean), false)
set_option maxRecDepth 20000 in
theorem mX6_isKind : xcS yX6_isKind kX6_isKind 1 := ⟨⟨xwc 697 rfl rfl, xw 42 (by decide +kernel), by decide +kernel, by decide +kernel, by decide +kernel⟩, xw 696 (by decide +kernel)⟩
abbrev kX6_hasPerson : xK := (RX6, cX6_hasPerson, 1, (some .boolean), false)
set_option maxRecDepth 20000 in
theorem mX6_hasPerson : xcS yX6_hasPerson kX6_hasPerson 1 := ⟨⟨xwc 700 rfl rfl, xw 42 (by decide +kernel), by decide +kernel, by decide +kernel, by decide +kernel⟩, xw 699 (by decide +kernel)⟩
abbrev kX6_hasItem : xK := (RX6, cX6_hasItem, 1, (some .boolean), false)
set_option maxRecDepth 20000 in
theorem mX6_hasItem : xcS yX6_hasItem kX6_hasItem 1 := ⟨⟨xwc 707 rfl rfl, xw 42 (by decide +kernel), by decide +kernel, by decide +kernel, by decide +kernel⟩, xw 706 (by decide +kernel)⟩
abbrev kX6_field : xK := (RX6, cX6_field, 5, (some .int), false)
set_option maxRecDepth 20000 in
theorem mX6_field : xcV yX6_field kX6_field 2 := ⟨⟨xwc 704 rfl rfl, xw 42 (by decide +kernel), by decide +kernel, by decide +kernel, by decide +kernel⟩, xw 703 (by decide +kernel), xw 23 (by decide +kernel)⟩
abbrev kX6_hex : xK := (RX6, cX6_hex, 1, (some .int), false)
set_option maxRecDepth 20000 in
theorem mX6_hex : xcS yX6_hex kX6_hex 1 := ⟨⟨xwc 710 rfl rfl, xw 42 (by decide +kernel), by decide +kernel, by decide +kernel, by decide +kernel⟩, xw 709 (by decide +kernel)⟩
abbrev kX6_digit : xK := (RX6, cX6_digit, 1, (some .int), false)
set_option maxRecDepth 20000 in
theorem mX6_digit : xcS yX6_digit kX6_digit 1 := ⟨⟨xwc 721 rfl rfl, xw 42 (by decide +kernel), by decide +kernel, by decide +kernel, by decide +kernel⟩, xw 720 (by decide +kernel)⟩
abbrev kX6_reads : xK := (RX6, cX6_reads, 5, (some .boolean), false)
set_option maxRecDepth 20000 in
theorem mX6_reads : xcV yX6_reads kX6_reads 1 := ⟨⟨xwc 690 rfl rfl, xw 42 (by decide +kernel), by decide +kernel, by decide +kernel, by decide +kernel⟩, xw 689 (by decide +kernel), xw 21 (by decide +kernel)⟩
abbrev kX6_put : xK := (RX6, cX6_put, 3, none, false)
set_option maxRecDepth 20000 in
theorem mX6_put : xcV yX6_put kX6_put 2 := ⟨⟨xwc 714 rfl rfl, xw 42 (by decide +kernel), by decide +kernel, by decide +kernel, by decide +kernel⟩, xw 713 (by decide +kernel), xw 24 (by decide +kernel)⟩
abbrev kX6_close : xK := (RX6, cX6_close, 4, none, false)
set_option maxRecDepth 20000 in
theorem mX6_close : xcV yX6_close kX6_close 1 := ⟨⟨xwc 718 rfl rfl, xw 42 (by decide +kernel), by decide +kernel, by decide +kernel, by decide +kernel⟩, xw 717 (by decide +kernel), xw 25 (by decide +kernel)⟩
abbrev kX6_finish : xK := (RX6, cX6_finish, 4, none, false)
set_option maxRecDepth 20000 in
theorem mX6_finish : xcV yX6_finish kX6_finish 2 := ⟨⟨xwc 725 rfl rfl, xw 42 (by decide +kernel), by decide +kernel, by decide +kernel, by decide +kernel⟩, xw 724 (by decide +kernel), xw 26 (by decide +kernel)⟩
abbrev kX6_again : xK := (RX6, cX6_again, 3, none, false)
set_option maxRecDepth 20000 in
theorem mX6_again : xcV yX6_again kX6_again 1 := ⟨⟨xwc 729 rfl rfl, xw 42 (by decide +kernel), by decide +kernel, by decide +kernel, by decide +kernel⟩, xw 728 (by decide +kernel), xw 27 (by decide +kernel)⟩
abbrev kX6_bad : xK := (RX6, cX6_bad, 1, (some .int), false)
set_option maxRecDepth 20000 in
theorem mX6_bad : xcV yX6_bad kX6_bad 0 := ⟨⟨xwc 733 rfl rfl, xw 42 (by decide +kernel), by decide +kernel, by decide +kernel, by decide +kernel⟩, xw 732 (by decide +kernel), xw 28 (by decide +kernel)⟩
abbrev kX6_answers : xK := (RX6, cX6_answers, 5, none, false)
set_option maxRecDepth 20000 in
theorem mX6_answers : xcV yX6_answers kX6_answers 1 := ⟨⟨xwc 686 rfl rfl, xw 42 (by decide +kernel), by decide +kernel, by decide +kernel, by decide +kernel⟩, xw 685 (by decide +kernel), xw 20 (by decide +kernel)⟩
abbrev kX6_items : xK := (RX6, cX6_items, 4, (some .int), false)
set_option maxRecDepth 20000 in
theorem mX6_items : xcV yX6_items kX6_items 1 := ⟨⟨xwc 750 rfl rfl, xw 42 (by decide +kernel), by decide +kernel, by decide +kernel, by decide +kernel⟩, xw 749 (by decide +kernel), xw 32 (by decide +kernel)⟩
abbrev kX6_placeOf : xK := (RX6, cX6_placeOf, 4, (some .int), false)
set_option maxRecDepth 20000 in
theorem mX6_placeOf : xcV yX6_placeOf kX6_placeOf 2 := ⟨⟨xwc 758 rfl rfl, xw 42 (by decide +kernel), by decide +kernel, by decide +kernel, by decide +kernel⟩, xw 757 (by decide +kernel), xw 34 (by decide +kernel)⟩
abbrev kX6_enter : xK := (RX6, cX6_enter, 7, none, false)
set_option maxRecDepth 20000 in
theorem mX6_enter : xcV yX6_enter kX6_enter 5 := ⟨⟨xwc 746 rfl rfl, xw 42 (by decide +kernel), by decide +kernel, by decide +kernel, by decide +kernel⟩, xw 745 (by decide +kernel), xw 31 (by decide +kernel)⟩
abbrev kX6_lends : xK := (RX6, cX6_lends, 5, (some .int), false)
set_option maxRecDepth 20000 in
theorem mX6_lends : xcV yX6_lends kX6_lends 2 := ⟨⟨xwc 742 rfl rfl, xw 42 (by decide +kernel), by decide +kernel, by decide +kernel, by decide +kernel⟩, xw 741 (by decide +kernel), xw 30 (by decide +kernel)⟩
abbrev kX6_brings : xK := (RX6, cX6_brings, 3, (some .int), false)
set_option maxRecDepth 20000 in
theorem mX6_brings : xcV yX6_brings kX6_brings 2 := ⟨⟨xwc 754 rfl rfl, xw 42 (by decide +kernel), by decide +kernel, by decide +kernel, by decide +kernel⟩, xw 753 (by decide +kernel), xw 33 (by decide +kernel)⟩
abbrev kX6_judge : xK := (RX6, cX6_judge, 3, (some .int), false)
set_option maxRecDepth 20000 in
theorem mX6_judge : xcV yX6_judge kX6_judge 2 := ⟨⟨xwc 738 rfl rfl, xw 42 (by decide +kernel), by decide +kernel, by decide +kernel, by decide +kernel⟩, xw 737 (by decide +kernel), xw 29 (by decide +kernel)⟩
abbrev kX6_octet : xK := (RX6, cX6_octet, 3, (some .int), false)
set_option maxRecDepth 20000 in
theorem mX6_octet : xcV yX6_octet kX6_octet 2 := ⟨⟨xwc 676 rfl rfl, xw 42 (by decide +kernel), by decide +kernel, by decide +kernel, by decide +kernel⟩, xw 674 (by decide +kernel), xw 675 (by decide +kernel)⟩
abbrev kX6_answer : xK := (RX6, cX6_answer, 3, (some .int), false)
set_option maxRecDepth 20000 in
theorem mX6_answer : xcV yX6_answer kX6_answer 2 := ⟨⟨xwc 762 rfl rfl, xw 42 (by decide +kernel), by decide +kernel, by decide +kernel, by decide +kernel⟩, xw 760 (by decide +kernel), xw 761 (by decide +kernel)⟩
abbrev kX6_reset : xK := (RX6, cX6_reset, 3, (some .int), false)
set_option maxRecDepth 20000 in
theorem mX6_reset : xcV yX6_reset kX6_reset 1 := ⟨⟨xwc 766 rfl rfl, xw 42 (by decide +kernel), by decide +kernel, by decide +kernel, by decide +kernel⟩, xw 764 (by decide +kernel), xw 765 (by decide +kernel)⟩
abbrev kX6_offline : xK := (RX6, cX6_offline, 6, (some .int), false)
set_option maxRecDepth 20000 in
theorem mX6_offline : xcV yX6_offline kX6_offline 4 := ⟨⟨xwc 770 rfl rfl, xw 42 (by decide +kernel), by decide +kernel, by decide +kernel, by decide +kernel⟩, xw 768 (by decide +kernel), xw 769 (by decide +kernel)⟩
abbrev kX6_join : xK := (RX6, cX6_join, 5, (some .int), false)
set_option maxRecDepth 20000 in
theorem mX6_join : xcV yX6_join kX6_join 1 := ⟨⟨xwc 774 rfl rfl, xw 42 (by decide +kernel), by decide +kernel, by decide +kernel, by decide +kernel⟩, xw 772 (by decide +kernel), xw 773 (by decide +kernel)⟩
abbrev kX6_owes : xK := (RX6, cX6_owes, 4, (some .int), false)
set_option maxRecDepth 20000 in
theorem mX6_owes : xcV yX6_owes kX6_owes 2 := ⟨⟨xwc 778 rfl rfl, xw 42 (by decide +kernel), by decide +kernel, by decide +kernel, by decide +kernel⟩, xw 776 (by decide +kernel), xw 777 (by decide +kernel)⟩
abbrev kX6_acts : xK := (RX6, cX6_acts, 1, (some .int), false)
set_option maxRecDepth 20000 in
theorem mX6_acts : xcV yX6_acts kX6_acts 0 := ⟨⟨xwc 783 rfl rfl, xw 42 (by decide +kernel), by decide +kernel, by decide +kernel, by decide +kernel⟩, xw 781 (by decide +kernel), xw 782 (by decide +kernel)⟩
abbrev kX6_act : xK := (RX6, cX6_act, 3, (some .int), false)
set_option maxRecDepth 20000 in
theorem mX6_act : xcV yX6_act kX6_act 2 := ⟨⟨xwc 787 rfl rfl, xw 42 (by decide +kernel), by decide +kernel, by decide +kernel, by decide +kernel⟩, xw 785 (by decide +kernel), xw 786 (by decide +kernel)⟩
abbrev kX6_sum : xK := (RX6, cX6_sum, 3, (some .int), false)
set_option maxRecDepth 20000 in
theorem mX6_sum : xcV yX6_sum kX6_sum 1 := ⟨⟨xwc 791 rfl rfl, xw 42 (by decide +kernel), by decide +kernel, by decide +kernel, by decide +kernel⟩, xw 789 (by decide +kernel), xw 790 (by decide +kernel)⟩
abbrev kX6_state : xK := (RX6, cX6_state, 3, (some .int), false)
set_option maxRecDepth 20000 in
theorem mX6_state : xcV yX6_state kX6_state 2 := ⟨⟨xwc 795 rfl rfl, xw 42 (by decide +kernel), by decide +kernel, by decide +kernel, by decide +kernel⟩, xw 793 (by decide +kernel), xw 794 (by decide +kernel)⟩
abbrev kX6_waits : xK := (RX6, cX6_waits, 3, (some .int), false)
set_option maxRecDepth 20000 in
theorem mX6_waits : xcV yX6_waits kX6_waits 2 := ⟨⟨xwc 799 rfl rfl, xw 42 (by decide +kernel), by decide +kernel, by decide +kernel, by decide +kernel⟩, xw 797 (by decide +kernel), xw 798 (by decide +kernel)⟩
theorem lc_L_8 : Jvm.Cond.classLink "ExchangeWireLaw" (8 : Nat) "ExchangeWire" ∈ xws := xw 54 (by decide +kernel)
theorem lm_L_15 : Jvm.Cond.methodLink "ExchangeWireLaw" (15 : Nat) ({ cls := "ExchangeWire", name := "<init>", desc := "()V" } : Jvm.MethodName) ∈ xws := xw 56 (by decide +kernel)
theorem lm_X5_1 : Jvm.Cond.methodLink "ExchangeWire" (1 : Nat) ({ cls := "java/lang/Object", name := "<init>", desc := "()V" } : Jvm.MethodName) ∈ xws := xw 59 (by decide +kernel)
theorem lc_X5_9 : Jvm.Cond.classLink "ExchangeWire" (9 : Nat) "ExchangeWire$Line" ∈ xws := xw 62 (by decide +kernel)
theorem lm_X2_3 : Jvm.Cond.methodLink "ExchangeWire$Line" (3 : Nat) ({ cls := "java/lang/Object", name := "<init>", desc := "()V" } : Jvm.MethodName) ∈ xws := xw 68 (by decide +kernel)
theorem lc_X2_32 : Jvm.Cond.classLink "ExchangeWire$Line" (32 : Nat) "ExchangeWire$Reply" ∈ xws := xw 69 (by decide +kernel)
theorem lm_X4_3 : Jvm.Cond.methodLink "ExchangeWire$Reply" (3 : Nat) ({ cls := "java/lang/Object", name := "<init>", desc := "()V" } : Jvm.MethodName) ∈ xws := xw 74 (by decide +kernel)
theorem lf_X4_11 : Jvm.Cond.fieldLink "ExchangeWire$Reply" (11 : Nat) "ExchangeWire$Reply" "signs" "[I" ∈ xws := xw 75 (by decide +kernel)
theorem lf_X5_73 : Jvm.Cond.fieldLink "ExchangeWire" (73 : Nat) "ExchangeWire$Reply" "signs" "[I" ∈ xws := xw 76 (by decide +kernel)
theorem lf_X4_15 : Jvm.Cond.fieldLink "ExchangeWire$Reply" (15 : Nat) "ExchangeWire$Reply" "length" "I" ∈ xws := xw 77 (by decide +kernel)
theorem lf_X5_61 : Jvm.Cond.fieldLink "ExchangeWire" (61 : Nat) "ExchangeWire$Reply" "length" "I" ∈ xws := xw 78 (by decide +kernel)
theorem lf_X2_58 : Jvm.Cond.fieldLink "ExchangeWire$Line" (58 : Nat) "ExchangeWire$Reply" "length" "I" ∈ xws := xw 79 (by decide +kernel)
theorem lf_X2_9 : Jvm.Cond.fieldLink "ExchangeWire$Line" (9 : Nat) "ExchangeWire$Line" "signs" "[I" ∈ xws := xw 86 (by decide +kernel)
theorem lf_X5_132 : Jvm.Cond.fieldLink "ExchangeWire" (132 : Nat) "ExchangeWire$Line" "signs" "[I" ∈ xws := xw 87 (by decide +kernel)
theorem lf_X2_15 : Jvm.Cond.fieldLink "ExchangeWire$Line" (15 : Nat) "ExchangeWire$Line" "count" "I" ∈ xws := xw 88 (by decide +kernel)
theorem lf_X5_77 : Jvm.Cond.fieldLink "ExchangeWire" (77 : Nat) "ExchangeWire$Line" "count" "I" ∈ xws := xw 89 (by decide +kernel)
theorem lf_X2_19 : Jvm.Cond.fieldLink "ExchangeWire$Line" (19 : Nat) "ExchangeWire$Line" "broken" "Z" ∈ xws := xw 90 (by decide +kernel)
theorem lf_X5_45 : Jvm.Cond.fieldLink "ExchangeWire" (45 : Nat) "ExchangeWire$Line" "broken" "Z" ∈ xws := xw 91 (by decide +kernel)
theorem lf_X2_23 : Jvm.Cond.fieldLink "ExchangeWire$Line" (23 : Nat) "ExchangeWire$Line" "signedOn" "Z" ∈ xws := xw 92 (by decide +kernel)
theorem lf_X5_119 : Jvm.Cond.fieldLink "ExchangeWire" (119 : Nat) "ExchangeWire$Line" "signedOn" "Z" ∈ xws := xw 93 (by decide +kernel)
theorem lf_X2_26 : Jvm.Cond.fieldLink "ExchangeWire$Line" (26 : Nat) "ExchangeWire$Line" "latestNumber" "I" ∈ xws := xw 94 (by decide +kernel)
theorem lf_X5_116 : Jvm.Cond.fieldLink "ExchangeWire" (116 : Nat) "ExchangeWire$Line" "latestNumber" "I" ∈ xws := xw 95 (by decide +kernel)
theorem lf_X2_29 : Jvm.Cond.fieldLink "ExchangeWire$Line" (29 : Nat) "ExchangeWire$Line" "wrongCount" "I" ∈ xws := xw 96 (by decide +kernel)
theorem lf_X5_122 : Jvm.Cond.fieldLink "ExchangeWire" (122 : Nat) "ExchangeWire$Line" "wrongCount" "I" ∈ xws := xw 97 (by decide +kernel)
theorem lf_X2_35 : Jvm.Cond.fieldLink "ExchangeWire$Line" (35 : Nat) "ExchangeWire$Line" "shown" "LExchangeWire$Reply;" ∈ xws := xw 98 (by decide +kernel)
theorem lf_X5_57 : Jvm.Cond.fieldLink "ExchangeWire" (57 : Nat) "ExchangeWire$Line" "shown" "LExchangeWire$Reply;" ∈ xws := xw 99 (by decide +kernel)
theorem lf_X2_39 : Jvm.Cond.fieldLink "ExchangeWire$Line" (39 : Nat) "ExchangeWire$Line" "kept" "LExchangeWire$Reply;" ∈ xws := xw 100 (by decide +kernel)
theorem lf_X5_143 : Jvm.Cond.fieldLink "ExchangeWire" (143 : Nat) "ExchangeWire$Line" "kept" "LExchangeWire$Reply;" ∈ xws := xw 101 (by decide +kernel)
theorem lf_X2_42 : Jvm.Cond.fieldLink "ExchangeWire$Line" (42 : Nat) "ExchangeWire$Line" "rowKinds" "[I" ∈ xws := xw 102 (by decide +kernel)
theorem lf_X5_90 : Jvm.Cond.fieldLink "ExchangeWire" (90 : Nat) "ExchangeWire$Line" "rowKinds" "[I" ∈ xws := xw 103 (by decide +kernel)
theorem lf_X2_45 : Jvm.Cond.fieldLink "ExchangeWire$Line" (45 : Nat) "ExchangeWire$Line" "rowItems" "[I" ∈ xws := xw 104 (by decide +kernel)
theorem lf_X5_93 : Jvm.Cond.fieldLink "ExchangeWire" (93 : Nat) "ExchangeWire$Line" "rowItems" "[I" ∈ xws := xw 105 (by decide +kernel)
theorem lf_X2_48 : Jvm.Cond.fieldLink "ExchangeWire$Line" (48 : Nat) "ExchangeWire$Line" "rowPersons" "[I" ∈ xws := xw 106 (by decide +kernel)
theorem lf_X5_96 : Jvm.Cond.fieldLink "ExchangeWire" (96 : Nat) "ExchangeWire$Line" "rowPersons" "[I" ∈ xws := xw 107 (by decide +kernel)
theorem lf_X2_51 : Jvm.Cond.fieldLink "ExchangeWire$Line" (51 : Nat) "ExchangeWire$Line" "rowCount" "I" ∈ xws := xw 108 (by decide +kernel)
theorem lf_X5_87 : Jvm.Cond.fieldLink "ExchangeWire" (87 : Nat) "ExchangeWire$Line" "rowCount" "I" ∈ xws := xw 109 (by decide +kernel)
theorem lc_X5_16 : Jvm.Cond.classLink "ExchangeWire" (16 : Nat) "ExchangeWire$House" ∈ xws := xw 135 (by decide +kernel)
theorem lm_X5_18 : Jvm.Cond.methodLink "ExchangeWire" (18 : Nat) ({ cls := "ExchangeWire$House", name := "<init>", desc := "()V" } : Jvm.MethodName) ∈ xws := xw 137 (by decide +kernel)
theorem lm_X0_3 : Jvm.Cond.methodLink "ExchangeWire$House" (3 : Nat) ({ cls := "java/lang/Object", name := "<init>", desc := "()V" } : Jvm.MethodName) ∈ xws := xw 140 (by decide +kernel)
theorem lc_X0_21 : Jvm.Cond.classLink "ExchangeWire$House" (21 : Nat) "[[I" ∈ xws := xw 141 (by decide +kernel)
theorem lf_X0_9 : Jvm.Cond.fieldLink "ExchangeWire$House" (9 : Nat) "ExchangeWire$House" "debts" "[I" ∈ xws := xw 143 (by decide +kernel)
theorem lf_X5_108 : Jvm.Cond.fieldLink "ExchangeWire" (108 : Nat) "ExchangeWire$House" "debts" "[I" ∈ xws := xw 144 (by decide +kernel)
theorem lf_X0_15 : Jvm.Cond.fieldLink "ExchangeWire$House" (15 : Nat) "ExchangeWire$House" "borrowers" "[I" ∈ xws := xw 145 (by decide +kernel)
theorem lf_X5_176 : Jvm.Cond.fieldLink "ExchangeWire" (176 : Nat) "ExchangeWire$House" "borrowers" "[I" ∈ xws := xw 146 (by decide +kernel)
theorem lf_X0_18 : Jvm.Cond.fieldLink "ExchangeWire$House" (18 : Nat) "ExchangeWire$House" "renewals" "[I" ∈ xws := xw 147 (by decide +kernel)
theorem lf_X0_23 : Jvm.Cond.fieldLink "ExchangeWire$House" (23 : Nat) "ExchangeWire$House" "queues" "[[I" ∈ xws := xw 148 (by decide +kernel)
theorem lf_X5_128 : Jvm.Cond.fieldLink "ExchangeWire" (128 : Nat) "ExchangeWire$House" "queues" "[[I" ∈ xws := xw 149 (by decide +kernel)
theorem lf_X0_26 : Jvm.Cond.fieldLink "ExchangeWire$House" (26 : Nat) "ExchangeWire$House" "queueLengths" "[I" ∈ xws := xw 150 (by decide +kernel)
theorem lf_X5_125 : Jvm.Cond.fieldLink "ExchangeWire" (125 : Nat) "ExchangeWire$House" "queueLengths" "[I" ∈ xws := xw 151 (by decide +kernel)
theorem lc_X5_23 : Jvm.Cond.classLink "ExchangeWire" (23 : Nat) "ExchangeWire$Journal" ∈ xws := xw 163 (by decide +kernel)
theorem lm_X1_3 : Jvm.Cond.methodLink "ExchangeWire$Journal" (3 : Nat) ({ cls := "java/lang/Object", name := "<init>", desc := "()V" } : Jvm.MethodName) ∈ xws := xw 168 (by decide +kernel)
theorem lf_X1_11 : Jvm.Cond.fieldLink "ExchangeWire$Journal" (11 : Nat) "ExchangeWire$Journal" "parts" "[I" ∈ xws := xw 169 (by decide +kernel)
theorem lf_X1_15 : Jvm.Cond.fieldLink "ExchangeWire$Journal" (15 : Nat) "ExchangeWire$Journal" "count" "I" ∈ xws := xw 170 (by decide +kernel)
theorem lf_X5_111 : Jvm.Cond.fieldLink "ExchangeWire" (111 : Nat) "ExchangeWire$Journal" "count" "I" ∈ xws := xw 171 (by decide +kernel)
theorem lc_X5_30 : Jvm.Cond.classLink "ExchangeWire" (30 : Nat) "ExchangeWire$Message" ∈ xws := xw 177 (by decide +kernel)
theorem lm_X3_3 : Jvm.Cond.methodLink "ExchangeWire$Message" (3 : Nat) ({ cls := "java/lang/Object", name := "<init>", desc := "()V" } : Jvm.MethodName) ∈ xws := xw 182 (by decide +kernel)
theorem lf_X3_9 : Jvm.Cond.fieldLink "ExchangeWire$Message" (9 : Nat) "ExchangeWire$Message" "kind" "I" ∈ xws := xw 183 (by decide +kernel)
theorem lf_X0_29 : Jvm.Cond.fieldLink "ExchangeWire$House" (29 : Nat) "ExchangeWire$Message" "kind" "I" ∈ xws := xw 184 (by decide +kernel)
theorem lf_X1_23 : Jvm.Cond.fieldLink "ExchangeWire$Journal" (23 : Nat) "ExchangeWire$Message" "kind" "I" ∈ xws := xw 185 (by decide +kernel)
theorem lf_X4_39 : Jvm.Cond.fieldLink "ExchangeWire$Reply" (39 : Nat) "ExchangeWire$Message" "kind" "I" ∈ xws := xw 186 (by decide +kernel)
theorem lf_X5_140 : Jvm.Cond.fieldLink "ExchangeWire" (140 : Nat) "ExchangeWire$Message" "kind" "I" ∈ xws := xw 187 (by decide +kernel)
theorem lf_X3_15 : Jvm.Cond.fieldLink "ExchangeWire$Message" (15 : Nat) "ExchangeWire$Message" "number" "I" ∈ xws := xw 188 (by decide +kernel)
theorem lf_X1_34 : Jvm.Cond.fieldLink "ExchangeWire$Journal" (34 : Nat) "ExchangeWire$Message" "number" "I" ∈ xws := xw 189 (by decide +kernel)
theorem lf_X4_44 : Jvm.Cond.fieldLink "ExchangeWire$Reply" (44 : Nat) "ExchangeWire$Message" "number" "I" ∈ xws := xw 190 (by decide +kernel)
theorem lf_X5_150 : Jvm.Cond.fieldLink "ExchangeWire" (150 : Nat) "ExchangeWire$Message" "number" "I" ∈ xws := xw 191 (by decide +kernel)
theorem lf_X3_18 : Jvm.Cond.fieldLink "ExchangeWire$Message" (18 : Nat) "ExchangeWire$Message" "person" "I" ∈ xws := xw 192 (by decide +kernel)
theorem lf_X0_35 : Jvm.Cond.fieldLink "ExchangeWire$House" (35 : Nat) "ExchangeWire$Message" "person" "I" ∈ xws := xw 193 (by decide +kernel)
theorem lf_X1_31 : Jvm.Cond.fieldLink "ExchangeWire$Journal" (31 : Nat) "ExchangeWire$Message" "person" "I" ∈ xws := xw 194 (by decide +kernel)
theorem lf_X5_182 : Jvm.Cond.fieldLink "ExchangeWire" (182 : Nat) "ExchangeWire$Message" "person" "I" ∈ xws := xw 195 (by decide +kernel)
theorem lf_X3_21 : Jvm.Cond.fieldLink "ExchangeWire$Message" (21 : Nat) "ExchangeWire$Message" "item" "I" ∈ xws := xw 196 (by decide +kernel)
theorem lf_X1_28 : Jvm.Cond.fieldLink "ExchangeWire$Journal" (28 : Nat) "ExchangeWire$Message" "item" "I" ∈ xws := xw 197 (by decide +kernel)
theorem lf_X0_38 : Jvm.Cond.fieldLink "ExchangeWire$House" (38 : Nat) "ExchangeWire$Message" "item" "I" ∈ xws := xw 198 (by decide +kernel)
theorem lf_X5_179 : Jvm.Cond.fieldLink "ExchangeWire" (179 : Nat) "ExchangeWire$Message" "item" "I" ∈ xws := xw 199 (by decide +kernel)
theorem lf_X3_24 : Jvm.Cond.fieldLink "ExchangeWire$Message" (24 : Nat) "ExchangeWire$Message" "cents" "I" ∈ xws := xw 200 (by decide +kernel)
theorem lf_X0_49 : Jvm.Cond.fieldLink "ExchangeWire$House" (49 : Nat) "ExchangeWire$Message" "cents" "I" ∈ xws := xw 201 (by decide +kernel)
theorem lf_X5_11 : Jvm.Cond.fieldLink "ExchangeWire" (11 : Nat) "ExchangeWire" "lines" "[LExchangeWire$Line;" ∈ xws := xw 213 (by decide +kernel)
theorem lf_X5_19 : Jvm.Cond.fieldLink "ExchangeWire" (19 : Nat) "ExchangeWire" "house" "LExchangeWire$House;" ∈ xws := xw 214 (by decide +kernel)
theorem lf_X5_26 : Jvm.Cond.fieldLink "ExchangeWire" (26 : Nat) "ExchangeWire" "journal" "LExchangeWire$Journal;" ∈ xws := xw 215 (by decide +kernel)
theorem lf_X5_33 : Jvm.Cond.fieldLink "ExchangeWire" (33 : Nat) "ExchangeWire" "message" "LExchangeWire$Message;" ∈ xws := xw 216 (by decide +kernel)
theorem lf_X5_37 : Jvm.Cond.fieldLink "ExchangeWire" (37 : Nat) "ExchangeWire" "sumSoFar" "I" ∈ xws := xw 217 (by decide +kernel)
theorem lm_L_19 : Jvm.Cond.methodLink "ExchangeWireLaw" (19 : Nat) ({ cls := "ExchangeWire", name := "octet", desc := "(II)I" } : Jvm.MethodName) ∈ xws := xw 229 (by decide +kernel)
theorem lm_X5_41 : Jvm.Cond.methodLink "ExchangeWire" (41 : Nat) ({ cls := "ExchangeWire", name := "isBelow", desc := "(II)Z" } : Jvm.MethodName) ∈ xws := xw 233 (by decide +kernel)
theorem lm_X5_49 : Jvm.Cond.methodLink "ExchangeWire" (49 : Nat) ({ cls := "ExchangeWire$Line", name := "take", desc := "(I)I" } : Jvm.MethodName) ∈ xws := xw 236 (by decide +kernel)
theorem lm_X5_53 : Jvm.Cond.methodLink "ExchangeWire" (53 : Nat) ({ cls := "ExchangeWire", name := "endMessage", desc := "(ILExchangeWire$Line;)V" } : Jvm.MethodName) ∈ xws := xw 241 (by decide +kernel)
theorem lm_X5_133 : Jvm.Cond.methodLink "ExchangeWire" (133 : Nat) ({ cls := "ExchangeWire$Message", name := "read", desc := "([II)Z" } : Jvm.MethodName) ∈ xws := xw 245 (by decide +kernel)
theorem lm_X3_27 : Jvm.Cond.methodLink "ExchangeWire$Message" (27 : Nat) ({ cls := "ExchangeWire$Message", name := "forget", desc := "()V" } : Jvm.MethodName) ∈ xws := xw 249 (by decide +kernel)
theorem lm_X3_30 : Jvm.Cond.methodLink "ExchangeWire$Message" (30 : Nat) ({ cls := "ExchangeWire$Message", name := "fieldsOf", desc := "(I)Ljava/lang/String;" } : Jvm.MethodName) ∈ xws := xw 253 (by decide +kernel)
theorem lm_X3_38 : Jvm.Cond.methodLink "ExchangeWire$Message" (38 : Nat) ({ cls := "java/lang/String", name := "length", desc := "()I" } : Jvm.MethodName) ∈ xws := xw 264 (by decide +kernel)
theorem lm_X3_44 : Jvm.Cond.methodLink "ExchangeWire$Message" (44 : Nat) ({ cls := "java/lang/String", name := "charAt", desc := "(I)C" } : Jvm.MethodName) ∈ xws := xw 274 (by decide +kernel)
theorem lm_X3_48 : Jvm.Cond.methodLink "ExchangeWire$Message" (48 : Nat) ({ cls := "ExchangeWire$Message", name := "readField", desc := "(I[III)I" } : Jvm.MethodName) ∈ xws := xw 312 (by decide +kernel)
theorem lm_X3_69 : Jvm.Cond.methodLink "ExchangeWire$Message" (69 : Nat) ({ cls := "java/lang/Math", name := "min", desc := "(II)I" } : Jvm.MethodName) ∈ xws := xw 316 (by decide +kernel)
theorem lm_X3_75 : Jvm.Cond.methodLink "ExchangeWire$Message" (75 : Nat) ({ cls := "ExchangeWire$Message", name := "keepField", desc := "(II)V" } : Jvm.MethodName) ∈ xws := xw 319 (by decide +kernel)
theorem lm_X3_52 : Jvm.Cond.methodLink "ExchangeWire$Message" (52 : Nat) ({ cls := "ExchangeWire$Message", name := "endsWithSum", desc := "([III)Z" } : Jvm.MethodName) ∈ xws := xw 323 (by decide +kernel)
theorem lm_X5_137 : Jvm.Cond.methodLink "ExchangeWire" (137 : Nat) ({ cls := "ExchangeWire$Reply", name := "writeWrong", desc := "()V" } : Jvm.MethodName) ∈ xws := xw 332 (by decide +kernel)
theorem lm_X4_19 : Jvm.Cond.methodLink "ExchangeWire$Reply" (19 : Nat) ({ cls := "ExchangeWire$Reply", name := "add", desc := "(I)V" } : Jvm.MethodName) ∈ xws := xw 336 (by decide +kernel)
theorem lm_X4_23 : Jvm.Cond.methodLink "ExchangeWire$Reply" (23 : Nat) ({ cls := "ExchangeWire$Reply", name := "addSumAndEnd", desc := "()V" } : Jvm.MethodName) ∈ xws := xw 340 (by decide +kernel)
theorem lm_X5_146 : Jvm.Cond.methodLink "ExchangeWire" (146 : Nat) ({ cls := "ExchangeWire$Reply", name := "writeNo", desc := "(LExchangeWire$Message;)V" } : Jvm.MethodName) ∈ xws := xw 346 (by decide +kernel)
theorem lm_X4_26 : Jvm.Cond.methodLink "ExchangeWire$Reply" (26 : Nat) ({ cls := "ExchangeWire$Reply", name := "addSource", desc := "(LExchangeWire$Message;)V" } : Jvm.MethodName) ∈ xws := xw 350 (by decide +kernel)
theorem lm_X5_153 : Jvm.Cond.methodLink "ExchangeWire" (153 : Nat) ({ cls := "ExchangeWire", name := "doMessage", desc := "(ILExchangeWire$Line;)V" } : Jvm.MethodName) ∈ xws := xw 354 (by decide +kernel)
theorem lm_X5_160 : Jvm.Cond.methodLink "ExchangeWire" (160 : Nat) ({ cls := "ExchangeWire$Message", name := "firstBadField", desc := "()I" } : Jvm.MethodName) ∈ xws := xw 358 (by decide +kernel)
theorem lm_X3_56 : Jvm.Cond.methodLink "ExchangeWire$Message" (56 : Nat) ({ cls := "ExchangeWire$Message", name := "isGoodField", desc := "(I)Z" } : Jvm.MethodName) ∈ xws := xw 362 (by decide +kernel)
theorem ld_X3_83 : Jvm.Cond.constant "ExchangeWire$Message" (83 : Nat) (50000 : Int32) ∈ xws := xw 367 (by decide +kernel)
theorem lm_X5_164 : Jvm.Cond.methodLink "ExchangeWire" (164 : Nat) ({ cls := "ExchangeWire$Reply", name := "writeError", desc := "(LExchangeWire$Message;I)V" } : Jvm.MethodName) ∈ xws := xw 368 (by decide +kernel)
theorem lm_X5_103 : Jvm.Cond.methodLink "ExchangeWire" (103 : Nat) ({ cls := "ExchangeWire", name := "carryOut", desc := "(I)Z" } : Jvm.MethodName) ∈ xws := xw 372 (by decide +kernel)
theorem lm_X5_185 : Jvm.Cond.methodLink "ExchangeWire" (185 : Nat) ({ cls := "ExchangeWire$House", name := "decide", desc := "(LExchangeWire$Message;)Z" } : Jvm.MethodName) ∈ xws := xw 376 (by decide +kernel)
theorem lm_X0_41 : Jvm.Cond.methodLink "ExchangeWire$House" (41 : Nat) ({ cls := "ExchangeWire$House", name := "lend", desc := "(II)Z" } : Jvm.MethodName) ∈ xws := xw 380 (by decide +kernel)
theorem lm_X0_65 : Jvm.Cond.methodLink "ExchangeWire$House" (65 : Nat) ({ cls := "ExchangeWire$House", name := "dropFirst", desc := "(I)V" } : Jvm.MethodName) ∈ xws := xw 384 (by decide +kernel)
theorem lm_X0_45 : Jvm.Cond.methodLink "ExchangeWire$House" (45 : Nat) ({ cls := "ExchangeWire$House", name := "bringBack", desc := "(I)Z" } : Jvm.MethodName) ∈ xws := xw 388 (by decide +kernel)
theorem lm_X0_52 : Jvm.Cond.methodLink "ExchangeWire$House" (52 : Nat) ({ cls := "ExchangeWire$House", name := "pay", desc := "(II)Z" } : Jvm.MethodName) ∈ xws := xw 392 (by decide +kernel)
theorem lm_X0_55 : Jvm.Cond.methodLink "ExchangeWire$House" (55 : Nat) ({ cls := "ExchangeWire$House", name := "queueUp", desc := "(II)Z" } : Jvm.MethodName) ∈ xws := xw 396 (by decide +kernel)
theorem lm_X0_69 : Jvm.Cond.methodLink "ExchangeWire$House" (69 : Nat) ({ cls := "ExchangeWire$House", name := "isInQueue", desc := "(II)Z" } : Jvm.MethodName) ∈ xws := xw 400 (by decide +kernel)
theorem lm_X0_58 : Jvm.Cond.methodLink "ExchangeWire$House" (58 : Nat) ({ cls := "ExchangeWire$House", name := "renew", desc := "(II)Z" } : Jvm.MethodName) ∈ xws := xw 405 (by decide +kernel)
theorem lm_X5_189 : Jvm.Cond.methodLink "ExchangeWire" (189 : Nat) ({ cls := "ExchangeWire$Message", name := "changesTheHouse", desc := "()Z" } : Jvm.MethodName) ∈ xws := xw 409 (by decide +kernel)
theorem lm_X5_193 : Jvm.Cond.methodLink "ExchangeWire" (193 : Nat) ({ cls := "ExchangeWire$Journal", name := "add", desc := "(ILExchangeWire$Message;)V" } : Jvm.MethodName) ∈ xws := xw 413 (by decide +kernel)
theorem lm_X5_168 : Jvm.Cond.methodLink "ExchangeWire" (168 : Nat) ({ cls := "ExchangeWire$House", name := "figureFor", desc := "(LExchangeWire$Message;)I" } : Jvm.MethodName) ∈ xws := xw 418 (by decide +kernel)
theorem lm_X0_61 : Jvm.Cond.methodLink "ExchangeWire$House" (61 : Nat) ({ cls := "ExchangeWire$House", name := "itemsOf", desc := "(I)I" } : Jvm.MethodName) ∈ xws := xw 422 (by decide +kernel)
theorem lm_X5_172 : Jvm.Cond.methodLink "ExchangeWire" (172 : Nat) ({ cls := "ExchangeWire$Reply", name := "writeVerdict", desc := "(LExchangeWire$Message;ZI)V" } : Jvm.MethodName) ∈ xws := xw 426 (by decide +kernel)
theorem lm_X4_30 : Jvm.Cond.methodLink "ExchangeWire$Reply" (30 : Nat) ({ cls := "ExchangeWire$Reply", name := "addDigits", desc := "(I)V" } : Jvm.MethodName) ∈ xws := xw 430 (by decide +kernel)
theorem ld_X4_55 : Jvm.Cond.constant "ExchangeWire$Reply" (55 : Nat) (100000 : Int32) ∈ xws := xw 434 (by decide +kernel)
theorem lm_X5_156 : Jvm.Cond.methodLink "ExchangeWire" (156 : Nat) ({ cls := "ExchangeWire$Reply", name := "copy", desc := "(LExchangeWire$Reply;)V" } : Jvm.MethodName) ∈ xws := xw 435 (by decide +kernel)
theorem lm_X4_33 : Jvm.Cond.methodLink "ExchangeWire$Reply" (33 : Nat) ({ cls := "java/lang/System", name := "arraycopy", desc := "(Ljava/lang/Object;ILjava/lang/Object;II)V" } : Jvm.MethodName) ∈ xws := xw 439 (by decide +kernel)
theorem lm_L_29 : Jvm.Cond.methodLink "ExchangeWireLaw" (29 : Nat) ({ cls := "ExchangeWire", name := "reset", desc := "(I)I" } : Jvm.MethodName) ∈ xws := xw 443 (by decide +kernel)
theorem lm_X5_80 : Jvm.Cond.methodLink "ExchangeWire" (80 : Nat) ({ cls := "ExchangeWire$Line", name := "clear", desc := "()V" } : Jvm.MethodName) ∈ xws := xw 447 (by decide +kernel)
theorem lm_L_34 : Jvm.Cond.methodLink "ExchangeWireLaw" (34 : Nat) ({ cls := "ExchangeWire", name := "offline", desc := "(IIII)I" } : Jvm.MethodName) ∈ xws := xw 451 (by decide +kernel)
theorem lm_X5_83 : Jvm.Cond.methodLink "ExchangeWire" (83 : Nat) ({ cls := "ExchangeWire$Line", name := "addRow", desc := "(III)I" } : Jvm.MethodName) ∈ xws := xw 455 (by decide +kernel)
theorem lm_L_39 : Jvm.Cond.methodLink "ExchangeWireLaw" (39 : Nat) ({ cls := "ExchangeWire", name := "join", desc := "(I)I" } : Jvm.MethodName) ∈ xws := xw 459 (by decide +kernel)
theorem lm_X5_99 : Jvm.Cond.methodLink "ExchangeWire" (99 : Nat) ({ cls := "ExchangeWire$Message", name := "fillFromRow", desc := "(III)V" } : Jvm.MethodName) ∈ xws := xw 463 (by decide +kernel)
theorem lm_L_43 : Jvm.Cond.methodLink "ExchangeWireLaw" (43 : Nat) ({ cls := "ExchangeWire", name := "owes", desc := "(II)I" } : Jvm.MethodName) ∈ xws := xw 467 (by decide +kernel)
theorem ld_X5_107 : Jvm.Cond.constant "ExchangeWire" (107 : Nat) (100000 : Int32) ∈ xws := xw 471 (by decide +kernel)
theorem lm_L_47 : Jvm.Cond.methodLink "ExchangeWireLaw" (47 : Nat) ({ cls := "ExchangeWire", name := "acts", desc := "()I" } : Jvm.MethodName) ∈ xws := xw 472 (by decide +kernel)
theorem lm_L_52 : Jvm.Cond.methodLink "ExchangeWireLaw" (52 : Nat) ({ cls := "ExchangeWire", name := "act", desc := "(II)I" } : Jvm.MethodName) ∈ xws := xw 476 (by decide +kernel)
theorem lm_X5_112 : Jvm.Cond.methodLink "ExchangeWire" (112 : Nat) ({ cls := "ExchangeWire$Journal", name := "tell", desc := "(II)I" } : Jvm.MethodName) ∈ xws := xw 480 (by decide +kernel)
theorem lm_X1_37 : Jvm.Cond.methodLink "ExchangeWire$Journal" (37 : Nat) ({ cls := "java/lang/Math", name := "min", desc := "(II)I" } : Jvm.MethodName) ∈ xws := xw 484 (by decide +kernel)
theorem lm_L_56 : Jvm.Cond.methodLink "ExchangeWireLaw" (56 : Nat) ({ cls := "ExchangeWire", name := "sum", desc := "(I)I" } : Jvm.MethodName) ∈ xws := xw 485 (by decide +kernel)
theorem lm_L_60 : Jvm.Cond.methodLink "ExchangeWireLaw" (60 : Nat) ({ cls := "ExchangeWire", name := "state", desc := "(II)I" } : Jvm.MethodName) ∈ xws := xw 489 (by decide +kernel)
theorem lm_L_64 : Jvm.Cond.methodLink "ExchangeWireLaw" (64 : Nat) ({ cls := "ExchangeWire", name := "waits", desc := "(II)I" } : Jvm.MethodName) ∈ xws := xw 493 (by decide +kernel)
theorem lm_L_23 : Jvm.Cond.methodLink "ExchangeWireLaw" (23 : Nat) ({ cls := "ExchangeWireLaw", name := "answer", desc := "(LExchangeWire;II[J)I" } : Jvm.MethodName) ∈ xws := xw 497 (by decide +kernel)
theorem lc_L_13 : Jvm.Cond.classLink "ExchangeWireLaw" (13 : Nat) "java/lang/ArrayIndexOutOfBoundsException" ∈ xws := xw 500 (by decide +kernel)
theorem lm_L_7 : Jvm.Cond.methodLink "ExchangeWireLaw" (7 : Nat) ({ cls := "ExchangeWire", name := "answer", desc := "(II)I" } : Jvm.MethodName) ∈ xws := xw 501 (by decide +kernel)
theorem lc_X5_66 : Jvm.Cond.classLink "ExchangeWire" (66 : Nat) "java/lang/ArrayIndexOutOfBoundsException" ∈ xws := xw 505 (by decide +kernel)
theorem lm_X5_70 : Jvm.Cond.methodLink "ExchangeWire" (70 : Nat) ({ cls := "java/lang/ArrayIndexOutOfBoundsException", name := "<init>", desc := "(Ljava/lang/String;)V" } : Jvm.MethodName) ∈ xws := xw 547 (by decide +kernel)
theorem lc_L_16 : Jvm.Cond.classLink "ExchangeWireLaw" (16 : Nat) "ExchangeWireModel" ∈ xws := xw 575 (by decide +kernel)
theorem lm_L_18 : Jvm.Cond.methodLink "ExchangeWireLaw" (18 : Nat) ({ cls := "ExchangeWireModel", name := "<init>", desc := "()V" } : Jvm.MethodName) ∈ xws := xw 577 (by decide +kernel)
theorem lm_X6_1 : Jvm.Cond.methodLink "ExchangeWireModel" (1 : Nat) ({ cls := "java/lang/Object", name := "<init>", desc := "()V" } : Jvm.MethodName) ∈ xws := xw 580 (by decide +kernel)
theorem lf_X6_72 : Jvm.Cond.fieldLink "ExchangeWireModel" (72 : Nat) "ExchangeWireModel" "thrown" "I" ∈ xws := xw 581 (by decide +kernel)
theorem lf_X6_7 : Jvm.Cond.fieldLink "ExchangeWireModel" (7 : Nat) "ExchangeWireModel" "size" "[I" ∈ xws := xw 582 (by decide +kernel)
theorem lf_X6_13 : Jvm.Cond.fieldLink "ExchangeWireModel" (13 : Nat) "ExchangeWireModel" "line" "[B" ∈ xws := xw 583 (by decide +kernel)
theorem lf_X6_17 : Jvm.Cond.fieldLink "ExchangeWireModel" (17 : Nat) "ExchangeWireModel" "broken" "[Z" ∈ xws := xw 584 (by decide +kernel)
theorem lf_X6_21 : Jvm.Cond.fieldLink "ExchangeWireModel" (21 : Nat) "ExchangeWireModel" "signed" "[Z" ∈ xws := xw 585 (by decide +kernel)
theorem lf_X6_24 : Jvm.Cond.fieldLink "ExchangeWireModel" (24 : Nat) "ExchangeWireModel" "done" "[I" ∈ xws := xw 586 (by decide +kernel)
theorem lf_X6_27 : Jvm.Cond.fieldLink "ExchangeWireModel" (27 : Nat) "ExchangeWireModel" "wrongs" "[I" ∈ xws := xw 587 (by decide +kernel)
theorem lf_X6_30 : Jvm.Cond.fieldLink "ExchangeWireModel" (30 : Nat) "ExchangeWireModel" "told" "[I" ∈ xws := xw 588 (by decide +kernel)
theorem lf_X6_33 : Jvm.Cond.fieldLink "ExchangeWireModel" (33 : Nat) "ExchangeWireModel" "answers" "[B" ∈ xws := xw 589 (by decide +kernel)
theorem lf_X6_36 : Jvm.Cond.fieldLink "ExchangeWireModel" (36 : Nat) "ExchangeWireModel" "kept" "[I" ∈ xws := xw 590 (by decide +kernel)
theorem lf_X6_39 : Jvm.Cond.fieldLink "ExchangeWireModel" (39 : Nat) "ExchangeWireModel" "keeps" "[B" ∈ xws := xw 591 (by decide +kernel)
theorem lf_X6_42 : Jvm.Cond.fieldLink "ExchangeWireModel" (42 : Nat) "ExchangeWireModel" "rows" "[I" ∈ xws := xw 592 (by decide +kernel)
theorem lf_X6_45 : Jvm.Cond.fieldLink "ExchangeWireModel" (45 : Nat) "ExchangeWireModel" "rowKind" "[I" ∈ xws := xw 593 (by decide +kernel)
theorem lf_X6_48 : Jvm.Cond.fieldLink "ExchangeWireModel" (48 : Nat) "ExchangeWireModel" "rowItem" "[I" ∈ xws := xw 594 (by decide +kernel)
theorem lf_X6_51 : Jvm.Cond.fieldLink "ExchangeWireModel" (51 : Nat) "ExchangeWireModel" "rowPerson" "[I" ∈ xws := xw 595 (by decide +kernel)
theorem lf_X6_54 : Jvm.Cond.fieldLink "ExchangeWireModel" (54 : Nat) "ExchangeWireModel" "owes" "[I" ∈ xws := xw 596 (by decide +kernel)
theorem lf_X6_57 : Jvm.Cond.fieldLink "ExchangeWireModel" (57 : Nat) "ExchangeWireModel" "lent" "[I" ∈ xws := xw 597 (by decide +kernel)
theorem lf_X6_60 : Jvm.Cond.fieldLink "ExchangeWireModel" (60 : Nat) "ExchangeWireModel" "renewed" "[I" ∈ xws := xw 598 (by decide +kernel)
theorem lf_X6_63 : Jvm.Cond.fieldLink "ExchangeWireModel" (63 : Nat) "ExchangeWireModel" "waiting" "[I" ∈ xws := xw 599 (by decide +kernel)
theorem lf_X6_66 : Jvm.Cond.fieldLink "ExchangeWireModel" (66 : Nat) "ExchangeWireModel" "waits" "[I" ∈ xws := xw 600 (by decide +kernel)
theorem lf_X6_152 : Jvm.Cond.fieldLink "ExchangeWireModel" (152 : Nat) "ExchangeWireModel" "acts" "I" ∈ xws := xw 601 (by decide +kernel)
theorem lf_X6_69 : Jvm.Cond.fieldLink "ExchangeWireModel" (69 : Nat) "ExchangeWireModel" "actRow" "[I" ∈ xws := xw 602 (by decide +kernel)
theorem lf_X6_177 : Jvm.Cond.fieldLink "ExchangeWireModel" (177 : Nat) "ExchangeWireModel" "summed" "I" ∈ xws := xw 603 (by decide +kernel)
theorem lf_X6_80 : Jvm.Cond.fieldLink "ExchangeWireModel" (80 : Nat) "ExchangeWireModel" "at" "I" ∈ xws := xw 604 (by decide +kernel)
theorem lf_X6_87 : Jvm.Cond.fieldLink "ExchangeWireModel" (87 : Nat) "ExchangeWireModel" "kind" "I" ∈ xws := xw 605 (by decide +kernel)
theorem lf_X6_94 : Jvm.Cond.fieldLink "ExchangeWireModel" (94 : Nat) "ExchangeWireModel" "number" "I" ∈ xws := xw 606 (by decide +kernel)
theorem lf_X6_104 : Jvm.Cond.fieldLink "ExchangeWireModel" (104 : Nat) "ExchangeWireModel" "person" "I" ∈ xws := xw 607 (by decide +kernel)
theorem lf_X6_110 : Jvm.Cond.fieldLink "ExchangeWireModel" (110 : Nat) "ExchangeWireModel" "item" "I" ∈ xws := xw 608 (by decide +kernel)
theorem lf_X6_113 : Jvm.Cond.fieldLink "ExchangeWireModel" (113 : Nat) "ExchangeWireModel" "cents" "I" ∈ xws := xw 609 (by decide +kernel)
theorem lf_X6_148 : Jvm.Cond.fieldLink "ExchangeWireModel" (148 : Nat) "ExchangeWireModel" "verdict" "Z" ∈ xws := xw 610 (by decide +kernel)
theorem lm_L_22 : Jvm.Cond.methodLink "ExchangeWireLaw" (22 : Nat) ({ cls := "ExchangeWireModel", name := "octet", desc := "(II)I" } : Jvm.MethodName) ∈ xws := xw 673 (by decide +kernel)
theorem lm_X6_171 : Jvm.Cond.methodLink "ExchangeWireModel" (171 : Nat) ({ cls := "ExchangeWireModel", name := "isDevice", desc := "(I)Z" } : Jvm.MethodName) ∈ xws := xw 677 (by decide +kernel)
theorem lm_X6_76 : Jvm.Cond.methodLink "ExchangeWireModel" (76 : Nat) ({ cls := "ExchangeWireModel", name := "in", desc := "(III)Z" } : Jvm.MethodName) ∈ xws := xw 680 (by decide +kernel)
theorem lm_X6_174 : Jvm.Cond.methodLink "ExchangeWireModel" (174 : Nat) ({ cls := "ExchangeWireModel", name := "answers", desc := "(I)V" } : Jvm.MethodName) ∈ xws := xw 683 (by decide +kernel)
theorem lm_X6_131 : Jvm.Cond.methodLink "ExchangeWireModel" (131 : Nat) ({ cls := "ExchangeWireModel", name := "reads", desc := "(I)Z" } : Jvm.MethodName) ∈ xws := xw 687 (by decide +kernel)
theorem lm_X6_83 : Jvm.Cond.methodLink "ExchangeWireModel" (83 : Nat) ({ cls := "ExchangeWireModel", name := "look", desc := "(I)I" } : Jvm.MethodName) ∈ xws := xw 691 (by decide +kernel)
theorem lm_X6_90 : Jvm.Cond.methodLink "ExchangeWireModel" (90 : Nat) ({ cls := "ExchangeWireModel", name := "isKind", desc := "(I)Z" } : Jvm.MethodName) ∈ xws := xw 695 (by decide +kernel)
theorem lm_X6_97 : Jvm.Cond.methodLink "ExchangeWireModel" (97 : Nat) ({ cls := "ExchangeWireModel", name := "hasPerson", desc := "(I)Z" } : Jvm.MethodName) ∈ xws := xw 698 (by decide +kernel)
theorem lm_X6_100 : Jvm.Cond.methodLink "ExchangeWireModel" (100 : Nat) ({ cls := "ExchangeWireModel", name := "field", desc := "(II)I" } : Jvm.MethodName) ∈ xws := xw 701 (by decide +kernel)
theorem lm_X6_107 : Jvm.Cond.methodLink "ExchangeWireModel" (107 : Nat) ({ cls := "ExchangeWireModel", name := "hasItem", desc := "(I)Z" } : Jvm.MethodName) ∈ xws := xw 705 (by decide +kernel)
theorem lm_X6_116 : Jvm.Cond.methodLink "ExchangeWireModel" (116 : Nat) ({ cls := "ExchangeWireModel", name := "hex", desc := "(I)I" } : Jvm.MethodName) ∈ xws := xw 708 (by decide +kernel)
theorem lm_X6_119 : Jvm.Cond.methodLink "ExchangeWireModel" (119 : Nat) ({ cls := "ExchangeWireModel", name := "put", desc := "(II)V" } : Jvm.MethodName) ∈ xws := xw 711 (by decide +kernel)
theorem lm_X6_126 : Jvm.Cond.methodLink "ExchangeWireModel" (126 : Nat) ({ cls := "ExchangeWireModel", name := "close", desc := "(I)V" } : Jvm.MethodName) ∈ xws := xw 715 (by decide +kernel)
theorem lm_X6_123 : Jvm.Cond.methodLink "ExchangeWireModel" (123 : Nat) ({ cls := "ExchangeWireModel", name := "digit", desc := "(I)I" } : Jvm.MethodName) ∈ xws := xw 719 (by decide +kernel)
theorem lm_X6_134 : Jvm.Cond.methodLink "ExchangeWireModel" (134 : Nat) ({ cls := "ExchangeWireModel", name := "finish", desc := "(IZ)V" } : Jvm.MethodName) ∈ xws := xw 722 (by decide +kernel)
theorem lm_X6_138 : Jvm.Cond.methodLink "ExchangeWireModel" (138 : Nat) ({ cls := "ExchangeWireModel", name := "again", desc := "(I)V" } : Jvm.MethodName) ∈ xws := xw 726 (by decide +kernel)
theorem lm_X6_141 : Jvm.Cond.methodLink "ExchangeWireModel" (141 : Nat) ({ cls := "ExchangeWireModel", name := "bad", desc := "()I" } : Jvm.MethodName) ∈ xws := xw 730 (by decide +kernel)
theorem ld_X6_130 : Jvm.Cond.constant "ExchangeWireModel" (130 : Nat) (50000 : Int32) ∈ xws := xw 734 (by decide +kernel)
theorem lm_X6_145 : Jvm.Cond.methodLink "ExchangeWireModel" (145 : Nat) ({ cls := "ExchangeWireModel", name := "judge", desc := "(II)I" } : Jvm.MethodName) ∈ xws := xw 735 (by decide +kernel)
theorem lm_X6_162 : Jvm.Cond.methodLink "ExchangeWireModel" (162 : Nat) ({ cls := "ExchangeWireModel", name := "lends", desc := "(II)I" } : Jvm.MethodName) ∈ xws := xw 739 (by decide +kernel)
theorem lm_X6_155 : Jvm.Cond.methodLink "ExchangeWireModel" (155 : Nat) ({ cls := "ExchangeWireModel", name := "enter", desc := "(IIIII)V" } : Jvm.MethodName) ∈ xws := xw 743 (by decide +kernel)
theorem lm_X6_159 : Jvm.Cond.methodLink "ExchangeWireModel" (159 : Nat) ({ cls := "ExchangeWireModel", name := "items", desc := "(I)I" } : Jvm.MethodName) ∈ xws := xw 747 (by decide +kernel)
theorem lm_X6_165 : Jvm.Cond.methodLink "ExchangeWireModel" (165 : Nat) ({ cls := "ExchangeWireModel", name := "brings", desc := "(II)I" } : Jvm.MethodName) ∈ xws := xw 751 (by decide +kernel)
theorem lm_X6_168 : Jvm.Cond.methodLink "ExchangeWireModel" (168 : Nat) ({ cls := "ExchangeWireModel", name := "placeOf", desc := "(II)I" } : Jvm.MethodName) ∈ xws := xw 755 (by decide +kernel)
theorem lm_L_28 : Jvm.Cond.methodLink "ExchangeWireLaw" (28 : Nat) ({ cls := "ExchangeWireModel", name := "answer", desc := "(II)I" } : Jvm.MethodName) ∈ xws := xw 759 (by decide +kernel)
theorem lm_L_33 : Jvm.Cond.methodLink "ExchangeWireLaw" (33 : Nat) ({ cls := "ExchangeWireModel", name := "reset", desc := "(I)I" } : Jvm.MethodName) ∈ xws := xw 763 (by decide +kernel)
theorem lm_L_38 : Jvm.Cond.methodLink "ExchangeWireLaw" (38 : Nat) ({ cls := "ExchangeWireModel", name := "offline", desc := "(IIII)I" } : Jvm.MethodName) ∈ xws := xw 767 (by decide +kernel)
theorem lm_L_42 : Jvm.Cond.methodLink "ExchangeWireLaw" (42 : Nat) ({ cls := "ExchangeWireModel", name := "join", desc := "(I)I" } : Jvm.MethodName) ∈ xws := xw 771 (by decide +kernel)
theorem lm_L_46 : Jvm.Cond.methodLink "ExchangeWireLaw" (46 : Nat) ({ cls := "ExchangeWireModel", name := "owes", desc := "(II)I" } : Jvm.MethodName) ∈ xws := xw 775 (by decide +kernel)
theorem ld_X6_176 : Jvm.Cond.constant "ExchangeWireModel" (176 : Nat) (100000 : Int32) ∈ xws := xw 779 (by decide +kernel)
theorem lm_L_51 : Jvm.Cond.methodLink "ExchangeWireLaw" (51 : Nat) ({ cls := "ExchangeWireModel", name := "acts", desc := "()I" } : Jvm.MethodName) ∈ xws := xw 780 (by decide +kernel)
theorem lm_L_55 : Jvm.Cond.methodLink "ExchangeWireLaw" (55 : Nat) ({ cls := "ExchangeWireModel", name := "act", desc := "(II)I" } : Jvm.MethodName) ∈ xws := xw 784 (by decide +kernel)
theorem lm_L_59 : Jvm.Cond.methodLink "ExchangeWireLaw" (59 : Nat) ({ cls := "ExchangeWireModel", name := "sum", desc := "(I)I" } : Jvm.MethodName) ∈ xws := xw 788 (by decide +kernel)
theorem lm_L_63 : Jvm.Cond.methodLink "ExchangeWireLaw" (63 : Nat) ({ cls := "ExchangeWireModel", name := "state", desc := "(II)I" } : Jvm.MethodName) ∈ xws := xw 792 (by decide +kernel)
theorem lm_L_67 : Jvm.Cond.methodLink "ExchangeWireLaw" (67 : Nat) ({ cls := "ExchangeWireModel", name := "waits", desc := "(II)I" } : Jvm.MethodName) ∈ xws := xw 796 (by decide +kernel)
