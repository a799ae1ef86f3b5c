/-! the words of each method, of each entry of a class file: by their places in the tables -/
abbrev kJ6_bitCount_0f7a4 : gM := (yJ6_bitCount_0f7a4, cJ6_bitCount_0f7a4, 1, some .int)
set_option maxRecDepth 20000 in
theorem lJ6_bitCount_0f7a4 : gLt kJ6_bitCount_0f7a4 1 := ⟨gT_of 290 (by decide +kernel) rfl, ⟨gT_of 11 (by decide +kernel) rfl, gT_of 291 (by rfl) rfl, by decide, by decide +kernel, by decide⟩⟩
abbrev kJ7_fill_53178 : gM := (yJ7_fill_53178, cJ7_fill_53178, 4, none)
set_option maxRecDepth 20000 in
theorem lJ7_fill_53178 : gLt kJ7_fill_53178 2 := ⟨gT_of 226 (by decide +kernel) rfl, ⟨gT_of 9 (by decide +kernel) rfl, gT_of 227 (by rfl) rfl, by decide, by decide +kernel, by decide⟩⟩
abbrev kX0_append : gM := (yX0_append, cX0_append, 2, none)
set_option maxRecDepth 20000 in
theorem lX0_append : gLv kX0_append 1 := ⟨gT_of 362 (by decide +kernel) rfl, gT_sel 20 (by decide +kernel) rfl, ⟨gT_of 4 (by decide +kernel) rfl, gT_of 363 (by rfl) rfl, by decide, by decide +kernel, by decide⟩⟩
abbrev kX0_newsOf : gM := (yX0_newsOf, cX0_newsOf, 1, some .int)
set_option maxRecDepth 20000 in
theorem lX0_newsOf : gLt kX0_newsOf 1 := ⟨gT_of 394 (by decide +kernel) rfl, ⟨gT_of 4 (by decide +kernel) rfl, gT_of 395 (by rfl) rfl, by decide, by decide +kernel, by decide⟩⟩
abbrev kX0_packedKnown : gM := (yX0_packedKnown, cX0_packedKnown, 1, some .int)
set_option maxRecDepth 20000 in
theorem lX0_packedKnown : gLt kX0_packedKnown 1 := ⟨gT_of 398 (by decide +kernel) rfl, ⟨gT_of 4 (by decide +kernel) rfl, gT_of 399 (by rfl) rfl, by decide, by decide +kernel, by decide⟩⟩
abbrev kX0_takeLast : gM := (yX0_takeLast, cX0_takeLast, 1, some .int)
set_option maxRecDepth 20000 in
theorem lX0_takeLast : gLv kX0_takeLast 0 := ⟨gT_of 385 (by decide +kernel) rfl, gT_sel 23 (by decide +kernel) rfl, ⟨gT_of 4 (by decide +kernel) rfl, gT_of 386 (by rfl) rfl, by decide, by decide +kernel, by decide⟩⟩
abbrev kX0_teller : gM := (yX0_teller, cX0_teller, 1, some .int)
set_option maxRecDepth 20000 in
theorem lX0_teller : gLt kX0_teller 1 := ⟨gT_of 391 (by decide +kernel) rfl, ⟨gT_of 4 (by decide +kernel) rfl, gT_of 392 (by rfl) rfl, by decide, by decide +kernel, by decide⟩⟩
abbrev kX0_telling : gM := (yX0_telling, cX0_telling, 3, some .int)
set_option maxRecDepth 20000 in
theorem lX0_telling : gLt kX0_telling 3 := ⟨gT_of 358 (by decide +kernel) rfl, ⟨gT_of 4 (by decide +kernel) rfl, gT_of 359 (by rfl) rfl, by decide, by decide +kernel, by decide⟩⟩
abbrev kX1_clear : gM := (yX1_clear, cX1_clear, 1, none)
set_option maxRecDepth 20000 in
theorem lX1_clear : gLv kX1_clear 0 := ⟨gT_of 223 (by decide +kernel) rfl, gT_sel 2 (by decide +kernel) rfl, ⟨gT_of 6 (by decide +kernel) rfl, gT_of 224 (by rfl) rfl, by decide, by decide +kernel, by decide⟩⟩
abbrev kX1_group : gM := (yX1_group, cX1_group, 3, some .int)
set_option maxRecDepth 20000 in
theorem lX1_group : gLv kX1_group 2 := ⟨gT_of 342 (by decide +kernel) rfl, gT_sel 18 (by decide +kernel) rfl, ⟨gT_of 6 (by decide +kernel) rfl, gT_of 343 (by rfl) rfl, by decide, by decide +kernel, by decide⟩⟩
abbrev kX1_isCompany : gM := (yX1_isCompany, cX1_isCompany, 1, some .boolean)
set_option maxRecDepth 20000 in
theorem lX1_isCompany : gLt kX1_isCompany 1 := ⟨gT_of 345 (by decide +kernel) rfl, ⟨gT_of 6 (by decide +kernel) rfl, gT_of 346 (by rfl) rfl, by decide, by decide +kernel, by decide⟩⟩
abbrev kX1_placeOf : gM := (yX1_placeOf, cX1_placeOf, 3, some .int)
set_option maxRecDepth 20000 in
theorem lX1_placeOf : gLv kX1_placeOf 2 := ⟨gT_of 308 (by decide +kernel) rfl, gT_sel 14 (by decide +kernel) rfl, ⟨gT_of 6 (by decide +kernel) rfl, gT_of 309 (by rfl) rfl, by decide, by decide +kernel, by decide⟩⟩
abbrev kX1_put : gM := (yX1_put, cX1_put, 4, none)
set_option maxRecDepth 20000 in
theorem lX1_put : gLv kX1_put 3 := ⟨gT_of 246 (by decide +kernel) rfl, gT_sel 7 (by decide +kernel) rfl, ⟨gT_of 6 (by decide +kernel) rfl, gT_of 247 (by rfl) rfl, by decide, by decide +kernel, by decide⟩⟩
abbrev kX2_behind : gM := (yX2_behind, cX2_behind, 7, some .int)
set_option maxRecDepth 20000 in
theorem lX2_behind : gLv kX2_behind 3 := ⟨gT_of 450 (by decide +kernel) rfl, gT_sel 32 (by decide +kernel) rfl, ⟨gT_of 7 (by decide +kernel) rfl, gT_of 451 (by rfl) rfl, by decide, by decide +kernel, by decide⟩⟩
abbrev kX2_canBeSpent : gM := (yX2_canBeSpent, cX2_canBeSpent, 2, some .boolean)
set_option maxRecDepth 20000 in
theorem lX2_canBeSpent : gLv kX2_canBeSpent 0 := ⟨gT_of 498 (by decide +kernel) rfl, gT_sel 39 (by decide +kernel) rfl, ⟨gT_of 7 (by decide +kernel) rfl, gT_of 499 (by rfl) rfl, by decide, by decide +kernel, by decide⟩⟩
abbrev kX2_countFrom : gM := (yX2_countFrom, cX2_countFrom, 4, none)
set_option maxRecDepth 20000 in
theorem lX2_countFrom : gLv kX2_countFrom 3 := ⟨gT_of 552 (by decide +kernel) rfl, gT_sel 45 (by decide +kernel) rfl, ⟨gT_of 7 (by decide +kernel) rfl, gT_of 553 (by rfl) rfl, by decide, by decide +kernel, by decide⟩⟩
abbrev kX2_countOn : gM := (yX2_countOn, cX2_countOn, 5, none)
set_option maxRecDepth 20000 in
theorem lX2_countOn : gLv kX2_countOn 2 := ⟨gT_of 568 (by decide +kernel) rfl, gT_sel 49 (by decide +kernel) rfl, ⟨gT_of 7 (by decide +kernel) rfl, gT_of 569 (by rfl) rfl, by decide, by decide +kernel, by decide⟩⟩
abbrev kX2_countThrough : gM := (yX2_countThrough, cX2_countThrough, 4, none)
set_option maxRecDepth 20000 in
theorem lX2_countThrough : gLv kX2_countThrough 1 := ⟨gT_of 556 (by decide +kernel) rfl, gT_sel 46 (by decide +kernel) rfl, ⟨gT_of 7 (by decide +kernel) rfl, gT_of 557 (by rfl) rfl, by decide, by decide +kernel, by decide⟩⟩
abbrev kX2_counted : gM := (yX2_counted, cX2_counted, 3, some .int)
set_option maxRecDepth 20000 in
theorem lX2_counted : gLv kX2_counted 0 := ⟨gT_of 580 (by decide +kernel) rfl, gT_sel 52 (by decide +kernel) rfl, ⟨gT_of 7 (by decide +kernel) rfl, gT_of 581 (by rfl) rfl, by decide, by decide +kernel, by decide⟩⟩
abbrev kX2_findNexts : gM := (yX2_findNexts, cX2_findNexts, 4, none)
set_option maxRecDepth 20000 in
theorem lX2_findNexts : gLv kX2_findNexts 2 := ⟨gT_of 564 (by decide +kernel) rfl, gT_sel 48 (by decide +kernel) rfl, ⟨gT_of 7 (by decide +kernel) rfl, gT_of 565 (by rfl) rfl, by decide, by decide +kernel, by decide⟩⟩
abbrev kX2_firstOfLeast : gM := (yX2_firstOfLeast, cX2_firstOfLeast, 5, some .int)
set_option maxRecDepth 20000 in
theorem lX2_firstOfLeast : gLv kX2_firstOfLeast 2 := ⟨gT_of 473 (by decide +kernel) rfl, gT_sel 35 (by decide +kernel) rfl, ⟨gT_of 7 (by decide +kernel) rfl, gT_of 474 (by rfl) rfl, by decide, by decide +kernel, by decide⟩⟩
abbrev kX2_goThrough : gM := (yX2_goThrough, cX2_goThrough, 7, none)
set_option maxRecDepth 20000 in
theorem lX2_goThrough : gLv kX2_goThrough 2 := ⟨gT_of 485 (by decide +kernel) rfl, gT_sel 37 (by decide +kernel) rfl, ⟨gT_of 7 (by decide +kernel) rfl, gT_of 486 (by rfl) rfl, by decide, by decide +kernel, by decide⟩⟩
abbrev kX2_isReached : gM := (yX2_isReached, cX2_isReached, 3, some .boolean)
set_option maxRecDepth 20000 in
theorem lX2_isReached : gLv kX2_isReached 1 := ⟨gT_of 560 (by decide +kernel) rfl, gT_sel 47 (by decide +kernel) rfl, ⟨gT_of 7 (by decide +kernel) rfl, gT_of 561 (by rfl) rfl, by decide, by decide +kernel, by decide⟩⟩
abbrev kX2_lookFrom : gM := (yX2_lookFrom, cX2_lookFrom, 4, none)
set_option maxRecDepth 20000 in
theorem lX2_lookFrom : gLv kX2_lookFrom 3 := ⟨gT_of 481 (by decide +kernel) rfl, gT_sel 36 (by decide +kernel) rfl, ⟨gT_of 7 (by decide +kernel) rfl, gT_of 482 (by rfl) rfl, by decide, by decide +kernel, by decide⟩⟩
abbrev kX2_mostKnowing : gM := (yX2_mostKnowing, cX2_mostKnowing, 3, some .int)
set_option maxRecDepth 20000 in
theorem lX2_mostKnowing : gLv kX2_mostKnowing 0 := ⟨gT_of 489 (by decide +kernel) rfl, gT_sel 38 (by decide +kernel) rfl, ⟨gT_of 7 (by decide +kernel) rfl, gT_of 490 (by rfl) rfl, by decide, by decide +kernel, by decide⟩⟩
abbrev kX2_need : gM := (yX2_need, cX2_need, 6, some .int)
set_option maxRecDepth 20000 in
theorem lX2_need : gLv kX2_need 2 := ⟨gT_of 442 (by decide +kernel) rfl, gT_sel 30 (by decide +kernel) rfl, ⟨gT_of 7 (by decide +kernel) rfl, gT_of 443 (by rfl) rfl, by decide, by decide +kernel, by decide⟩⟩
abbrev kX2_needBy : gM := (yX2_needBy, cX2_needBy, 5, some .int)
set_option maxRecDepth 20000 in
theorem lX2_needBy : gLv kX2_needBy 3 := ⟨gT_of 446 (by decide +kernel) rfl, gT_sel 31 (by decide +kernel) rfl, ⟨gT_of 7 (by decide +kernel) rfl, gT_of 447 (by rfl) rfl, by decide, by decide +kernel, by decide⟩⟩
abbrev kX2_planned : gM := (yX2_planned, cX2_planned, 7, some .int)
set_option maxRecDepth 20000 in
theorem lX2_planned : gLv kX2_planned 3 := ⟨gT_of 469 (by decide +kernel) rfl, gT_sel 34 (by decide +kernel) rfl, ⟨gT_of 7 (by decide +kernel) rfl, gT_of 470 (by rfl) rfl, by decide, by decide +kernel, by decide⟩⟩
abbrev kX2_strikeUnseen : gM := (yX2_strikeUnseen, cX2_strikeUnseen, 6, none)
set_option maxRecDepth 20000 in
theorem lX2_strikeUnseen : gLv kX2_strikeUnseen 2 := ⟨gT_of 572 (by decide +kernel) rfl, gT_sel 50 (by decide +kernel) rfl, ⟨gT_of 7 (by decide +kernel) rfl, gT_of 573 (by rfl) rfl, by decide, by decide +kernel, by decide⟩⟩
abbrev kX2_want : gM := (yX2_want, cX2_want, 3, none)
set_option maxRecDepth 20000 in
theorem lX2_want : gLv kX2_want 2 := ⟨gT_of 437 (by decide +kernel) rfl, gT_sel 29 (by decide +kernel) rfl, ⟨gT_of 7 (by decide +kernel) rfl, gT_of 438 (by rfl) rfl, by decide, by decide +kernel, by decide⟩⟩
abbrev kX2_wonBy : gM := (yX2_wonBy, cX2_wonBy, 9, some .int)
set_option maxRecDepth 20000 in
theorem lX2_wonBy : gLv kX2_wonBy 2 := ⟨gT_of 506 (by decide +kernel) rfl, gT_sel 40 (by decide +kernel) rfl, ⟨gT_of 7 (by decide +kernel) rfl, gT_of 507 (by rfl) rfl, by decide, by decide +kernel, by decide⟩⟩
abbrev kX2_wonByChoice : gM := (yX2_wonByChoice, cX2_wonByChoice, 11, some .int)
set_option maxRecDepth 20000 in
theorem lX2_wonByChoice : gLv kX2_wonByChoice 3 := ⟨gT_of 512 (by decide +kernel) rfl, gT_sel 41 (by decide +kernel) rfl, ⟨gT_of 7 (by decide +kernel) rfl, gT_of 513 (by rfl) rfl, by decide, by decide +kernel, by decide⟩⟩
abbrev kX3_append : gM := (yX3_append, cX3_append, 2, none)
set_option maxRecDepth 20000 in
theorem lX3_append : gLv kX3_append 1 := ⟨gT_of 207 (by decide +kernel) rfl, gT_sel 0 (by decide +kernel) rfl, ⟨gT_of 2 (by decide +kernel) rfl, gT_of 208 (by rfl) rfl, by decide, by decide +kernel, by decide⟩⟩
abbrev kX3_faultAt : gM := (yX3_faultAt, cX3_faultAt, 1, some .int)
set_option maxRecDepth 20000 in
theorem lX3_faultAt : gLt kX3_faultAt 1 := ⟨gT_of 249 (by decide +kernel) rfl, ⟨gT_of 2 (by decide +kernel) rfl, gT_of 250 (by rfl) rfl, by decide, by decide +kernel, by decide⟩⟩
abbrev kX3_faultOf : gM := (yX3_faultOf, cX3_faultOf, 1, some .int)
set_option maxRecDepth 20000 in
theorem lX3_faultOf : gLt kX3_faultOf 1 := ⟨gT_of 256 (by decide +kernel) rfl, ⟨gT_of 2 (by decide +kernel) rfl, gT_of 257 (by rfl) rfl, by decide, by decide +kernel, by decide⟩⟩
abbrev kX3_figureAt : gM := (yX3_figureAt, cX3_figureAt, 4, some .int)
set_option maxRecDepth 20000 in
theorem lX3_figureAt : gLv kX3_figureAt 2 := ⟨gT_of 234 (by decide +kernel) rfl, gT_sel 4 (by decide +kernel) rfl, ⟨gT_of 2 (by decide +kernel) rfl, gT_of 235 (by rfl) rfl, by decide, by decide +kernel, by decide⟩⟩
abbrev kX3_readInto : gM := (yX3_readInto, cX3_readInto, 5, some .int)
set_option maxRecDepth 20000 in
theorem lX3_readInto : gLv kX3_readInto 1 := ⟨gT_of 219 (by decide +kernel) rfl, gT_sel 1 (by decide +kernel) rfl, ⟨gT_of 2 (by decide +kernel) rfl, gT_of 220 (by rfl) rfl, by decide, by decide +kernel, by decide⟩⟩
abbrev kX3_readNews : gM := (yX3_readNews, cX3_readNews, 9, some .int)
set_option maxRecDepth 20000 in
theorem lX3_readNews : gLv kX3_readNews 2 := ⟨gT_of 253 (by decide +kernel) rfl, gT_sel 8 (by decide +kernel) rfl, ⟨gT_of 2 (by decide +kernel) rfl, gT_of 254 (by rfl) rfl, by decide, by decide +kernel, by decide⟩⟩
abbrev kX3_readPart : gM := (yX3_readPart, cX3_readPart, 4, some .int)
set_option maxRecDepth 20000 in
theorem lX3_readPart : gLv kX3_readPart 2 := ⟨gT_of 238 (by decide +kernel) rfl, gT_sel 5 (by decide +kernel) rfl, ⟨gT_of 2 (by decide +kernel) rfl, gT_of 239 (by rfl) rfl, by decide, by decide +kernel, by decide⟩⟩
abbrev kX3_readPerson : gM := (yX3_readPerson, cX3_readPerson, 6, some .int)
set_option maxRecDepth 20000 in
theorem lX3_readPerson : gLv kX3_readPerson 2 := ⟨gT_of 242 (by decide +kernel) rfl, gT_sel 6 (by decide +kernel) rfl, ⟨gT_of 2 (by decide +kernel) rfl, gT_of 243 (by rfl) rfl, by decide, by decide +kernel, by decide⟩⟩
abbrev kX3_signAt : gM := (yX3_signAt, cX3_signAt, 2, some .int)
set_option maxRecDepth 20000 in
theorem lX3_signAt : gLv kX3_signAt 1 := ⟨gT_of 230 (by decide +kernel) rfl, gT_sel 3 (by decide +kernel) rfl, ⟨gT_of 2 (by decide +kernel) rfl, gT_of 231 (by rfl) rfl, by decide, by decide +kernel, by decide⟩⟩
abbrev kX4_fit : gM := (yX4_fit, cX4_fit, 3, some .boolean)
set_option maxRecDepth 20000 in
theorem lX4_fit : gLv kX4_fit 2 := ⟨gT_of 576 (by decide +kernel) rfl, gT_sel 51 (by decide +kernel) rfl, ⟨gT_of 5 (by decide +kernel) rfl, gT_of 577 (by rfl) rfl, by decide, by decide +kernel, by decide⟩⟩
abbrev kX4_forget : gM := (yX4_forget, cX4_forget, 1, none)
set_option maxRecDepth 20000 in
theorem lX4_forget : gLv kX4_forget 0 := ⟨gT_of 543 (by decide +kernel) rfl, gT_sel 44 (by decide +kernel) rfl, ⟨gT_of 5 (by decide +kernel) rfl, gT_of 544 (by rfl) rfl, by decide, by decide +kernel, by decide⟩⟩
abbrev kX4_see : gM := (yX4_see, cX4_see, 4, none)
set_option maxRecDepth 20000 in
theorem lX4_see : gLv kX4_see 3 := ⟨gT_of 535 (by decide +kernel) rfl, gT_sel 43 (by decide +kernel) rfl, ⟨gT_of 5 (by decide +kernel) rfl, gT_of 536 (by rfl) rfl, by decide, by decide +kernel, by decide⟩⟩
abbrev kX5_allows : gM := (yX5_allows, cX5_allows, 5, some .boolean)
set_option maxRecDepth 20000 in
theorem lX5_allows : gLv kX5_allows 3 := ⟨gT_of 336 (by decide +kernel) rfl, gT_sel 17 (by decide +kernel) rfl, ⟨gT_of 3 (by decide +kernel) rfl, gT_of 337 (by rfl) rfl, by decide, by decide +kernel, by decide⟩⟩
abbrev kX5_beginWith : gM := (yX5_beginWith, cX5_beginWith, 2, none)
set_option maxRecDepth 20000 in
theorem lX5_beginWith : gLv kX5_beginWith 1 := ⟨gT_of 267 (by decide +kernel) rfl, gT_sel 9 (by decide +kernel) rfl, ⟨gT_of 3 (by decide +kernel) rfl, gT_of 268 (by rfl) rfl, by decide, by decide +kernel, by decide⟩⟩
abbrev kX5_copyFrom : gM := (yX5_copyFrom, cX5_copyFrom, 2, none)
set_option maxRecDepth 20000 in
theorem lX5_copyFrom : gLv kX5_copyFrom 1 := ⟨gT_of 414 (by decide +kernel) rfl, gT_sel 25 (by decide +kernel) rfl, ⟨gT_of 3 (by decide +kernel) rfl, gT_of 415 (by rfl) rfl, by decide, by decide +kernel, by decide⟩⟩
abbrev kX5_count : gM := (yX5_count, cX5_count, 8, none)
set_option maxRecDepth 20000 in
theorem lX5_count : gLv kX5_count 4 := ⟨gT_of 372 (by decide +kernel) rfl, gT_sel 22 (by decide +kernel) rfl, ⟨gT_of 3 (by decide +kernel) rfl, gT_of 373 (by rfl) rfl, by decide, by decide +kernel, by decide⟩⟩
abbrev kX5_knows : gM := (yX5_knows, cX5_knows, 3, some .boolean)
set_option maxRecDepth 20000 in
theorem lX5_knows : gLv kX5_knows 2 := ⟨gT_of 328 (by decide +kernel) rfl, gT_sel 16 (by decide +kernel) rfl, ⟨gT_of 3 (by decide +kernel) rfl, gT_of 329 (by rfl) rfl, by decide, by decide +kernel, by decide⟩⟩
abbrev kX5_packedKnown : gM := (yX5_packedKnown, cX5_packedKnown, 3, some .int)
set_option maxRecDepth 20000 in
theorem lX5_packedKnown : gLv kX5_packedKnown 0 := ⟨gT_of 355 (by decide +kernel) rfl, gT_sel 19 (by decide +kernel) rfl, ⟨gT_of 3 (by decide +kernel) rfl, gT_of 356 (by rfl) rfl, by decide, by decide +kernel, by decide⟩⟩
abbrev kX5_spread : gM := (yX5_spread, cX5_spread, 6, some .int)
set_option maxRecDepth 20000 in
theorem lX5_spread : gLv kX5_spread 3 := ⟨gT_of 367 (by decide +kernel) rfl, gT_sel 21 (by decide +kernel) rfl, ⟨gT_of 3 (by decide +kernel) rfl, gT_of 368 (by rfl) rfl, by decide, by decide +kernel, by decide⟩⟩
abbrev kX5_tellingsOf : gM := (yX5_tellingsOf, cX5_tellingsOf, 4, some .int)
set_option maxRecDepth 20000 in
theorem lX5_tellingsOf : gLv kX5_tellingsOf 1 := ⟨gT_of 283 (by decide +kernel) rfl, gT_sel 11 (by decide +kernel) rfl, ⟨gT_of 3 (by decide +kernel) rfl, gT_of 284 (by rfl) rfl, by decide, by decide +kernel, by decide⟩⟩
abbrev kX5_unpackKnown : gM := (yX5_unpackKnown, cX5_unpackKnown, 3, none)
set_option maxRecDepth 20000 in
theorem lX5_unpackKnown : gLv kX5_unpackKnown 1 := ⟨gT_of 403 (by decide +kernel) rfl, gT_sel 24 (by decide +kernel) rfl, ⟨gT_of 3 (by decide +kernel) rfl, gT_of 404 (by rfl) rfl, by decide, by decide +kernel, by decide⟩⟩
abbrev kX6_about : gM := (yX6_about, cX6_about, 2, some .int)
set_option maxRecDepth 20000 in
theorem lX6_about : gLv kX6_about 1 := ⟨gT_of 274 (by decide +kernel) rfl, gT_of 275 (by decide +kernel) rfl, ⟨gT_of 1 (by decide +kernel) rfl, gT_of 276 (by rfl) rfl, by decide, by decide +kernel, by decide⟩⟩
abbrev kX6_again : gM := (yX6_again, cX6_again, 2, some .int)
set_option maxRecDepth 20000 in
theorem lX6_again : gLv kX6_again 1 := ⟨gT_of 587 (by decide +kernel) rfl, gT_of 588 (by decide +kernel) rfl, ⟨gT_of 1 (by decide +kernel) rfl, gT_of 589 (by rfl) rfl, by decide, by decide +kernel, by decide⟩⟩
abbrev kX6_chance : gM := (yX6_chance, cX6_chance, 6, some .long)
set_option maxRecDepth 20000 in
theorem lX6_chance : gLv kX6_chance 5 := ⟨gT_of 516 (by decide +kernel) rfl, gT_of 517 (by decide +kernel) rfl, ⟨gT_of 1 (by decide +kernel) rfl, gT_of 518 (by rfl) rfl, by decide, by decide +kernel, by decide⟩⟩
abbrev kX6_day : gM := (yX6_day, cX6_day, 3, some .int)
set_option maxRecDepth 20000 in
theorem lX6_day : gLv kX6_day 0 := ⟨gT_of 262 (by decide +kernel) rfl, gT_of 263 (by decide +kernel) rfl, ⟨gT_of 1 (by decide +kernel) rfl, gT_of 264 (by rfl) rfl, by decide, by decide +kernel, by decide⟩⟩
abbrev kX6_duel : gM := (yX6_duel, cX6_duel, 3, some .int)
set_option maxRecDepth 20000 in
theorem lX6_duel : gLv kX6_duel 2 := ⟨gT_of 501 (by decide +kernel) rfl, gT_of 502 (by decide +kernel) rfl, ⟨gT_of 1 (by decide +kernel) rfl, gT_of 503 (by rfl) rfl, by decide, by decide +kernel, by decide⟩⟩
abbrev kX6_fault : gM := (yX6_fault, cX6_fault, 1, some .int)
set_option maxRecDepth 20000 in
theorem lX6_fault : gLv kX6_fault 0 := ⟨gT_of 214 (by decide +kernel) rfl, gT_of 215 (by decide +kernel) rfl, ⟨gT_of 1 (by decide +kernel) rfl, gT_of 216 (by rfl) rfl, by decide, by decide +kernel, by decide⟩⟩
abbrev kX6_fewest : gM := (yX6_fewest, cX6_fewest, 4, some .int)
set_option maxRecDepth 20000 in
theorem lX6_fewest : gLv kX6_fewest 2 := ⟨gT_of 424 (by decide +kernel) rfl, gT_of 425 (by decide +kernel) rfl, ⟨gT_of 1 (by decide +kernel) rfl, gT_of 426 (by rfl) rfl, by decide, by decide +kernel, by decide⟩⟩
abbrev kX6_figureOf : gM := (yX6_figureOf, cX6_figureOf, 4, some .int)
set_option maxRecDepth 20000 in
theorem lX6_figureOf : gLt kX6_figureOf 2 := ⟨gT_of 417 (by decide +kernel) rfl, ⟨gT_of 1 (by decide +kernel) rfl, gT_of 418 (by rfl) rfl, by decide, by decide +kernel, by decide⟩⟩
abbrev kX6_fraction : gM := (yX6_fraction, cX6_fraction, 6, some .int)
set_option maxRecDepth 20000 in
theorem lX6_fraction : gLt kX6_fraction 3 := ⟨gT_of 527 (by decide +kernel) rfl, ⟨gT_of 1 (by decide +kernel) rfl, gT_of 528 (by rfl) rfl, by decide, by decide +kernel, by decide⟩⟩
abbrev kX6_hour : gM := (yX6_hour, cX6_hour, 1, some .int)
set_option maxRecDepth 20000 in
theorem lX6_hour : gLv kX6_hour 0 := ⟨gT_of 376 (by decide +kernel) rfl, gT_of 377 (by decide +kernel) rfl, ⟨gT_of 1 (by decide +kernel) rfl, gT_of 378 (by rfl) rfl, by decide, by decide +kernel, by decide⟩⟩
abbrev kX6_hoursOfHearing : gM := (yX6_hoursOfHearing, cX6_hoursOfHearing, 7, some .int)
set_option maxRecDepth 20000 in
theorem lX6_hoursOfHearing : gLv kX6_hoursOfHearing 3 := ⟨gT_of 523 (by decide +kernel) rfl, gT_sel 42 (by decide +kernel) rfl, ⟨gT_of 1 (by decide +kernel) rfl, gT_of 524 (by rfl) rfl, by decide, by decide +kernel, by decide⟩⟩
abbrev kX6_isHour : gM := (yX6_isHour, cX6_isHour, 1, some .boolean)
set_option maxRecDepth 20000 in
theorem lX6_isHour : gLt kX6_isHour 1 := ⟨gT_of 304 (by decide +kernel) rfl, ⟨gT_of 1 (by decide +kernel) rfl, gT_of 305 (by rfl) rfl, by decide, by decide +kernel, by decide⟩⟩
abbrev kX6_isNews : gM := (yX6_isNews, cX6_isNews, 2, some .boolean)
set_option maxRecDepth 20000 in
theorem lX6_isNews : gLv kX6_isNews 1 := ⟨gT_of 316 (by decide +kernel) rfl, gT_sel 15 (by decide +kernel) rfl, ⟨gT_of 1 (by decide +kernel) rfl, gT_of 317 (by rfl) rfl, by decide, by decide +kernel, by decide⟩⟩
abbrev kX6_isPerson : gM := (yX6_isPerson, cX6_isPerson, 2, some .boolean)
set_option maxRecDepth 20000 in
theorem lX6_isPerson : gLv kX6_isPerson 1 := ⟨gT_of 301 (by decide +kernel) rfl, gT_sel 13 (by decide +kernel) rfl, ⟨gT_of 1 (by decide +kernel) rfl, gT_of 302 (by rfl) rfl, by decide, by decide +kernel, by decide⟩⟩
abbrev kX6_joinHalves : gM := (yX6_joinHalves, cX6_joinHalves, 2, none)
set_option maxRecDepth 20000 in
theorem lX6_joinHalves : gLt kX6_joinHalves 2 := ⟨gT_of 259 (by decide +kernel) rfl, ⟨gT_of 1 (by decide +kernel) rfl, gT_of 260 (by rfl) rfl, by decide, by decide +kernel, by decide⟩⟩
abbrev kX6_judge : gM := (yX6_judge, cX6_judge, 5, some .int)
set_option maxRecDepth 20000 in
theorem lX6_judge : gLv kX6_judge 3 := ⟨gT_of 406 (by decide +kernel) rfl, gT_of 407 (by decide +kernel) rfl, ⟨gT_of 1 (by decide +kernel) rfl, gT_of 408 (by rfl) rfl, by decide, by decide +kernel, by decide⟩⟩
abbrev kX6_keep : gM := (yX6_keep, cX6_keep, 2, some .int)
set_option maxRecDepth 20000 in
theorem lX6_keep : gLv kX6_keep 1 := ⟨gT_of 583 (by decide +kernel) rfl, gT_of 584 (by decide +kernel) rfl, ⟨gT_of 1 (by decide +kernel) rfl, gT_of 585 (by rfl) rfl, by decide, by decide +kernel, by decide⟩⟩
abbrev kX6_leastTellings : gM := (yX6_leastTellings, cX6_leastTellings, 4, some .int)
set_option maxRecDepth 20000 in
theorem lX6_leastTellings : gLv kX6_leastTellings 2 := ⟨gT_of 433 (by decide +kernel) rfl, gT_sel 28 (by decide +kernel) rfl, ⟨gT_of 1 (by decide +kernel) rfl, gT_of 434 (by rfl) rfl, by decide, by decide +kernel, by decide⟩⟩
abbrev kX6_left : gM := (yX6_left, cX6_left, 3, some .int)
set_option maxRecDepth 20000 in
theorem lX6_left : gLv kX6_left 2 := ⟨gT_of 323 (by decide +kernel) rfl, gT_of 324 (by decide +kernel) rfl, ⟨gT_of 1 (by decide +kernel) rfl, gT_of 325 (by rfl) rfl, by decide, by decide +kernel, by decide⟩⟩
abbrev kX6_leftOf : gM := (yX6_leftOf, cX6_leftOf, 2, some .int)
set_option maxRecDepth 20000 in
theorem lX6_leftOf : gLv kX6_leftOf 1 := ⟨gT_of 461 (by decide +kernel) rfl, gT_sel 33 (by decide +kernel) rfl, ⟨gT_of 1 (by decide +kernel) rfl, gT_of 462 (by rfl) rfl, by decide, by decide +kernel, by decide⟩⟩
abbrev kX6_may : gM := (yX6_may, cX6_may, 3, some .int)
set_option maxRecDepth 20000 in
theorem lX6_may : gLv kX6_may 2 := ⟨gT_of 331 (by decide +kernel) rfl, gT_of 332 (by decide +kernel) rfl, ⟨gT_of 1 (by decide +kernel) rfl, gT_of 333 (by rfl) rfl, by decide, by decide +kernel, by decide⟩⟩
abbrev kX6_most : gM := (yX6_most, cX6_most, 3, some .int)
set_option maxRecDepth 20000 in
theorem lX6_most : gLv kX6_most 1 := ⟨gT_of 476 (by decide +kernel) rfl, gT_of 477 (by decide +kernel) rfl, ⟨gT_of 1 (by decide +kernel) rfl, gT_of 478 (by rfl) rfl, by decide, by decide +kernel, by decide⟩⟩
abbrev kX6_news : gM := (yX6_news, cX6_news, 3, some .int)
set_option maxRecDepth 20000 in
theorem lX6_news : gLv kX6_news 2 := ⟨gT_of 311 (by decide +kernel) rfl, gT_of 312 (by decide +kernel) rfl, ⟨gT_of 1 (by decide +kernel) rfl, gT_of 313 (by rfl) rfl, by decide, by decide +kernel, by decide⟩⟩
abbrev kX6_planAt : gM := (yX6_planAt, cX6_planAt, 5, some .int)
set_option maxRecDepth 20000 in
theorem lX6_planAt : gLv kX6_planAt 3 := ⟨gT_of 464 (by decide +kernel) rfl, gT_of 465 (by decide +kernel) rfl, ⟨gT_of 1 (by decide +kernel) rfl, gT_of 466 (by rfl) rfl, by decide, by decide +kernel, by decide⟩⟩
abbrev kX6_powerOf : gM := (yX6_powerOf, cX6_powerOf, 4, some .int)
set_option maxRecDepth 20000 in
theorem lX6_powerOf : gLt kX6_powerOf 2 := ⟨gT_of 410 (by decide +kernel) rfl, ⟨gT_of 1 (by decide +kernel) rfl, gT_of 411 (by rfl) rfl, by decide, by decide +kernel, by decide⟩⟩
abbrev kX6_refusalOfPlan : gM := (yX6_refusalOfPlan, cX6_refusalOfPlan, 3, some .int)
set_option maxRecDepth 20000 in
theorem lX6_refusalOfPlan : gLv kX6_refusalOfPlan 2 := ⟨gT_of 429 (by decide +kernel) rfl, gT_sel 27 (by decide +kernel) rfl, ⟨gT_of 1 (by decide +kernel) rfl, gT_of 430 (by rfl) rfl, by decide, by decide +kernel, by decide⟩⟩
abbrev kX6_rows : gM := (yX6_rows, cX6_rows, 3, some .int)
set_option maxRecDepth 20000 in
theorem lX6_rows : gLv kX6_rows 1 := ⟨gT_of 547 (by decide +kernel) rfl, gT_of 548 (by decide +kernel) rfl, ⟨gT_of 1 (by decide +kernel) rfl, gT_of 549 (by rfl) rfl, by decide, by decide +kernel, by decide⟩⟩
abbrev kX6_sight : gM := (yX6_sight, cX6_sight, 4, some .int)
set_option maxRecDepth 20000 in
theorem lX6_sight : gLv kX6_sight 3 := ⟨gT_of 530 (by decide +kernel) rfl, gT_of 531 (by decide +kernel) rfl, ⟨gT_of 1 (by decide +kernel) rfl, gT_of 532 (by rfl) rfl, by decide, by decide +kernel, by decide⟩⟩
abbrev kX6_spent : gM := (yX6_spent, cX6_spent, 4, some .int)
set_option maxRecDepth 20000 in
theorem lX6_spent : gLv kX6_spent 2 := ⟨gT_of 493 (by decide +kernel) rfl, gT_of 494 (by decide +kernel) rfl, ⟨gT_of 1 (by decide +kernel) rfl, gT_of 495 (by rfl) rfl, by decide, by decide +kernel, by decide⟩⟩
abbrev kX6_tell : gM := (yX6_tell, cX6_tell, 3, some .int)
set_option maxRecDepth 20000 in
theorem lX6_tell : gLv kX6_tell 2 := ⟨gT_of 350 (by decide +kernel) rfl, gT_of 351 (by decide +kernel) rfl, ⟨gT_of 1 (by decide +kernel) rfl, gT_of 352 (by rfl) rfl, by decide, by decide +kernel, by decide⟩⟩
abbrev kX6_tellingsOfAll : gM := (yX6_tellingsOfAll, cX6_tellingsOfAll, 3, some .int)
set_option maxRecDepth 20000 in
theorem lX6_tellingsOfAll : gLv kX6_tellingsOfAll 0 := ⟨gT_of 279 (by decide +kernel) rfl, gT_sel 10 (by decide +kernel) rfl, ⟨gT_of 1 (by decide +kernel) rfl, gT_of 280 (by rfl) rfl, by decide, by decide +kernel, by decide⟩⟩
abbrev kX6_told : gM := (yX6_told, cX6_told, 3, some .int)
set_option maxRecDepth 20000 in
theorem lX6_told : gLv kX6_told 2 := ⟨gT_of 319 (by decide +kernel) rfl, gT_of 320 (by decide +kernel) rfl, ⟨gT_of 1 (by decide +kernel) rfl, gT_of 321 (by rfl) rfl, by decide, by decide +kernel, by decide⟩⟩
abbrev kX6_triedFigure : gM := (yX6_triedFigure, cX6_triedFigure, 3, some .boolean)
set_option maxRecDepth 20000 in
theorem lX6_triedFigure : gLv kX6_triedFigure 2 := ⟨gT_of 421 (by decide +kernel) rfl, gT_sel 26 (by decide +kernel) rfl, ⟨gT_of 1 (by decide +kernel) rfl, gT_of 422 (by rfl) rfl, by decide, by decide +kernel, by decide⟩⟩
abbrev kX6_undo : gM := (yX6_undo, cX6_undo, 2, some .int)
set_option maxRecDepth 20000 in
theorem lX6_undo : gLv kX6_undo 0 := ⟨gT_of 380 (by decide +kernel) rfl, gT_of 381 (by decide +kernel) rfl, ⟨gT_of 1 (by decide +kernel) rfl, gT_of 382 (by rfl) rfl, by decide, by decide +kernel, by decide⟩⟩
abbrev kX6_unsee : gM := (yX6_unsee, cX6_unsee, 2, some .int)
set_option maxRecDepth 20000 in
theorem lX6_unsee : gLv kX6_unsee 0 := ⟨gT_of 538 (by decide +kernel) rfl, gT_of 539 (by decide +kernel) rfl, ⟨gT_of 1 (by decide +kernel) rfl, gT_of 540 (by rfl) rfl, by decide, by decide +kernel, by decide⟩⟩
abbrev kX6_where : gM := (yX6_where, cX6_where, 3, some .int)
set_option maxRecDepth 20000 in
theorem lX6_where : gLv kX6_where 2 := ⟨gT_of 296 (by decide +kernel) rfl, gT_of 297 (by decide +kernel) rfl, ⟨gT_of 1 (by decide +kernel) rfl, gT_of 298 (by rfl) rfl, by decide, by decide +kernel, by decide⟩⟩
abbrev kX6_wipe : gM := (yX6_wipe, cX6_wipe, 2, some .int)
set_option maxRecDepth 20000 in
theorem lX6_wipe : gLv kX6_wipe 0 := ⟨gT_of 210 (by decide +kernel) rfl, gT_of 211 (by decide +kernel) rfl, ⟨gT_of 1 (by decide +kernel) rfl, gT_of 212 (by rfl) rfl, by decide, by decide +kernel, by decide⟩⟩
abbrev kX6_worthOfAll : gM := (yX6_worthOfAll, cX6_worthOfAll, 3, some .int)
set_option maxRecDepth 20000 in
theorem lX6_worthOfAll : gLv kX6_worthOfAll 0 := ⟨gT_of 287 (by decide +kernel) rfl, gT_sel 12 (by decide +kernel) rfl, ⟨gT_of 1 (by decide +kernel) rfl, gT_of 288 (by rfl) rfl, by decide, by decide +kernel, by decide⟩⟩
abbrev kX6_write : gM := (yX6_write, cX6_write, 5, some .int)
set_option maxRecDepth 20000 in
theorem lX6_write : gLv kX6_write 2 := ⟨gT_of 202 (by decide +kernel) rfl, gT_of 203 (by decide +kernel) rfl, ⟨gT_of 1 (by decide +kernel) rfl, gT_of 204 (by rfl) rfl, by decide, by decide +kernel, by decide⟩⟩
abbrev kX7_about : gM := (yX7_about, cX7_about, 5, some .int)
set_option maxRecDepth 20000 in
theorem lX7_about : gLv kX7_about 1 := ⟨gT_of 748 (by decide +kernel) rfl, gT_of 749 (by decide +kernel) rfl, ⟨gT_of 8 (by decide +kernel) rfl, gT_of 750 (by rfl) rfl, by decide, by decide +kernel, by decide⟩⟩
abbrev kX7_again : gM := (yX7_again, cX7_again, 2, some .int)
set_option maxRecDepth 20000 in
theorem lX7_again : gLv kX7_again 1 := ⟨gT_of 911 (by decide +kernel) rfl, gT_of 912 (by decide +kernel) rfl, ⟨gT_of 8 (by decide +kernel) rfl, gT_of 913 (by rfl) rfl, by decide, by decide +kernel, by decide⟩⟩
abbrev kX7_behind : gM := (yX7_behind, cX7_behind, 6, some .int)
set_option maxRecDepth 20000 in
theorem lX7_behind : gLv kX7_behind 3 := ⟨gT_of 841 (by decide +kernel) rfl, gT_sel 70 (by decide +kernel) rfl, ⟨gT_of 8 (by decide +kernel) rfl, gT_of 842 (by rfl) rfl, by decide, by decide +kernel, by decide⟩⟩
abbrev kX7_both : gM := (yX7_both, cX7_both, 6, some .int)
set_option maxRecDepth 20000 in
theorem lX7_both : gLv kX7_both 4 := ⟨gT_of 877 (by decide +kernel) rfl, gT_sel 75 (by decide +kernel) rfl, ⟨gT_of 8 (by decide +kernel) rfl, gT_of 878 (by rfl) rfl, by decide, by decide +kernel, by decide⟩⟩
abbrev kX7_canAt : gM := (yX7_canAt, cX7_canAt, 5, some .boolean)
set_option maxRecDepth 20000 in
theorem lX7_canAt : gLv kX7_canAt 3 := ⟨gT_of 845 (by decide +kernel) rfl, gT_sel 71 (by decide +kernel) rfl, ⟨gT_of 8 (by decide +kernel) rfl, gT_of 846 (by rfl) rfl, by decide, by decide +kernel, by decide⟩⟩
abbrev kX7_chance : gM := (yX7_chance, cX7_chance, 12, some .long)
set_option maxRecDepth 20000 in
theorem lX7_chance : gLv kX7_chance 5 := ⟨gT_of 880 (by decide +kernel) rfl, gT_of 881 (by decide +kernel) rfl, ⟨gT_of 8 (by decide +kernel) rfl, gT_of 882 (by rfl) rfl, by decide, by decide +kernel, by decide⟩⟩
abbrev kX7_day : gM := (yX7_day, cX7_day, 2, some .int)
set_option maxRecDepth 20000 in
theorem lX7_day : gLv kX7_day 0 := ⟨gT_of 740 (by decide +kernel) rfl, gT_of 741 (by decide +kernel) rfl, ⟨gT_of 8 (by decide +kernel) rfl, gT_of 742 (by rfl) rfl, by decide, by decide +kernel, by decide⟩⟩
abbrev kX7_divisor : gM := (yX7_divisor, cX7_divisor, 10, some .long)
set_option maxRecDepth 20000 in
theorem lX7_divisor : gLt kX7_divisor 2 := ⟨gT_of 888 (by decide +kernel) rfl, ⟨gT_of 8 (by decide +kernel) rfl, gT_of 889 (by rfl) rfl, by decide, by decide +kernel, by decide⟩⟩
abbrev kX7_duel : gM := (yX7_duel, cX7_duel, 5, some .int)
set_option maxRecDepth 20000 in
theorem lX7_duel : gLv kX7_duel 2 := ⟨gT_of 868 (by decide +kernel) rfl, gT_of 869 (by decide +kernel) rfl, ⟨gT_of 8 (by decide +kernel) rfl, gT_of 870 (by rfl) rfl, by decide, by decide +kernel, by decide⟩⟩
abbrev kX7_fault : gM := (yX7_fault, cX7_fault, 1, some .int)
set_option maxRecDepth 20000 in
theorem lX7_fault : gLv kX7_fault 0 := ⟨gT_of 713 (by decide +kernel) rfl, gT_of 714 (by decide +kernel) rfl, ⟨gT_of 8 (by decide +kernel) rfl, gT_of 715 (by rfl) rfl, by decide, by decide +kernel, by decide⟩⟩
abbrev kX7_fewest : gM := (yX7_fewest, cX7_fewest, 4, some .int)
set_option maxRecDepth 20000 in
theorem lX7_fewest : gLv kX7_fewest 2 := ⟨gT_of 824 (by decide +kernel) rfl, gT_of 825 (by decide +kernel) rfl, ⟨gT_of 8 (by decide +kernel) rfl, gT_of 826 (by rfl) rfl, by decide, by decide +kernel, by decide⟩⟩
abbrev kX7_figure : gM := (yX7_figure, cX7_figure, 3, some .int)
set_option maxRecDepth 20000 in
theorem lX7_figure : gLv kX7_figure 2 := ⟨gT_of 722 (by decide +kernel) rfl, gT_sel 54 (by decide +kernel) rfl, ⟨gT_of 8 (by decide +kernel) rfl, gT_of 723 (by rfl) rfl, by decide, by decide +kernel, by decide⟩⟩
abbrev kX7_findFewest : gM := (yX7_findFewest, cX7_findFewest, 4, some .int)
set_option maxRecDepth 20000 in
theorem lX7_findFewest : gLv kX7_findFewest 2 := ⟨gT_of 833 (by decide +kernel) rfl, gT_sel 68 (by decide +kernel) rfl, ⟨gT_of 8 (by decide +kernel) rfl, gT_of 834 (by rfl) rfl, by decide, by decide +kernel, by decide⟩⟩
abbrev kX7_goWays : gM := (yX7_goWays, cX7_goWays, 7, none)
set_option maxRecDepth 20000 in
theorem lX7_goWays : gLv kX7_goWays 2 := ⟨gT_of 865 (by decide +kernel) rfl, gT_sel 73 (by decide +kernel) rfl, ⟨gT_of 8 (by decide +kernel) rfl, gT_of 866 (by rfl) rfl, by decide, by decide +kernel, by decide⟩⟩
abbrev kX7_halve : gM := (yX7_halve, cX7_halve, 2, none)
set_option maxRecDepth 20000 in
theorem lX7_halve : gLv kX7_halve 1 := ⟨gT_of 745 (by decide +kernel) rfl, gT_sel 58 (by decide +kernel) rfl, ⟨gT_of 8 (by decide +kernel) rfl, gT_of 746 (by rfl) rfl, by decide, by decide +kernel, by decide⟩⟩
abbrev kX7_has : gM := (yX7_has, cX7_has, 2, some .boolean)
set_option maxRecDepth 20000 in
theorem lX7_has : gLt kX7_has 2 := ⟨gT_of 737 (by decide +kernel) rfl, ⟨gT_of 8 (by decide +kernel) rfl, gT_of 738 (by rfl) rfl, by decide, by decide +kernel, by decide⟩⟩
abbrev kX7_hasIt : gM := (yX7_hasIt, cX7_hasIt, 11, some .boolean)
set_option maxRecDepth 20000 in
theorem lX7_hasIt : gLv kX7_hasIt 3 := ⟨gT_of 873 (by decide +kernel) rfl, gT_sel 74 (by decide +kernel) rfl, ⟨gT_of 8 (by decide +kernel) rfl, gT_of 874 (by rfl) rfl, by decide, by decide +kernel, by decide⟩⟩
abbrev kX7_hour : gM := (yX7_hour, cX7_hour, 1, some .int)
set_option maxRecDepth 20000 in
theorem lX7_hour : gLv kX7_hour 0 := ⟨gT_of 808 (by decide +kernel) rfl, gT_of 809 (by decide +kernel) rfl, ⟨gT_of 8 (by decide +kernel) rfl, gT_of 810 (by rfl) rfl, by decide, by decide +kernel, by decide⟩⟩
abbrev kX7_in : gM := (yX7_in, cX7_in, 6, some .boolean)
set_option maxRecDepth 20000 in
theorem lX7_in : gLt kX7_in 3 := ⟨gT_of 706 (by decide +kernel) rfl, ⟨gT_of 8 (by decide +kernel) rfl, gT_of 707 (by rfl) rfl, by decide, by decide +kernel, by decide⟩⟩
abbrev kX7_isSeen : gM := (yX7_isSeen, cX7_isSeen, 5, some .boolean)
set_option maxRecDepth 20000 in
theorem lX7_isSeen : gLv kX7_isSeen 2 := ⟨gT_of 904 (by decide +kernel) rfl, gT_sel 76 (by decide +kernel) rfl, ⟨gT_of 8 (by decide +kernel) rfl, gT_of 905 (by rfl) rfl, by decide, by decide +kernel, by decide⟩⟩
abbrev kX7_judge : gM := (yX7_judge, cX7_judge, 9, some .int)
set_option maxRecDepth 20000 in
theorem lX7_judge : gLv kX7_judge 3 := ⟨gT_of 820 (by decide +kernel) rfl, gT_of 821 (by decide +kernel) rfl, ⟨gT_of 8 (by decide +kernel) rfl, gT_of 822 (by rfl) rfl, by decide, by decide +kernel, by decide⟩⟩
abbrev kX7_keep : gM := (yX7_keep, cX7_keep, 2, some .int)
set_option maxRecDepth 20000 in
theorem lX7_keep : gLv kX7_keep 1 := ⟨gT_of 907 (by decide +kernel) rfl, gT_of 908 (by decide +kernel) rfl, ⟨gT_of 8 (by decide +kernel) rfl, gT_of 909 (by rfl) rfl, by decide, by decide +kernel, by decide⟩⟩
abbrev kX7_layNeed : gM := (yX7_layNeed, cX7_layNeed, 7, none)
set_option maxRecDepth 20000 in
theorem lX7_layNeed : gLv kX7_layNeed 1 := ⟨gT_of 837 (by decide +kernel) rfl, gT_sel 69 (by decide +kernel) rfl, ⟨gT_of 8 (by decide +kernel) rfl, gT_of 838 (by rfl) rfl, by decide, by decide +kernel, by decide⟩⟩
abbrev kX7_layPage : gM := (yX7_layPage, cX7_layPage, 4, none)
set_option maxRecDepth 20000 in
theorem lX7_layPage : gLv kX7_layPage 2 := ⟨gT_of 801 (by decide +kernel) rfl, gT_sel 64 (by decide +kernel) rfl, ⟨gT_of 8 (by decide +kernel) rfl, gT_of 802 (by rfl) rfl, by decide, by decide +kernel, by decide⟩⟩
abbrev kX7_left : gM := (yX7_left, cX7_left, 3, some .int)
set_option maxRecDepth 20000 in
theorem lX7_left : gLv kX7_left 2 := ⟨gT_of 776 (by decide +kernel) rfl, gT_of 777 (by decide +kernel) rfl, ⟨gT_of 8 (by decide +kernel) rfl, gT_of 778 (by rfl) rfl, by decide, by decide +kernel, by decide⟩⟩
abbrev kX7_leftOf : gM := (yX7_leftOf, cX7_leftOf, 2, some .int)
set_option maxRecDepth 20000 in
theorem lX7_leftOf : gLv kX7_leftOf 1 := ⟨gT_of 849 (by decide +kernel) rfl, gT_sel 72 (by decide +kernel) rfl, ⟨gT_of 8 (by decide +kernel) rfl, gT_of 850 (by rfl) rfl, by decide, by decide +kernel, by decide⟩⟩
abbrev kX7_many : gM := (yX7_many, cX7_many, 3, some .int)
set_option maxRecDepth 20000 in
theorem lX7_many : gLt kX7_many 1 := ⟨gT_of 752 (by decide +kernel) rfl, ⟨gT_of 8 (by decide +kernel) rfl, gT_of 753 (by rfl) rfl, by decide, by decide +kernel, by decide⟩⟩
abbrev kX7_may : gM := (yX7_may, cX7_may, 3, some .int)
set_option maxRecDepth 20000 in
theorem lX7_may : gLv kX7_may 2 := ⟨gT_of 780 (by decide +kernel) rfl, gT_of 781 (by decide +kernel) rfl, ⟨gT_of 8 (by decide +kernel) rfl, gT_of 782 (by rfl) rfl, by decide, by decide +kernel, by decide⟩⟩
abbrev kX7_mayTell : gM := (yX7_mayTell, cX7_mayTell, 6, some .boolean)
set_option maxRecDepth 20000 in
theorem lX7_mayTell : gLv kX7_mayTell 4 := ⟨gT_of 785 (by decide +kernel) rfl, gT_sel 61 (by decide +kernel) rfl, ⟨gT_of 8 (by decide +kernel) rfl, gT_of 786 (by rfl) rfl, by decide, by decide +kernel, by decide⟩⟩
abbrev kX7_most : gM := (yX7_most, cX7_most, 7, some .int)
set_option maxRecDepth 20000 in
theorem lX7_most : gLv kX7_most 1 := ⟨gT_of 856 (by decide +kernel) rfl, gT_of 857 (by decide +kernel) rfl, ⟨gT_of 8 (by decide +kernel) rfl, gT_of 858 (by rfl) rfl, by decide, by decide +kernel, by decide⟩⟩
abbrev kX7_news : gM := (yX7_news, cX7_news, 3, some .int)
set_option maxRecDepth 20000 in
theorem lX7_news : gLv kX7_news 2 := ⟨gT_of 764 (by decide +kernel) rfl, gT_of 765 (by decide +kernel) rfl, ⟨gT_of 8 (by decide +kernel) rfl, gT_of 766 (by rfl) rfl, by decide, by decide +kernel, by decide⟩⟩
abbrev kX7_noNews : gM := (yX7_noNews, cX7_noNews, 2, some .boolean)
set_option maxRecDepth 20000 in
theorem lX7_noNews : gLv kX7_noNews 1 := ⟨gT_of 769 (by decide +kernel) rfl, gT_sel 60 (by decide +kernel) rfl, ⟨gT_of 8 (by decide +kernel) rfl, gT_of 770 (by rfl) rfl, by decide, by decide +kernel, by decide⟩⟩
abbrev kX7_noOne : gM := (yX7_noOne, cX7_noOne, 2, some .boolean)
set_option maxRecDepth 20000 in
theorem lX7_noOne : gLv kX7_noOne 1 := ⟨gT_of 760 (by decide +kernel) rfl, gT_sel 59 (by decide +kernel) rfl, ⟨gT_of 8 (by decide +kernel) rfl, gT_of 761 (by rfl) rfl, by decide, by decide +kernel, by decide⟩⟩
abbrev kX7_noPlan : gM := (yX7_noPlan, cX7_noPlan, 3, some .int)
set_option maxRecDepth 20000 in
theorem lX7_noPlan : gLv kX7_noPlan 2 := ⟨gT_of 829 (by decide +kernel) rfl, gT_sel 67 (by decide +kernel) rfl, ⟨gT_of 8 (by decide +kernel) rfl, gT_of 830 (by rfl) rfl, by decide, by decide +kernel, by decide⟩⟩
abbrev kX7_note : gM := (yX7_note, cX7_note, 2, none)
set_option maxRecDepth 20000 in
theorem lX7_note : gLv kX7_note 0 := ⟨gT_of 797 (by decide +kernel) rfl, gT_sel 63 (by decide +kernel) rfl, ⟨gT_of 8 (by decide +kernel) rfl, gT_of 798 (by rfl) rfl, by decide, by decide +kernel, by decide⟩⟩
abbrev kX7_planAt : gM := (yX7_planAt, cX7_planAt, 10, some .int)
set_option maxRecDepth 20000 in
theorem lX7_planAt : gLv kX7_planAt 3 := ⟨gT_of 852 (by decide +kernel) rfl, gT_of 853 (by decide +kernel) rfl, ⟨gT_of 8 (by decide +kernel) rfl, gT_of 854 (by rfl) rfl, by decide, by decide +kernel, by decide⟩⟩
abbrev kX7_readDay : gM := (yX7_readDay, cX7_readDay, 4, some .int)
set_option maxRecDepth 20000 in
theorem lX7_readDay : gLv kX7_readDay 0 := ⟨gT_of 718 (by decide +kernel) rfl, gT_sel 53 (by decide +kernel) rfl, ⟨gT_of 8 (by decide +kernel) rfl, gT_of 719 (by rfl) rfl, by decide, by decide +kernel, by decide⟩⟩
abbrev kX7_readKnows : gM := (yX7_readKnows, cX7_readKnows, 3, some .boolean)
set_option maxRecDepth 20000 in
theorem lX7_readKnows : gLv kX7_readKnows 1 := ⟨gT_of 734 (by decide +kernel) rfl, gT_sel 57 (by decide +kernel) rfl, ⟨gT_of 8 (by decide +kernel) rfl, gT_of 735 (by rfl) rfl, by decide, by decide +kernel, by decide⟩⟩
abbrev kX7_readNews : gM := (yX7_readNews, cX7_readNews, 3, some .boolean)
set_option maxRecDepth 20000 in
theorem lX7_readNews : gLv kX7_readNews 0 := ⟨gT_of 730 (by decide +kernel) rfl, gT_sel 56 (by decide +kernel) rfl, ⟨gT_of 8 (by decide +kernel) rfl, gT_of 731 (by rfl) rfl, by decide, by decide +kernel, by decide⟩⟩
abbrev kX7_readPerson : gM := (yX7_readPerson, cX7_readPerson, 4, some .boolean)
set_option maxRecDepth 20000 in
theorem lX7_readPerson : gLv kX7_readPerson 0 := ⟨gT_of 726 (by decide +kernel) rfl, gT_sel 55 (by decide +kernel) rfl, ⟨gT_of 8 (by decide +kernel) rfl, gT_of 727 (by rfl) rfl, by decide, by decide +kernel, by decide⟩⟩
abbrev kX7_rows : gM := (yX7_rows, cX7_rows, 4, some .int)
set_option maxRecDepth 20000 in
theorem lX7_rows : gLv kX7_rows 1 := ⟨gT_of 899 (by decide +kernel) rfl, gT_of 900 (by decide +kernel) rfl, ⟨gT_of 8 (by decide +kernel) rfl, gT_of 901 (by rfl) rfl, by decide, by decide +kernel, by decide⟩⟩
abbrev kX7_sight : gM := (yX7_sight, cX7_sight, 4, some .int)
set_option maxRecDepth 20000 in
theorem lX7_sight : gLv kX7_sight 3 := ⟨gT_of 891 (by decide +kernel) rfl, gT_of 892 (by decide +kernel) rfl, ⟨gT_of 8 (by decide +kernel) rfl, gT_of 893 (by rfl) rfl, by decide, by decide +kernel, by decide⟩⟩
abbrev kX7_spent : gM := (yX7_spent, cX7_spent, 6, some .int)
set_option maxRecDepth 20000 in
theorem lX7_spent : gLv kX7_spent 2 := ⟨gT_of 860 (by decide +kernel) rfl, gT_of 861 (by decide +kernel) rfl, ⟨gT_of 8 (by decide +kernel) rfl, gT_of 862 (by rfl) rfl, by decide, by decide +kernel, by decide⟩⟩
abbrev kX7_takePage : gM := (yX7_takePage, cX7_takePage, 4, none)
set_option maxRecDepth 20000 in
theorem lX7_takePage : gLv kX7_takePage 2 := ⟨gT_of 817 (by decide +kernel) rfl, gT_sel 66 (by decide +kernel) rfl, ⟨gT_of 8 (by decide +kernel) rfl, gT_of 818 (by rfl) rfl, by decide, by decide +kernel, by decide⟩⟩
abbrev kX7_tell : gM := (yX7_tell, cX7_tell, 4, some .int)
set_option maxRecDepth 20000 in
theorem lX7_tell : gLv kX7_tell 2 := ⟨gT_of 792 (by decide +kernel) rfl, gT_of 793 (by decide +kernel) rfl, ⟨gT_of 8 (by decide +kernel) rfl, gT_of 794 (by rfl) rfl, by decide, by decide +kernel, by decide⟩⟩
abbrev kX7_tellIt : gM := (yX7_tellIt, cX7_tellIt, 8, none)
set_option maxRecDepth 20000 in
theorem lX7_tellIt : gLv kX7_tellIt 4 := ⟨gT_of 805 (by decide +kernel) rfl, gT_sel 65 (by decide +kernel) rfl, ⟨gT_of 8 (by decide +kernel) rfl, gT_of 806 (by rfl) rfl, by decide, by decide +kernel, by decide⟩⟩
abbrev kX7_those : gM := (yX7_those, cX7_those, 5, some .int)
set_option maxRecDepth 20000 in
theorem lX7_those : gLv kX7_those 2 := ⟨gT_of 789 (by decide +kernel) rfl, gT_sel 62 (by decide +kernel) rfl, ⟨gT_of 8 (by decide +kernel) rfl, gT_of 790 (by rfl) rfl, by decide, by decide +kernel, by decide⟩⟩
abbrev kX7_told : gM := (yX7_told, cX7_told, 3, some .int)
set_option maxRecDepth 20000 in
theorem lX7_told : gLv kX7_told 2 := ⟨gT_of 772 (by decide +kernel) rfl, gT_of 773 (by decide +kernel) rfl, ⟨gT_of 8 (by decide +kernel) rfl, gT_of 774 (by rfl) rfl, by decide, by decide +kernel, by decide⟩⟩
abbrev kX7_undo : gM := (yX7_undo, cX7_undo, 1, some .int)
set_option maxRecDepth 20000 in
theorem lX7_undo : gLv kX7_undo 0 := ⟨gT_of 812 (by decide +kernel) rfl, gT_of 813 (by decide +kernel) rfl, ⟨gT_of 8 (by decide +kernel) rfl, gT_of 814 (by rfl) rfl, by decide, by decide +kernel, by decide⟩⟩
abbrev kX7_unsee : gM := (yX7_unsee, cX7_unsee, 2, some .int)
set_option maxRecDepth 20000 in
theorem lX7_unsee : gLv kX7_unsee 0 := ⟨gT_of 895 (by decide +kernel) rfl, gT_of 896 (by decide +kernel) rfl, ⟨gT_of 8 (by decide +kernel) rfl, gT_of 897 (by rfl) rfl, by decide, by decide +kernel, by decide⟩⟩
abbrev kX7_where : gM := (yX7_where, cX7_where, 3, some .int)
set_option maxRecDepth 20000 in
theorem lX7_where : gLv kX7_where 2 := ⟨gT_of 755 (by decide +kernel) rfl, gT_of 756 (by decide +kernel) rfl, ⟨gT_of 8 (by decide +kernel) rfl, gT_of 757 (by rfl) rfl, by decide, by decide +kernel, by decide⟩⟩
abbrev kX7_wipe : gM := (yX7_wipe, cX7_wipe, 2, some .int)
set_option maxRecDepth 20000 in
theorem lX7_wipe : gLv kX7_wipe 0 := ⟨gT_of 709 (by decide +kernel) rfl, gT_of 710 (by decide +kernel) rfl, ⟨gT_of 8 (by decide +kernel) rfl, gT_of 711 (by rfl) rfl, by decide, by decide +kernel, by decide⟩⟩
abbrev kX7_write : gM := (yX7_write, cX7_write, 5, some .int)
set_option maxRecDepth 20000 in
theorem lX7_write : gLv kX7_write 2 := ⟨gT_of 701 (by decide +kernel) rfl, gT_of 702 (by decide +kernel) rfl, ⟨gT_of 8 (by decide +kernel) rfl, gT_of 703 (by rfl) rfl, by decide, by decide +kernel, by decide⟩⟩
theorem mL_15 : gLk RL 15 yX6_write := Or.inl (gT_of 201 (by decide +kernel) rfl)
theorem mL_19 : gLk RL 19 yX7_write := Or.inl (gT_of 700 (by decide +kernel) rfl)
theorem mL_20 : gLk RL 20 yX6_wipe := Or.inl (gT_of 209 (by decide +kernel) rfl)
theorem mL_24 : gLk RL 24 yX7_wipe := Or.inl (gT_of 708 (by decide +kernel) rfl)
theorem mL_25 : gLk RL 25 yX6_fault := Or.inl (gT_of 213 (by decide +kernel) rfl)
theorem mL_28 : gLk RL 28 yX7_fault := Or.inl (gT_of 712 (by decide +kernel) rfl)
theorem mL_29 : gLk RL 29 yX6_day := Or.inl (gT_of 261 (by decide +kernel) rfl)
theorem mL_32 : gLk RL 32 yX7_day := Or.inl (gT_of 739 (by decide +kernel) rfl)
theorem mL_33 : gLk RL 33 yX6_about := Or.inl (gT_of 273 (by decide +kernel) rfl)
theorem mL_37 : gLk RL 37 yX7_about := Or.inl (gT_of 747 (by decide +kernel) rfl)
theorem mL_38 : gLk RL 38 yX6_where := Or.inl (gT_of 295 (by decide +kernel) rfl)
theorem mL_42 : gLk RL 42 yX7_where := Or.inl (gT_of 754 (by decide +kernel) rfl)
theorem mL_43 : gLk RL 43 yX6_news := Or.inl (gT_of 310 (by decide +kernel) rfl)
theorem mL_46 : gLk RL 46 yX7_news := Or.inl (gT_of 763 (by decide +kernel) rfl)
theorem mL_47 : gLk RL 47 yX6_told := Or.inl (gT_of 318 (by decide +kernel) rfl)
theorem mL_50 : gLk RL 50 yX7_told := Or.inl (gT_of 771 (by decide +kernel) rfl)
theorem mL_51 : gLk RL 51 yX6_left := Or.inl (gT_of 322 (by decide +kernel) rfl)
theorem mL_54 : gLk RL 54 yX7_left := Or.inl (gT_of 775 (by decide +kernel) rfl)
theorem mL_55 : gLk RL 55 yX6_may := Or.inl (gT_of 330 (by decide +kernel) rfl)
theorem mL_58 : gLk RL 58 yX7_may := Or.inl (gT_of 779 (by decide +kernel) rfl)
theorem mL_59 : gLk RL 59 yX6_tell := Or.inl (gT_of 349 (by decide +kernel) rfl)
theorem mL_62 : gLk RL 62 yX7_tell := Or.inl (gT_of 791 (by decide +kernel) rfl)
theorem mL_63 : gLk RL 63 yX6_hour := Or.inl (gT_of 375 (by decide +kernel) rfl)
theorem mL_66 : gLk RL 66 yX7_hour := Or.inl (gT_of 807 (by decide +kernel) rfl)
theorem mL_67 : gLk RL 67 yX6_undo := Or.inl (gT_of 379 (by decide +kernel) rfl)
theorem mL_70 : gLk RL 70 yX7_undo := Or.inl (gT_of 811 (by decide +kernel) rfl)
theorem mL_71 : gLk RL 71 yX6_judge := Or.inl (gT_of 405 (by decide +kernel) rfl)
theorem mL_75 : gLk RL 75 yX7_judge := Or.inl (gT_of 819 (by decide +kernel) rfl)
theorem mL_76 : gLk RL 76 yX6_fewest := Or.inl (gT_of 423 (by decide +kernel) rfl)
theorem mL_79 : gLk RL 79 yX7_fewest := Or.inl (gT_of 823 (by decide +kernel) rfl)
theorem mL_80 : gLk RL 80 yX6_planAt := Or.inl (gT_of 463 (by decide +kernel) rfl)
theorem mL_83 : gLk RL 83 yX7_planAt := Or.inl (gT_of 851 (by decide +kernel) rfl)
theorem mL_84 : gLk RL 84 yX6_most := Or.inl (gT_of 475 (by decide +kernel) rfl)
theorem mL_87 : gLk RL 87 yX7_most := Or.inl (gT_of 855 (by decide +kernel) rfl)
theorem mL_88 : gLk RL 88 yX6_spent := Or.inl (gT_of 492 (by decide +kernel) rfl)
theorem mL_91 : gLk RL 91 yX7_spent := Or.inl (gT_of 859 (by decide +kernel) rfl)
theorem mL_92 : gLk RL 92 yX6_duel := Or.inl (gT_of 500 (by decide +kernel) rfl)
theorem mL_95 : gLk RL 95 yX7_duel := Or.inl (gT_of 867 (by decide +kernel) rfl)
theorem mL_96 : gLk RL 96 yX6_chance := Or.inl (gT_of 515 (by decide +kernel) rfl)
theorem mL_100 : gLk RL 100 yX7_chance := Or.inl (gT_of 879 (by decide +kernel) rfl)
theorem mL_101 : gLk RL 101 yX6_sight := Or.inl (gT_of 529 (by decide +kernel) rfl)
theorem mL_105 : gLk RL 105 yX7_sight := Or.inl (gT_of 890 (by decide +kernel) rfl)
theorem mL_106 : gLk RL 106 yX6_unsee := Or.inl (gT_of 537 (by decide +kernel) rfl)
theorem mL_109 : gLk RL 109 yX7_unsee := Or.inl (gT_of 894 (by decide +kernel) rfl)
theorem mL_110 : gLk RL 110 yX6_rows := Or.inl (gT_of 546 (by decide +kernel) rfl)
theorem mL_113 : gLk RL 113 yX7_rows := Or.inl (gT_of 898 (by decide +kernel) rfl)
theorem mL_114 : gLk RL 114 yX6_keep := Or.inl (gT_of 582 (by decide +kernel) rfl)
theorem mL_117 : gLk RL 117 yX7_keep := Or.inl (gT_of 906 (by decide +kernel) rfl)
theorem mL_118 : gLk RL 118 yX6_again := Or.inl (gT_of 586 (by decide +kernel) rfl)
theorem mL_121 : gLk RL 121 yX7_again := Or.inl (gT_of 910 (by decide +kernel) rfl)
theorem mX1_27 : gLk RX1 27 yJ7_fill_53178 := Or.inl (gT_of 225 (by decide +kernel) rfl)
theorem mX1_43 : gLk RX1 43 yJ6_bitCount_0f7a4 := Or.inl (gT_of 347 (by decide +kernel) rfl)
theorem mX2_28 : gLk RX2 28 yX1_group := Or.inr ⟨"ToldNineTimes", gN_of 452 (by decide +kernel) rfl⟩
theorem mX2_34 : gLk RX2 34 yX1_isCompany := Or.inr ⟨"ToldNineTimes", gN_of 453 (by decide +kernel) rfl⟩
theorem mX2_38 : gLk RX2 38 yX2_behind := Or.inl (gT_of 448 (by decide +kernel) rfl)
theorem mX2_46 : gLk RX2 46 yJ7_fill_53178 := Or.inl (gT_of 439 (by decide +kernel) rfl)
theorem mX2_52 : gLk RX2 52 yX2_needBy := Or.inl (gT_of 444 (by decide +kernel) rfl)
theorem mX2_60 : gLk RX2 60 yJ6_bitCount_0f7a4 := Or.inl (gT_of 454 (by decide +kernel) rfl)
theorem mX2_66 : gLk RX2 66 yX2_need := Or.inl (gT_of 455 (by decide +kernel) rfl)
theorem mX2_69 : gLk RX2 69 yX2_firstOfLeast := Or.inl (gT_of 471 (by decide +kernel) rfl)
theorem mX2_75 : gLk RX2 75 yX2_wonByChoice := Or.inl (gT_of 510 (by decide +kernel) rfl)
theorem mX2_78 : gLk RX2 78 yX2_wonBy := Or.inl (gT_of 514 (by decide +kernel) rfl)
theorem mX2_87 : gLk RX2 87 yX2_isReached := Or.inl (gT_of 558 (by decide +kernel) rfl)
theorem mX2_90 : gLk RX2 90 yX2_findNexts := Or.inl (gT_of 562 (by decide +kernel) rfl)
theorem mX2_94 : gLk RX2 94 yX2_countOn := Or.inl (gT_of 566 (by decide +kernel) rfl)
theorem mX2_97 : gLk RX2 97 yX4_fit := Or.inr ⟨"ToldNineTimes", gN_of 574 (by decide +kernel) rfl⟩
theorem mX3_19 : gLk RX3 19 yX3_signAt := Or.inl (gT_of 228 (by decide +kernel) rfl)
theorem mX3_23 : gLk RX3 23 yX1_clear := Or.inr ⟨"ToldNineTimes", gN_of 221 (by decide +kernel) rfl⟩
theorem mX3_28 : gLk RX3 28 yX3_figureAt := Or.inl (gT_of 232 (by decide +kernel) rfl)
theorem mX3_35 : gLk RX3 35 yX3_readPart := Or.inl (gT_of 236 (by decide +kernel) rfl)
theorem mX3_39 : gLk RX3 39 yX3_faultOf := Or.inl (gT_of 255 (by decide +kernel) rfl)
theorem mX3_48 : gLk RX3 48 yX6_joinHalves := Or.inr ⟨"ToldNineTimes", gN_of 258 (by decide +kernel) rfl⟩
theorem mX3_55 : gLk RX3 55 yX3_readPerson := Or.inl (gT_of 240 (by decide +kernel) rfl)
theorem mX3_58 : gLk RX3 58 yX3_readNews := Or.inl (gT_of 251 (by decide +kernel) rfl)
theorem mX3_61 : gLk RX3 61 yX3_faultAt := Or.inl (gT_of 248 (by decide +kernel) rfl)
theorem mX3_64 : gLk RX3 64 yX1_put := Or.inr ⟨"ToldNineTimes", gN_of 244 (by decide +kernel) rfl⟩
theorem mX4_22 : gLk RX4 22 yJ7_fill_53178 := Or.inl (gT_of 545 (by decide +kernel) rfl)
theorem mX5_35 : gLk RX5 35 yJ7_fill_53178 := Or.inl (gT_of 272 (by decide +kernel) rfl)
theorem mX5_45 : gLk RX5 45 yX1_placeOf := Or.inr ⟨"ToldNineTimes", gN_of 338 (by decide +kernel) rfl⟩
theorem mX5_49 : gLk RX5 49 yX5_knows := Or.inl (gT_of 339 (by decide +kernel) rfl)
theorem mX5_53 : gLk RX5 53 yX1_group := Or.inr ⟨"ToldNineTimes", gN_of 340 (by decide +kernel) rfl⟩
theorem mX5_56 : gLk RX5 56 yX1_isCompany := Or.inr ⟨"ToldNineTimes", gN_of 344 (by decide +kernel) rfl⟩
theorem mX5_60 : gLk RX5 60 yX5_tellingsOf := Or.inl (gT_of 348 (by decide +kernel) rfl)
theorem mX5_70 : gLk RX5 70 yJ6_bitCount_0f7a4 := Or.inl (gT_of 369 (by decide +kernel) rfl)
theorem mX5_75 : gLk RX5 75 yX5_count := Or.inl (gT_of 370 (by decide +kernel) rfl)
theorem mX5_82 : gLk RX5 82 yX6_joinHalves := Or.inr ⟨"ToldNineTimes", gN_of 374 (by decide +kernel) rfl⟩
theorem mX6_67 : gLk RX6 67 yX3_append := Or.inr ⟨"ToldNineTimes", gN_of 205 (by decide +kernel) rfl⟩
theorem mX6_71 : gLk RX6 71 yX3_readInto := Or.inr ⟨"ToldNineTimes", gN_of 217 (by decide +kernel) rfl⟩
theorem mX6_75 : gLk RX6 75 yX5_beginWith := Or.inr ⟨"ToldNineTimes", gN_of 265 (by decide +kernel) rfl⟩
theorem mX6_97 : gLk RX6 97 yX6_tellingsOfAll := Or.inl (gT_of 277 (by decide +kernel) rfl)
theorem mX6_101 : gLk RX6 101 yX6_worthOfAll := Or.inl (gT_of 285 (by decide +kernel) rfl)
theorem mX6_105 : gLk RX6 105 yX6_isPerson := Or.inl (gT_of 299 (by decide +kernel) rfl)
theorem mX6_109 : gLk RX6 109 yX6_isHour := Or.inl (gT_of 303 (by decide +kernel) rfl)
theorem mX6_112 : gLk RX6 112 yX1_placeOf := Or.inr ⟨"ToldNineTimes", gN_of 306 (by decide +kernel) rfl⟩
theorem mX6_116 : gLk RX6 116 yX6_isNews := Or.inl (gT_of 314 (by decide +kernel) rfl)
theorem mX6_126 : gLk RX6 126 yX5_tellingsOf := Or.inr ⟨"ToldNineTimes", gN_of 281 (by decide +kernel) rfl⟩
theorem mX6_139 : gLk RX6 139 yX5_knows := Or.inr ⟨"ToldNineTimes", gN_of 326 (by decide +kernel) rfl⟩
theorem mX6_146 : gLk RX6 146 yX5_allows := Or.inr ⟨"ToldNineTimes", gN_of 334 (by decide +kernel) rfl⟩
theorem mX6_150 : gLk RX6 150 yX5_packedKnown := Or.inr ⟨"ToldNineTimes", gN_of 353 (by decide +kernel) rfl⟩
theorem mX6_153 : gLk RX6 153 yX0_telling := Or.inr ⟨"ToldNineTimes", gN_of 357 (by decide +kernel) rfl⟩
theorem mX6_157 : gLk RX6 157 yX0_append := Or.inr ⟨"ToldNineTimes", gN_of 360 (by decide +kernel) rfl⟩
theorem mX6_158 : gLk RX6 158 yX5_spread := Or.inr ⟨"ToldNineTimes", gN_of 365 (by decide +kernel) rfl⟩
theorem mX6_162 : gLk RX6 162 yX0_takeLast := Or.inr ⟨"ToldNineTimes", gN_of 383 (by decide +kernel) rfl⟩
theorem mX6_165 : gLk RX6 165 yX0_teller := Or.inr ⟨"ToldNineTimes", gN_of 390 (by decide +kernel) rfl⟩
theorem mX6_168 : gLk RX6 168 yX0_newsOf := Or.inr ⟨"ToldNineTimes", gN_of 393 (by decide +kernel) rfl⟩
theorem mX6_171 : gLk RX6 171 yX5_count := Or.inr ⟨"ToldNineTimes", gN_of 396 (by decide +kernel) rfl⟩
theorem mX6_174 : gLk RX6 174 yX0_packedKnown := Or.inr ⟨"ToldNineTimes", gN_of 397 (by decide +kernel) rfl⟩
theorem mX6_176 : gLk RX6 176 yX5_unpackKnown := Or.inr ⟨"ToldNineTimes", gN_of 401 (by decide +kernel) rfl⟩
theorem mX6_179 : gLk RX6 179 yX6_powerOf := Or.inl (gT_of 409 (by decide +kernel) rfl)
theorem mX6_182 : gLk RX6 182 yX5_copyFrom := Or.inr ⟨"ToldNineTimes", gN_of 412 (by decide +kernel) rfl⟩
theorem mX6_186 : gLk RX6 186 yX6_figureOf := Or.inl (gT_of 416 (by decide +kernel) rfl)
theorem mX6_189 : gLk RX6 189 yX6_triedFigure := Or.inl (gT_of 419 (by decide +kernel) rfl)
theorem mX6_192 : gLk RX6 192 yX6_refusalOfPlan := Or.inl (gT_of 427 (by decide +kernel) rfl)
theorem mX6_195 : gLk RX6 195 yX6_leastTellings := Or.inl (gT_of 431 (by decide +kernel) rfl)
theorem mX6_198 : gLk RX6 198 yX2_planned := Or.inr ⟨"ToldNineTimes", gN_of 467 (by decide +kernel) rfl⟩
theorem mX6_201 : gLk RX6 201 yX6_leftOf := Or.inl (gT_of 459 (by decide +kernel) rfl)
theorem mX6_204 : gLk RX6 204 yX2_lookFrom := Or.inr ⟨"ToldNineTimes", gN_of 479 (by decide +kernel) rfl⟩
theorem mX6_208 : gLk RX6 208 yX2_goThrough := Or.inr ⟨"ToldNineTimes", gN_of 483 (by decide +kernel) rfl⟩
theorem mX6_212 : gLk RX6 212 yX2_mostKnowing := Or.inr ⟨"ToldNineTimes", gN_of 487 (by decide +kernel) rfl⟩
theorem mX6_215 : gLk RX6 215 yX2_canBeSpent := Or.inr ⟨"ToldNineTimes", gN_of 496 (by decide +kernel) rfl⟩
theorem mX6_219 : gLk RX6 219 yX2_want := Or.inr ⟨"ToldNineTimes", gN_of 435 (by decide +kernel) rfl⟩
theorem mX6_223 : gLk RX6 223 yX2_wonBy := Or.inr ⟨"ToldNineTimes", gN_of 504 (by decide +kernel) rfl⟩
theorem mX6_230 : gLk RX6 230 yX6_hoursOfHearing := Or.inl (gT_of 521 (by decide +kernel) rfl)
theorem mX6_233 : gLk RX6 233 yX6_fraction := Or.inl (gT_of 526 (by decide +kernel) rfl)
theorem mX6_237 : gLk RX6 237 yX4_see := Or.inr ⟨"ToldNineTimes", gN_of 533 (by decide +kernel) rfl⟩
theorem mX6_241 : gLk RX6 241 yX4_forget := Or.inr ⟨"ToldNineTimes", gN_of 541 (by decide +kernel) rfl⟩
theorem mX6_244 : gLk RX6 244 yX2_countFrom := Or.inr ⟨"ToldNineTimes", gN_of 550 (by decide +kernel) rfl⟩
theorem mX6_247 : gLk RX6 247 yX2_countThrough := Or.inr ⟨"ToldNineTimes", gN_of 554 (by decide +kernel) rfl⟩
theorem mX6_250 : gLk RX6 250 yX2_strikeUnseen := Or.inr ⟨"ToldNineTimes", gN_of 570 (by decide +kernel) rfl⟩
theorem mX6_254 : gLk RX6 254 yX2_counted := Or.inr ⟨"ToldNineTimes", gN_of 578 (by decide +kernel) rfl⟩
theorem mX6_257 : gLk RX6 257 yJ6_bitCount_0f7a4 := Or.inl (gT_of 289 (by decide +kernel) rfl)
theorem mX6_262 : gLk RX6 262 yX2_need := Or.inr ⟨"ToldNineTimes", gN_of 440 (by decide +kernel) rfl⟩
theorem mX6_265 : gLk RX6 265 yX1_group := Or.inr ⟨"ToldNineTimes", gN_of 525 (by decide +kernel) rfl⟩
theorem mX7_84 : gLk RX7 84 yX7_in := Or.inl (gT_of 705 (by decide +kernel) rfl)
theorem mX7_99 : gLk RX7 99 yX7_figure := Or.inl (gT_of 720 (by decide +kernel) rfl)
theorem mX7_109 : gLk RX7 109 yX7_has := Or.inl (gT_of 736 (by decide +kernel) rfl)
theorem mX7_116 : gLk RX7 116 yX7_readPerson := Or.inl (gT_of 724 (by decide +kernel) rfl)
theorem mX7_120 : gLk RX7 120 yX7_readNews := Or.inl (gT_of 728 (by decide +kernel) rfl)
theorem mX7_122 : gLk RX7 122 yX7_readKnows := Or.inl (gT_of 732 (by decide +kernel) rfl)
theorem mX7_126 : gLk RX7 126 yX7_readDay := Or.inl (gT_of 716 (by decide +kernel) rfl)
theorem mX7_133 : gLk RX7 133 yX7_halve := Or.inl (gT_of 743 (by decide +kernel) rfl)
theorem mX7_143 : gLk RX7 143 yX7_many := Or.inl (gT_of 751 (by decide +kernel) rfl)
theorem mX7_150 : gLk RX7 150 yX7_noOne := Or.inl (gT_of 758 (by decide +kernel) rfl)
theorem mX7_155 : gLk RX7 155 yX7_noNews := Or.inl (gT_of 767 (by decide +kernel) rfl)
theorem mX7_158 : gLk RX7 158 yX7_those := Or.inl (gT_of 787 (by decide +kernel) rfl)
theorem mX7_161 : gLk RX7 161 yX7_mayTell := Or.inl (gT_of 783 (by decide +kernel) rfl)
theorem mX7_165 : gLk RX7 165 yX7_layPage := Or.inl (gT_of 799 (by decide +kernel) rfl)
theorem mX7_169 : gLk RX7 169 yX7_note := Or.inl (gT_of 795 (by decide +kernel) rfl)
theorem mX7_172 : gLk RX7 172 yX7_tellIt := Or.inl (gT_of 803 (by decide +kernel) rfl)
theorem mX7_176 : gLk RX7 176 yX7_takePage := Or.inl (gT_of 815 (by decide +kernel) rfl)
theorem mX7_179 : gLk RX7 179 yX7_canAt := Or.inl (gT_of 843 (by decide +kernel) rfl)
theorem mX7_183 : gLk RX7 183 yX7_behind := Or.inl (gT_of 839 (by decide +kernel) rfl)
theorem mX7_187 : gLk RX7 187 yX7_layNeed := Or.inl (gT_of 835 (by decide +kernel) rfl)
theorem mX7_191 : gLk RX7 191 yX7_leftOf := Or.inl (gT_of 847 (by decide +kernel) rfl)
theorem mX7_194 : gLk RX7 194 yX7_noPlan := Or.inl (gT_of 827 (by decide +kernel) rfl)
theorem mX7_197 : gLk RX7 197 yX7_findFewest := Or.inl (gT_of 831 (by decide +kernel) rfl)
theorem mX7_200 : gLk RX7 200 yX7_goWays := Or.inl (gT_of 863 (by decide +kernel) rfl)
theorem mX7_204 : gLk RX7 204 yX7_both := Or.inl (gT_of 875 (by decide +kernel) rfl)
theorem mX7_208 : gLk RX7 208 yX7_hasIt := Or.inl (gT_of 871 (by decide +kernel) rfl)
theorem mX7_219 : gLk RX7 219 yX7_divisor := Or.inl (gT_of 887 (by decide +kernel) rfl)
theorem mX7_223 : gLk RX7 223 yX7_isSeen := Or.inl (gT_of 902 (by decide +kernel) rfl)
theorem fX0_9 : gFl RX0 9 0 0 := ⟨RX0, TX0, 2, rfl, Or.inl (gT_of 72 (by decide +kernel) rfl)⟩
theorem fX0_16 : gFl RX0 16 0 1 := ⟨RX0, TX0, 2, rfl, Or.inl (gT_of 74 (by decide +kernel) rfl)⟩
theorem fX1_9 : gFl RX1 9 1 0 := ⟨RX1, TX1, 8, rfl, Or.inl (gT_of 103 (by decide +kernel) rfl)⟩
theorem fX1_15 : gFl RX1 15 1 1 := ⟨RX1, TX1, 8, rfl, Or.inl (gT_of 104 (by decide +kernel) rfl)⟩
theorem fX1_18 : gFl RX1 18 1 2 := ⟨RX1, TX1, 8, rfl, Or.inl (gT_of 105 (by decide +kernel) rfl)⟩
theorem fX1_21 : gFl RX1 21 1 3 := ⟨RX1, TX1, 8, rfl, Or.inl (gT_of 109 (by decide +kernel) rfl)⟩
theorem fX1_24 : gFl RX1 24 1 4 := ⟨RX1, TX1, 8, rfl, Or.inl (gT_of 112 (by decide +kernel) rfl)⟩
theorem fX1_33 : gFl RX1 33 1 5 := ⟨RX1, TX1, 8, rfl, Or.inl (gT_of 116 (by decide +kernel) rfl)⟩
theorem fX1_37 : gFl RX1 37 1 6 := ⟨RX1, TX1, 8, rfl, Or.inl (gT_of 120 (by decide +kernel) rfl)⟩
theorem fX1_40 : gFl RX1 40 1 7 := ⟨RX1, TX1, 8, rfl, Or.inl (gT_of 124 (by decide +kernel) rfl)⟩
theorem fX2_9 : gFl RX2 9 2 0 := ⟨RX2, TX2, 7, rfl, Or.inl (gT_of 151 (by decide +kernel) rfl)⟩
theorem fX2_15 : gFl RX2 15 2 1 := ⟨RX2, TX2, 7, rfl, Or.inl (gT_of 152 (by decide +kernel) rfl)⟩
theorem fX2_18 : gFl RX2 18 2 2 := ⟨RX2, TX2, 7, rfl, Or.inl (gT_of 153 (by decide +kernel) rfl)⟩
theorem fX2_21 : gFl RX2 21 2 3 := ⟨RX2, TX2, 7, rfl, Or.inl (gT_of 154 (by decide +kernel) rfl)⟩
theorem fX2_24 : gFl RX2 24 2 4 := ⟨RX2, TX2, 7, rfl, Or.inl (gT_of 155 (by decide +kernel) rfl)⟩
theorem fX2_42 : gFl RX2 42 2 5 := ⟨RX2, TX2, 7, rfl, Or.inl (gT_of 156 (by decide +kernel) rfl)⟩
theorem fX2_72 : Cond.fieldLink RX2 72 "ToldNineTimes$Outlook" "CHOICES" "[I" ∈ gT := gT_of 508 (by decide +kernel) rfl
theorem fX2_84 : gFl RX2 84 2 6 := ⟨RX2, TX2, 7, rfl, Or.inl (gT_of 157 (by decide +kernel) rfl)⟩
theorem fX3_9 : gFl RX3 9 3 0 := ⟨RX3, TX3, 2, rfl, Or.inl (gT_of 27 (by decide +kernel) rfl)⟩
theorem fX3_15 : gFl RX3 15 3 1 := ⟨RX3, TX3, 2, rfl, Or.inl (gT_of 28 (by decide +kernel) rfl)⟩
theorem fX3_32 : gFl RX3 32 1 7 := ⟨RX1, TX1, 8, rfl, Or.inr ⟨"ToldNineTimes", gN_of 125 (by decide +kernel) rfl⟩⟩
theorem fX3_42 : gFl RX3 42 1 4 := ⟨RX1, TX1, 8, rfl, Or.inr ⟨"ToldNineTimes", gN_of 114 (by decide +kernel) rfl⟩⟩
theorem fX3_45 : gFl RX3 45 1 6 := ⟨RX1, TX1, 8, rfl, Or.inr ⟨"ToldNineTimes", gN_of 121 (by decide +kernel) rfl⟩⟩
theorem fX3_52 : gFl RX3 52 1 5 := ⟨RX1, TX1, 8, rfl, Or.inr ⟨"ToldNineTimes", gN_of 118 (by decide +kernel) rfl⟩⟩
theorem fX3_68 : gFl RX3 68 1 2 := ⟨RX1, TX1, 8, rfl, Or.inr ⟨"ToldNineTimes", gN_of 108 (by decide +kernel) rfl⟩⟩
theorem fX3_71 : gFl RX3 71 1 3 := ⟨RX1, TX1, 8, rfl, Or.inr ⟨"ToldNineTimes", gN_of 111 (by decide +kernel) rfl⟩⟩
theorem fX4_9 : gFl RX4 9 4 0 := ⟨RX4, TX4, 3, rfl, Or.inl (gT_of 86 (by decide +kernel) rfl)⟩
theorem fX4_15 : gFl RX4 15 4 1 := ⟨RX4, TX4, 3, rfl, Or.inl (gT_of 87 (by decide +kernel) rfl)⟩
theorem fX4_18 : gFl RX4 18 4 2 := ⟨RX4, TX4, 3, rfl, Or.inl (gT_of 88 (by decide +kernel) rfl)⟩
theorem fX5_9 : gFl RX5 9 5 0 := ⟨RX5, TX5, 6, rfl, Or.inl (gT_of 42 (by decide +kernel) rfl)⟩
theorem fX5_15 : gFl RX5 15 5 1 := ⟨RX5, TX5, 6, rfl, Or.inl (gT_of 44 (by decide +kernel) rfl)⟩
theorem fX5_18 : gFl RX5 18 5 2 := ⟨RX5, TX5, 6, rfl, Or.inl (gT_of 46 (by decide +kernel) rfl)⟩
theorem fX5_21 : gFl RX5 21 5 3 := ⟨RX5, TX5, 6, rfl, Or.inl (gT_of 48 (by decide +kernel) rfl)⟩
theorem fX5_24 : gFl RX5 24 1 4 := ⟨RX1, TX1, 8, rfl, Or.inr ⟨"ToldNineTimes", gN_of 113 (by decide +kernel) rfl⟩⟩
theorem fX5_41 : gFl RX5 41 5 4 := ⟨RX5, TX5, 6, rfl, Or.inl (gT_of 49 (by decide +kernel) rfl)⟩
theorem fX5_64 : gFl RX5 64 1 2 := ⟨RX1, TX1, 8, rfl, Or.inr ⟨"ToldNineTimes", gN_of 106 (by decide +kernel) rfl⟩⟩
theorem fX5_67 : gFl RX5 67 1 7 := ⟨RX1, TX1, 8, rfl, Or.inr ⟨"ToldNineTimes", gN_of 126 (by decide +kernel) rfl⟩⟩
theorem fX5_79 : gFl RX5 79 1 6 := ⟨RX1, TX1, 8, rfl, Or.inr ⟨"ToldNineTimes", gN_of 123 (by decide +kernel) rfl⟩⟩
theorem fX5_85 : gFl RX5 85 1 5 := ⟨RX1, TX1, 8, rfl, Or.inr ⟨"ToldNineTimes", gN_of 119 (by decide +kernel) rfl⟩⟩
theorem fX6_12 : gFl RX6 12 6 0 := ⟨RX6, TX6, 9, rfl, Or.inl (gT_of 173 (by decide +kernel) rfl)⟩
theorem fX6_19 : gFl RX6 19 6 1 := ⟨RX6, TX6, 9, rfl, Or.inl (gT_of 174 (by decide +kernel) rfl)⟩
theorem fX6_23 : gFl RX6 23 6 2 := ⟨RX6, TX6, 9, rfl, Or.inl (gT_of 175 (by decide +kernel) rfl)⟩
theorem fX6_26 : gFl RX6 26 6 3 := ⟨RX6, TX6, 9, rfl, Or.inl (gT_of 176 (by decide +kernel) rfl)⟩
theorem fX6_33 : gFl RX6 33 6 4 := ⟨RX6, TX6, 9, rfl, Or.inl (gT_of 177 (by decide +kernel) rfl)⟩
theorem fX6_40 : gFl RX6 40 6 5 := ⟨RX6, TX6, 9, rfl, Or.inl (gT_of 178 (by decide +kernel) rfl)⟩
theorem fX6_47 : gFl RX6 47 6 7 := ⟨RX6, TX6, 9, rfl, Or.inl (gT_of 180 (by decide +kernel) rfl)⟩
theorem fX6_51 : gFl RX6 51 6 8 := ⟨RX6, TX6, 9, rfl, Or.inl (gT_of 181 (by decide +kernel) rfl)⟩
theorem fX6_59 : gFl RX6 59 6 6 := ⟨RX6, TX6, 9, rfl, Or.inl (gT_of 179 (by decide +kernel) rfl)⟩
theorem fX6_63 : gFl RX6 63 3 1 := ⟨RX3, TX3, 2, rfl, Or.inr ⟨"ToldNineTimes", gN_of 29 (by decide +kernel) rfl⟩⟩
theorem fX6_78 : gFl RX6 78 0 1 := ⟨RX0, TX0, 2, rfl, Or.inr ⟨"ToldNineTimes", gN_of 73 (by decide +kernel) rfl⟩⟩
theorem fX6_81 : gFl RX6 81 5 5 := ⟨RX5, TX5, 6, rfl, Or.inr ⟨"ToldNineTimes", gN_of 51 (by decide +kernel) rfl⟩⟩
theorem fX6_85 : gFl RX6 85 1 5 := ⟨RX1, TX1, 8, rfl, Or.inr ⟨"ToldNineTimes", gN_of 117 (by decide +kernel) rfl⟩⟩
theorem fX6_88 : gFl RX6 88 1 6 := ⟨RX1, TX1, 8, rfl, Or.inr ⟨"ToldNineTimes", gN_of 122 (by decide +kernel) rfl⟩⟩
theorem fX6_91 : gFl RX6 91 1 7 := ⟨RX1, TX1, 8, rfl, Or.inr ⟨"ToldNineTimes", gN_of 127 (by decide +kernel) rfl⟩⟩
theorem fX6_94 : gFl RX6 94 5 4 := ⟨RX5, TX5, 6, rfl, Or.inr ⟨"ToldNineTimes", gN_of 50 (by decide +kernel) rfl⟩⟩
theorem fX6_104 : gFl RX6 104 4 2 := ⟨RX4, TX4, 3, rfl, Or.inr ⟨"ToldNineTimes", gN_of 89 (by decide +kernel) rfl⟩⟩
theorem fX6_119 : gFl RX6 119 1 2 := ⟨RX1, TX1, 8, rfl, Or.inr ⟨"ToldNineTimes", gN_of 107 (by decide +kernel) rfl⟩⟩
theorem fX6_123 : gFl RX6 123 1 3 := ⟨RX1, TX1, 8, rfl, Or.inr ⟨"ToldNineTimes", gN_of 110 (by decide +kernel) rfl⟩⟩
theorem fX6_130 : gFl RX6 130 5 0 := ⟨RX5, TX5, 6, rfl, Or.inr ⟨"ToldNineTimes", gN_of 43 (by decide +kernel) rfl⟩⟩
theorem fX6_133 : gFl RX6 133 1 4 := ⟨RX1, TX1, 8, rfl, Or.inr ⟨"ToldNineTimes", gN_of 115 (by decide +kernel) rfl⟩⟩
theorem fX6_136 : gFl RX6 136 5 1 := ⟨RX5, TX5, 6, rfl, Or.inr ⟨"ToldNineTimes", gN_of 45 (by decide +kernel) rfl⟩⟩
theorem fX6_143 : gFl RX6 143 5 2 := ⟨RX5, TX5, 6, rfl, Or.inr ⟨"ToldNineTimes", gN_of 47 (by decide +kernel) rfl⟩⟩
theorem fX7_7 : gFl RX7 7 7 1 := ⟨RX7, TX7, 34, rfl, Or.inl (gT_of 597 (by decide +kernel) rfl)⟩
theorem fX7_13 : gFl RX7 13 7 7 := ⟨RX7, TX7, 34, rfl, Or.inl (gT_of 603 (by decide +kernel) rfl)⟩
theorem fX7_16 : gFl RX7 16 7 8 := ⟨RX7, TX7, 34, rfl, Or.inl (gT_of 604 (by decide +kernel) rfl)⟩
theorem fX7_19 : gFl RX7 19 7 9 := ⟨RX7, TX7, 34, rfl, Or.inl (gT_of 605 (by decide +kernel) rfl)⟩
theorem fX7_22 : gFl RX7 22 7 10 := ⟨RX7, TX7, 34, rfl, Or.inl (gT_of 606 (by decide +kernel) rfl)⟩
theorem fX7_25 : gFl RX7 25 7 12 := ⟨RX7, TX7, 34, rfl, Or.inl (gT_of 608 (by decide +kernel) rfl)⟩
theorem fX7_28 : gFl RX7 28 7 16 := ⟨RX7, TX7, 34, rfl, Or.inl (gT_of 612 (by decide +kernel) rfl)⟩
theorem fX7_31 : gFl RX7 31 7 17 := ⟨RX7, TX7, 34, rfl, Or.inl (gT_of 613 (by decide +kernel) rfl)⟩
theorem fX7_34 : gFl RX7 34 7 18 := ⟨RX7, TX7, 34, rfl, Or.inl (gT_of 614 (by decide +kernel) rfl)⟩
theorem fX7_37 : gFl RX7 37 7 19 := ⟨RX7, TX7, 34, rfl, Or.inl (gT_of 615 (by decide +kernel) rfl)⟩
theorem fX7_40 : gFl RX7 40 7 20 := ⟨RX7, TX7, 34, rfl, Or.inl (gT_of 616 (by decide +kernel) rfl)⟩
theorem fX7_43 : gFl RX7 43 7 22 := ⟨RX7, TX7, 34, rfl, Or.inl (gT_of 618 (by decide +kernel) rfl)⟩
theorem fX7_46 : gFl RX7 46 7 23 := ⟨RX7, TX7, 34, rfl, Or.inl (gT_of 619 (by decide +kernel) rfl)⟩
theorem fX7_50 : gFl RX7 50 7 24 := ⟨RX7, TX7, 34, rfl, Or.inl (gT_of 620 (by decide +kernel) rfl)⟩
theorem fX7_53 : gFl RX7 53 7 26 := ⟨RX7, TX7, 34, rfl, Or.inl (gT_of 622 (by decide +kernel) rfl)⟩
theorem fX7_56 : gFl RX7 56 7 27 := ⟨RX7, TX7, 34, rfl, Or.inl (gT_of 623 (by decide +kernel) rfl)⟩
theorem fX7_59 : gFl RX7 59 7 28 := ⟨RX7, TX7, 34, rfl, Or.inl (gT_of 624 (by decide +kernel) rfl)⟩
theorem fX7_62 : gFl RX7 62 7 29 := ⟨RX7, TX7, 34, rfl, Or.inl (gT_of 625 (by decide +kernel) rfl)⟩
theorem fX7_65 : gFl RX7 65 7 30 := ⟨RX7, TX7, 34, rfl, Or.inl (gT_of 626 (by decide +kernel) rfl)⟩
theorem fX7_68 : gFl RX7 68 7 31 := ⟨RX7, TX7, 34, rfl, Or.inl (gT_of 627 (by decide +kernel) rfl)⟩
theorem fX7_71 : gFl RX7 71 7 32 := ⟨RX7, TX7, 34, rfl, Or.inl (gT_of 628 (by decide +kernel) rfl)⟩
theorem fX7_74 : gFl RX7 74 7 33 := ⟨RX7, TX7, 34, rfl, Or.inl (gT_of 629 (by decide +kernel) rfl)⟩
theorem fX7_77 : gFl RX7 77 7 0 := ⟨RX7, TX7, 34, rfl, Or.inl (gT_of 596 (by decide +kernel) rfl)⟩
theorem fX7_81 : gFl RX7 81 7 4 := ⟨RX7, TX7, 34, rfl, Or.inl (gT_of 600 (by decide +kernel) rfl)⟩
theorem fX7_88 : gFl RX7 88 7 5 := ⟨RX7, TX7, 34, rfl, Or.inl (gT_of 601 (by decide +kernel) rfl)⟩
theorem fX7_93 : gFl RX7 93 7 2 := ⟨RX7, TX7, 34, rfl, Or.inl (gT_of 598 (by decide +kernel) rfl)⟩
theorem fX7_96 : gFl RX7 96 7 3 := ⟨RX7, TX7, 34, rfl, Or.inl (gT_of 599 (by decide +kernel) rfl)⟩
theorem fX7_103 : gFl RX7 103 7 13 := ⟨RX7, TX7, 34, rfl, Or.inl (gT_of 609 (by decide +kernel) rfl)⟩
theorem fX7_106 : gFl RX7 106 7 14 := ⟨RX7, TX7, 34, rfl, Or.inl (gT_of 610 (by decide +kernel) rfl)⟩
theorem fX7_113 : gFl RX7 113 7 15 := ⟨RX7, TX7, 34, rfl, Or.inl (gT_of 611 (by decide +kernel) rfl)⟩
theorem fX7_130 : gFl RX7 130 7 6 := ⟨RX7, TX7, 34, rfl, Or.inl (gT_of 602 (by decide +kernel) rfl)⟩
theorem fX7_137 : gFl RX7 137 7 11 := ⟨RX7, TX7, 34, rfl, Or.inl (gT_of 607 (by decide +kernel) rfl)⟩
theorem fX7_140 : gFl RX7 140 7 21 := ⟨RX7, TX7, 34, rfl, Or.inl (gT_of 617 (by decide +kernel) rfl)⟩
theorem fX7_147 : gFl RX7 147 7 25 := ⟨RX7, TX7, 34, rfl, Or.inl (gT_of 621 (by decide +kernel) rfl)⟩
theorem kcJ6_265 : Cond.constant RJ6 265 (1431655765) ∈ gT := gT_of 292 (by decide +kernel) rfl
theorem kcJ6_266 : Cond.constant RJ6 266 (858993459) ∈ gT := gT_of 293 (by decide +kernel) rfl
theorem kcJ6_267 : Cond.constant RJ6 267 (252645135) ∈ gT := gT_of 294 (by decide +kernel) rfl
theorem kcL_13 : Cond.constantLong RL 13 (4294967295) ∈ gT := gT_of 914 (by decide +kernel) rfl
theorem kcX0_15 : Cond.constant RX0 15 (262143) ∈ gT := gT_of 400 (by decide +kernel) rfl
theorem kcX6_226 : Cond.constantLong RX6 226 (-1) ∈ gT := gT_of 519 (by decide +kernel) rfl
theorem kcX6_228 : Cond.constantLong RX6 228 (-2) ∈ gT := gT_of 520 (by decide +kernel) rfl
theorem kcX7_91 : Cond.constantLong RX7 91 (8) ∈ gT := gT_of 704 (by decide +kernel) rfl
theorem kcX7_153 : Cond.constantLong RX7 153 (5) ∈ gT := gT_of 762 (by decide +kernel) rfl
theorem kcX7_211 : Cond.constantLong RX7 211 (2) ∈ gT := gT_of 883 (by decide +kernel) rfl
theorem kcX7_213 : Cond.constantLong RX7 213 (-1) ∈ gT := gT_of 884 (by decide +kernel) rfl
theorem kcX7_215 : Cond.constantLong RX7 215 (10) ∈ gT := gT_of 885 (by decide +kernel) rfl
theorem kcX7_217 : Cond.constantLong RX7 217 (-2) ∈ gT := gT_of 886 (by decide +kernel) rfl
theorem gNat : Cond.native arraycopyName ∈ gT := gT_of 271 (by decide +kernel) rfl
theorem gNatS : Cond.static arraycopyName ∈ gT := gT_of 270 (by decide +kernel) rfl
theorem gNatI : Cond.initialized "java/lang/System" ∈ gT := gT_of 10 (by decide +kernel) rfl
theorem mX0_20 : Cond.methodLink RX0 20 arraycopyName ∈ gT := gT_of 364 (by decide +kernel) rfl
theorem mX5_29 : Cond.methodLink RX5 29 arraycopyName ∈ gT := gT_of 269 (by decide +kernel) rfl
theorem mX0_26 : Cond.methodLink RX0 26 Lib.Math.max.name ∈ gT := gT_of 387 (by decide +kernel) rfl
theorem mX2_55 : Cond.methodLink RX2 55 Lib.Math.min.name ∈ gT := gT_of 456 (by decide +kernel) rfl
theorem mX2_81 : Cond.methodLink RX2 81 Lib.Math.max.name ∈ gT := gT_of 491 (by decide +kernel) rfl
theorem gMs_max : Cond.static Lib.Math.max.name ∈ gT := gT_of 388 (by decide +kernel) rfl
theorem gMc_max : Cond.code Lib.Math.max.name Lib.Math.max.code 2 (some .int) ∈ gT := gT_of 389 (by decide +kernel) rfl
theorem gMs_min : Cond.static Lib.Math.min.name ∈ gT := gT_of 457 (by decide +kernel) rfl
theorem gMc_min : Cond.code Lib.Math.min.name Lib.Math.min.code 2 (some .int) ∈ gT := gT_of 458 (by decide +kernel) rfl
theorem gMi : Cond.initialized "java/lang/Math" ∈ gT := gT_of 12 (by decide +kernel) rfl
