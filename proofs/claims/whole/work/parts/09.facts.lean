abbrev mX9_init : ZM := (yX9_init, cX9_init, 1, none)
set_option maxRecDepth 100000 in
theorem kX9_init : zkP mX9_init 0 := ⟨zmem 69 (by decide +kernel) (by decide +kernel), (by decide +kernel), (by decide +kernel), (by decide +kernel)⟩
abbrev mX7_init : ZM := (yX7_init, cX7_init, 2, none)
set_option maxRecDepth 100000 in
theorem kX7_init : zkP mX7_init 1 := ⟨zmem 77 (by decide +kernel) (by decide +kernel), (by decide +kernel), (by decide +kernel), (by decide +kernel)⟩
abbrev mX8_init : ZM := (yX8_init, cX8_init, 1, none)
set_option maxRecDepth 100000 in
theorem kX8_init : zkP mX8_init 0 := ⟨zmem 94 (by decide +kernel) (by decide +kernel), (by decide +kernel), (by decide +kernel), (by decide +kernel)⟩
abbrev mX2_init : ZM := (yX2_init, cX2_init, 1, none)
set_option maxRecDepth 100000 in
theorem kX2_init : zkP mX2_init 0 := ⟨zmem 142 (by decide +kernel) (by decide +kernel), (by decide +kernel), (by decide +kernel), (by decide +kernel)⟩
abbrev mX0_init : ZM := (yX0_init, cX0_init, 1, none)
set_option maxRecDepth 100000 in
theorem kX0_init : zkP mX0_init 0 := ⟨zmem 148 (by decide +kernel) (by decide +kernel), (by decide +kernel), (by decide +kernel), (by decide +kernel)⟩
abbrev mX3_init : ZM := (yX3_init, cX3_init, 2, none)
set_option maxRecDepth 100000 in
theorem kX3_init : zkP mX3_init 1 := ⟨zmem 183 (by decide +kernel) (by decide +kernel), (by decide +kernel), (by decide +kernel), (by decide +kernel)⟩
abbrev mX9_feed : ZM := (yX9_feed, cX9_feed, 6, (some Jvm.ClassFile.FieldType.int))
set_option maxRecDepth 100000 in
theorem kX9_feed : zkP mX9_feed 5 := ⟨zmem 286 (by decide +kernel) (by decide +kernel), (by decide +kernel), (by decide +kernel), (by decide +kernel)⟩
abbrev mX7_length : ZM := (yX7_length, cX7_length, 1, (some Jvm.ClassFile.FieldType.int))
set_option maxRecDepth 100000 in
theorem kX7_length : zkP mX7_length 0 := ⟨zmem 290 (by decide +kernel) (by decide +kernel), (by decide +kernel), (by decide +kernel), (by decide +kernel)⟩
abbrev mX7_appendNumber : ZM := (yX7_appendNumber, cX7_appendNumber, 5, none)
set_option maxRecDepth 100000 in
theorem kX7_appendNumber : zkP mX7_appendNumber 2 := ⟨zmem 294 (by decide +kernel) (by decide +kernel), (by decide +kernel), (by decide +kernel), (by decide +kernel)⟩
abbrev mX9_end : ZM := (yX9_end, cX9_end, 2, (some Jvm.ClassFile.FieldType.int))
set_option maxRecDepth 100000 in
theorem kX9_end : zkP mX9_end 1 := ⟨zmem 298 (by decide +kernel) (by decide +kernel), (by decide +kernel), (by decide +kernel), (by decide +kernel)⟩
abbrev mX7_cut : ZM := (yX7_cut, cX7_cut, 2, none)
set_option maxRecDepth 100000 in
theorem kX7_cut : zkP mX7_cut 1 := ⟨zmem 302 (by decide +kernel) (by decide +kernel), (by decide +kernel), (by decide +kernel), (by decide +kernel)⟩
abbrev mX9_supply : ZM := (yX9_supply, cX9_supply, 1, (some Jvm.ClassFile.FieldType.int))
set_option maxRecDepth 100000 in
theorem kX9_supply : zkP mX9_supply 0 := ⟨zmem 306 (by decide +kernel) (by decide +kernel), (by decide +kernel), (by decide +kernel), (by decide +kernel)⟩
abbrev mX8_isUnsound : ZM := (yX8_isUnsound, cX8_isUnsound, 1, (some Jvm.ClassFile.FieldType.boolean))
set_option maxRecDepth 100000 in
theorem kX8_isUnsound : zkP mX8_isUnsound 0 := ⟨zmem 310 (by decide +kernel) (by decide +kernel), (by decide +kernel), (by decide +kernel), (by decide +kernel)⟩
abbrev mX8_waiting : ZM := (yX8_waiting, cX8_waiting, 1, (some Jvm.ClassFile.FieldType.int))
set_option maxRecDepth 100000 in
theorem kX8_waiting : zkP mX8_waiting 0 := ⟨zmem 314 (by decide +kernel) (by decide +kernel), (by decide +kernel), (by decide +kernel), (by decide +kernel)⟩
abbrev mX8_receive : ZM := (yX8_receive, cX8_receive, 6, none)
set_option maxRecDepth 100000 in
theorem kX8_receive : zkP mX8_receive 1 := ⟨zmem 319 (by decide +kernel) (by decide +kernel), (by decide +kernel), (by decide +kernel), (by decide +kernel)⟩
abbrev mX7_at : ZM := (yX7_at, cX7_at, 2, (some Jvm.ClassFile.FieldType.int))
set_option maxRecDepth 100000 in
theorem kX7_at : zkP mX7_at 1 := ⟨zmem 323 (by decide +kernel) (by decide +kernel), (by decide +kernel), (by decide +kernel), (by decide +kernel)⟩
abbrev mX8_repeatsTooOften : ZM := (yX8_repeatsTooOften, cX8_repeatsTooOften, 2, (some Jvm.ClassFile.FieldType.boolean))
set_option maxRecDepth 100000 in
theorem kX8_repeatsTooOften : zkP mX8_repeatsTooOften 1 := ⟨zmem 327 (by decide +kernel) (by decide +kernel), (by decide +kernel), (by decide +kernel), (by decide +kernel)⟩
abbrev mX8_comesTooOften : ZM := (yX8_comesTooOften, cX8_comesTooOften, 3, (some Jvm.ClassFile.FieldType.boolean))
set_option maxRecDepth 100000 in
theorem kX8_comesTooOften : zkP mX8_comesTooOften 1 := ⟨zmem 331 (by decide +kernel) (by decide +kernel), (by decide +kernel), (by decide +kernel), (by decide +kernel)⟩
abbrev mX8_forgetSample : ZM := (yX8_forgetSample, cX8_forgetSample, 1, none)
set_option maxRecDepth 100000 in
theorem kX8_forgetSample : zkP mX8_forgetSample 0 := ⟨zmem 335 (by decide +kernel) (by decide +kernel), (by decide +kernel), (by decide +kernel), (by decide +kernel)⟩
abbrev mX8_becomeUnsound : ZM := (yX8_becomeUnsound, cX8_becomeUnsound, 1, none)
set_option maxRecDepth 100000 in
theorem kX8_becomeUnsound : zkP mX8_becomeUnsound 0 := ⟨zmem 339 (by decide +kernel) (by decide +kernel), (by decide +kernel), (by decide +kernel), (by decide +kernel)⟩
abbrev mX7_clear : ZM := (yX7_clear, cX7_clear, 1, none)
set_option maxRecDepth 100000 in
theorem kX7_clear : zkP mX7_clear 0 := ⟨zmem 343 (by decide +kernel) (by decide +kernel), (by decide +kernel), (by decide +kernel), (by decide +kernel)⟩
abbrev mX7_append : ZM := (yX7_append, cX7_append, 2, none)
set_option maxRecDepth 100000 in
theorem kX7_append : zkP mX7_append 1 := ⟨zmem 347 (by decide +kernel) (by decide +kernel), (by decide +kernel), (by decide +kernel), (by decide +kernel)⟩
abbrev mX9_tests : ZM := (yX9_tests, cX9_tests, 4, (some Jvm.ClassFile.FieldType.boolean))
set_option maxRecDepth 100000 in
theorem kX9_tests : zkP mX9_tests 3 := ⟨zmem 352 (by decide +kernel) (by decide +kernel), (by decide +kernel), (by decide +kernel), (by decide +kernel)⟩
abbrev mX8_set : ZM := (yX8_set, cX8_set, 4, (some Jvm.ClassFile.FieldType.boolean))
set_option maxRecDepth 100000 in
theorem kX8_set : zkP mX8_set 3 := ⟨zmem 356 (by decide +kernel) (by decide +kernel), (by decide +kernel), (by decide +kernel), (by decide +kernel)⟩
abbrev mX8_beginAnew : ZM := (yX8_beginAnew, cX8_beginAnew, 1, none)
set_option maxRecDepth 100000 in
theorem kX8_beginAnew : zkP mX8_beginAnew 0 := ⟨zmem 360 (by decide +kernel) (by decide +kernel), (by decide +kernel), (by decide +kernel), (by decide +kernel)⟩
abbrev mX9_source : ZM := (yX9_source, cX9_source, 2, (some Jvm.ClassFile.FieldType.int))
set_option maxRecDepth 100000 in
theorem kX9_source : zkP mX9_source 1 := ⟨zmem 364 (by decide +kernel) (by decide +kernel), (by decide +kernel), (by decide +kernel), (by decide +kernel)⟩
abbrev mX8_look : ZM := (yX8_look, cX8_look, 2, (some Jvm.ClassFile.FieldType.int))
set_option maxRecDepth 100000 in
theorem kX8_look : zkP mX8_look 1 := ⟨zmem 368 (by decide +kernel) (by decide +kernel), (by decide +kernel), (by decide +kernel), (by decide +kernel)⟩
abbrev mX9_open : ZM := (yX9_open, cX9_open, 8, (some Jvm.ClassFile.FieldType.int))
set_option maxRecDepth 100000 in
theorem kX9_open : zkP mX9_open 4 := ⟨zmem 372 (by decide +kernel) (by decide +kernel), (by decide +kernel), (by decide +kernel), (by decide +kernel)⟩
abbrev mX9_freeNumber : ZM := (yX9_freeNumber, cX9_freeNumber, 2, (some Jvm.ClassFile.FieldType.int))
set_option maxRecDepth 100000 in
theorem kX9_freeNumber : zkP mX9_freeNumber 0 := ⟨zmem 377 (by decide +kernel) (by decide +kernel), (by decide +kernel), (by decide +kernel), (by decide +kernel)⟩
abbrev mX5_strongest : ZM := (yX5_strongest, cX5_strongest, 1, (some Jvm.ClassFile.FieldType.int))
set_option maxRecDepth 100000 in
theorem kX5_strongest : zkP mX5_strongest 1 := ⟨zmem 380 (by decide +kernel) (by decide +kernel), (by decide +kernel), (by decide +kernel), (by decide +kernel)⟩
abbrev mX5_leastStrength : ZM := (yX5_leastStrength, cX5_leastStrength, 2, (some Jvm.ClassFile.FieldType.int))
set_option maxRecDepth 100000 in
theorem kX5_leastStrength : zkP mX5_leastStrength 1 := ⟨zmem 385 (by decide +kernel) (by decide +kernel), (by decide +kernel), (by decide +kernel), (by decide +kernel)⟩
abbrev mX9_makeGenerator : ZM := (yX9_makeGenerator, cX9_makeGenerator, 5, (some (Jvm.ClassFile.FieldType.object "BitWell$Generator")))
set_option maxRecDepth 100000 in
theorem kX9_makeGenerator : zkP mX9_makeGenerator 4 := ⟨zmem 391 (by decide +kernel) (by decide +kernel), (by decide +kernel), (by decide +kernel), (by decide +kernel)⟩
abbrev mX4_init : ZM := (yX4_init, cX4_init, 6, none)
set_option maxRecDepth 100000 in
theorem kX4_init : zkP mX4_init 5 := ⟨zmem 396 (by decide +kernel) (by decide +kernel), (by decide +kernel), (by decide +kernel), (by decide +kernel)⟩
abbrev mX5_init : ZM := (yX5_init, cX5_init, 7, none)
set_option maxRecDepth 100000 in
theorem kX5_init : zkP mX5_init 5 := ⟨zmem 399 (by decide +kernel) (by decide +kernel), (by decide +kernel), (by decide +kernel), (by decide +kernel)⟩
abbrev mX5_seedLengthOf : ZM := (yX5_seedLengthOf, cX5_seedLengthOf, 1, (some Jvm.ClassFile.FieldType.int))
set_option maxRecDepth 100000 in
theorem kX5_seedLengthOf : zkP mX5_seedLengthOf 1 := ⟨zmem 403 (by decide +kernel) (by decide +kernel), (by decide +kernel), (by decide +kernel), (by decide +kernel)⟩
abbrev mX5_isGreat : ZM := (yX5_isGreat, cX5_isGreat, 1, (some Jvm.ClassFile.FieldType.boolean))
set_option maxRecDepth 100000 in
theorem kX5_isGreat : zkP mX5_isGreat 1 := ⟨zmem 411 (by decide +kernel) (by decide +kernel), (by decide +kernel), (by decide +kernel), (by decide +kernel)⟩
abbrev mX2_digestOf : ZM := (yX2_digestOf, cX2_digestOf, 2, (some (Jvm.ClassFile.FieldType.object "BitWell$Digest")))
set_option maxRecDepth 100000 in
theorem kX2_digestOf : zkP mX2_digestOf 1 := ⟨zmem 415 (by decide +kernel) (by decide +kernel), (by decide +kernel), (by decide +kernel), (by decide +kernel)⟩
abbrev mX6_init : ZM := (yX6_init, cX6_init, 6, none)
set_option maxRecDepth 100000 in
theorem kX6_init : zkP mX6_init 5 := ⟨zmem 485 (by decide +kernel) (by decide +kernel), (by decide +kernel), (by decide +kernel), (by decide +kernel)⟩
abbrev mX1_init : ZM := (yX1_init, cX1_init, 6, none)
set_option maxRecDepth 100000 in
theorem kX1_init : zkP mX1_init 5 := ⟨zmem 509 (by decide +kernel) (by decide +kernel), (by decide +kernel), (by decide +kernel), (by decide +kernel)⟩
abbrev mX9_refusalToSeed : ZM := (yX9_refusalToSeed, cX9_refusalToSeed, 3, (some Jvm.ClassFile.FieldType.int))
set_option maxRecDepth 100000 in
theorem kX9_refusalToSeed : zkP mX9_refusalToSeed 2 := ⟨zmem 532 (by decide +kernel) (by decide +kernel), (by decide +kernel), (by decide +kernel), (by decide +kernel)⟩
abbrev mX5_isTooLong : ZM := (yX5_isTooLong, cX5_isTooLong, 2, (some Jvm.ClassFile.FieldType.boolean))
set_option maxRecDepth 100000 in
theorem kX5_isTooLong : zkP mX5_isTooLong 1 := ⟨zmem 539 (by decide +kernel) (by decide +kernel), (by decide +kernel), (by decide +kernel), (by decide +kernel)⟩
abbrev mX5_derives : ZM := (yX5_derives, cX5_derives, 1, (some Jvm.ClassFile.FieldType.boolean))
set_option maxRecDepth 100000 in
theorem kX5_derives : zkP mX5_derives 0 := ⟨zmem 546 (by decide +kernel) (by decide +kernel), (by decide +kernel), (by decide +kernel), (by decide +kernel)⟩
abbrev mX5_demand : ZM := (yX5_demand, cX5_demand, 2, (some Jvm.ClassFile.FieldType.int))
set_option maxRecDepth 100000 in
theorem kX5_demand : zkP mX5_demand 0 := ⟨zmem 554 (by decide +kernel) (by decide +kernel), (by decide +kernel), (by decide +kernel), (by decide +kernel)⟩
abbrev mX5_isNew : ZM := (yX5_isNew, cX5_isNew, 1, (some Jvm.ClassFile.FieldType.boolean))
set_option maxRecDepth 100000 in
theorem kX5_isNew : zkP mX5_isNew 0 := ⟨zmem 561 (by decide +kernel) (by decide +kernel), (by decide +kernel), (by decide +kernel), (by decide +kernel)⟩
abbrev mX8_give : ZM := (yX8_give, cX8_give, 2, (some (Jvm.ClassFile.FieldType.object "BitWell$Row")))
set_option maxRecDepth 100000 in
theorem kX8_give : zkP mX8_give 1 := ⟨zmem 565 (by decide +kernel) (by decide +kernel), (by decide +kernel), (by decide +kernel), (by decide +kernel)⟩
abbrev mX7_becomePart : ZM := (yX7_becomePart, cX7_becomePart, 4, none)
set_option maxRecDepth 100000 in
theorem kX7_becomePart : zkP mX7_becomePart 3 := ⟨zmem 569 (by decide +kernel) (by decide +kernel), (by decide +kernel), (by decide +kernel), (by decide +kernel)⟩
abbrev mX7_appendPart : ZM := (yX7_appendPart, cX7_appendPart, 6, none)
set_option maxRecDepth 100000 in
theorem kX7_appendPart : zkP mX7_appendPart 3 := ⟨zmem 573 (by decide +kernel) (by decide +kernel), (by decide +kernel), (by decide +kernel), (by decide +kernel)⟩
abbrev mX7_dropFirst : ZM := (yX7_dropFirst, cX7_dropFirst, 3, none)
set_option maxRecDepth 100000 in
theorem kX7_dropFirst : zkP mX7_dropFirst 1 := ⟨zmem 580 (by decide +kernel) (by decide +kernel), (by decide +kernel), (by decide +kernel), (by decide +kernel)⟩
abbrev mX1_plant : ZM := (yX1_plant, cX1_plant, 4, none)
set_option maxRecDepth 100000 in
theorem kX1_plant : zkP mX1_plant 2 := ⟨zmem 586 (by decide +kernel) (by decide +kernel), (by decide +kernel), (by decide +kernel), (by decide +kernel)⟩
abbrev mX7_becomeSame : ZM := (yX7_becomeSame, cX7_becomeSame, 3, none)
set_option maxRecDepth 100000 in
theorem kX7_becomeSame : zkP mX7_becomeSame 2 := ⟨zmem 594 (by decide +kernel) (by decide +kernel), (by decide +kernel), (by decide +kernel), (by decide +kernel)⟩
abbrev mX7_appendSame : ZM := (yX7_appendSame, cX7_appendSame, 4, none)
set_option maxRecDepth 100000 in
theorem kX7_appendSame : zkP mX7_appendSame 2 := ⟨zmem 598 (by decide +kernel) (by decide +kernel), (by decide +kernel), (by decide +kernel), (by decide +kernel)⟩
abbrev mX2_join : ZM := (yX2_join, cX2_join, 3, none)
set_option maxRecDepth 100000 in
theorem kX2_join : zkP mX2_join 2 := ⟨zmem 606 (by decide +kernel) (by decide +kernel), (by decide +kernel), (by decide +kernel), (by decide +kernel)⟩
abbrev mX7_appendRow : ZM := (yX7_appendRow, cX7_appendRow, 2, none)
set_option maxRecDepth 100000 in
theorem kX7_appendRow : zkP mX7_appendRow 1 := ⟨zmem 611 (by decide +kernel) (by decide +kernel), (by decide +kernel), (by decide +kernel), (by decide +kernel)⟩
abbrev mX0_stretch : ZM := (yX0_stretch, cX0_stretch, 6, none)
set_option maxRecDepth 100000 in
theorem kX0_stretch : zkP mX0_stretch 4 := ⟨zmem 615 (by decide +kernel) (by decide +kernel), (by decide +kernel), (by decide +kernel), (by decide +kernel)⟩
abbrev mX0_fillText : ZM := (yX0_fillText, cX0_fillText, 3, none)
set_option maxRecDepth 100000 in
theorem kX0_fillText : zkP mX0_fillText 2 := ⟨zmem 619 (by decide +kernel) (by decide +kernel), (by decide +kernel), (by decide +kernel), (by decide +kernel)⟩
abbrev mX0_useKey : ZM := (yX0_useKey, cX0_useKey, 6, none)
set_option maxRecDepth 100000 in
theorem kX0_useKey : zkP mX0_useKey 1 := ⟨zmem 629 (by decide +kernel) (by decide +kernel), (by decide +kernel), (by decide +kernel), (by decide +kernel)⟩
abbrev mX0_keyLength : ZM := (yX0_keyLength, cX0_keyLength, 1, (some Jvm.ClassFile.FieldType.int))
set_option maxRecDepth 100000 in
theorem kX0_keyLength : zkP mX0_keyLength 1 := ⟨zmem 632 (by decide +kernel) (by decide +kernel), (by decide +kernel), (by decide +kernel), (by decide +kernel)⟩
abbrev mX7_copyTo : ZM := (yX7_copyTo, cX7_copyTo, 5, (some Jvm.ClassFile.FieldType.int))
set_option maxRecDepth 100000 in
theorem kX7_copyTo : zkP mX7_copyTo 2 := ⟨zmem 636 (by decide +kernel) (by decide +kernel), (by decide +kernel), (by decide +kernel), (by decide +kernel)⟩
abbrev mX0_extendSchedule : ZM := (yX0_extendSchedule, cX0_extendSchedule, 7, none)
set_option maxRecDepth 100000 in
theorem kX0_extendSchedule : zkP mX0_extendSchedule 3 := ⟨zmem 640 (by decide +kernel) (by decide +kernel), (by decide +kernel), (by decide +kernel), (by decide +kernel)⟩
abbrev mX0_twice : ZM := (yX0_twice, cX0_twice, 1, (some Jvm.ClassFile.FieldType.int))
set_option maxRecDepth 100000 in
theorem kX0_twice : zkP mX0_twice 1 := ⟨zmem 645 (by decide +kernel) (by decide +kernel), (by decide +kernel), (by decide +kernel), (by decide +kernel)⟩
abbrev mX0_chainText : ZM := (yX0_chainText, cX0_chainText, 3, none)
set_option maxRecDepth 100000 in
theorem kX0_chainText : zkP mX0_chainText 1 := ⟨zmem 649 (by decide +kernel) (by decide +kernel), (by decide +kernel), (by decide +kernel), (by decide +kernel)⟩
abbrev mX0_encrypt : ZM := (yX0_encrypt, cX0_encrypt, 4, none)
set_option maxRecDepth 100000 in
theorem kX0_encrypt : zkP mX0_encrypt 2 := ⟨zmem 653 (by decide +kernel) (by decide +kernel), (by decide +kernel), (by decide +kernel), (by decide +kernel)⟩
abbrev mX0_addKey : ZM := (yX0_addKey, cX0_addKey, 3, none)
set_option maxRecDepth 100000 in
theorem kX0_addKey : zkP mX0_addKey 1 := ⟨zmem 657 (by decide +kernel) (by decide +kernel), (by decide +kernel), (by decide +kernel), (by decide +kernel)⟩
abbrev mX0_replaceAndShift : ZM := (yX0_replaceAndShift, cX0_replaceAndShift, 2, none)
set_option maxRecDepth 100000 in
theorem kX0_replaceAndShift : zkP mX0_replaceAndShift 0 := ⟨zmem 661 (by decide +kernel) (by decide +kernel), (by decide +kernel), (by decide +kernel), (by decide +kernel)⟩
abbrev mX0_mixColumns : ZM := (yX0_mixColumns, cX0_mixColumns, 6, none)
set_option maxRecDepth 100000 in
theorem kX0_mixColumns : zkP mX0_mixColumns 0 := ⟨zmem 665 (by decide +kernel) (by decide +kernel), (by decide +kernel), (by decide +kernel), (by decide +kernel)⟩
abbrev mX7_xorPart : ZM := (yX7_xorPart, cX7_xorPart, 5, none)
set_option maxRecDepth 100000 in
theorem kX7_xorPart : zkP mX7_xorPart 2 := ⟨zmem 669 (by decide +kernel) (by decide +kernel), (by decide +kernel), (by decide +kernel), (by decide +kernel)⟩
abbrev mX1_mix : ZM := (yX1_mix, cX1_mix, 4, none)
set_option maxRecDepth 100000 in
theorem kX1_mix : zkP mX1_mix 1 := ⟨zmem 677 (by decide +kernel) (by decide +kernel), (by decide +kernel), (by decide +kernel), (by decide +kernel)⟩
abbrev mX7_plusNumber : ZM := (yX7_plusNumber, cX7_plusNumber, 4, none)
set_option maxRecDepth 100000 in
theorem kX7_plusNumber : zkP mX7_plusNumber 1 := ⟨zmem 683 (by decide +kernel) (by decide +kernel), (by decide +kernel), (by decide +kernel), (by decide +kernel)⟩
abbrev mX5_noteSeeding : ZM := (yX5_noteSeeding, cX5_noteSeeding, 1, none)
set_option maxRecDepth 100000 in
theorem kX5_noteSeeding : zkP mX5_noteSeeding 0 := ⟨zmem 691 (by decide +kernel) (by decide +kernel), (by decide +kernel), (by decide +kernel), (by decide +kernel)⟩
abbrev mX4_plant : ZM := (yX4_plant, cX4_plant, 3, none)
set_option maxRecDepth 100000 in
theorem kX4_plant : zkP mX4_plant 2 := ⟨zmem 694 (by decide +kernel) (by decide +kernel), (by decide +kernel), (by decide +kernel), (by decide +kernel)⟩
abbrev mX4_beginMessage : ZM := (yX4_beginMessage, cX4_beginMessage, 2, none)
set_option maxRecDepth 100000 in
theorem kX4_beginMessage : zkP mX4_beginMessage 1 := ⟨zmem 702 (by decide +kernel) (by decide +kernel), (by decide +kernel), (by decide +kernel), (by decide +kernel)⟩
abbrev mX3_stretch : ZM := (yX3_stretch, cX3_stretch, 5, none)
set_option maxRecDepth 100000 in
theorem kX3_stretch : zkP mX3_stretch 3 := ⟨zmem 708 (by decide +kernel) (by decide +kernel), (by decide +kernel), (by decide +kernel), (by decide +kernel)⟩
abbrev mX7_put : ZM := (yX7_put, cX7_put, 3, none)
set_option maxRecDepth 100000 in
theorem kX7_put : zkP mX7_put 2 := ⟨zmem 718 (by decide +kernel) (by decide +kernel), (by decide +kernel), (by decide +kernel), (by decide +kernel)⟩
abbrev mX3_hash : ZM := (yX3_hash, cX3_hash, 5, none)
set_option maxRecDepth 100000 in
theorem kX3_hash : zkP mX3_hash 2 := ⟨zmem 722 (by decide +kernel) (by decide +kernel), (by decide +kernel), (by decide +kernel), (by decide +kernel)⟩
abbrev mX3_pad : ZM := (yX3_pad, cX3_pad, 4, (some Jvm.ClassFile.FieldType.int))
set_option maxRecDepth 100000 in
theorem kX3_pad : zkP mX3_pad 1 := ⟨zmem 727 (by decide +kernel) (by decide +kernel), (by decide +kernel), (by decide +kernel), (by decide +kernel)⟩
abbrev mX3_spread : ZM := (yX3_spread, cX3_spread, 11, none)
set_option maxRecDepth 100000 in
theorem kX3_spread : zkP mX3_spread 1 := ⟨zmem 733 (by decide +kernel) (by decide +kernel), (by decide +kernel), (by decide +kernel), (by decide +kernel)⟩
abbrev mX3_turned : ZM := (yX3_turned, cX3_turned, 4, (some Jvm.ClassFile.FieldType.long))
set_option maxRecDepth 100000 in
theorem kX3_turned : zkP mX3_turned 2 := ⟨zmem 737 (by decide +kernel) (by decide +kernel), (by decide +kernel), (by decide +kernel), (by decide +kernel)⟩
abbrev mX3_compress : ZM := (yX3_compress, cX3_compress, 26, none)
set_option maxRecDepth 100000 in
theorem kX3_compress : zkP mX3_compress 0 := ⟨zmem 741 (by decide +kernel) (by decide +kernel), (by decide +kernel), (by decide +kernel), (by decide +kernel)⟩
abbrev mX6_plant : ZM := (yX6_plant, cX6_plant, 3, none)
set_option maxRecDepth 100000 in
theorem kX6_plant : zkP mX6_plant 2 := ⟨zmem 750 (by decide +kernel) (by decide +kernel), (by decide +kernel), (by decide +kernel), (by decide +kernel)⟩
abbrev mX6_mix : ZM := (yX6_mix, cX6_mix, 4, none)
set_option maxRecDepth 100000 in
theorem kX6_mix : zkP mX6_mix 1 := ⟨zmem 759 (by decide +kernel) (by decide +kernel), (by decide +kernel), (by decide +kernel), (by decide +kernel)⟩
abbrev mX3_keyed : ZM := (yX3_keyed, cX3_keyed, 4, none)
set_option maxRecDepth 100000 in
theorem kX3_keyed : zkP mX3_keyed 3 := ⟨zmem 767 (by decide +kernel) (by decide +kernel), (by decide +kernel), (by decide +kernel), (by decide +kernel)⟩
abbrev mX3_beginWithKey : ZM := (yX3_beginWithKey, cX3_beginWithKey, 5, none)
set_option maxRecDepth 100000 in
theorem kX3_beginWithKey : zkP mX3_beginWithKey 2 := ⟨zmem 771 (by decide +kernel) (by decide +kernel), (by decide +kernel), (by decide +kernel), (by decide +kernel)⟩
abbrev mX9_close : ZM := (yX9_close, cX9_close, 3, (some Jvm.ClassFile.FieldType.boolean))
set_option maxRecDepth 100000 in
theorem kX9_close : zkP mX9_close 1 := ⟨zmem 779 (by decide +kernel) (by decide +kernel), (by decide +kernel), (by decide +kernel), (by decide +kernel)⟩
abbrev mX9_openOne : ZM := (yX9_openOne, cX9_openOne, 2, (some (Jvm.ClassFile.FieldType.object "BitWell$Generator")))
set_option maxRecDepth 100000 in
theorem kX9_openOne : zkP mX9_openOne 1 := ⟨zmem 783 (by decide +kernel) (by decide +kernel), (by decide +kernel), (by decide +kernel), (by decide +kernel)⟩
abbrev mX5_wipe : ZM := (yX5_wipe, cX5_wipe, 1, none)
set_option maxRecDepth 100000 in
theorem kX5_wipe : zkP mX5_wipe 0 := ⟨zmem 790 (by decide +kernel) (by decide +kernel), (by decide +kernel), (by decide +kernel), (by decide +kernel)⟩
abbrev mX9_reseed : ZM := (yX9_reseed, cX9_reseed, 5, (some Jvm.ClassFile.FieldType.int))
set_option maxRecDepth 100000 in
theorem kX9_reseed : zkP mX9_reseed 2 := ⟨zmem 795 (by decide +kernel) (by decide +kernel), (by decide +kernel), (by decide +kernel), (by decide +kernel)⟩
abbrev mX9_draw : ZM := (yX9_draw, cX9_draw, 7, (some Jvm.ClassFile.FieldType.int))
set_option maxRecDepth 100000 in
theorem kX9_draw : zkP mX9_draw 4 := ⟨zmem 799 (by decide +kernel) (by decide +kernel), (by decide +kernel), (by decide +kernel), (by decide +kernel)⟩
abbrev mX5_isDue : ZM := (yX5_isDue, cX5_isDue, 1, (some Jvm.ClassFile.FieldType.boolean))
set_option maxRecDepth 100000 in
theorem kX5_isDue : zkP mX5_isDue 0 := ⟨zmem 806 (by decide +kernel) (by decide +kernel), (by decide +kernel), (by decide +kernel), (by decide +kernel)⟩
abbrev mX1_produce : ZM := (yX1_produce, cX1_produce, 6, none)
set_option maxRecDepth 100000 in
theorem kX1_produce : zkP mX1_produce 3 := ⟨zmem 812 (by decide +kernel) (by decide +kernel), (by decide +kernel), (by decide +kernel), (by decide +kernel)⟩
abbrev mX5_noteDrawing : ZM := (yX5_noteDrawing, cX5_noteDrawing, 2, none)
set_option maxRecDepth 100000 in
theorem kX5_noteDrawing : zkP mX5_noteDrawing 1 := ⟨zmem 820 (by decide +kernel) (by decide +kernel), (by decide +kernel), (by decide +kernel), (by decide +kernel)⟩
abbrev mX4_produce : ZM := (yX4_produce, cX4_produce, 6, none)
set_option maxRecDepth 100000 in
theorem kX4_produce : zkP mX4_produce 3 := ⟨zmem 823 (by decide +kernel) (by decide +kernel), (by decide +kernel), (by decide +kernel), (by decide +kernel)⟩
abbrev mX4_addDigest : ZM := (yX4_addDigest, cX4_addDigest, 1, none)
set_option maxRecDepth 100000 in
theorem kX4_addDigest : zkP mX4_addDigest 0 := ⟨zmem 828 (by decide +kernel) (by decide +kernel), (by decide +kernel), (by decide +kernel), (by decide +kernel)⟩
abbrev mX7_plusRow : ZM := (yX7_plusRow, cX7_plusRow, 5, none)
set_option maxRecDepth 100000 in
theorem kX7_plusRow : zkP mX7_plusRow 1 := ⟨zmem 833 (by decide +kernel) (by decide +kernel), (by decide +kernel), (by decide +kernel), (by decide +kernel)⟩
abbrev mX5_count : ZM := (yX5_count, cX5_count, 1, (some Jvm.ClassFile.FieldType.int))
set_option maxRecDepth 100000 in
theorem kX5_count : zkP mX5_count 0 := ⟨zmem 842 (by decide +kernel) (by decide +kernel), (by decide +kernel), (by decide +kernel), (by decide +kernel)⟩
abbrev mX6_produce : ZM := (yX6_produce, cX6_produce, 5, none)
set_option maxRecDepth 100000 in
theorem kX6_produce : zkP mX6_produce 3 := ⟨zmem 848 (by decide +kernel) (by decide +kernel), (by decide +kernel), (by decide +kernel), (by decide +kernel)⟩
abbrev mX9_drawn : ZM := (yX9_drawn, cX9_drawn, 2, (some Jvm.ClassFile.FieldType.int))
set_option maxRecDepth 100000 in
theorem kX9_drawn : zkP mX9_drawn 1 := ⟨zmem 856 (by decide +kernel) (by decide +kernel), (by decide +kernel), (by decide +kernel), (by decide +kernel)⟩
abbrev mX9_generator : ZM := (yX9_generator, cX9_generator, 4, (some Jvm.ClassFile.FieldType.int))
set_option maxRecDepth 100000 in
theorem kX9_generator : zkP mX9_generator 2 := ⟨zmem 861 (by decide +kernel) (by decide +kernel), (by decide +kernel), (by decide +kernel), (by decide +kernel)⟩
abbrev mX5_look : ZM := (yX5_look, cX5_look, 2, (some Jvm.ClassFile.FieldType.int))
set_option maxRecDepth 100000 in
theorem kX5_look : zkP mX5_look 1 := ⟨zmem 868 (by decide +kernel) (by decide +kernel), (by decide +kernel), (by decide +kernel), (by decide +kernel)⟩
abbrev mX9_state : ZM := (yX9_state, cX9_state, 5, (some Jvm.ClassFile.FieldType.int))
set_option maxRecDepth 100000 in
theorem kX9_state : zkP mX9_state 3 := ⟨zmem 872 (by decide +kernel) (by decide +kernel), (by decide +kernel), (by decide +kernel), (by decide +kernel)⟩
abbrev mX9_digest : ZM := (yX9_digest, cX9_digest, 2, (some Jvm.ClassFile.FieldType.int))
set_option maxRecDepth 100000 in
theorem kX9_digest : zkP mX9_digest 1 := ⟨zmem 876 (by decide +kernel) (by decide +kernel), (by decide +kernel), (by decide +kernel), (by decide +kernel)⟩
abbrev mX9_cipher : ZM := (yX9_cipher, cX9_cipher, 3, (some Jvm.ClassFile.FieldType.boolean))
set_option maxRecDepth 100000 in
theorem kX9_cipher : zkP mX9_cipher 1 := ⟨zmem 882 (by decide +kernel) (by decide +kernel), (by decide +kernel), (by decide +kernel), (by decide +kernel)⟩
abbrev mX2_divide : ZM := (yX2_divide, cX2_divide, 3, none)
set_option maxRecDepth 100000 in
theorem kX2_divide : zkP mX2_divide 2 := ⟨zmem 887 (by decide +kernel) (by decide +kernel), (by decide +kernel), (by decide +kernel), (by decide +kernel)⟩
abbrev mX9_mac : ZM := (yX9_mac, cX9_mac, 3, (some Jvm.ClassFile.FieldType.boolean))
set_option maxRecDepth 100000 in
theorem kX9_mac : zkP mX9_mac 1 := ⟨zmem 895 (by decide +kernel) (by decide +kernel), (by decide +kernel), (by decide +kernel), (by decide +kernel)⟩
abbrev mX9_derive : ZM := (yX9_derive, cX9_derive, 4, (some Jvm.ClassFile.FieldType.boolean))
set_option maxRecDepth 100000 in
theorem kX9_derive : zkP mX9_derive 2 := ⟨zmem 900 (by decide +kernel) (by decide +kernel), (by decide +kernel), (by decide +kernel), (by decide +kernel)⟩
abbrev mX9_size : ZM := (yX9_size, cX9_size, 1, (some Jvm.ClassFile.FieldType.int))
set_option maxRecDepth 100000 in
theorem kX9_size : zkP mX9_size 0 := ⟨zmem 906 (by decide +kernel) (by decide +kernel), (by decide +kernel), (by decide +kernel), (by decide +kernel)⟩
abbrev mX11_init : ZM := (yX11_init, cX11_init, 3, none)
set_option maxRecDepth 100000 in
theorem kX11_init : zkP mX11_init 0 := ⟨zmem 911 (by decide +kernel) (by decide +kernel), (by decide +kernel), (by decide +kernel), (by decide +kernel)⟩
abbrev mX10_init : ZM := (yX10_init, cX10_init, 1, none)
set_option maxRecDepth 100000 in
theorem kX10_init : zkP mX10_init 0 := ⟨zmem 918 (by decide +kernel) (by decide +kernel), (by decide +kernel), (by decide +kernel), (by decide +kernel)⟩
abbrev mX11_isPrime : ZM := (yX11_isPrime, cX11_isPrime, 3, (some Jvm.ClassFile.FieldType.boolean))
set_option maxRecDepth 100000 in
theorem kX11_isPrime : zkP mX11_isPrime 1 := ⟨zmem 957 (by decide +kernel) (by decide +kernel), (by decide +kernel), (by decide +kernel), (by decide +kernel)⟩
abbrev mX11_root : ZM := (yX11_root, cX11_root, 6, (some Jvm.ClassFile.FieldType.long))
set_option maxRecDepth 100000 in
theorem kX11_root : zkP mX11_root 2 := ⟨zmem 961 (by decide +kernel) (by decide +kernel), (by decide +kernel), (by decide +kernel), (by decide +kernel)⟩
abbrev mX11_isBeyond : ZM := (yX11_isBeyond, cX11_isBeyond, 10, (some Jvm.ClassFile.FieldType.boolean))
set_option maxRecDepth 100000 in
theorem kX11_isBeyond : zkP mX11_isBeyond 2 := ⟨zmem 965 (by decide +kernel) (by decide +kernel), (by decide +kernel), (by decide +kernel), (by decide +kernel)⟩
abbrev mX11_boxed : ZM := (yX11_boxed, cX11_boxed, 4, (some Jvm.ClassFile.FieldType.int))
set_option maxRecDepth 100000 in
theorem kX11_boxed : zkP mX11_boxed 1 := ⟨zmem 969 (by decide +kernel) (by decide +kernel), (by decide +kernel), (by decide +kernel), (by decide +kernel)⟩
abbrev mX11_times : ZM := (yX11_times, cX11_times, 5, (some Jvm.ClassFile.FieldType.int))
set_option maxRecDepth 100000 in
theorem kX11_times : zkP mX11_times 2 := ⟨zmem 972 (by decide +kernel) (by decide +kernel), (by decide +kernel), (by decide +kernel), (by decide +kernel)⟩
abbrev mX11_feed : ZM := (yX11_feed, cX11_feed, 6, (some Jvm.ClassFile.FieldType.int))
set_option maxRecDepth 100000 in
theorem kX11_feed : zkP mX11_feed 5 := ⟨zmem 1115 (by decide +kernel) (by decide +kernel), (by decide +kernel), (by decide +kernel), (by decide +kernel)⟩
abbrev mX11_number : ZM := (yX11_number, cX11_number, 5, none)
set_option maxRecDepth 100000 in
theorem kX11_number : zkP mX11_number 4 := ⟨zmem 1118 (by decide +kernel) (by decide +kernel), (by decide +kernel), (by decide +kernel), (by decide +kernel)⟩
abbrev mX11_end : ZM := (yX11_end, cX11_end, 2, (some Jvm.ClassFile.FieldType.int))
set_option maxRecDepth 100000 in
theorem kX11_end : zkP mX11_end 1 := ⟨zmem 1122 (by decide +kernel) (by decide +kernel), (by decide +kernel), (by decide +kernel), (by decide +kernel)⟩
abbrev mX11_in : ZM := (yX11_in, cX11_in, 3, (some Jvm.ClassFile.FieldType.boolean))
set_option maxRecDepth 100000 in
theorem kX11_in : zkP mX11_in 3 := ⟨zmem 1125 (by decide +kernel) (by decide +kernel), (by decide +kernel), (by decide +kernel), (by decide +kernel)⟩
abbrev mX11_supply : ZM := (yX11_supply, cX11_supply, 2, (some Jvm.ClassFile.FieldType.int))
set_option maxRecDepth 100000 in
theorem kX11_supply : zkP mX11_supply 0 := ⟨zmem 1129 (by decide +kernel) (by decide +kernel), (by decide +kernel), (by decide +kernel), (by decide +kernel)⟩
abbrev mX11_comes : ZM := (yX11_comes, cX11_comes, 3, none)
set_option maxRecDepth 100000 in
theorem kX11_comes : zkP mX11_comes 1 := ⟨zmem 1133 (by decide +kernel) (by decide +kernel), (by decide +kernel), (by decide +kernel), (by decide +kernel)⟩
abbrev mX11_tests : ZM := (yX11_tests, cX11_tests, 4, (some Jvm.ClassFile.FieldType.boolean))
set_option maxRecDepth 100000 in
theorem kX11_tests : zkP mX11_tests 3 := ⟨zmem 1137 (by decide +kernel) (by decide +kernel), (by decide +kernel), (by decide +kernel), (by decide +kernel)⟩
abbrev mX11_source : ZM := (yX11_source, cX11_source, 2, (some Jvm.ClassFile.FieldType.int))
set_option maxRecDepth 100000 in
theorem kX11_source : zkP mX11_source 1 := ⟨zmem 1141 (by decide +kernel) (by decide +kernel), (by decide +kernel), (by decide +kernel), (by decide +kernel)⟩
abbrev mX11_open : ZM := (yX11_open, cX11_open, 7, (some Jvm.ClassFile.FieldType.int))
set_option maxRecDepth 100000 in
theorem kX11_open : zkP mX11_open 4 := ⟨zmem 1145 (by decide +kernel) (by decide +kernel), (by decide +kernel), (by decide +kernel), (by decide +kernel)⟩
abbrev mX11_isTooLong : ZM := (yX11_isTooLong, cX11_isTooLong, 2, (some Jvm.ClassFile.FieldType.boolean))
set_option maxRecDepth 100000 in
theorem kX11_isTooLong : zkP mX11_isTooLong 2 := ⟨zmem 1149 (by decide +kernel) (by decide +kernel), (by decide +kernel), (by decide +kernel), (by decide +kernel)⟩
abbrev mX10_seed : ZM := (yX10_seed, cX10_seed, 1, (some Jvm.ClassFile.FieldType.int))
set_option maxRecDepth 100000 in
theorem kX10_seed : zkP mX10_seed 0 := ⟨zmem 1153 (by decide +kernel) (by decide +kernel), (by decide +kernel), (by decide +kernel), (by decide +kernel)⟩
abbrev mX10_isGreat : ZM := (yX10_isGreat, cX10_isGreat, 1, (some Jvm.ClassFile.FieldType.boolean))
set_option maxRecDepth 100000 in
theorem kX10_isGreat : zkP mX10_isGreat 0 := ⟨zmem 1157 (by decide +kernel) (by decide +kernel), (by decide +kernel), (by decide +kernel), (by decide +kernel)⟩
abbrev mX11_sizeOf : ZM := (yX11_sizeOf, cX11_sizeOf, 1, (some Jvm.ClassFile.FieldType.int))
set_option maxRecDepth 100000 in
theorem kX11_sizeOf : zkP mX11_sizeOf 1 := ⟨zmem 1160 (by decide +kernel) (by decide +kernel), (by decide +kernel), (by decide +kernel), (by decide +kernel)⟩
abbrev mX10_keySize : ZM := (yX10_keySize, cX10_keySize, 1, (some Jvm.ClassFile.FieldType.int))
set_option maxRecDepth 100000 in
theorem kX10_keySize : zkP mX10_keySize 0 := ⟨zmem 1164 (by decide +kernel) (by decide +kernel), (by decide +kernel), (by decide +kernel), (by decide +kernel)⟩
abbrev mX10_fresh : ZM := (yX10_fresh, cX10_fresh, 1, (some Jvm.ClassFile.FieldType.int))
set_option maxRecDepth 100000 in
theorem kX10_fresh : zkP mX10_fresh 0 := ⟨zmem 1168 (by decide +kernel) (by decide +kernel), (by decide +kernel), (by decide +kernel), (by decide +kernel)⟩
abbrev mX11_seed : ZM := (yX11_seed, cX11_seed, 6, none)
set_option maxRecDepth 100000 in
theorem kX11_seed : zkP mX11_seed 3 := ⟨zmem 1173 (by decide +kernel) (by decide +kernel), (by decide +kernel), (by decide +kernel), (by decide +kernel)⟩
abbrev mX11_take : ZM := (yX11_take, cX11_take, 3, none)
set_option maxRecDepth 100000 in
theorem kX11_take : zkP mX11_take 1 := ⟨zmem 1177 (by decide +kernel) (by decide +kernel), (by decide +kernel), (by decide +kernel), (by decide +kernel)⟩
abbrev mX11_seedDigest : ZM := (yX11_seedDigest, cX11_seedDigest, 6, none)
set_option maxRecDepth 100000 in
theorem kX11_seedDigest : zkP mX11_seedDigest 4 := ⟨zmem 1181 (by decide +kernel) (by decide +kernel), (by decide +kernel), (by decide +kernel), (by decide +kernel)⟩
abbrev mX11_begin : ZM := (yX11_begin, cX11_begin, 1, none)
set_option maxRecDepth 100000 in
theorem kX11_begin : zkP mX11_begin 0 := ⟨zmem 1185 (by decide +kernel) (by decide +kernel), (by decide +kernel), (by decide +kernel), (by decide +kernel)⟩
abbrev mX11_put : ZM := (yX11_put, cX11_put, 2, none)
set_option maxRecDepth 100000 in
theorem kX11_put : zkP mX11_put 1 := ⟨zmem 1189 (by decide +kernel) (by decide +kernel), (by decide +kernel), (by decide +kernel), (by decide +kernel)⟩
abbrev mX11_put_ : ZM := (yX11_put_, cX11_put_, 4, none)
set_option maxRecDepth 100000 in
theorem kX11_put_ : zkP mX11_put_ 2 := ⟨zmem 1193 (by decide +kernel) (by decide +kernel), (by decide +kernel), (by decide +kernel), (by decide +kernel)⟩
abbrev mX11_derive : ZM := (yX11_derive, cX11_derive, 9, none)
set_option maxRecDepth 100000 in
theorem kX11_derive : zkP mX11_derive 5 := ⟨zmem 1198 (by decide +kernel) (by decide +kernel), (by decide +kernel), (by decide +kernel), (by decide +kernel)⟩
abbrev mX11_digest : ZM := (yX11_digest, cX11_digest, 9, none)
set_option maxRecDepth 100000 in
theorem kX11_digest : zkP mX11_digest 3 := ⟨zmem 1203 (by decide +kernel) (by decide +kernel), (by decide +kernel), (by decide +kernel), (by decide +kernel)⟩
abbrev mX11_round : ZM := (yX11_round, cX11_round, 17, none)
set_option maxRecDepth 100000 in
theorem kX11_round : zkP mX11_round 2 := ⟨zmem 1207 (by decide +kernel) (by decide +kernel), (by decide +kernel), (by decide +kernel), (by decide +kernel)⟩
abbrev mX11_mixed : ZM := (yX11_mixed, cX11_mixed, 7, (some Jvm.ClassFile.FieldType.long))
set_option maxRecDepth 100000 in
theorem kX11_mixed : zkP mX11_mixed 3 := ⟨zmem 1210 (by decide +kernel) (by decide +kernel), (by decide +kernel), (by decide +kernel), (by decide +kernel)⟩
abbrev mX11_turned : ZM := (yX11_turned, cX11_turned, 4, (some Jvm.ClassFile.FieldType.long))
set_option maxRecDepth 100000 in
theorem kX11_turned : zkP mX11_turned 3 := ⟨zmem 1215 (by decide +kernel) (by decide +kernel), (by decide +kernel), (by decide +kernel), (by decide +kernel)⟩
abbrev mX11_cut : ZM := (yX11_cut, cX11_cut, 3, (some Jvm.ClassFile.FieldType.long))
set_option maxRecDepth 100000 in
theorem kX11_cut : zkP mX11_cut 2 := ⟨zmem 1219 (by decide +kernel) (by decide +kernel), (by decide +kernel), (by decide +kernel), (by decide +kernel)⟩
abbrev mX11_mixMac : ZM := (yX11_mixMac, cX11_mixMac, 6, none)
set_option maxRecDepth 100000 in
theorem kX11_mixMac : zkP mX11_mixMac 2 := ⟨zmem 1225 (by decide +kernel) (by decide +kernel), (by decide +kernel), (by decide +kernel), (by decide +kernel)⟩
abbrev mX11_mac : ZM := (yX11_mac, cX11_mac, 8, none)
set_option maxRecDepth 100000 in
theorem kX11_mac : zkP mX11_mac 4 := ⟨zmem 1229 (by decide +kernel) (by decide +kernel), (by decide +kernel), (by decide +kernel), (by decide +kernel)⟩
abbrev mX11_step : ZM := (yX11_step, cX11_step, 3, none)
set_option maxRecDepth 100000 in
theorem kX11_step : zkP mX11_step 1 := ⟨zmem 1233 (by decide +kernel) (by decide +kernel), (by decide +kernel), (by decide +kernel), (by decide +kernel)⟩
abbrev mX11_seedCounter : ZM := (yX11_seedCounter, cX11_seedCounter, 5, none)
set_option maxRecDepth 100000 in
theorem kX11_seedCounter : zkP mX11_seedCounter 3 := ⟨zmem 1237 (by decide +kernel) (by decide +kernel), (by decide +kernel), (by decide +kernel), (by decide +kernel)⟩
abbrev mX11_deriveE : ZM := (yX11_deriveE, cX11_deriveE, 10, none)
set_option maxRecDepth 100000 in
theorem kX11_deriveE : zkP mX11_deriveE 5 := ⟨zmem 1242 (by decide +kernel) (by decide +kernel), (by decide +kernel), (by decide +kernel), (by decide +kernel)⟩
abbrev mX11_cipher : ZM := (yX11_cipher, cX11_cipher, 9, none)
set_option maxRecDepth 100000 in
theorem kX11_cipher : zkP mX11_cipher 3 := ⟨zmem 1246 (by decide +kernel) (by decide +kernel), (by decide +kernel), (by decide +kernel), (by decide +kernel)⟩
abbrev mX11_spread : ZM := (yX11_spread, cX11_spread, 9, none)
set_option maxRecDepth 100000 in
theorem kX11_spread : zkP mX11_spread 2 := ⟨zmem 1250 (by decide +kernel) (by decide +kernel), (by decide +kernel), (by decide +kernel), (by decide +kernel)⟩
abbrev mX11_mixCounter : ZM := (yX11_mixCounter, cX11_mixCounter, 4, none)
set_option maxRecDepth 100000 in
theorem kX11_mixCounter : zkP mX11_mixCounter 1 := ⟨zmem 1254 (by decide +kernel) (by decide +kernel), (by decide +kernel), (by decide +kernel), (by decide +kernel)⟩
abbrev mX11_blockNext : ZM := (yX11_blockNext, cX11_blockNext, 3, none)
set_option maxRecDepth 100000 in
theorem kX11_blockNext : zkP mX11_blockNext 1 := ⟨zmem 1258 (by decide +kernel) (by decide +kernel), (by decide +kernel), (by decide +kernel), (by decide +kernel)⟩
abbrev mX11_addsNumber : ZM := (yX11_addsNumber, cX11_addsNumber, 4, none)
set_option maxRecDepth 100000 in
theorem kX11_addsNumber : zkP mX11_addsNumber 3 := ⟨zmem 1262 (by decide +kernel) (by decide +kernel), (by decide +kernel), (by decide +kernel), (by decide +kernel)⟩
abbrev mX11_adds : ZM := (yX11_adds, cX11_adds, 7, none)
set_option maxRecDepth 100000 in
theorem kX11_adds : zkP mX11_adds 4 := ⟨zmem 1265 (by decide +kernel) (by decide +kernel), (by decide +kernel), (by decide +kernel), (by decide +kernel)⟩
abbrev mX11_close : ZM := (yX11_close, cX11_close, 2, (some Jvm.ClassFile.FieldType.boolean))
set_option maxRecDepth 100000 in
theorem kX11_close : zkP mX11_close 1 := ⟨zmem 1269 (by decide +kernel) (by decide +kernel), (by decide +kernel), (by decide +kernel), (by decide +kernel)⟩
abbrev mX11_isThere : ZM := (yX11_isThere, cX11_isThere, 2, (some Jvm.ClassFile.FieldType.boolean))
set_option maxRecDepth 100000 in
theorem kX11_isThere : zkP mX11_isThere 1 := ⟨zmem 1273 (by decide +kernel) (by decide +kernel), (by decide +kernel), (by decide +kernel), (by decide +kernel)⟩
abbrev mX11_reseed : ZM := (yX11_reseed, cX11_reseed, 4, (some Jvm.ClassFile.FieldType.int))
set_option maxRecDepth 100000 in
theorem kX11_reseed : zkP mX11_reseed 2 := ⟨zmem 1277 (by decide +kernel) (by decide +kernel), (by decide +kernel), (by decide +kernel), (by decide +kernel)⟩
abbrev mX11_draw : ZM := (yX11_draw, cX11_draw, 8, (some Jvm.ClassFile.FieldType.int))
set_option maxRecDepth 100000 in
theorem kX11_draw : zkP mX11_draw 4 := ⟨zmem 1281 (by decide +kernel) (by decide +kernel), (by decide +kernel), (by decide +kernel), (by decide +kernel)⟩
abbrev mX11_drawDigest : ZM := (yX11_drawDigest, cX11_drawDigest, 7, none)
set_option maxRecDepth 100000 in
theorem kX11_drawDigest : zkP mX11_drawDigest 3 := ⟨zmem 1285 (by decide +kernel) (by decide +kernel), (by decide +kernel), (by decide +kernel), (by decide +kernel)⟩
abbrev mX11_drawMac : ZM := (yX11_drawMac, cX11_drawMac, 7, none)
set_option maxRecDepth 100000 in
theorem kX11_drawMac : zkP mX11_drawMac 3 := ⟨zmem 1289 (by decide +kernel) (by decide +kernel), (by decide +kernel), (by decide +kernel), (by decide +kernel)⟩
abbrev mX11_drawCounter : ZM := (yX11_drawCounter, cX11_drawCounter, 6, none)
set_option maxRecDepth 100000 in
theorem kX11_drawCounter : zkP mX11_drawCounter 3 := ⟨zmem 1293 (by decide +kernel) (by decide +kernel), (by decide +kernel), (by decide +kernel), (by decide +kernel)⟩
abbrev mX11_drawn : ZM := (yX11_drawn, cX11_drawn, 2, (some Jvm.ClassFile.FieldType.int))
set_option maxRecDepth 100000 in
theorem kX11_drawn : zkP mX11_drawn 1 := ⟨zmem 1297 (by decide +kernel) (by decide +kernel), (by decide +kernel), (by decide +kernel), (by decide +kernel)⟩
abbrev mX11_generator : ZM := (yX11_generator, cX11_generator, 4, (some Jvm.ClassFile.FieldType.int))
set_option maxRecDepth 100000 in
theorem kX11_generator : zkP mX11_generator 2 := ⟨zmem 1301 (by decide +kernel) (by decide +kernel), (by decide +kernel), (by decide +kernel), (by decide +kernel)⟩
abbrev mX11_state : ZM := (yX11_state, cX11_state, 5, (some Jvm.ClassFile.FieldType.int))
set_option maxRecDepth 100000 in
theorem kX11_state : zkP mX11_state 3 := ⟨zmem 1305 (by decide +kernel) (by decide +kernel), (by decide +kernel), (by decide +kernel), (by decide +kernel)⟩
abbrev mX10_vSize : ZM := (yX10_vSize, cX10_vSize, 1, (some Jvm.ClassFile.FieldType.int))
set_option maxRecDepth 100000 in
theorem kX10_vSize : zkP mX10_vSize 0 := ⟨zmem 1309 (by decide +kernel) (by decide +kernel), (by decide +kernel), (by decide +kernel), (by decide +kernel)⟩
abbrev mX10_cSize : ZM := (yX10_cSize, cX10_cSize, 1, (some Jvm.ClassFile.FieldType.int))
set_option maxRecDepth 100000 in
theorem kX10_cSize : zkP mX10_cSize 0 := ⟨zmem 1313 (by decide +kernel) (by decide +kernel), (by decide +kernel), (by decide +kernel), (by decide +kernel)⟩
abbrev mX11_digest_ : ZM := (yX11_digest_, cX11_digest_, 2, (some Jvm.ClassFile.FieldType.int))
set_option maxRecDepth 100000 in
theorem kX11_digest_ : zkP mX11_digest_ 1 := ⟨zmem 1317 (by decide +kernel) (by decide +kernel), (by decide +kernel), (by decide +kernel), (by decide +kernel)⟩
abbrev mX11_show : ZM := (yX11_show, cX11_show, 3, none)
set_option maxRecDepth 100000 in
theorem kX11_show : zkP mX11_show 1 := ⟨zmem 1321 (by decide +kernel) (by decide +kernel), (by decide +kernel), (by decide +kernel), (by decide +kernel)⟩
abbrev mX11_cipher_ : ZM := (yX11_cipher_, cX11_cipher_, 4, (some Jvm.ClassFile.FieldType.boolean))
set_option maxRecDepth 100000 in
theorem kX11_cipher_ : zkP mX11_cipher_ 1 := ⟨zmem 1325 (by decide +kernel) (by decide +kernel), (by decide +kernel), (by decide +kernel), (by decide +kernel)⟩
abbrev mX11_mac_ : ZM := (yX11_mac_, cX11_mac_, 4, (some Jvm.ClassFile.FieldType.boolean))
set_option maxRecDepth 100000 in
theorem kX11_mac_ : zkP mX11_mac_ 1 := ⟨zmem 1329 (by decide +kernel) (by decide +kernel), (by decide +kernel), (by decide +kernel), (by decide +kernel)⟩
abbrev mX11_derive_ : ZM := (yX11_derive_, cX11_derive_, 3, (some Jvm.ClassFile.FieldType.boolean))
set_option maxRecDepth 100000 in
theorem kX11_derive_ : zkP mX11_derive_ 2 := ⟨zmem 1333 (by decide +kernel) (by decide +kernel), (by decide +kernel), (by decide +kernel), (by decide +kernel)⟩
abbrev mX11_size : ZM := (yX11_size, cX11_size, 1, (some Jvm.ClassFile.FieldType.int))
set_option maxRecDepth 100000 in
theorem kX11_size : zkP mX11_size 0 := ⟨zmem 1337 (by decide +kernel) (by decide +kernel), (by decide +kernel), (by decide +kernel), (by decide +kernel)⟩
set_option maxRecDepth 100000 in
theorem iwX9_init : Cond.instanceMethod yX9_init ∈ zgood := (zmem 68 (by decide +kernel) (by decide +kernel))
set_option maxRecDepth 100000 in
theorem iwX7_init : Cond.instanceMethod yX7_init ∈ zgood := (zmem 76 (by decide +kernel) (by decide +kernel))
set_option maxRecDepth 100000 in
theorem iwX8_init : Cond.instanceMethod yX8_init ∈ zgood := (zmem 93 (by decide +kernel) (by decide +kernel))
set_option maxRecDepth 100000 in
theorem iwX2_init : Cond.instanceMethod yX2_init ∈ zgood := (zmem 141 (by decide +kernel) (by decide +kernel))
set_option maxRecDepth 100000 in
theorem iwX0_init : Cond.instanceMethod yX0_init ∈ zgood := (zmem 147 (by decide +kernel) (by decide +kernel))
set_option maxRecDepth 100000 in
theorem iwX3_init : Cond.instanceMethod yX3_init ∈ zgood := (zmem 182 (by decide +kernel) (by decide +kernel))
set_option maxRecDepth 100000 in
theorem iwX9_feed : Cond.instanceMethod yX9_feed ∈ zgood := (zmem 284 (by decide +kernel) (by decide +kernel))
set_option maxRecDepth 100000 in
theorem iwX7_length : Cond.instanceMethod yX7_length ∈ zgood := (zmem 288 (by decide +kernel) (by decide +kernel))
set_option maxRecDepth 100000 in
theorem iwX7_appendNumber : Cond.instanceMethod yX7_appendNumber ∈ zgood := (zmem 292 (by decide +kernel) (by decide +kernel))
set_option maxRecDepth 100000 in
theorem iwX9_end : Cond.instanceMethod yX9_end ∈ zgood := (zmem 296 (by decide +kernel) (by decide +kernel))
set_option maxRecDepth 100000 in
theorem iwX7_cut : Cond.instanceMethod yX7_cut ∈ zgood := (zmem 300 (by decide +kernel) (by decide +kernel))
set_option maxRecDepth 100000 in
theorem iwX9_supply : Cond.instanceMethod yX9_supply ∈ zgood := (zmem 304 (by decide +kernel) (by decide +kernel))
set_option maxRecDepth 100000 in
theorem iwX8_isUnsound : Cond.instanceMethod yX8_isUnsound ∈ zgood := (zmem 308 (by decide +kernel) (by decide +kernel))
set_option maxRecDepth 100000 in
theorem iwX8_waiting : Cond.instanceMethod yX8_waiting ∈ zgood := (zmem 312 (by decide +kernel) (by decide +kernel))
set_option maxRecDepth 100000 in
theorem iwX8_receive : Cond.instanceMethod yX8_receive ∈ zgood := (zmem 317 (by decide +kernel) (by decide +kernel))
set_option maxRecDepth 100000 in
theorem iwX7_at : Cond.instanceMethod yX7_at ∈ zgood := (zmem 321 (by decide +kernel) (by decide +kernel))
set_option maxRecDepth 100000 in
theorem iwX8_repeatsTooOften : Cond.instanceMethod yX8_repeatsTooOften ∈ zgood := (zmem 326 (by decide +kernel) (by decide +kernel))
set_option maxRecDepth 100000 in
theorem iwX8_comesTooOften : Cond.instanceMethod yX8_comesTooOften ∈ zgood := (zmem 330 (by decide +kernel) (by decide +kernel))
set_option maxRecDepth 100000 in
theorem iwX8_forgetSample : Cond.instanceMethod yX8_forgetSample ∈ zgood := (zmem 334 (by decide +kernel) (by decide +kernel))
set_option maxRecDepth 100000 in
theorem iwX8_becomeUnsound : Cond.instanceMethod yX8_becomeUnsound ∈ zgood := (zmem 338 (by decide +kernel) (by decide +kernel))
set_option maxRecDepth 100000 in
theorem iwX7_clear : Cond.instanceMethod yX7_clear ∈ zgood := (zmem 341 (by decide +kernel) (by decide +kernel))
set_option maxRecDepth 100000 in
theorem iwX7_append : Cond.instanceMethod yX7_append ∈ zgood := (zmem 345 (by decide +kernel) (by decide +kernel))
set_option maxRecDepth 100000 in
theorem iwX9_tests : Cond.instanceMethod yX9_tests ∈ zgood := (zmem 350 (by decide +kernel) (by decide +kernel))
set_option maxRecDepth 100000 in
theorem iwX8_set : Cond.instanceMethod yX8_set ∈ zgood := (zmem 354 (by decide +kernel) (by decide +kernel))
set_option maxRecDepth 100000 in
theorem iwX8_beginAnew : Cond.instanceMethod yX8_beginAnew ∈ zgood := (zmem 359 (by decide +kernel) (by decide +kernel))
set_option maxRecDepth 100000 in
theorem iwX9_source : Cond.instanceMethod yX9_source ∈ zgood := (zmem 362 (by decide +kernel) (by decide +kernel))
set_option maxRecDepth 100000 in
theorem iwX8_look : Cond.instanceMethod yX8_look ∈ zgood := (zmem 366 (by decide +kernel) (by decide +kernel))
set_option maxRecDepth 100000 in
theorem iwX9_open : Cond.instanceMethod yX9_open ∈ zgood := (zmem 370 (by decide +kernel) (by decide +kernel))
set_option maxRecDepth 100000 in
theorem iwX9_freeNumber : Cond.instanceMethod yX9_freeNumber ∈ zgood := (zmem 376 (by decide +kernel) (by decide +kernel))
set_option maxRecDepth 100000 in
theorem swX5_strongest : Cond.static yX5_strongest ∈ zgood := (zmem 379 (by decide +kernel) (by decide +kernel))
set_option maxRecDepth 100000 in
theorem swX5_leastStrength : Cond.static yX5_leastStrength ∈ zgood := (zmem 384 (by decide +kernel) (by decide +kernel))
set_option maxRecDepth 100000 in
theorem iwX9_makeGenerator : Cond.instanceMethod yX9_makeGenerator ∈ zgood := (zmem 390 (by decide +kernel) (by decide +kernel))
set_option maxRecDepth 100000 in
theorem iwX4_init : Cond.instanceMethod yX4_init ∈ zgood := (zmem 395 (by decide +kernel) (by decide +kernel))
set_option maxRecDepth 100000 in
theorem iwX5_init : Cond.instanceMethod yX5_init ∈ zgood := (zmem 398 (by decide +kernel) (by decide +kernel))
set_option maxRecDepth 100000 in
theorem swX5_seedLengthOf : Cond.static yX5_seedLengthOf ∈ zgood := (zmem 402 (by decide +kernel) (by decide +kernel))
set_option maxRecDepth 100000 in
theorem swX5_isGreat : Cond.static yX5_isGreat ∈ zgood := (zmem 410 (by decide +kernel) (by decide +kernel))
set_option maxRecDepth 100000 in
theorem iwX2_digestOf : Cond.instanceMethod yX2_digestOf ∈ zgood := (zmem 413 (by decide +kernel) (by decide +kernel))
set_option maxRecDepth 100000 in
theorem iwX6_init : Cond.instanceMethod yX6_init ∈ zgood := (zmem 484 (by decide +kernel) (by decide +kernel))
set_option maxRecDepth 100000 in
theorem iwX1_init : Cond.instanceMethod yX1_init ∈ zgood := (zmem 508 (by decide +kernel) (by decide +kernel))
set_option maxRecDepth 100000 in
theorem iwX9_refusalToSeed : Cond.instanceMethod yX9_refusalToSeed ∈ zgood := (zmem 531 (by decide +kernel) (by decide +kernel))
set_option maxRecDepth 100000 in
theorem iwX5_isTooLong : Cond.instanceMethod yX5_isTooLong ∈ zgood := (zmem 534 (by decide +kernel) (by decide +kernel))
set_option maxRecDepth 100000 in
theorem iwX5_derives : Cond.instanceMethod yX5_derives ∈ zgood := (zmem 541 (by decide +kernel) (by decide +kernel))
set_option maxRecDepth 100000 in
theorem iwX5_demand : Cond.instanceMethod yX5_demand ∈ zgood := (zmem 549 (by decide +kernel) (by decide +kernel))
set_option maxRecDepth 100000 in
theorem iwX5_isNew : Cond.instanceMethod yX5_isNew ∈ zgood := (zmem 556 (by decide +kernel) (by decide +kernel))
set_option maxRecDepth 100000 in
theorem iwX8_give : Cond.instanceMethod yX8_give ∈ zgood := (zmem 563 (by decide +kernel) (by decide +kernel))
set_option maxRecDepth 100000 in
theorem iwX7_becomePart : Cond.instanceMethod yX7_becomePart ∈ zgood := (zmem 567 (by decide +kernel) (by decide +kernel))
set_option maxRecDepth 100000 in
theorem iwX7_appendPart : Cond.instanceMethod yX7_appendPart ∈ zgood := (zmem 571 (by decide +kernel) (by decide +kernel))
set_option maxRecDepth 100000 in
theorem iwX7_dropFirst : Cond.instanceMethod yX7_dropFirst ∈ zgood := (zmem 578 (by decide +kernel) (by decide +kernel))
set_option maxRecDepth 100000 in
theorem iwX1_plant : Cond.instanceMethod yX1_plant ∈ zgood := (zmem 585 (by decide +kernel) (by decide +kernel))
set_option maxRecDepth 100000 in
theorem iwX7_becomeSame : Cond.instanceMethod yX7_becomeSame ∈ zgood := (zmem 592 (by decide +kernel) (by decide +kernel))
set_option maxRecDepth 100000 in
theorem iwX7_appendSame : Cond.instanceMethod yX7_appendSame ∈ zgood := (zmem 596 (by decide +kernel) (by decide +kernel))
set_option maxRecDepth 100000 in
theorem iwX2_join : Cond.instanceMethod yX2_join ∈ zgood := (zmem 604 (by decide +kernel) (by decide +kernel))
set_option maxRecDepth 100000 in
theorem iwX7_appendRow : Cond.instanceMethod yX7_appendRow ∈ zgood := (zmem 609 (by decide +kernel) (by decide +kernel))
set_option maxRecDepth 100000 in
theorem iwX0_stretch : Cond.instanceMethod yX0_stretch ∈ zgood := (zmem 613 (by decide +kernel) (by decide +kernel))
set_option maxRecDepth 100000 in
theorem iwX0_fillText : Cond.instanceMethod yX0_fillText ∈ zgood := (zmem 618 (by decide +kernel) (by decide +kernel))
set_option maxRecDepth 100000 in
theorem iwX0_useKey : Cond.instanceMethod yX0_useKey ∈ zgood := (zmem 627 (by decide +kernel) (by decide +kernel))
set_option maxRecDepth 100000 in
theorem swX0_keyLength : Cond.static yX0_keyLength ∈ zgood := (zmem 631 (by decide +kernel) (by decide +kernel))
set_option maxRecDepth 100000 in
theorem iwX7_copyTo : Cond.instanceMethod yX7_copyTo ∈ zgood := (zmem 634 (by decide +kernel) (by decide +kernel))
set_option maxRecDepth 100000 in
theorem iwX0_extendSchedule : Cond.instanceMethod yX0_extendSchedule ∈ zgood := (zmem 639 (by decide +kernel) (by decide +kernel))
set_option maxRecDepth 100000 in
theorem swX0_twice : Cond.static yX0_twice ∈ zgood := (zmem 644 (by decide +kernel) (by decide +kernel))
set_option maxRecDepth 100000 in
theorem iwX0_chainText : Cond.instanceMethod yX0_chainText ∈ zgood := (zmem 648 (by decide +kernel) (by decide +kernel))
set_option maxRecDepth 100000 in
theorem iwX0_encrypt : Cond.instanceMethod yX0_encrypt ∈ zgood := (zmem 651 (by decide +kernel) (by decide +kernel))
set_option maxRecDepth 100000 in
theorem iwX0_addKey : Cond.instanceMethod yX0_addKey ∈ zgood := (zmem 656 (by decide +kernel) (by decide +kernel))
set_option maxRecDepth 100000 in
theorem iwX0_replaceAndShift : Cond.instanceMethod yX0_replaceAndShift ∈ zgood := (zmem 660 (by decide +kernel) (by decide +kernel))
set_option maxRecDepth 100000 in
theorem iwX0_mixColumns : Cond.instanceMethod yX0_mixColumns ∈ zgood := (zmem 664 (by decide +kernel) (by decide +kernel))
set_option maxRecDepth 100000 in
theorem iwX7_xorPart : Cond.instanceMethod yX7_xorPart ∈ zgood := (zmem 667 (by decide +kernel) (by decide +kernel))
set_option maxRecDepth 100000 in
theorem iwX1_mix : Cond.instanceMethod yX1_mix ∈ zgood := (zmem 676 (by decide +kernel) (by decide +kernel))
set_option maxRecDepth 100000 in
theorem iwX7_plusNumber : Cond.instanceMethod yX7_plusNumber ∈ zgood := (zmem 681 (by decide +kernel) (by decide +kernel))
set_option maxRecDepth 100000 in
theorem iwX5_noteSeeding : Cond.instanceMethod yX5_noteSeeding ∈ zgood := (zmem 690 (by decide +kernel) (by decide +kernel))
set_option maxRecDepth 100000 in
theorem iwX4_plant : Cond.instanceMethod yX4_plant ∈ zgood := (zmem 693 (by decide +kernel) (by decide +kernel))
set_option maxRecDepth 100000 in
theorem iwX4_beginMessage : Cond.instanceMethod yX4_beginMessage ∈ zgood := (zmem 701 (by decide +kernel) (by decide +kernel))
set_option maxRecDepth 100000 in
theorem iwX3_stretch : Cond.instanceMethod yX3_stretch ∈ zgood := (zmem 706 (by decide +kernel) (by decide +kernel))
set_option maxRecDepth 100000 in
theorem iwX7_put : Cond.instanceMethod yX7_put ∈ zgood := (zmem 716 (by decide +kernel) (by decide +kernel))
set_option maxRecDepth 100000 in
theorem iwX3_hash : Cond.instanceMethod yX3_hash ∈ zgood := (zmem 720 (by decide +kernel) (by decide +kernel))
set_option maxRecDepth 100000 in
theorem iwX3_pad : Cond.instanceMethod yX3_pad ∈ zgood := (zmem 726 (by decide +kernel) (by decide +kernel))
set_option maxRecDepth 100000 in
theorem iwX3_spread : Cond.instanceMethod yX3_spread ∈ zgood := (zmem 732 (by decide +kernel) (by decide +kernel))
set_option maxRecDepth 100000 in
theorem iwX3_turned : Cond.instanceMethod yX3_turned ∈ zgood := (zmem 736 (by decide +kernel) (by decide +kernel))
set_option maxRecDepth 100000 in
theorem iwX3_compress : Cond.instanceMethod yX3_compress ∈ zgood := (zmem 740 (by decide +kernel) (by decide +kernel))
set_option maxRecDepth 100000 in
theorem iwX6_plant : Cond.instanceMethod yX6_plant ∈ zgood := (zmem 749 (by decide +kernel) (by decide +kernel))
set_option maxRecDepth 100000 in
theorem iwX6_mix : Cond.instanceMethod yX6_mix ∈ zgood := (zmem 758 (by decide +kernel) (by decide +kernel))
set_option maxRecDepth 100000 in
theorem iwX3_keyed : Cond.instanceMethod yX3_keyed ∈ zgood := (zmem 765 (by decide +kernel) (by decide +kernel))
set_option maxRecDepth 100000 in
theorem iwX3_beginWithKey : Cond.instanceMethod yX3_beginWithKey ∈ zgood := (zmem 770 (by decide +kernel) (by decide +kernel))
set_option maxRecDepth 100000 in
theorem iwX9_close : Cond.instanceMethod yX9_close ∈ zgood := (zmem 777 (by decide +kernel) (by decide +kernel))
set_option maxRecDepth 100000 in
theorem iwX9_openOne : Cond.instanceMethod yX9_openOne ∈ zgood := (zmem 782 (by decide +kernel) (by decide +kernel))
set_option maxRecDepth 100000 in
theorem iwX5_wipe : Cond.instanceMethod yX5_wipe ∈ zgood := (zmem 785 (by decide +kernel) (by decide +kernel))
set_option maxRecDepth 100000 in
theorem iwX9_reseed : Cond.instanceMethod yX9_reseed ∈ zgood := (zmem 793 (by decide +kernel) (by decide +kernel))
set_option maxRecDepth 100000 in
theorem iwX9_draw : Cond.instanceMethod yX9_draw ∈ zgood := (zmem 797 (by decide +kernel) (by decide +kernel))
set_option maxRecDepth 100000 in
theorem iwX5_isDue : Cond.instanceMethod yX5_isDue ∈ zgood := (zmem 801 (by decide +kernel) (by decide +kernel))
set_option maxRecDepth 100000 in
theorem iwX1_produce : Cond.instanceMethod yX1_produce ∈ zgood := (zmem 811 (by decide +kernel) (by decide +kernel))
set_option maxRecDepth 100000 in
theorem iwX5_noteDrawing : Cond.instanceMethod yX5_noteDrawing ∈ zgood := (zmem 819 (by decide +kernel) (by decide +kernel))
set_option maxRecDepth 100000 in
theorem iwX4_produce : Cond.instanceMethod yX4_produce ∈ zgood := (zmem 822 (by decide +kernel) (by decide +kernel))
set_option maxRecDepth 100000 in
theorem iwX4_addDigest : Cond.instanceMethod yX4_addDigest ∈ zgood := (zmem 827 (by decide +kernel) (by decide +kernel))
set_option maxRecDepth 100000 in
theorem iwX7_plusRow : Cond.instanceMethod yX7_plusRow ∈ zgood := (zmem 831 (by decide +kernel) (by decide +kernel))
set_option maxRecDepth 100000 in
theorem iwX5_count : Cond.instanceMethod yX5_count ∈ zgood := (zmem 841 (by decide +kernel) (by decide +kernel))
set_option maxRecDepth 100000 in
theorem iwX6_produce : Cond.instanceMethod yX6_produce ∈ zgood := (zmem 847 (by decide +kernel) (by decide +kernel))
set_option maxRecDepth 100000 in
theorem iwX9_drawn : Cond.instanceMethod yX9_drawn ∈ zgood := (zmem 854 (by decide +kernel) (by decide +kernel))
set_option maxRecDepth 100000 in
theorem iwX9_generator : Cond.instanceMethod yX9_generator ∈ zgood := (zmem 859 (by decide +kernel) (by decide +kernel))
set_option maxRecDepth 100000 in
theorem iwX5_look : Cond.instanceMethod yX5_look ∈ zgood := (zmem 863 (by decide +kernel) (by decide +kernel))
set_option maxRecDepth 100000 in
theorem iwX9_state : Cond.instanceMethod yX9_state ∈ zgood := (zmem 870 (by decide +kernel) (by decide +kernel))
set_option maxRecDepth 100000 in
theorem iwX9_digest : Cond.instanceMethod yX9_digest ∈ zgood := (zmem 874 (by decide +kernel) (by decide +kernel))
set_option maxRecDepth 100000 in
theorem iwX9_cipher : Cond.instanceMethod yX9_cipher ∈ zgood := (zmem 880 (by decide +kernel) (by decide +kernel))
set_option maxRecDepth 100000 in
theorem iwX2_divide : Cond.instanceMethod yX2_divide ∈ zgood := (zmem 885 (by decide +kernel) (by decide +kernel))
set_option maxRecDepth 100000 in
theorem iwX9_mac : Cond.instanceMethod yX9_mac ∈ zgood := (zmem 893 (by decide +kernel) (by decide +kernel))
set_option maxRecDepth 100000 in
theorem iwX9_derive : Cond.instanceMethod yX9_derive ∈ zgood := (zmem 898 (by decide +kernel) (by decide +kernel))
set_option maxRecDepth 100000 in
theorem iwX9_size : Cond.instanceMethod yX9_size ∈ zgood := (zmem 904 (by decide +kernel) (by decide +kernel))
set_option maxRecDepth 100000 in
theorem iwX11_init : Cond.instanceMethod yX11_init ∈ zgood := (zmem 910 (by decide +kernel) (by decide +kernel))
set_option maxRecDepth 100000 in
theorem iwX10_init : Cond.instanceMethod yX10_init ∈ zgood := (zmem 917 (by decide +kernel) (by decide +kernel))
set_option maxRecDepth 100000 in
theorem swX11_isPrime : Cond.static yX11_isPrime ∈ zgood := (zmem 956 (by decide +kernel) (by decide +kernel))
set_option maxRecDepth 100000 in
theorem iwX11_root : Cond.instanceMethod yX11_root ∈ zgood := (zmem 960 (by decide +kernel) (by decide +kernel))
set_option maxRecDepth 100000 in
theorem iwX11_isBeyond : Cond.instanceMethod yX11_isBeyond ∈ zgood := (zmem 964 (by decide +kernel) (by decide +kernel))
set_option maxRecDepth 100000 in
theorem swX11_boxed : Cond.static yX11_boxed ∈ zgood := (zmem 968 (by decide +kernel) (by decide +kernel))
set_option maxRecDepth 100000 in
theorem swX11_times : Cond.static yX11_times ∈ zgood := (zmem 971 (by decide +kernel) (by decide +kernel))
set_option maxRecDepth 100000 in
theorem iwX11_feed : Cond.instanceMethod yX11_feed ∈ zgood := (zmem 1113 (by decide +kernel) (by decide +kernel))
set_option maxRecDepth 100000 in
theorem swX11_number : Cond.static yX11_number ∈ zgood := (zmem 1117 (by decide +kernel) (by decide +kernel))
set_option maxRecDepth 100000 in
theorem iwX11_end : Cond.instanceMethod yX11_end ∈ zgood := (zmem 1120 (by decide +kernel) (by decide +kernel))
set_option maxRecDepth 100000 in
theorem swX11_in : Cond.static yX11_in ∈ zgood := (zmem 1124 (by decide +kernel) (by decide +kernel))
set_option maxRecDepth 100000 in
theorem iwX11_supply : Cond.instanceMethod yX11_supply ∈ zgood := (zmem 1127 (by decide +kernel) (by decide +kernel))
set_option maxRecDepth 100000 in
theorem iwX11_comes : Cond.instanceMethod yX11_comes ∈ zgood := (zmem 1132 (by decide +kernel) (by decide +kernel))
set_option maxRecDepth 100000 in
theorem iwX11_tests : Cond.instanceMethod yX11_tests ∈ zgood := (zmem 1135 (by decide +kernel) (by decide +kernel))
set_option maxRecDepth 100000 in
theorem iwX11_source : Cond.instanceMethod yX11_source ∈ zgood := (zmem 1139 (by decide +kernel) (by decide +kernel))
set_option maxRecDepth 100000 in
theorem iwX11_open : Cond.instanceMethod yX11_open ∈ zgood := (zmem 1143 (by decide +kernel) (by decide +kernel))
set_option maxRecDepth 100000 in
theorem swX11_isTooLong : Cond.static yX11_isTooLong ∈ zgood := (zmem 1148 (by decide +kernel) (by decide +kernel))
set_option maxRecDepth 100000 in
theorem iwX10_seed : Cond.instanceMethod yX10_seed ∈ zgood := (zmem 1151 (by decide +kernel) (by decide +kernel))
set_option maxRecDepth 100000 in
theorem iwX10_isGreat : Cond.instanceMethod yX10_isGreat ∈ zgood := (zmem 1155 (by decide +kernel) (by decide +kernel))
set_option maxRecDepth 100000 in
theorem swX11_sizeOf : Cond.static yX11_sizeOf ∈ zgood := (zmem 1159 (by decide +kernel) (by decide +kernel))
set_option maxRecDepth 100000 in
theorem iwX10_keySize : Cond.instanceMethod yX10_keySize ∈ zgood := (zmem 1162 (by decide +kernel) (by decide +kernel))
set_option maxRecDepth 100000 in
theorem iwX10_fresh : Cond.instanceMethod yX10_fresh ∈ zgood := (zmem 1166 (by decide +kernel) (by decide +kernel))
set_option maxRecDepth 100000 in
theorem iwX11_seed : Cond.instanceMethod yX11_seed ∈ zgood := (zmem 1172 (by decide +kernel) (by decide +kernel))
set_option maxRecDepth 100000 in
theorem iwX11_take : Cond.instanceMethod yX11_take ∈ zgood := (zmem 1176 (by decide +kernel) (by decide +kernel))
set_option maxRecDepth 100000 in
theorem iwX11_seedDigest : Cond.instanceMethod yX11_seedDigest ∈ zgood := (zmem 1180 (by decide +kernel) (by decide +kernel))
set_option maxRecDepth 100000 in
theorem iwX11_begin : Cond.instanceMethod yX11_begin ∈ zgood := (zmem 1184 (by decide +kernel) (by decide +kernel))
set_option maxRecDepth 100000 in
theorem iwX11_put : Cond.instanceMethod yX11_put ∈ zgood := (zmem 1188 (by decide +kernel) (by decide +kernel))
set_option maxRecDepth 100000 in
theorem iwX11_put_ : Cond.instanceMethod yX11_put_ ∈ zgood := (zmem 1192 (by decide +kernel) (by decide +kernel))
set_option maxRecDepth 100000 in
theorem iwX11_derive : Cond.instanceMethod yX11_derive ∈ zgood := (zmem 1197 (by decide +kernel) (by decide +kernel))
set_option maxRecDepth 100000 in
theorem iwX11_digest : Cond.instanceMethod yX11_digest ∈ zgood := (zmem 1202 (by decide +kernel) (by decide +kernel))
set_option maxRecDepth 100000 in
theorem iwX11_round : Cond.instanceMethod yX11_round ∈ zgood := (zmem 1206 (by decide +kernel) (by decide +kernel))
set_option maxRecDepth 100000 in
theorem swX11_mixed : Cond.static yX11_mixed ∈ zgood := (zmem 1209 (by decide +kernel) (by decide +kernel))
set_option maxRecDepth 100000 in
theorem swX11_turned : Cond.static yX11_turned ∈ zgood := (zmem 1214 (by decide +kernel) (by decide +kernel))
set_option maxRecDepth 100000 in
theorem swX11_cut : Cond.static yX11_cut ∈ zgood := (zmem 1218 (by decide +kernel) (by decide +kernel))
set_option maxRecDepth 100000 in
theorem iwX11_mixMac : Cond.instanceMethod yX11_mixMac ∈ zgood := (zmem 1224 (by decide +kernel) (by decide +kernel))
set_option maxRecDepth 100000 in
theorem iwX11_mac : Cond.instanceMethod yX11_mac ∈ zgood := (zmem 1228 (by decide +kernel) (by decide +kernel))
set_option maxRecDepth 100000 in
theorem iwX11_step : Cond.instanceMethod yX11_step ∈ zgood := (zmem 1232 (by decide +kernel) (by decide +kernel))
set_option maxRecDepth 100000 in
theorem iwX11_seedCounter : Cond.instanceMethod yX11_seedCounter ∈ zgood := (zmem 1236 (by decide +kernel) (by decide +kernel))
set_option maxRecDepth 100000 in
theorem iwX11_deriveE : Cond.instanceMethod yX11_deriveE ∈ zgood := (zmem 1241 (by decide +kernel) (by decide +kernel))
set_option maxRecDepth 100000 in
theorem iwX11_cipher : Cond.instanceMethod yX11_cipher ∈ zgood := (zmem 1245 (by decide +kernel) (by decide +kernel))
set_option maxRecDepth 100000 in
theorem iwX11_spread : Cond.instanceMethod yX11_spread ∈ zgood := (zmem 1249 (by decide +kernel) (by decide +kernel))
set_option maxRecDepth 100000 in
theorem iwX11_mixCounter : Cond.instanceMethod yX11_mixCounter ∈ zgood := (zmem 1253 (by decide +kernel) (by decide +kernel))
set_option maxRecDepth 100000 in
theorem iwX11_blockNext : Cond.instanceMethod yX11_blockNext ∈ zgood := (zmem 1257 (by decide +kernel) (by decide +kernel))
set_option maxRecDepth 100000 in
theorem iwX11_addsNumber : Cond.instanceMethod yX11_addsNumber ∈ zgood := (zmem 1261 (by decide +kernel) (by decide +kernel))
set_option maxRecDepth 100000 in
theorem swX11_adds : Cond.static yX11_adds ∈ zgood := (zmem 1264 (by decide +kernel) (by decide +kernel))
set_option maxRecDepth 100000 in
theorem iwX11_close : Cond.instanceMethod yX11_close ∈ zgood := (zmem 1267 (by decide +kernel) (by decide +kernel))
set_option maxRecDepth 100000 in
theorem iwX11_isThere : Cond.instanceMethod yX11_isThere ∈ zgood := (zmem 1272 (by decide +kernel) (by decide +kernel))
set_option maxRecDepth 100000 in
theorem iwX11_reseed : Cond.instanceMethod yX11_reseed ∈ zgood := (zmem 1275 (by decide +kernel) (by decide +kernel))
set_option maxRecDepth 100000 in
theorem iwX11_draw : Cond.instanceMethod yX11_draw ∈ zgood := (zmem 1279 (by decide +kernel) (by decide +kernel))
set_option maxRecDepth 100000 in
theorem iwX11_drawDigest : Cond.instanceMethod yX11_drawDigest ∈ zgood := (zmem 1284 (by decide +kernel) (by decide +kernel))
set_option maxRecDepth 100000 in
theorem iwX11_drawMac : Cond.instanceMethod yX11_drawMac ∈ zgood := (zmem 1288 (by decide +kernel) (by decide +kernel))
set_option maxRecDepth 100000 in
theorem iwX11_drawCounter : Cond.instanceMethod yX11_drawCounter ∈ zgood := (zmem 1292 (by decide +kernel) (by decide +kernel))
set_option maxRecDepth 100000 in
theorem iwX11_drawn : Cond.instanceMethod yX11_drawn ∈ zgood := (zmem 1295 (by decide +kernel) (by decide +kernel))
set_option maxRecDepth 100000 in
theorem iwX11_generator : Cond.instanceMethod yX11_generator ∈ zgood := (zmem 1299 (by decide +kernel) (by decide +kernel))
set_option maxRecDepth 100000 in
theorem iwX11_state : Cond.instanceMethod yX11_state ∈ zgood := (zmem 1303 (by decide +kernel) (by decide +kernel))
set_option maxRecDepth 100000 in
theorem iwX10_vSize : Cond.instanceMethod yX10_vSize ∈ zgood := (zmem 1307 (by decide +kernel) (by decide +kernel))
set_option maxRecDepth 100000 in
theorem iwX10_cSize : Cond.instanceMethod yX10_cSize ∈ zgood := (zmem 1311 (by decide +kernel) (by decide +kernel))
set_option maxRecDepth 100000 in
theorem iwX11_digest_ : Cond.instanceMethod yX11_digest_ ∈ zgood := (zmem 1315 (by decide +kernel) (by decide +kernel))
set_option maxRecDepth 100000 in
theorem iwX11_show : Cond.instanceMethod yX11_show ∈ zgood := (zmem 1320 (by decide +kernel) (by decide +kernel))
set_option maxRecDepth 100000 in
theorem iwX11_cipher_ : Cond.instanceMethod yX11_cipher_ ∈ zgood := (zmem 1323 (by decide +kernel) (by decide +kernel))
set_option maxRecDepth 100000 in
theorem iwX11_mac_ : Cond.instanceMethod yX11_mac_ ∈ zgood := (zmem 1327 (by decide +kernel) (by decide +kernel))
set_option maxRecDepth 100000 in
theorem iwX11_derive_ : Cond.instanceMethod yX11_derive_ ∈ zgood := (zmem 1331 (by decide +kernel) (by decide +kernel))
set_option maxRecDepth 100000 in
theorem iwX11_size : Cond.instanceMethod yX11_size ∈ zgood := (zmem 1335 (by decide +kernel) (by decide +kernel))
set_option maxRecDepth 100000 in
theorem ziRL : Cond.initialized RL ∈ zgood := (zmem 51 (by decide +kernel) (by decide +kernel))
set_option maxRecDepth 100000 in
theorem ziRX9 : Cond.initialized RX9 ∈ zgood := (zmem 52 (by decide +kernel) (by decide +kernel))
set_option maxRecDepth 100000 in
theorem ziRX7 : Cond.initialized RX7 ∈ zgood := (zmem 53 (by decide +kernel) (by decide +kernel))
set_option maxRecDepth 100000 in
theorem ziRX8 : Cond.initialized RX8 ∈ zgood := (zmem 55 (by decide +kernel) (by decide +kernel))
set_option maxRecDepth 100000 in
theorem ziRX2 : Cond.initialized RX2 ∈ zgood := (zmem 56 (by decide +kernel) (by decide +kernel))
set_option maxRecDepth 100000 in
theorem ziRX0 : Cond.initialized RX0 ∈ zgood := (zmem 57 (by decide +kernel) (by decide +kernel))
set_option maxRecDepth 100000 in
theorem ziRX3 : Cond.initialized RX3 ∈ zgood := (zmem 58 (by decide +kernel) (by decide +kernel))
set_option maxRecDepth 100000 in
theorem ziRX11 : Cond.initialized RX11 ∈ zgood := (zmem 59 (by decide +kernel) (by decide +kernel))
set_option maxRecDepth 100000 in
theorem ziRX10 : Cond.initialized RX10 ∈ zgood := (zmem 60 (by decide +kernel) (by decide +kernel))
set_option maxRecDepth 100000 in
theorem ziRX5 : Cond.initialized RX5 ∈ zgood := (zmem 61 (by decide +kernel) (by decide +kernel))
set_option maxRecDepth 100000 in
theorem ziRX4 : Cond.initialized RX4 ∈ zgood := (zmem 62 (by decide +kernel) (by decide +kernel))
set_option maxRecDepth 100000 in
theorem ziRX6 : Cond.initialized RX6 ∈ zgood := (zmem 63 (by decide +kernel) (by decide +kernel))
set_option maxRecDepth 100000 in
theorem ziRX1 : Cond.initialized RX1 ∈ zgood := (zmem 64 (by decide +kernel) (by decide +kernel))
set_option maxRecDepth 100000 in
theorem nL_7 : znP RL 7 8 [.null, .null, .null, .null, .null] := ⟨_, _, _, rfl, rfl, (zmem 65 (by decide +kernel) (by decide +kernel)), (by decide +kernel)⟩
set_option maxRecDepth 100000 in
theorem cL_9 : ziP RL 9 mX9_init 0 := ⟨kX9_init, (zmem 67 (by decide +kernel) (by decide +kernel)), iwX9_init, ziRX9, rfl⟩
set_option maxRecDepth 100000 in
theorem nL_10 : znP RL 10 10 [.int 0, .null, .null, .null, .null, .null, .null, .null, .null, .null, .null, .null, .null, .null, .null, .null, .null, .null, .null, .null, .null, .int 0, .int 0, .int 0, .int 0, .int 0, .int 0, .int 0, .int 0, .int 0, .int 0, .int 0, .int 0, .null, .null, .null, .int 0, .null, .null, .null, .null, .null, .null, .int 0, .null, .int 0] := ⟨_, _, _, rfl, rfl, (zmem 907 (by decide +kernel) (by decide +kernel)), (by decide +kernel)⟩
set_option maxRecDepth 100000 in
theorem cL_12 : ziP RL 12 mX11_init 0 := ⟨kX11_init, (zmem 909 (by decide +kernel) (by decide +kernel)), iwX11_init, ziRX11, rfl⟩
set_option maxRecDepth 100000 in
theorem cL_13 : zvP RL 13 mX9_feed 5 := ⟨kX9_feed, (zmem 283 (by decide +kernel) (by decide +kernel)), iwX9_feed, (zmem 285 (by decide +kernel) (by decide +kernel)), ziRX9⟩
set_option maxRecDepth 100000 in
theorem cL_17 : zvP RL 17 mX11_feed 5 := ⟨kX11_feed, (zmem 1112 (by decide +kernel) (by decide +kernel)), iwX11_feed, (zmem 1114 (by decide +kernel) (by decide +kernel)), ziRX11⟩
set_option maxRecDepth 100000 in
theorem cL_18 : zvP RL 18 mX9_end 1 := ⟨kX9_end, (zmem 295 (by decide +kernel) (by decide +kernel)), iwX9_end, (zmem 297 (by decide +kernel) (by decide +kernel)), ziRX9⟩
set_option maxRecDepth 100000 in
theorem cL_22 : zvP RL 22 mX11_end 1 := ⟨kX11_end, (zmem 1119 (by decide +kernel) (by decide +kernel)), iwX11_end, (zmem 1121 (by decide +kernel) (by decide +kernel)), ziRX11⟩
set_option maxRecDepth 100000 in
theorem cL_23 : zvP RL 23 mX9_supply 0 := ⟨kX9_supply, (zmem 303 (by decide +kernel) (by decide +kernel)), iwX9_supply, (zmem 305 (by decide +kernel) (by decide +kernel)), ziRX9⟩
set_option maxRecDepth 100000 in
theorem cL_27 : zvP RL 27 mX11_supply 0 := ⟨kX11_supply, (zmem 1126 (by decide +kernel) (by decide +kernel)), iwX11_supply, (zmem 1128 (by decide +kernel) (by decide +kernel)), ziRX11⟩
set_option maxRecDepth 100000 in
theorem cL_28 : zvP RL 28 mX9_tests 3 := ⟨kX9_tests, (zmem 349 (by decide +kernel) (by decide +kernel)), iwX9_tests, (zmem 351 (by decide +kernel) (by decide +kernel)), ziRX9⟩
set_option maxRecDepth 100000 in
theorem cL_32 : zvP RL 32 mX11_tests 3 := ⟨kX11_tests, (zmem 1134 (by decide +kernel) (by decide +kernel)), iwX11_tests, (zmem 1136 (by decide +kernel) (by decide +kernel)), ziRX11⟩
set_option maxRecDepth 100000 in
theorem cL_33 : zvP RL 33 mX9_source 1 := ⟨kX9_source, (zmem 361 (by decide +kernel) (by decide +kernel)), iwX9_source, (zmem 363 (by decide +kernel) (by decide +kernel)), ziRX9⟩
set_option maxRecDepth 100000 in
theorem cL_36 : zvP RL 36 mX11_source 1 := ⟨kX11_source, (zmem 1138 (by decide +kernel) (by decide +kernel)), iwX11_source, (zmem 1140 (by decide +kernel) (by decide +kernel)), ziRX11⟩
set_option maxRecDepth 100000 in
theorem cL_37 : zvP RL 37 mX9_open 4 := ⟨kX9_open, (zmem 369 (by decide +kernel) (by decide +kernel)), iwX9_open, (zmem 371 (by decide +kernel) (by decide +kernel)), ziRX9⟩
set_option maxRecDepth 100000 in
theorem cL_41 : zvP RL 41 mX11_open 4 := ⟨kX11_open, (zmem 1142 (by decide +kernel) (by decide +kernel)), iwX11_open, (zmem 1144 (by decide +kernel) (by decide +kernel)), ziRX11⟩
set_option maxRecDepth 100000 in
theorem cL_42 : zvP RL 42 mX9_close 1 := ⟨kX9_close, (zmem 776 (by decide +kernel) (by decide +kernel)), iwX9_close, (zmem 778 (by decide +kernel) (by decide +kernel)), ziRX9⟩
set_option maxRecDepth 100000 in
theorem cL_46 : zvP RL 46 mX11_close 1 := ⟨kX11_close, (zmem 1266 (by decide +kernel) (by decide +kernel)), iwX11_close, (zmem 1268 (by decide +kernel) (by decide +kernel)), ziRX11⟩
set_option maxRecDepth 100000 in
theorem cL_47 : zvP RL 47 mX9_reseed 2 := ⟨kX9_reseed, (zmem 792 (by decide +kernel) (by decide +kernel)), iwX9_reseed, (zmem 794 (by decide +kernel) (by decide +kernel)), ziRX9⟩
set_option maxRecDepth 100000 in
theorem cL_51 : zvP RL 51 mX11_reseed 2 := ⟨kX11_reseed, (zmem 1274 (by decide +kernel) (by decide +kernel)), iwX11_reseed, (zmem 1276 (by decide +kernel) (by decide +kernel)), ziRX11⟩
set_option maxRecDepth 100000 in
theorem cL_52 : zvP RL 52 mX9_draw 4 := ⟨kX9_draw, (zmem 796 (by decide +kernel) (by decide +kernel)), iwX9_draw, (zmem 798 (by decide +kernel) (by decide +kernel)), ziRX9⟩
set_option maxRecDepth 100000 in
theorem cL_56 : zvP RL 56 mX11_draw 4 := ⟨kX11_draw, (zmem 1278 (by decide +kernel) (by decide +kernel)), iwX11_draw, (zmem 1280 (by decide +kernel) (by decide +kernel)), ziRX11⟩
set_option maxRecDepth 100000 in
theorem cL_57 : zvP RL 57 mX9_drawn 1 := ⟨kX9_drawn, (zmem 853 (by decide +kernel) (by decide +kernel)), iwX9_drawn, (zmem 855 (by decide +kernel) (by decide +kernel)), ziRX9⟩
set_option maxRecDepth 100000 in
theorem cL_60 : zvP RL 60 mX11_drawn 1 := ⟨kX11_drawn, (zmem 1294 (by decide +kernel) (by decide +kernel)), iwX11_drawn, (zmem 1296 (by decide +kernel) (by decide +kernel)), ziRX11⟩
set_option maxRecDepth 100000 in
theorem cL_61 : zvP RL 61 mX9_generator 2 := ⟨kX9_generator, (zmem 858 (by decide +kernel) (by decide +kernel)), iwX9_generator, (zmem 860 (by decide +kernel) (by decide +kernel)), ziRX9⟩
set_option maxRecDepth 100000 in
theorem cL_65 : zvP RL 65 mX11_generator 2 := ⟨kX11_generator, (zmem 1298 (by decide +kernel) (by decide +kernel)), iwX11_generator, (zmem 1300 (by decide +kernel) (by decide +kernel)), ziRX11⟩
set_option maxRecDepth 100000 in
theorem cL_66 : zvP RL 66 mX9_state 3 := ⟨kX9_state, (zmem 869 (by decide +kernel) (by decide +kernel)), iwX9_state, (zmem 871 (by decide +kernel) (by decide +kernel)), ziRX9⟩
set_option maxRecDepth 100000 in
theorem cL_70 : zvP RL 70 mX11_state 3 := ⟨kX11_state, (zmem 1302 (by decide +kernel) (by decide +kernel)), iwX11_state, (zmem 1304 (by decide +kernel) (by decide +kernel)), ziRX11⟩
set_option maxRecDepth 100000 in
theorem cL_71 : zvP RL 71 mX9_digest 1 := ⟨kX9_digest, (zmem 873 (by decide +kernel) (by decide +kernel)), iwX9_digest, (zmem 875 (by decide +kernel) (by decide +kernel)), ziRX9⟩
set_option maxRecDepth 100000 in
theorem cL_75 : zvP RL 75 mX11_digest_ 1 := ⟨kX11_digest_, (zmem 1314 (by decide +kernel) (by decide +kernel)), iwX11_digest_, (zmem 1316 (by decide +kernel) (by decide +kernel)), ziRX11⟩
set_option maxRecDepth 100000 in
theorem cL_76 : zvP RL 76 mX9_cipher 1 := ⟨kX9_cipher, (zmem 879 (by decide +kernel) (by decide +kernel)), iwX9_cipher, (zmem 881 (by decide +kernel) (by decide +kernel)), ziRX9⟩
set_option maxRecDepth 100000 in
theorem cL_80 : zvP RL 80 mX11_cipher_ 1 := ⟨kX11_cipher_, (zmem 1322 (by decide +kernel) (by decide +kernel)), iwX11_cipher_, (zmem 1324 (by decide +kernel) (by decide +kernel)), ziRX11⟩
set_option maxRecDepth 100000 in
theorem cL_81 : zvP RL 81 mX9_mac 1 := ⟨kX9_mac, (zmem 892 (by decide +kernel) (by decide +kernel)), iwX9_mac, (zmem 894 (by decide +kernel) (by decide +kernel)), ziRX9⟩
set_option maxRecDepth 100000 in
theorem cL_84 : zvP RL 84 mX11_mac_ 1 := ⟨kX11_mac_, (zmem 1326 (by decide +kernel) (by decide +kernel)), iwX11_mac_, (zmem 1328 (by decide +kernel) (by decide +kernel)), ziRX11⟩
set_option maxRecDepth 100000 in
theorem cL_85 : zvP RL 85 mX9_derive 2 := ⟨kX9_derive, (zmem 897 (by decide +kernel) (by decide +kernel)), iwX9_derive, (zmem 899 (by decide +kernel) (by decide +kernel)), ziRX9⟩
set_option maxRecDepth 100000 in
theorem cL_89 : zvP RL 89 mX11_derive_ 2 := ⟨kX11_derive_, (zmem 1330 (by decide +kernel) (by decide +kernel)), iwX11_derive_, (zmem 1332 (by decide +kernel) (by decide +kernel)), ziRX11⟩
set_option maxRecDepth 100000 in
theorem cL_90 : zvP RL 90 mX9_size 0 := ⟨kX9_size, (zmem 903 (by decide +kernel) (by decide +kernel)), iwX9_size, (zmem 905 (by decide +kernel) (by decide +kernel)), ziRX9⟩
set_option maxRecDepth 100000 in
theorem cL_93 : zvP RL 93 mX11_size 0 := ⟨kX11_size, (zmem 1334 (by decide +kernel) (by decide +kernel)), iwX11_size, (zmem 1336 (by decide +kernel) (by decide +kernel)), ziRX11⟩
set_option maxRecDepth 100000 in
theorem gX0_13_0 : zgP RX0 13 0 1 := ⟨_, _, _, "BitWell$Cipher", rfl, (by decide +kernel), (zmem 153 (by decide +kernel) (by decide +kernel)), Or.inl rfl⟩
set_option maxRecDepth 100000 in
theorem gX0_9_0 : zgP RX0 9 0 0 := ⟨_, _, _, "BitWell$Cipher", rfl, (by decide +kernel), (zmem 152 (by decide +kernel) (by decide +kernel)), Or.inl rfl⟩
set_option maxRecDepth 100000 in
theorem gX0_40_0 : zgP RX0 40 0 7 := ⟨_, _, _, "BitWell$Cipher", rfl, (by decide +kernel), (zmem 159 (by decide +kernel) (by decide +kernel)), Or.inl rfl⟩
set_option maxRecDepth 100000 in
theorem cX0_75 : zvP RX0 75 mX7_clear 0 := ⟨kX7_clear, (zmem 620 (by decide +kernel) (by decide +kernel)), iwX7_clear, (zmem 342 (by decide +kernel) (by decide +kernel)), ziRX7⟩
set_option maxRecDepth 100000 in
theorem cX0_106 : zvP RX0 106 mX7_appendNumber 2 := ⟨kX7_appendNumber, (zmem 622 (by decide +kernel) (by decide +kernel)), iwX7_appendNumber, (zmem 293 (by decide +kernel) (by decide +kernel)), ziRX7⟩
set_option maxRecDepth 100000 in
theorem cX0_110 : zvP RX0 110 mX7_appendSame 2 := ⟨kX7_appendSame, (zmem 625 (by decide +kernel) (by decide +kernel)), iwX7_appendSame, (zmem 597 (by decide +kernel) (by decide +kernel)), ziRX7⟩
set_option maxRecDepth 100000 in
theorem cX0_99 : zvP RX0 99 mX0_encrypt 2 := ⟨kX0_encrypt, (zmem 650 (by decide +kernel) (by decide +kernel)), iwX0_encrypt, (zmem 652 (by decide +kernel) (by decide +kernel)), ziRX0⟩
set_option maxRecDepth 100000 in
theorem gX0_30_0 : zgP RX0 30 0 4 := ⟨_, _, _, "BitWell$Cipher", rfl, (by decide +kernel), (zmem 156 (by decide +kernel) (by decide +kernel)), Or.inl rfl⟩
set_option maxRecDepth 100000 in
theorem cX0_43 : zvP RX0 43 mX7_length 0 := ⟨kX7_length, (zmem 621 (by decide +kernel) (by decide +kernel)), iwX7_length, (zmem 289 (by decide +kernel) (by decide +kernel)), ziRX7⟩
set_option maxRecDepth 100000 in
theorem cX0_114 : zvP RX0 114 mX7_xorPart 2 := ⟨kX7_xorPart, (zmem 666 (by decide +kernel) (by decide +kernel)), iwX7_xorPart, (zmem 668 (by decide +kernel) (by decide +kernel)), ziRX7⟩
set_option maxRecDepth 100000 in
theorem cX0_51 : zvP RX0 51 mX7_copyTo 2 := ⟨kX7_copyTo, (zmem 633 (by decide +kernel) (by decide +kernel)), iwX7_copyTo, (zmem 635 (by decide +kernel) (by decide +kernel)), ziRX7⟩
set_option maxRecDepth 100000 in
theorem cX0_66 : zvP RX0 66 mX0_addKey 1 := ⟨kX0_addKey, (zmem 654 (by decide +kernel) (by decide +kernel)), iwX0_addKey, (zmem 11 (by decide +kernel) (by decide +kernel)), ziRX0⟩
set_option maxRecDepth 100000 in
theorem gX0_19_0 : zgP RX0 19 0 3 := ⟨_, _, _, "BitWell$Cipher", rfl, (by decide +kernel), (zmem 155 (by decide +kernel) (by decide +kernel)), Or.inl rfl⟩
set_option maxRecDepth 100000 in
theorem cX0_69 : zvP RX0 69 mX0_replaceAndShift 0 := ⟨kX0_replaceAndShift, (zmem 658 (by decide +kernel) (by decide +kernel)), iwX0_replaceAndShift, (zmem 12 (by decide +kernel) (by decide +kernel)), ziRX0⟩
set_option maxRecDepth 100000 in
theorem cX0_72 : zvP RX0 72 mX0_mixColumns 0 := ⟨kX0_mixColumns, (zmem 662 (by decide +kernel) (by decide +kernel)), iwX0_mixColumns, (zmem 13 (by decide +kernel) (by decide +kernel)), ziRX0⟩
set_option maxRecDepth 100000 in
theorem gX0_16_0 : zgP RX0 16 0 2 := ⟨_, _, _, "BitWell$Cipher", rfl, (by decide +kernel), (zmem 154 (by decide +kernel) (by decide +kernel)), Or.inl rfl⟩
set_option maxRecDepth 100000 in
theorem cX0_78 : zvP RX0 78 mX7_append 1 := ⟨kX7_append, (zmem 624 (by decide +kernel) (by decide +kernel)), iwX7_append, (zmem 346 (by decide +kernel) (by decide +kernel)), ziRX7⟩
set_option maxRecDepth 100000 in
theorem sX0_63 : zsP RX0 63 1 := ⟨"BitWell$Cipher", "BOX", "[I", (zmem 641 (by decide +kernel) (by decide +kernel)), (by decide +kernel), (by decide +kernel)⟩
set_option maxRecDepth 100000 in
theorem cX0_92 : zvP RX0 92 mX7_appendRow 1 := ⟨kX7_appendRow, (zmem 623 (by decide +kernel) (by decide +kernel)), iwX7_appendRow, (zmem 610 (by decide +kernel) (by decide +kernel)), ziRX7⟩
set_option maxRecDepth 100000 in
theorem cX0_1 : Cond.methodLink RX0 1 Lib.objectInit ∈ zgood := (zmem 149 (by decide +kernel) (by decide +kernel))
set_option maxRecDepth 100000 in
theorem pX0_9_0 : zfP RX0 9 0 0 (.array .int) true := ⟨_, _, _, "BitWell$Cipher", rfl, (by decide +kernel), (zmem 152 (by decide +kernel) (by decide +kernel)), Or.inl rfl, (by decide +kernel), rfl, fun _ => rfl⟩
set_option maxRecDepth 100000 in
theorem pX0_13_0 : zfP RX0 13 0 1 (.array .int) true := ⟨_, _, _, "BitWell$Cipher", rfl, (by decide +kernel), (zmem 153 (by decide +kernel) (by decide +kernel)), Or.inl rfl, (by decide +kernel), rfl, fun _ => rfl⟩
set_option maxRecDepth 100000 in
theorem pX0_16_0 : zfP RX0 16 0 2 (.array .int) true := ⟨_, _, _, "BitWell$Cipher", rfl, (by decide +kernel), (zmem 154 (by decide +kernel) (by decide +kernel)), Or.inl rfl, (by decide +kernel), rfl, fun _ => rfl⟩
set_option maxRecDepth 100000 in
theorem pX0_19_0 : zfP RX0 19 0 3 .int false := ⟨_, _, _, "BitWell$Cipher", rfl, (by decide +kernel), (zmem 155 (by decide +kernel) (by decide +kernel)), Or.inl rfl, (by decide +kernel), rfl, fun e => by cases e⟩
set_option maxRecDepth 100000 in
theorem nX0_23 : znP RX0 23 6 [.null, .int 0] := ⟨_, _, _, rfl, rfl, (zmem 150 (by decide +kernel) (by decide +kernel)), (by decide +kernel)⟩
set_option maxRecDepth 100000 in
theorem cX0_27 : ziP RX0 27 mX7_init 1 := ⟨kX7_init, (zmem 151 (by decide +kernel) (by decide +kernel)), iwX7_init, ziRX7, rfl⟩
set_option maxRecDepth 100000 in
theorem pX0_30_0 : zfP RX0 30 0 4 (.object "BitWell$Row") true := ⟨_, _, _, "BitWell$Cipher", rfl, (by decide +kernel), (zmem 156 (by decide +kernel) (by decide +kernel)), Or.inl rfl, (by decide +kernel), rfl, fun _ => rfl⟩
set_option maxRecDepth 100000 in
theorem pX0_34_0 : zfP RX0 34 0 5 (.object "BitWell$Row") true := ⟨_, _, _, "BitWell$Cipher", rfl, (by decide +kernel), (zmem 157 (by decide +kernel) (by decide +kernel)), Or.inl rfl, (by decide +kernel), rfl, fun _ => rfl⟩
set_option maxRecDepth 100000 in
theorem pX0_37_0 : zfP RX0 37 0 6 (.object "BitWell$Row") true := ⟨_, _, _, "BitWell$Cipher", rfl, (by decide +kernel), (zmem 158 (by decide +kernel) (by decide +kernel)), Or.inl rfl, (by decide +kernel), rfl, fun _ => rfl⟩
set_option maxRecDepth 100000 in
theorem pX0_40_0 : zfP RX0 40 0 7 (.object "BitWell$Row") true := ⟨_, _, _, "BitWell$Cipher", rfl, (by decide +kernel), (zmem 159 (by decide +kernel) (by decide +kernel)), Or.inl rfl, (by decide +kernel), rfl, fun _ => rfl⟩
set_option maxRecDepth 100000 in
theorem cX0_59 : zsvP RX0 59 mX0_twice 1 := ⟨kX0_twice, (zmem 643 (by decide +kernel) (by decide +kernel)), swX0_twice, ziRX0⟩
set_option maxRecDepth 100000 in
theorem cX0_81 : zvP RX0 81 mX0_fillText 2 := ⟨kX0_fillText, (zmem 616 (by decide +kernel) (by decide +kernel)), iwX0_fillText, (zmem 8 (by decide +kernel) (by decide +kernel)), ziRX0⟩
set_option maxRecDepth 100000 in
theorem gX0_37_0 : zgP RX0 37 0 6 := ⟨_, _, _, "BitWell$Cipher", rfl, (by decide +kernel), (zmem 158 (by decide +kernel) (by decide +kernel)), Or.inl rfl⟩
set_option maxRecDepth 100000 in
theorem cX0_85 : zvP RX0 85 mX0_useKey 1 := ⟨kX0_useKey, (zmem 626 (by decide +kernel) (by decide +kernel)), iwX0_useKey, (zmem 628 (by decide +kernel) (by decide +kernel)), ziRX0⟩
set_option maxRecDepth 100000 in
theorem gX0_34_0 : zgP RX0 34 0 5 := ⟨_, _, _, "BitWell$Cipher", rfl, (by decide +kernel), (zmem 157 (by decide +kernel) (by decide +kernel)), Or.inl rfl⟩
set_option maxRecDepth 100000 in
theorem cX0_89 : zvP RX0 89 mX0_chainText 1 := ⟨kX0_chainText, (zmem 646 (by decide +kernel) (by decide +kernel)), iwX0_chainText, (zmem 10 (by decide +kernel) (by decide +kernel)), ziRX0⟩
set_option maxRecDepth 100000 in
theorem cX0_95 : zvP RX0 95 mX7_becomePart 3 := ⟨kX7_becomePart, (zmem 670 (by decide +kernel) (by decide +kernel)), iwX7_becomePart, (zmem 568 (by decide +kernel) (by decide +kernel)), ziRX7⟩
set_option maxRecDepth 100000 in
theorem cX0_103 : zvP RX0 103 mX7_appendPart 3 := ⟨kX7_appendPart, (zmem 671 (by decide +kernel) (by decide +kernel)), iwX7_appendPart, (zmem 572 (by decide +kernel) (by decide +kernel)), ziRX7⟩
set_option maxRecDepth 100000 in
theorem cX0_47 : zsvP RX0 47 mX0_keyLength 1 := ⟨kX0_keyLength, (zmem 630 (by decide +kernel) (by decide +kernel)), swX0_keyLength, ziRX0⟩
set_option maxRecDepth 100000 in
theorem cX0_55 : zvP RX0 55 mX0_extendSchedule 3 := ⟨kX0_extendSchedule, (zmem 637 (by decide +kernel) (by decide +kernel)), iwX0_extendSchedule, (zmem 9 (by decide +kernel) (by decide +kernel)), ziRX0⟩
set_option maxRecDepth 100000 in
theorem gX10_16_9 : zgP RX10 16 9 1 := ⟨_, _, _, "BitWellModel$Generator", rfl, (by decide +kernel), (zmem 921 (by decide +kernel) (by decide +kernel)), Or.inl rfl⟩
set_option maxRecDepth 100000 in
theorem cX10_34 : zvP RX10 34 mX10_seed 0 := ⟨kX10_seed, (zmem 1169 (by decide +kernel) (by decide +kernel)), iwX10_seed, (zmem 1152 (by decide +kernel) (by decide +kernel)), ziRX10⟩
set_option maxRecDepth 100000 in
theorem cX10_30 : zvP RX10 30 mX10_keySize 0 := ⟨kX10_keySize, (zmem 1161 (by decide +kernel) (by decide +kernel)), iwX10_keySize, (zmem 1163 (by decide +kernel) (by decide +kernel)), ziRX10⟩
set_option maxRecDepth 100000 in
theorem gX10_37_9 : zgP RX10 37 9 2 := ⟨_, _, _, "BitWellModel$Generator", rfl, (by decide +kernel), (zmem 923 (by decide +kernel) (by decide +kernel)), Or.inl rfl⟩
set_option maxRecDepth 100000 in
theorem cX10_1 : Cond.methodLink RX10 1 Lib.objectInit ∈ zgood := (zmem 919 (by decide +kernel) (by decide +kernel))
set_option maxRecDepth 100000 in
theorem pX10_7_9 : zfP RX10 7 9 8 (.array .int) true := ⟨_, _, _, "BitWellModel$Generator", rfl, (by decide +kernel), (zmem 930 (by decide +kernel) (by decide +kernel)), Or.inl rfl, (by decide +kernel), rfl, fun _ => rfl⟩
set_option maxRecDepth 100000 in
theorem pX10_13_9 : zfP RX10 13 9 9 (.array .int) true := ⟨_, _, _, "BitWellModel$Generator", rfl, (by decide +kernel), (zmem 932 (by decide +kernel) (by decide +kernel)), Or.inl rfl, (by decide +kernel), rfl, fun _ => rfl⟩
set_option maxRecDepth 100000 in
theorem cX10_20 : zvP RX10 20 mX10_isGreat 0 := ⟨kX10_isGreat, (zmem 1154 (by decide +kernel) (by decide +kernel)), iwX10_isGreat, (zmem 1156 (by decide +kernel) (by decide +kernel)), ziRX10⟩
set_option maxRecDepth 100000 in
theorem cX10_24 : zsnP RX10 24 mX11_sizeOf 1 "BitWellModel" := ⟨kX11_sizeOf, swX11_sizeOf, ziRX11, (List.mem_filter.mpr ⟨List.mem_of_getElem? (i := 1158) (by decide +kernel), (by decide +kernel)⟩)⟩
set_option maxRecDepth 100000 in
theorem gX11_99_10 : zgP RX11 99 10 37 := ⟨_, _, _, "BitWellModel", rfl, (by decide +kernel), (zmem 1010 (by decide +kernel) (by decide +kernel)), Or.inl rfl⟩
set_option maxRecDepth 100000 in
theorem cX11_174 : zsvP RX11 174 mX11_number 4 := ⟨kX11_number, (zmem 1116 (by decide +kernel) (by decide +kernel)), swX11_number, ziRX11⟩
set_option maxRecDepth 100000 in
theorem cX11_219 : zsvP RX11 219 mX11_adds 4 := ⟨kX11_adds, (zmem 1263 (by decide +kernel) (by decide +kernel)), swX11_adds, ziRX11⟩
set_option maxRecDepth 100000 in
theorem pX11_212_10 : zfP RX11 212 10 36 .int false := ⟨_, _, _, "BitWellModel", rfl, (by decide +kernel), (zmem 1009 (by decide +kernel) (by decide +kernel)), Or.inl rfl, (by decide +kernel), rfl, fun e => by cases e⟩
set_option maxRecDepth 100000 in
theorem gX11_226_9 : zgP RX11 226 9 8 := ⟨_, _, _, "BitWellModel$Generator", rfl, (by decide +kernel), (zmem 931 (by decide +kernel) (by decide +kernel)), Or.inl rfl⟩
set_option maxRecDepth 100000 in
theorem cX11_246 : zvP RX11 246 mX11_addsNumber 3 := ⟨kX11_addsNumber, (zmem 1259 (by decide +kernel) (by decide +kernel)), iwX11_addsNumber, (zmem 45 (by decide +kernel) (by decide +kernel)), ziRX11⟩
set_option maxRecDepth 100000 in
theorem gX11_108_10 : zgP RX11 108 10 40 := ⟨_, _, _, "BitWellModel", rfl, (by decide +kernel), (zmem 1013 (by decide +kernel) (by decide +kernel)), Or.inl rfl⟩
set_option maxRecDepth 100000 in
theorem gX11_243_9 : zgP RX11 243 9 9 := ⟨_, _, _, "BitWellModel$Generator", rfl, (by decide +kernel), (zmem 933 (by decide +kernel) (by decide +kernel)), Or.inl rfl⟩
set_option maxRecDepth 100000 in
theorem cX11_265 : zvP RX11 265 mX10_keySize 0 := ⟨kX10_keySize, (zmem 1238 (by decide +kernel) (by decide +kernel)), iwX10_keySize, (zmem 1163 (by decide +kernel) (by decide +kernel)), ziRX10⟩
set_option maxRecDepth 100000 in
theorem cX11_186 : zvP RX11 186 mX11_cipher 3 := ⟨kX11_cipher, (zmem 1243 (by decide +kernel) (by decide +kernel)), iwX11_cipher, (zmem 41 (by decide +kernel) (by decide +kernel)), ziRX11⟩
set_option maxRecDepth 100000 in
theorem cX11_178 : zsvP RX11 178 mX11_times 2 := ⟨kX11_times, (zmem 970 (by decide +kernel) (by decide +kernel)), swX11_times, ziRX11⟩
set_option maxRecDepth 100000 in
theorem cX11_182 : zvP RX11 182 mX11_spread 2 := ⟨kX11_spread, (zmem 1247 (by decide +kernel) (by decide +kernel)), iwX11_spread, (zmem 42 (by decide +kernel) (by decide +kernel)), ziRX11⟩
set_option maxRecDepth 100000 in
theorem gX11_50_10 : zgP RX11 50 10 14 := ⟨_, _, _, "BitWellModel", rfl, (by decide +kernel), (zmem 987 (by decide +kernel) (by decide +kernel)), Or.inl rfl⟩
set_option maxRecDepth 100000 in
theorem gX11_53_10 : zgP RX11 53 10 15 := ⟨_, _, _, "BitWellModel", rfl, (by decide +kernel), (zmem 988 (by decide +kernel) (by decide +kernel)), Or.inl rfl⟩
set_option maxRecDepth 100000 in
theorem gX11_47_10 : zgP RX11 47 10 13 := ⟨_, _, _, "BitWellModel", rfl, (by decide +kernel), (zmem 986 (by decide +kernel) (by decide +kernel)), Or.inl rfl⟩
set_option maxRecDepth 100000 in
theorem pX11_133_10 : zfP RX11 133 10 0 .int false := ⟨_, _, _, "BitWellModel", rfl, (by decide +kernel), (zmem 973 (by decide +kernel) (by decide +kernel)), Or.inl rfl, (by decide +kernel), rfl, fun e => by cases e⟩
set_option maxRecDepth 100000 in
theorem gX11_304_10 : zgP RX11 304 10 43 := ⟨_, _, _, "BitWellModel", rfl, (by decide +kernel), (zmem 1016 (by decide +kernel) (by decide +kernel)), Or.inl rfl⟩
set_option maxRecDepth 100000 in
theorem gX11_114_10 : zgP RX11 114 10 42 := ⟨_, _, _, "BitWellModel", rfl, (by decide +kernel), (zmem 1015 (by decide +kernel) (by decide +kernel)), Or.inl rfl⟩
set_option maxRecDepth 100000 in
theorem gX11_117_10 : zgP RX11 117 10 44 := ⟨_, _, _, "BitWellModel", rfl, (by decide +kernel), (zmem 1017 (by decide +kernel) (by decide +kernel)), Or.inl rfl⟩
set_option maxRecDepth 100000 in
theorem pX11_342_10 : zfP RX11 342 10 45 .int false := ⟨_, _, _, "BitWellModel", rfl, (by decide +kernel), (zmem 1018 (by decide +kernel) (by decide +kernel)), Or.inl rfl, (by decide +kernel), rfl, fun e => by cases e⟩
set_option maxRecDepth 100000 in
theorem cX11_330 : zvP RX11 330 mX11_isThere 1 := ⟨kX11_isThere, (zmem 1270 (by decide +kernel) (by decide +kernel)), iwX11_isThere, (zmem 46 (by decide +kernel) (by decide +kernel)), ziRX11⟩
set_option maxRecDepth 100000 in
theorem gX11_92_10 : zgP RX11 92 10 34 := ⟨_, _, _, "BitWellModel", rfl, (by decide +kernel), (zmem 1007 (by decide +kernel) (by decide +kernel)), Or.inl rfl⟩
set_option maxRecDepth 100000 in
theorem pX11_301_9 : zfP RX11 301 9 0 .boolean false := ⟨_, _, _, "BitWellModel$Generator", rfl, (by decide +kernel), (zmem 920 (by decide +kernel) (by decide +kernel)), Or.inl rfl, (by decide +kernel), rfl, fun e => by cases e⟩
set_option maxRecDepth 100000 in
theorem gX11_81_10 : zgP RX11 81 10 26 := ⟨_, _, _, "BitWellModel", rfl, (by decide +kernel), (zmem 999 (by decide +kernel) (by decide +kernel)), Or.inl rfl⟩
set_option maxRecDepth 100000 in
theorem gX11_190_10 : zgP RX11 190 10 27 := ⟨_, _, _, "BitWellModel", rfl, (by decide +kernel), (zmem 1000 (by decide +kernel) (by decide +kernel)), Or.inl rfl⟩
set_option maxRecDepth 100000 in
theorem pX11_190_10 : zfP RX11 190 10 27 .int false := ⟨_, _, _, "BitWellModel", rfl, (by decide +kernel), (zmem 1000 (by decide +kernel) (by decide +kernel)), Or.inl rfl, (by decide +kernel), rfl, fun e => by cases e⟩
set_option maxRecDepth 100000 in
theorem pX11_81_10 : zfP RX11 81 10 26 .int false := ⟨_, _, _, "BitWellModel", rfl, (by decide +kernel), (zmem 999 (by decide +kernel) (by decide +kernel)), Or.inl rfl, (by decide +kernel), rfl, fun e => by cases e⟩
set_option maxRecDepth 100000 in
theorem gX11_71_10 : zgP RX11 71 10 23 := ⟨_, _, _, "BitWellModel", rfl, (by decide +kernel), (zmem 996 (by decide +kernel) (by decide +kernel)), Or.inl rfl⟩
set_option maxRecDepth 100000 in
theorem gX11_84_10 : zgP RX11 84 10 28 := ⟨_, _, _, "BitWellModel", rfl, (by decide +kernel), (zmem 1001 (by decide +kernel) (by decide +kernel)), Or.inl rfl⟩
set_option maxRecDepth 100000 in
theorem pX11_84_10 : zfP RX11 84 10 28 .int false := ⟨_, _, _, "BitWellModel", rfl, (by decide +kernel), (zmem 1001 (by decide +kernel) (by decide +kernel)), Or.inl rfl, (by decide +kernel), rfl, fun e => by cases e⟩
set_option maxRecDepth 100000 in
theorem pX11_193_10 : zfP RX11 193 10 29 .int false := ⟨_, _, _, "BitWellModel", rfl, (by decide +kernel), (zmem 1002 (by decide +kernel) (by decide +kernel)), Or.inl rfl, (by decide +kernel), rfl, fun e => by cases e⟩
set_option maxRecDepth 100000 in
theorem pX11_196_10 : zfP RX11 196 10 30 .int false := ⟨_, _, _, "BitWellModel", rfl, (by decide +kernel), (zmem 1003 (by decide +kernel) (by decide +kernel)), Or.inl rfl, (by decide +kernel), rfl, fun e => by cases e⟩
set_option maxRecDepth 100000 in
theorem gX11_193_10 : zgP RX11 193 10 29 := ⟨_, _, _, "BitWellModel", rfl, (by decide +kernel), (zmem 1002 (by decide +kernel) (by decide +kernel)), Or.inl rfl⟩
set_option maxRecDepth 100000 in
theorem gX11_78_10 : zgP RX11 78 10 25 := ⟨_, _, _, "BitWellModel", rfl, (by decide +kernel), (zmem 998 (by decide +kernel) (by decide +kernel)), Or.inl rfl⟩
set_option maxRecDepth 100000 in
theorem gX11_196_10 : zgP RX11 196 10 30 := ⟨_, _, _, "BitWellModel", rfl, (by decide +kernel), (zmem 1003 (by decide +kernel) (by decide +kernel)), Or.inl rfl⟩
set_option maxRecDepth 100000 in
theorem gX11_75_10 : zgP RX11 75 10 24 := ⟨_, _, _, "BitWellModel", rfl, (by decide +kernel), (zmem 997 (by decide +kernel) (by decide +kernel)), Or.inl rfl⟩
set_option maxRecDepth 100000 in
theorem pX11_199_10 : zfP RX11 199 10 22 .boolean false := ⟨_, _, _, "BitWellModel", rfl, (by decide +kernel), (zmem 995 (by decide +kernel) (by decide +kernel)), Or.inl rfl, (by decide +kernel), rfl, fun e => by cases e⟩
set_option maxRecDepth 100000 in
theorem gX11_203_10 : zgP RX11 203 10 32 := ⟨_, _, _, "BitWellModel", rfl, (by decide +kernel), (zmem 1005 (by decide +kernel) (by decide +kernel)), Or.inl rfl⟩
set_option maxRecDepth 100000 in
theorem pX11_203_10 : zfP RX11 203 10 32 .int false := ⟨_, _, _, "BitWellModel", rfl, (by decide +kernel), (zmem 1005 (by decide +kernel) (by decide +kernel)), Or.inl rfl, (by decide +kernel), rfl, fun e => by cases e⟩
set_option maxRecDepth 100000 in
theorem pX11_206_10 : zfP RX11 206 10 21 .int false := ⟨_, _, _, "BitWellModel", rfl, (by decide +kernel), (zmem 994 (by decide +kernel) (by decide +kernel)), Or.inl rfl, (by decide +kernel), rfl, fun e => by cases e⟩
set_option maxRecDepth 100000 in
theorem gX11_68_10 : zgP RX11 68 10 20 := ⟨_, _, _, "BitWellModel", rfl, (by decide +kernel), (zmem 993 (by decide +kernel) (by decide +kernel)), Or.inl rfl⟩
set_option maxRecDepth 100000 in
theorem gX11_206_10 : zgP RX11 206 10 21 := ⟨_, _, _, "BitWellModel", rfl, (by decide +kernel), (zmem 994 (by decide +kernel) (by decide +kernel)), Or.inl rfl⟩
set_option maxRecDepth 100000 in
theorem kcX11_142 : Cond.constantLong RX11 142 (4294967295 : Int64) ∈ zgood := (zmem 1216 (by decide +kernel) (by decide +kernel))
set_option maxRecDepth 100000 in
theorem cX11_166 : zsvP RX11 166 mX11_sizeOf 1 := ⟨kX11_sizeOf, (zmem 1199 (by decide +kernel) (by decide +kernel)), swX11_sizeOf, ziRX11⟩
set_option maxRecDepth 100000 in
theorem gX11_44_10 : zgP RX11 44 10 12 := ⟨_, _, _, "BitWellModel", rfl, (by decide +kernel), (zmem 985 (by decide +kernel) (by decide +kernel)), Or.inl rfl⟩
set_option maxRecDepth 100000 in
theorem cX11_170 : zvP RX11 170 mX11_digest 3 := ⟨kX11_digest, (zmem 1200 (by decide +kernel) (by decide +kernel)), iwX11_digest, (zmem 34 (by decide +kernel) (by decide +kernel)), ziRX11⟩
set_option maxRecDepth 100000 in
theorem gX11_38_10 : zgP RX11 38 10 10 := ⟨_, _, _, "BitWellModel", rfl, (by decide +kernel), (zmem 983 (by decide +kernel) (by decide +kernel)), Or.inl rfl⟩
set_option maxRecDepth 100000 in
theorem gX11_59_10 : zgP RX11 59 10 17 := ⟨_, _, _, "BitWellModel", rfl, (by decide +kernel), (zmem 990 (by decide +kernel) (by decide +kernel)), Or.inl rfl⟩
set_option maxRecDepth 100000 in
theorem gX11_62_10 : zgP RX11 62 10 18 := ⟨_, _, _, "BitWellModel", rfl, (by decide +kernel), (zmem 991 (by decide +kernel) (by decide +kernel)), Or.inl rfl⟩
set_option maxRecDepth 100000 in
theorem gX11_56_10 : zgP RX11 56 10 16 := ⟨_, _, _, "BitWellModel", rfl, (by decide +kernel), (zmem 989 (by decide +kernel) (by decide +kernel)), Or.inl rfl⟩
set_option maxRecDepth 100000 in
theorem gX11_65_10 : zgP RX11 65 10 19 := ⟨_, _, _, "BitWellModel", rfl, (by decide +kernel), (zmem 992 (by decide +kernel) (by decide +kernel)), Or.inl rfl⟩
set_option maxRecDepth 100000 in
theorem cX11_297 : zsvP RX11 297 mX11_in 3 := ⟨kX11_in, (zmem 1123 (by decide +kernel) (by decide +kernel)), swX11_in, ziRX11⟩
set_option maxRecDepth 100000 in
theorem cX11_239 : zvP RX11 239 mX11_derive 5 := ⟨kX11_derive, (zmem 1195 (by decide +kernel) (by decide +kernel)), iwX11_derive, (zmem 33 (by decide +kernel) (by decide +kernel)), ziRX11⟩
set_option maxRecDepth 100000 in
theorem cX11_274 : zvP RX11 274 mX11_deriveE 5 := ⟨kX11_deriveE, (zmem 1239 (by decide +kernel) (by decide +kernel)), iwX11_deriveE, (zmem 40 (by decide +kernel) (by decide +kernel)), ziRX11⟩
set_option maxRecDepth 100000 in
theorem gX11_26_10 : zgP RX11 26 10 6 := ⟨_, _, _, "BitWellModel", rfl, (by decide +kernel), (zmem 979 (by decide +kernel) (by decide +kernel)), Or.inl rfl⟩
set_option maxRecDepth 100000 in
theorem gX11_32_10 : zgP RX11 32 10 8 := ⟨_, _, _, "BitWellModel", rfl, (by decide +kernel), (zmem 981 (by decide +kernel) (by decide +kernel)), Or.inl rfl⟩
set_option maxRecDepth 100000 in
theorem gX11_13_10 : zgP RX11 13 10 2 := ⟨_, _, _, "BitWellModel", rfl, (by decide +kernel), (zmem 975 (by decide +kernel) (by decide +kernel)), Or.inl rfl⟩
set_option maxRecDepth 100000 in
theorem cX11_151 : zvP RX11 151 mX11_round 2 := ⟨kX11_round, (zmem 1204 (by decide +kernel) (by decide +kernel)), iwX11_round, (zmem 35 (by decide +kernel) (by decide +kernel)), ziRX11⟩
set_option maxRecDepth 100000 in
theorem kcX11_155 : Cond.constantLong RX11 155 (255 : Int64) ∈ zgood := (zmem 1221 (by decide +kernel) (by decide +kernel))
set_option maxRecDepth 100000 in
theorem cX11_351 : zvP RX11 351 mX11_show 1 := ⟨kX11_show, (zmem 1318 (by decide +kernel) (by decide +kernel)), iwX11_show, (zmem 50 (by decide +kernel) (by decide +kernel)), ziRX11⟩
set_option maxRecDepth 100000 in
theorem gX11_342_10 : zgP RX11 342 10 45 := ⟨_, _, _, "BitWellModel", rfl, (by decide +kernel), (zmem 1018 (by decide +kernel) (by decide +kernel)), Or.inl rfl⟩
set_option maxRecDepth 100000 in
theorem gX11_311_9 : zgP RX11 311 9 2 := ⟨_, _, _, "BitWellModel$Generator", rfl, (by decide +kernel), (zmem 924 (by decide +kernel) (by decide +kernel)), Or.inl rfl⟩
set_option maxRecDepth 100000 in
theorem cX11_314 : zsvP RX11 314 mX11_isTooLong 2 := ⟨kX11_isTooLong, (zmem 1147 (by decide +kernel) (by decide +kernel)), swX11_isTooLong, ziRX11⟩
set_option maxRecDepth 100000 in
theorem gX11_321_9 : zgP RX11 321 9 4 := ⟨_, _, _, "BitWellModel$Generator", rfl, (by decide +kernel), (zmem 926 (by decide +kernel) (by decide +kernel)), Or.inl rfl⟩
set_option maxRecDepth 100000 in
theorem gX11_250_9 : zgP RX11 250 9 5 := ⟨_, _, _, "BitWellModel$Generator", rfl, (by decide +kernel), (zmem 927 (by decide +kernel) (by decide +kernel)), Or.inl rfl⟩
set_option maxRecDepth 100000 in
theorem gX11_318_9 : zgP RX11 318 9 3 := ⟨_, _, _, "BitWellModel$Generator", rfl, (by decide +kernel), (zmem 925 (by decide +kernel) (by decide +kernel)), Or.inl rfl⟩
set_option maxRecDepth 100000 in
theorem cX11_281 : zvP RX11 281 mX10_fresh 0 := ⟨kX10_fresh, (zmem 1165 (by decide +kernel) (by decide +kernel)), iwX10_fresh, (zmem 1167 (by decide +kernel) (by decide +kernel)), ziRX10⟩
set_option maxRecDepth 100000 in
theorem cX11_327 : zvP RX11 327 mX11_seed 3 := ⟨kX11_seed, (zmem 1170 (by decide +kernel) (by decide +kernel)), iwX11_seed, (zmem 27 (by decide +kernel) (by decide +kernel)), ziRX11⟩
set_option maxRecDepth 100000 in
theorem gX11_271_9 : zgP RX11 271 9 1 := ⟨_, _, _, "BitWellModel$Generator", rfl, (by decide +kernel), (zmem 922 (by decide +kernel) (by decide +kernel)), Or.inl rfl⟩
set_option maxRecDepth 100000 in
theorem cX11_333 : zvP RX11 333 mX11_drawDigest 3 := ⟨kX11_drawDigest, (zmem 1282 (by decide +kernel) (by decide +kernel)), iwX11_drawDigest, (zmem 47 (by decide +kernel) (by decide +kernel)), ziRX11⟩
set_option maxRecDepth 100000 in
theorem cX11_336 : zvP RX11 336 mX11_drawMac 3 := ⟨kX11_drawMac, (zmem 1286 (by decide +kernel) (by decide +kernel)), iwX11_drawMac, (zmem 48 (by decide +kernel) (by decide +kernel)), ziRX11⟩
set_option maxRecDepth 100000 in
theorem cX11_339 : zvP RX11 339 mX11_drawCounter 3 := ⟨kX11_drawCounter, (zmem 1290 (by decide +kernel) (by decide +kernel)), iwX11_drawCounter, (zmem 49 (by decide +kernel) (by decide +kernel)), ziRX11⟩
set_option maxRecDepth 100000 in
theorem pX11_250_9 : zfP RX11 250 9 5 .int false := ⟨_, _, _, "BitWellModel$Generator", rfl, (by decide +kernel), (zmem 927 (by decide +kernel) (by decide +kernel)), Or.inl rfl, (by decide +kernel), rfl, fun e => by cases e⟩
set_option maxRecDepth 100000 in
theorem gX11_324_9 : zgP RX11 324 9 6 := ⟨_, _, _, "BitWellModel$Generator", rfl, (by decide +kernel), (zmem 928 (by decide +kernel) (by decide +kernel)), Or.inl rfl⟩
set_option maxRecDepth 100000 in
theorem pX11_324_9 : zfP RX11 324 9 6 .int false := ⟨_, _, _, "BitWellModel$Generator", rfl, (by decide +kernel), (zmem 928 (by decide +kernel) (by decide +kernel)), Or.inl rfl, (by decide +kernel), rfl, fun e => by cases e⟩
set_option maxRecDepth 100000 in
theorem pX11_304_10 : zfP RX11 304 10 43 .int false := ⟨_, _, _, "BitWellModel", rfl, (by decide +kernel), (zmem 1016 (by decide +kernel) (by decide +kernel)), Or.inl rfl, (by decide +kernel), rfl, fun e => by cases e⟩
set_option maxRecDepth 100000 in
theorem cX11_229 : zvP RX11 229 mX10_seed 0 := ⟨kX10_seed, (zmem 1150 (by decide +kernel) (by decide +kernel)), iwX10_seed, (zmem 1152 (by decide +kernel) (by decide +kernel)), ziRX10⟩
set_option maxRecDepth 100000 in
theorem gX11_111_10 : zgP RX11 111 10 41 := ⟨_, _, _, "BitWellModel", rfl, (by decide +kernel), (zmem 1014 (by decide +kernel) (by decide +kernel)), Or.inl rfl⟩
set_option maxRecDepth 100000 in
theorem cX11_278 : zvP RX11 278 mX11_mixCounter 1 := ⟨kX11_mixCounter, (zmem 1251 (by decide +kernel) (by decide +kernel)), iwX11_mixCounter, (zmem 43 (by decide +kernel) (by decide +kernel)), ziRX11⟩
set_option maxRecDepth 100000 in
theorem cX11_268 : zvP RX11 268 mX11_blockNext 1 := ⟨kX11_blockNext, (zmem 1255 (by decide +kernel) (by decide +kernel)), iwX11_blockNext, (zmem 44 (by decide +kernel) (by decide +kernel)), ziRX11⟩
set_option maxRecDepth 100000 in
theorem cX11_235 : zvP RX11 235 mX10_isGreat 0 := ⟨kX10_isGreat, (zmem 1194 (by decide +kernel) (by decide +kernel)), iwX10_isGreat, (zmem 1156 (by decide +kernel) (by decide +kernel)), ziRX10⟩
set_option maxRecDepth 100000 in
theorem cX11_223 : zvP RX11 223 mX11_begin 0 := ⟨kX11_begin, (zmem 1182 (by decide +kernel) (by decide +kernel)), iwX11_begin, (zmem 30 (by decide +kernel) (by decide +kernel)), ziRX11⟩
set_option maxRecDepth 100000 in
theorem cX11_215 : zvP RX11 215 mX11_put 1 := ⟨kX11_put, (zmem 1186 (by decide +kernel) (by decide +kernel)), iwX11_put, (zmem 31 (by decide +kernel) (by decide +kernel)), ziRX11⟩
set_option maxRecDepth 100000 in
theorem cX11_233 : zvP RX11 233 mX11_put_ 2 := ⟨kX11_put_, (zmem 1190 (by decide +kernel) (by decide +kernel)), iwX11_put_, (zmem 32 (by decide +kernel) (by decide +kernel)), ziRX11⟩
set_option maxRecDepth 100000 in
theorem gX11_96_10 : zgP RX11 96 10 35 := ⟨_, _, _, "BitWellModel", rfl, (by decide +kernel), (zmem 1008 (by decide +kernel) (by decide +kernel)), Or.inl rfl⟩
set_option maxRecDepth 100000 in
theorem gX11_212_10 : zgP RX11 212 10 36 := ⟨_, _, _, "BitWellModel", rfl, (by decide +kernel), (zmem 1009 (by decide +kernel) (by decide +kernel)), Or.inl rfl⟩
set_option maxRecDepth 100000 in
theorem gX11_102_10 : zgP RX11 102 10 38 := ⟨_, _, _, "BitWellModel", rfl, (by decide +kernel), (zmem 1011 (by decide +kernel) (by decide +kernel)), Or.inl rfl⟩
set_option maxRecDepth 100000 in
theorem gX11_105_10 : zgP RX11 105 10 39 := ⟨_, _, _, "BitWellModel", rfl, (by decide +kernel), (zmem 1012 (by decide +kernel) (by decide +kernel)), Or.inl rfl⟩
set_option maxRecDepth 100000 in
theorem cX11_261 : zvP RX11 261 mX11_mixMac 2 := ⟨kX11_mixMac, (zmem 1222 (by decide +kernel) (by decide +kernel)), iwX11_mixMac, (zmem 36 (by decide +kernel) (by decide +kernel)), ziRX11⟩
set_option maxRecDepth 100000 in
theorem cX11_257 : zvP RX11 257 mX11_step 1 := ⟨kX11_step, (zmem 1230 (by decide +kernel) (by decide +kernel)), iwX11_step, (zmem 38 (by decide +kernel) (by decide +kernel)), ziRX11⟩
set_option maxRecDepth 100000 in
theorem gX11_294_9 : zgP RX11 294 9 7 := ⟨_, _, _, "BitWellModel$Generator", rfl, (by decide +kernel), (zmem 929 (by decide +kernel) (by decide +kernel)), Or.inl rfl⟩
set_option maxRecDepth 100000 in
theorem cX11_1 : Cond.methodLink RX11 1 Lib.objectInit ∈ zgood := (zmem 912 (by decide +kernel) (by decide +kernel))
set_option maxRecDepth 100000 in
theorem pX11_7_10 : zfP RX11 7 10 1 (.array .long) true := ⟨_, _, _, "BitWellModel", rfl, (by decide +kernel), (zmem 974 (by decide +kernel) (by decide +kernel)), Or.inl rfl, (by decide +kernel), rfl, fun _ => rfl⟩
set_option maxRecDepth 100000 in
theorem pX11_13_10 : zfP RX11 13 10 2 (.array .long) true := ⟨_, _, _, "BitWellModel", rfl, (by decide +kernel), (zmem 975 (by decide +kernel) (by decide +kernel)), Or.inl rfl, (by decide +kernel), rfl, fun _ => rfl⟩
set_option maxRecDepth 100000 in
theorem pX11_16_10 : zfP RX11 16 10 3 (.array .int) true := ⟨_, _, _, "BitWellModel", rfl, (by decide +kernel), (zmem 976 (by decide +kernel) (by decide +kernel)), Or.inl rfl, (by decide +kernel), rfl, fun _ => rfl⟩
set_option maxRecDepth 100000 in
theorem pX11_20_10 : zfP RX11 20 10 4 (.array .int) true := ⟨_, _, _, "BitWellModel", rfl, (by decide +kernel), (zmem 977 (by decide +kernel) (by decide +kernel)), Or.inl rfl, (by decide +kernel), rfl, fun _ => rfl⟩
set_option maxRecDepth 100000 in
theorem pX11_23_10 : zfP RX11 23 10 5 (.array .int) true := ⟨_, _, _, "BitWellModel", rfl, (by decide +kernel), (zmem 978 (by decide +kernel) (by decide +kernel)), Or.inl rfl, (by decide +kernel), rfl, fun _ => rfl⟩
set_option maxRecDepth 100000 in
theorem pX11_26_10 : zfP RX11 26 10 6 (.array .int) true := ⟨_, _, _, "BitWellModel", rfl, (by decide +kernel), (zmem 979 (by decide +kernel) (by decide +kernel)), Or.inl rfl, (by decide +kernel), rfl, fun _ => rfl⟩
set_option maxRecDepth 100000 in
theorem pX11_29_10 : zfP RX11 29 10 7 (.array .long) true := ⟨_, _, _, "BitWellModel", rfl, (by decide +kernel), (zmem 980 (by decide +kernel) (by decide +kernel)), Or.inl rfl, (by decide +kernel), rfl, fun _ => rfl⟩
set_option maxRecDepth 100000 in
theorem pX11_32_10 : zfP RX11 32 10 8 (.array .long) true := ⟨_, _, _, "BitWellModel", rfl, (by decide +kernel), (zmem 981 (by decide +kernel) (by decide +kernel)), Or.inl rfl, (by decide +kernel), rfl, fun _ => rfl⟩
set_option maxRecDepth 100000 in
theorem pX11_35_10 : zfP RX11 35 10 9 (.array .long) true := ⟨_, _, _, "BitWellModel", rfl, (by decide +kernel), (zmem 982 (by decide +kernel) (by decide +kernel)), Or.inl rfl, (by decide +kernel), rfl, fun _ => rfl⟩
set_option maxRecDepth 100000 in
theorem pX11_38_10 : zfP RX11 38 10 10 (.array .int) true := ⟨_, _, _, "BitWellModel", rfl, (by decide +kernel), (zmem 983 (by decide +kernel) (by decide +kernel)), Or.inl rfl, (by decide +kernel), rfl, fun _ => rfl⟩
set_option maxRecDepth 100000 in
theorem pX11_41_10 : zfP RX11 41 10 11 (.array .int) true := ⟨_, _, _, "BitWellModel", rfl, (by decide +kernel), (zmem 984 (by decide +kernel) (by decide +kernel)), Or.inl rfl, (by decide +kernel), rfl, fun _ => rfl⟩
set_option maxRecDepth 100000 in
theorem pX11_44_10 : zfP RX11 44 10 12 (.array .int) true := ⟨_, _, _, "BitWellModel", rfl, (by decide +kernel), (zmem 985 (by decide +kernel) (by decide +kernel)), Or.inl rfl, (by decide +kernel), rfl, fun _ => rfl⟩
set_option maxRecDepth 100000 in
theorem pX11_47_10 : zfP RX11 47 10 13 (.array .int) true := ⟨_, _, _, "BitWellModel", rfl, (by decide +kernel), (zmem 986 (by decide +kernel) (by decide +kernel)), Or.inl rfl, (by decide +kernel), rfl, fun _ => rfl⟩
set_option maxRecDepth 100000 in
theorem pX11_50_10 : zfP RX11 50 10 14 (.array .int) true := ⟨_, _, _, "BitWellModel", rfl, (by decide +kernel), (zmem 987 (by decide +kernel) (by decide +kernel)), Or.inl rfl, (by decide +kernel), rfl, fun _ => rfl⟩
set_option maxRecDepth 100000 in
theorem pX11_53_10 : zfP RX11 53 10 15 (.array .int) true := ⟨_, _, _, "BitWellModel", rfl, (by decide +kernel), (zmem 988 (by decide +kernel) (by decide +kernel)), Or.inl rfl, (by decide +kernel), rfl, fun _ => rfl⟩
set_option maxRecDepth 100000 in
theorem pX11_56_10 : zfP RX11 56 10 16 (.array .int) true := ⟨_, _, _, "BitWellModel", rfl, (by decide +kernel), (zmem 989 (by decide +kernel) (by decide +kernel)), Or.inl rfl, (by decide +kernel), rfl, fun _ => rfl⟩
set_option maxRecDepth 100000 in
theorem pX11_59_10 : zfP RX11 59 10 17 (.array .int) true := ⟨_, _, _, "BitWellModel", rfl, (by decide +kernel), (zmem 990 (by decide +kernel) (by decide +kernel)), Or.inl rfl, (by decide +kernel), rfl, fun _ => rfl⟩
set_option maxRecDepth 100000 in
theorem pX11_62_10 : zfP RX11 62 10 18 (.array .int) true := ⟨_, _, _, "BitWellModel", rfl, (by decide +kernel), (zmem 991 (by decide +kernel) (by decide +kernel)), Or.inl rfl, (by decide +kernel), rfl, fun _ => rfl⟩
set_option maxRecDepth 100000 in
theorem pX11_65_10 : zfP RX11 65 10 19 (.array .int) true := ⟨_, _, _, "BitWellModel", rfl, (by decide +kernel), (zmem 992 (by decide +kernel) (by decide +kernel)), Or.inl rfl, (by decide +kernel), rfl, fun _ => rfl⟩
set_option maxRecDepth 100000 in
theorem pX11_68_10 : zfP RX11 68 10 20 (.array .int) true := ⟨_, _, _, "BitWellModel", rfl, (by decide +kernel), (zmem 993 (by decide +kernel) (by decide +kernel)), Or.inl rfl, (by decide +kernel), rfl, fun _ => rfl⟩
set_option maxRecDepth 100000 in
theorem pX11_71_10 : zfP RX11 71 10 23 .int false := ⟨_, _, _, "BitWellModel", rfl, (by decide +kernel), (zmem 996 (by decide +kernel) (by decide +kernel)), Or.inl rfl, (by decide +kernel), rfl, fun e => by cases e⟩
set_option maxRecDepth 100000 in
theorem pX11_75_10 : zfP RX11 75 10 24 .int false := ⟨_, _, _, "BitWellModel", rfl, (by decide +kernel), (zmem 997 (by decide +kernel) (by decide +kernel)), Or.inl rfl, (by decide +kernel), rfl, fun e => by cases e⟩
set_option maxRecDepth 100000 in
theorem pX11_78_10 : zfP RX11 78 10 25 .int false := ⟨_, _, _, "BitWellModel", rfl, (by decide +kernel), (zmem 998 (by decide +kernel) (by decide +kernel)), Or.inl rfl, (by decide +kernel), rfl, fun e => by cases e⟩
set_option maxRecDepth 100000 in
theorem pX11_87_10 : zfP RX11 87 10 33 (.array .int) true := ⟨_, _, _, "BitWellModel", rfl, (by decide +kernel), (zmem 1006 (by decide +kernel) (by decide +kernel)), Or.inl rfl, (by decide +kernel), rfl, fun _ => rfl⟩
set_option maxRecDepth 100000 in
theorem nX11_90 : Cond.classLink RX11 90 (zgc true) ∈ zgood := (zmem 913 (by decide +kernel) (by decide +kernel))
set_option maxRecDepth 100000 in
theorem pX11_92_10 : zfP RX11 92 10 34 (.array (.object "BitWellModel$Generator")) true := ⟨_, _, _, "BitWellModel", rfl, (by decide +kernel), (zmem 1007 (by decide +kernel) (by decide +kernel)), Or.inl rfl, (by decide +kernel), rfl, fun _ => rfl⟩
set_option maxRecDepth 100000 in
theorem pX11_96_10 : zfP RX11 96 10 35 (.array .int) true := ⟨_, _, _, "BitWellModel", rfl, (by decide +kernel), (zmem 1008 (by decide +kernel) (by decide +kernel)), Or.inl rfl, (by decide +kernel), rfl, fun _ => rfl⟩
set_option maxRecDepth 100000 in
theorem pX11_99_10 : zfP RX11 99 10 37 (.array .int) true := ⟨_, _, _, "BitWellModel", rfl, (by decide +kernel), (zmem 1010 (by decide +kernel) (by decide +kernel)), Or.inl rfl, (by decide +kernel), rfl, fun _ => rfl⟩
set_option maxRecDepth 100000 in
theorem pX11_102_10 : zfP RX11 102 10 38 (.array .int) true := ⟨_, _, _, "BitWellModel", rfl, (by decide +kernel), (zmem 1011 (by decide +kernel) (by decide +kernel)), Or.inl rfl, (by decide +kernel), rfl, fun _ => rfl⟩
set_option maxRecDepth 100000 in
theorem pX11_105_10 : zfP RX11 105 10 39 (.array .int) true := ⟨_, _, _, "BitWellModel", rfl, (by decide +kernel), (zmem 1012 (by decide +kernel) (by decide +kernel)), Or.inl rfl, (by decide +kernel), rfl, fun _ => rfl⟩
set_option maxRecDepth 100000 in
theorem pX11_108_10 : zfP RX11 108 10 40 (.array .int) true := ⟨_, _, _, "BitWellModel", rfl, (by decide +kernel), (zmem 1013 (by decide +kernel) (by decide +kernel)), Or.inl rfl, (by decide +kernel), rfl, fun _ => rfl⟩
set_option maxRecDepth 100000 in
theorem pX11_111_10 : zfP RX11 111 10 41 (.array .int) true := ⟨_, _, _, "BitWellModel", rfl, (by decide +kernel), (zmem 1014 (by decide +kernel) (by decide +kernel)), Or.inl rfl, (by decide +kernel), rfl, fun _ => rfl⟩
set_option maxRecDepth 100000 in
theorem pX11_114_10 : zfP RX11 114 10 42 (.array .int) true := ⟨_, _, _, "BitWellModel", rfl, (by decide +kernel), (zmem 1015 (by decide +kernel) (by decide +kernel)), Or.inl rfl, (by decide +kernel), rfl, fun _ => rfl⟩
set_option maxRecDepth 100000 in
theorem pX11_117_10 : zfP RX11 117 10 44 (.array .int) true := ⟨_, _, _, "BitWellModel", rfl, (by decide +kernel), (zmem 1017 (by decide +kernel) (by decide +kernel)), Or.inl rfl, (by decide +kernel), rfl, fun _ => rfl⟩
set_option maxRecDepth 100000 in
theorem cX11_120 : zinP RX11 120 mX10_init 0 "BitWellModel" := ⟨kX10_init, iwX10_init, ziRX10, (List.mem_filter.mpr ⟨List.mem_of_getElem? (i := 916) (by decide +kernel), (by decide +kernel)⟩), rfl⟩
set_option maxRecDepth 100000 in
theorem cX11_121 : zsvP RX11 121 mX11_isPrime 1 := ⟨kX11_isPrime, (zmem 955 (by decide +kernel) (by decide +kernel)), swX11_isPrime, ziRX11⟩
set_option maxRecDepth 100000 in
theorem gX11_7_10 : zgP RX11 7 10 1 := ⟨_, _, _, "BitWellModel", rfl, (by decide +kernel), (zmem 974 (by decide +kernel) (by decide +kernel)), Or.inl rfl⟩
set_option maxRecDepth 100000 in
theorem cX11_125 : zvP RX11 125 mX11_root 2 := ⟨kX11_root, (zmem 958 (by decide +kernel) (by decide +kernel)), iwX11_root, (zmem 24 (by decide +kernel) (by decide +kernel)), ziRX11⟩
set_option maxRecDepth 100000 in
theorem cX11_129 : zsvP RX11 129 mX11_boxed 1 := ⟨kX11_boxed, (zmem 967 (by decide +kernel) (by decide +kernel)), swX11_boxed, ziRX11⟩
set_option maxRecDepth 100000 in
theorem gX11_20_10 : zgP RX11 20 10 4 := ⟨_, _, _, "BitWellModel", rfl, (by decide +kernel), (zmem 977 (by decide +kernel) (by decide +kernel)), Or.inl rfl⟩
set_option maxRecDepth 100000 in
theorem gX11_16_10 : zgP RX11 16 10 3 := ⟨_, _, _, "BitWellModel", rfl, (by decide +kernel), (zmem 976 (by decide +kernel) (by decide +kernel)), Or.inl rfl⟩
set_option maxRecDepth 100000 in
theorem gX11_23_10 : zgP RX11 23 10 5 := ⟨_, _, _, "BitWellModel", rfl, (by decide +kernel), (zmem 978 (by decide +kernel) (by decide +kernel)), Or.inl rfl⟩
set_option maxRecDepth 100000 in
theorem kcX11_140 : Cond.constantLong RX11 140 (65535 : Int64) ∈ zgood := (zmem 966 (by decide +kernel) (by decide +kernel))
set_option maxRecDepth 100000 in
theorem gX11_301_9 : zgP RX11 301 9 0 := ⟨_, _, _, "BitWellModel$Generator", rfl, (by decide +kernel), (zmem 920 (by decide +kernel) (by decide +kernel)), Or.inl rfl⟩
set_option maxRecDepth 100000 in
theorem gX11_41_10 : zgP RX11 41 10 11 := ⟨_, _, _, "BitWellModel", rfl, (by decide +kernel), (zmem 984 (by decide +kernel) (by decide +kernel)), Or.inl rfl⟩
set_option maxRecDepth 100000 in
theorem cX11_253 : zvP RX11 253 mX11_mac 4 := ⟨kX11_mac, (zmem 1226 (by decide +kernel) (by decide +kernel)), iwX11_mac, (zmem 37 (by decide +kernel) (by decide +kernel)), ziRX11⟩
set_option maxRecDepth 100000 in
theorem sX11_144 : zsP RX11 144 9 := ⟨"BitWellModel", "TURNS", "[I", (zmem 1211 (by decide +kernel) (by decide +kernel)), (by decide +kernel), (by decide +kernel)⟩
set_option maxRecDepth 100000 in
theorem cX11_147 : zsvP RX11 147 mX11_turned 3 := ⟨kX11_turned, (zmem 1213 (by decide +kernel) (by decide +kernel)), swX11_turned, ziRX11⟩
set_option maxRecDepth 100000 in
theorem kcX11_310 : Cond.constant RX11 310 (100000 : Int32) ∈ zgood := (zmem 1146 (by decide +kernel) (by decide +kernel))
set_option maxRecDepth 100000 in
theorem pX11_271_9 : zfP RX11 271 9 1 .int false := ⟨_, _, _, "BitWellModel$Generator", rfl, (by decide +kernel), (zmem 922 (by decide +kernel) (by decide +kernel)), Or.inl rfl, (by decide +kernel), rfl, fun e => by cases e⟩
set_option maxRecDepth 100000 in
theorem pX11_311_9 : zfP RX11 311 9 2 .int false := ⟨_, _, _, "BitWellModel$Generator", rfl, (by decide +kernel), (zmem 924 (by decide +kernel) (by decide +kernel)), Or.inl rfl, (by decide +kernel), rfl, fun e => by cases e⟩
set_option maxRecDepth 100000 in
theorem pX11_318_9 : zfP RX11 318 9 3 .int false := ⟨_, _, _, "BitWellModel$Generator", rfl, (by decide +kernel), (zmem 925 (by decide +kernel) (by decide +kernel)), Or.inl rfl, (by decide +kernel), rfl, fun e => by cases e⟩
set_option maxRecDepth 100000 in
theorem pX11_321_9 : zfP RX11 321 9 4 .boolean false := ⟨_, _, _, "BitWellModel$Generator", rfl, (by decide +kernel), (zmem 926 (by decide +kernel) (by decide +kernel)), Or.inl rfl, (by decide +kernel), rfl, fun e => by cases e⟩
set_option maxRecDepth 100000 in
theorem pX11_294_9 : zfP RX11 294 9 7 .int false := ⟨_, _, _, "BitWellModel$Generator", rfl, (by decide +kernel), (zmem 929 (by decide +kernel) (by decide +kernel)), Or.inl rfl, (by decide +kernel), rfl, fun e => by cases e⟩
set_option maxRecDepth 100000 in
theorem cX11_136 : zvP RX11 136 mX11_isBeyond 2 := ⟨kX11_isBeyond, (zmem 962 (by decide +kernel) (by decide +kernel)), iwX11_isBeyond, (zmem 25 (by decide +kernel) (by decide +kernel)), ziRX11⟩
set_option maxRecDepth 100000 in
theorem gX11_29_10 : zgP RX11 29 10 7 := ⟨_, _, _, "BitWellModel", rfl, (by decide +kernel), (zmem 980 (by decide +kernel) (by decide +kernel)), Or.inl rfl⟩
set_option maxRecDepth 100000 in
theorem cX11_157 : zsvP RX11 157 mX11_mixed 3 := ⟨kX11_mixed, (zmem 1208 (by decide +kernel) (by decide +kernel)), swX11_mixed, ziRX11⟩
set_option maxRecDepth 100000 in
theorem cX11_160 : zsvP RX11 160 mX11_cut 2 := ⟨kX11_cut, (zmem 1217 (by decide +kernel) (by decide +kernel)), swX11_cut, ziRX11⟩
set_option maxRecDepth 100000 in
theorem gX11_35_10 : zgP RX11 35 10 9 := ⟨_, _, _, "BitWellModel", rfl, (by decide +kernel), (zmem 982 (by decide +kernel) (by decide +kernel)), Or.inl rfl⟩
set_option maxRecDepth 100000 in
theorem kcX11_164 : Cond.constantLong RX11 164 (-1 : Int64) ∈ zgood := (zmem 1220 (by decide +kernel) (by decide +kernel))
set_option maxRecDepth 100000 in
theorem cX11_283 : zvP RX11 283 mX11_take 1 := ⟨kX11_take, (zmem 1174 (by decide +kernel) (by decide +kernel)), iwX11_take, (zmem 28 (by decide +kernel) (by decide +kernel)), ziRX11⟩
set_option maxRecDepth 100000 in
theorem cX11_286 : zvP RX11 286 mX11_seedDigest 4 := ⟨kX11_seedDigest, (zmem 1178 (by decide +kernel) (by decide +kernel)), iwX11_seedDigest, (zmem 29 (by decide +kernel) (by decide +kernel)), ziRX11⟩
set_option maxRecDepth 100000 in
theorem gX11_87_10 : zgP RX11 87 10 33 := ⟨_, _, _, "BitWellModel", rfl, (by decide +kernel), (zmem 1006 (by decide +kernel) (by decide +kernel)), Or.inl rfl⟩
set_option maxRecDepth 100000 in
theorem cX11_290 : zvP RX11 290 mX11_seedCounter 3 := ⟨kX11_seedCounter, (zmem 1234 (by decide +kernel) (by decide +kernel)), iwX11_seedCounter, (zmem 39 (by decide +kernel) (by decide +kernel)), ziRX11⟩
set_option maxRecDepth 100000 in
theorem gX11_199_10 : zgP RX11 199 10 22 := ⟨_, _, _, "BitWellModel", rfl, (by decide +kernel), (zmem 995 (by decide +kernel) (by decide +kernel)), Or.inl rfl⟩
set_option maxRecDepth 100000 in
theorem gX11_209_10 : zgP RX11 209 10 31 := ⟨_, _, _, "BitWellModel", rfl, (by decide +kernel), (zmem 1004 (by decide +kernel) (by decide +kernel)), Or.inl rfl⟩
set_option maxRecDepth 100000 in
theorem cX11_345 : zvP RX11 345 mX10_vSize 0 := ⟨kX10_vSize, (zmem 1306 (by decide +kernel) (by decide +kernel)), iwX10_vSize, (zmem 1308 (by decide +kernel) (by decide +kernel)), ziRX10⟩
set_option maxRecDepth 100000 in
theorem cX11_348 : zvP RX11 348 mX10_cSize 0 := ⟨kX10_cSize, (zmem 1310 (by decide +kernel) (by decide +kernel)), iwX10_cSize, (zmem 1312 (by decide +kernel) (by decide +kernel)), ziRX10⟩
set_option maxRecDepth 100000 in
theorem cX11_307 : zvP RX11 307 mX11_comes 1 := ⟨kX11_comes, (zmem 1130 (by decide +kernel) (by decide +kernel)), iwX11_comes, (zmem 26 (by decide +kernel) (by decide +kernel)), ziRX11⟩
set_option maxRecDepth 100000 in
theorem pX11_209_10 : zfP RX11 209 10 31 .int false := ⟨_, _, _, "BitWellModel", rfl, (by decide +kernel), (zmem 1004 (by decide +kernel) (by decide +kernel)), Or.inl rfl, (by decide +kernel), rfl, fun e => by cases e⟩
set_option maxRecDepth 100000 in
theorem cX1_1 : ziP RX1 1 mX5_init 5 := ⟨kX5_init, (zmem 510 (by decide +kernel) (by decide +kernel)), iwX5_init, ziRX5, rfl⟩
set_option maxRecDepth 100000 in
theorem gX1_7_2 : zgP RX1 7 2 0 := ⟨_, _, _, "BitWell$Desk", rfl, (by decide +kernel), (zmem 232 (by decide +kernel) (by decide +kernel)), Or.inl rfl⟩
set_option maxRecDepth 100000 in
theorem pX1_13_1 : zfP RX1 13 1 11 (.object "BitWell$Cipher") true := ⟨_, _, _, "BitWell$CounterGenerator", rfl, (by decide +kernel), (zmem 511 (by decide +kernel) (by decide +kernel)), Or.inl rfl, (by decide +kernel), rfl, fun _ => rfl⟩
set_option maxRecDepth 100000 in
theorem gX1_18_1 : zgP RX1 18 1 2 := ⟨_, _, _, "BitWell$CounterGenerator", rfl, (by decide +kernel), (zmem 421 (by decide +kernel) (by decide +kernel)), Or.inr (zmem 422 (by decide +kernel) (by decide +kernel))⟩
set_option maxRecDepth 100000 in
theorem pX1_24_1 : zfP RX1 24 1 12 .int true := ⟨_, _, _, "BitWell$CounterGenerator", rfl, (by decide +kernel), (zmem 512 (by decide +kernel) (by decide +kernel)), Or.inl rfl, (by decide +kernel), rfl, fun _ => rfl⟩
set_option maxRecDepth 100000 in
theorem gX1_13_1 : zgP RX1 13 1 11 := ⟨_, _, _, "BitWell$CounterGenerator", rfl, (by decide +kernel), (zmem 511 (by decide +kernel) (by decide +kernel)), Or.inl rfl⟩
set_option maxRecDepth 100000 in
theorem gX1_31_1 : zgP RX1 31 1 4 := ⟨_, _, _, "BitWell$CounterGenerator", rfl, (by decide +kernel), (zmem 437 (by decide +kernel) (by decide +kernel)), Or.inr (zmem 438 (by decide +kernel) (by decide +kernel))⟩
set_option maxRecDepth 100000 in
theorem cX1_82 : zvP RX1 82 mX0_useKey 1 := ⟨kX0_useKey, (zmem 678 (by decide +kernel) (by decide +kernel)), iwX0_useKey, (zmem 628 (by decide +kernel) (by decide +kernel)), ziRX0⟩
set_option maxRecDepth 100000 in
theorem gX1_44_1 : zgP RX1 44 1 5 := ⟨_, _, _, "BitWell$CounterGenerator", rfl, (by decide +kernel), (zmem 447 (by decide +kernel) (by decide +kernel)), Or.inr (zmem 448 (by decide +kernel) (by decide +kernel))⟩
set_option maxRecDepth 100000 in
theorem gX1_101_2 : zgP RX1 101 2 2 := ⟨_, _, _, "BitWell$Desk", rfl, (by decide +kernel), (zmem 238 (by decide +kernel) (by decide +kernel)), Or.inl rfl⟩
set_option maxRecDepth 100000 in
theorem cX1_104 : zvP RX1 104 mX7_clear 0 := ⟨kX7_clear, (zmem 679 (by decide +kernel) (by decide +kernel)), iwX7_clear, (zmem 342 (by decide +kernel) (by decide +kernel)), ziRX7⟩
set_option maxRecDepth 100000 in
theorem gX1_41_1 : zgP RX1 41 1 3 := ⟨_, _, _, "BitWell$CounterGenerator", rfl, (by decide +kernel), (zmem 429 (by decide +kernel) (by decide +kernel)), Or.inr (zmem 430 (by decide +kernel) (by decide +kernel))⟩
set_option maxRecDepth 100000 in
theorem cX1_85 : zvP RX1 85 mX7_plusNumber 1 := ⟨kX7_plusNumber, (zmem 680 (by decide +kernel) (by decide +kernel)), iwX7_plusNumber, (zmem 682 (by decide +kernel) (by decide +kernel)), ziRX7⟩
set_option maxRecDepth 100000 in
theorem gX1_89_2 : zgP RX1 89 2 4 := ⟨_, _, _, "BitWell$Desk", rfl, (by decide +kernel), (zmem 247 (by decide +kernel) (by decide +kernel)), Or.inl rfl⟩
set_option maxRecDepth 100000 in
theorem cX1_92 : zvP RX1 92 mX0_encrypt 2 := ⟨kX0_encrypt, (zmem 684 (by decide +kernel) (by decide +kernel)), iwX0_encrypt, (zmem 652 (by decide +kernel) (by decide +kernel)), ziRX0⟩
set_option maxRecDepth 100000 in
theorem cX1_107 : zvP RX1 107 mX7_appendRow 1 := ⟨kX7_appendRow, (zmem 685 (by decide +kernel) (by decide +kernel)), iwX7_appendRow, (zmem 610 (by decide +kernel) (by decide +kernel)), ziRX7⟩
set_option maxRecDepth 100000 in
theorem cX1_66 : zvP RX1 66 mX7_xorPart 2 := ⟨kX7_xorPart, (zmem 673 (by decide +kernel) (by decide +kernel)), iwX7_xorPart, (zmem 668 (by decide +kernel) (by decide +kernel)), ziRX7⟩
set_option maxRecDepth 100000 in
theorem gX1_24_1 : zgP RX1 24 1 12 := ⟨_, _, _, "BitWell$CounterGenerator", rfl, (by decide +kernel), (zmem 512 (by decide +kernel) (by decide +kernel)), Or.inl rfl⟩
set_option maxRecDepth 100000 in
theorem cX1_62 : zvP RX1 62 mX7_becomePart 3 := ⟨kX7_becomePart, (zmem 672 (by decide +kernel) (by decide +kernel)), iwX7_becomePart, (zmem 568 (by decide +kernel) (by decide +kernel)), ziRX7⟩
set_option maxRecDepth 100000 in
theorem cX1_27_1 : zuP RX1 27 RX1 "BitWell$Generator" ⟨"BitWell$CounterGenerator", "isNew", "()Z"⟩ mX5_isNew 0 := ⟨kX5_isNew, ⟨(zmem 587 (by decide +kernel) (by decide +kernel)), (zmem 588 (by decide +kernel) (by decide +kernel)), (zmem 590 (by decide +kernel) (by decide +kernel)), iwX5_isNew, ziRX5⟩, rfl, Or.inl rfl, (by decide +kernel), (by decide +kernel)⟩
set_option maxRecDepth 100000 in
theorem cX1_35 : zvP RX1 35 mX7_becomeSame 2 := ⟨kX7_becomeSame, (zmem 591 (by decide +kernel) (by decide +kernel)), iwX7_becomeSame, (zmem 593 (by decide +kernel) (by decide +kernel)), ziRX7⟩
set_option maxRecDepth 100000 in
theorem gX1_48_2 : zgP RX1 48 2 3 := ⟨_, _, _, "BitWell$Desk", rfl, (by decide +kernel), (zmem 242 (by decide +kernel) (by decide +kernel)), Or.inl rfl⟩
set_option maxRecDepth 100000 in
theorem cX1_51_1 : zuP RX1 51 RX1 "BitWell$Generator" ⟨"BitWell$CounterGenerator", "derives", "()Z"⟩ mX5_derives 0 := ⟨kX5_derives, ⟨(zmem 599 (by decide +kernel) (by decide +kernel)), (zmem 600 (by decide +kernel) (by decide +kernel)), (zmem 602 (by decide +kernel) (by decide +kernel)), iwX5_derives, ziRX5⟩, rfl, Or.inl rfl, (by decide +kernel), (by decide +kernel)⟩
set_option maxRecDepth 100000 in
theorem cX1_54 : zvP RX1 54 mX2_join 2 := ⟨kX2_join, (zmem 603 (by decide +kernel) (by decide +kernel)), iwX2_join, (zmem 605 (by decide +kernel) (by decide +kernel)), ziRX2⟩
set_option maxRecDepth 100000 in
theorem cX1_58 : zvP RX1 58 mX0_stretch 4 := ⟨kX0_stretch, (zmem 612 (by decide +kernel) (by decide +kernel)), iwX0_stretch, (zmem 614 (by decide +kernel) (by decide +kernel)), ziRX0⟩
set_option maxRecDepth 100000 in
theorem cX1_70 : zvP RX1 70 mX1_mix 1 := ⟨kX1_mix, (zmem 674 (by decide +kernel) (by decide +kernel)), iwX1_mix, (zmem 14 (by decide +kernel) (by decide +kernel)), ziRX1⟩
set_option maxRecDepth 100000 in
theorem cX1_74_1 : zuP RX1 74 RX1 "BitWell$Generator" ⟨"BitWell$CounterGenerator", "noteSeeding", "()V"⟩ mX5_noteSeeding 0 := ⟨kX5_noteSeeding, ⟨(zmem 686 (by decide +kernel) (by decide +kernel)), (zmem 687 (by decide +kernel) (by decide +kernel)), (zmem 689 (by decide +kernel) (by decide +kernel)), iwX5_noteSeeding, ziRX5⟩, rfl, Or.inl rfl, (by decide +kernel), (by decide +kernel)⟩
set_option maxRecDepth 100000 in
theorem cX1_78 : zvP RX1 78 mX7_length 0 := ⟨kX7_length, (zmem 813 (by decide +kernel) (by decide +kernel)), iwX7_length, (zmem 289 (by decide +kernel) (by decide +kernel)), ziRX7⟩
set_option maxRecDepth 100000 in
theorem cX1_95 : zvP RX1 95 mX7_appendPart 3 := ⟨kX7_appendPart, (zmem 814 (by decide +kernel) (by decide +kernel)), iwX7_appendPart, (zmem 572 (by decide +kernel) (by decide +kernel)), ziRX7⟩
set_option maxRecDepth 100000 in
theorem cX1_98_1 : zuP RX1 98 RX1 "BitWell$Generator" ⟨"BitWell$CounterGenerator", "noteDrawing", "(I)V"⟩ mX5_noteDrawing 1 := ⟨kX5_noteDrawing, ⟨(zmem 815 (by decide +kernel) (by decide +kernel)), (zmem 816 (by decide +kernel) (by decide +kernel)), (zmem 818 (by decide +kernel) (by decide +kernel)), iwX5_noteDrawing, ziRX5⟩, rfl, Or.inl rfl, (by decide +kernel), (by decide +kernel)⟩
set_option maxRecDepth 100000 in
theorem gX2_43_2 : zgP RX2 43 2 6 := ⟨_, _, _, "BitWell$Desk", rfl, (by decide +kernel), (zmem 249 (by decide +kernel) (by decide +kernel)), Or.inl rfl⟩
set_option maxRecDepth 100000 in
theorem gX2_39_2 : zgP RX2 39 2 5 := ⟨_, _, _, "BitWell$Desk", rfl, (by decide +kernel), (zmem 248 (by decide +kernel) (by decide +kernel)), Or.inl rfl⟩
set_option maxRecDepth 100000 in
theorem gX2_23_2 : zgP RX2 23 2 1 := ⟨_, _, _, "BitWell$Desk", rfl, (by decide +kernel), (zmem 234 (by decide +kernel) (by decide +kernel)), Or.inl rfl⟩
set_option maxRecDepth 100000 in
theorem cX2_46 : zvP RX2 46 mX7_becomePart 3 := ⟨kX7_becomePart, (zmem 888 (by decide +kernel) (by decide +kernel)), iwX7_becomePart, (zmem 568 (by decide +kernel) (by decide +kernel)), ziRX7⟩
set_option maxRecDepth 100000 in
theorem gX2_27_2 : zgP RX2 27 2 2 := ⟨_, _, _, "BitWell$Desk", rfl, (by decide +kernel), (zmem 236 (by decide +kernel) (by decide +kernel)), Or.inl rfl⟩
set_option maxRecDepth 100000 in
theorem cX2_50 : zvP RX2 50 mX7_length 0 := ⟨kX7_length, (zmem 889 (by decide +kernel) (by decide +kernel)), iwX7_length, (zmem 289 (by decide +kernel) (by decide +kernel)), ziRX7⟩
set_option maxRecDepth 100000 in
theorem cX2_1 : Cond.methodLink RX2 1 Lib.objectInit ∈ zgood := (zmem 143 (by decide +kernel) (by decide +kernel))
set_option maxRecDepth 100000 in
theorem nX2_7 : znP RX2 7 0 [.null, .null, .null, .int 0, .null, .null, .null, .null] := ⟨_, _, _, rfl, rfl, (zmem 144 (by decide +kernel) (by decide +kernel)), (by decide +kernel)⟩
set_option maxRecDepth 100000 in
theorem cX2_9 : zinP RX2 9 mX0_init 0 "BitWell" := ⟨kX0_init, iwX0_init, ziRX0, (List.mem_filter.mpr ⟨List.mem_of_getElem? (i := 146) (by decide +kernel), (by decide +kernel)⟩), rfl⟩
set_option maxRecDepth 100000 in
theorem pX2_10_2 : zfP RX2 10 2 0 (.object "BitWell$Cipher") true := ⟨_, _, _, "BitWell$Desk", rfl, (by decide +kernel), (zmem 231 (by decide +kernel) (by decide +kernel)), Or.inl rfl, (by decide +kernel), rfl, fun _ => rfl⟩
set_option maxRecDepth 100000 in
theorem nX2_16 : znP RX2 16 6 [.null, .int 0] := ⟨_, _, _, rfl, rfl, (zmem 177 (by decide +kernel) (by decide +kernel)), (by decide +kernel)⟩
set_option maxRecDepth 100000 in
theorem cX2_20 : ziP RX2 20 mX7_init 1 := ⟨kX7_init, (zmem 178 (by decide +kernel) (by decide +kernel)), iwX7_init, ziRX7, rfl⟩
set_option maxRecDepth 100000 in
theorem pX2_23_2 : zfP RX2 23 2 1 (.object "BitWell$Row") true := ⟨_, _, _, "BitWell$Desk", rfl, (by decide +kernel), (zmem 234 (by decide +kernel) (by decide +kernel)), Or.inl rfl, (by decide +kernel), rfl, fun _ => rfl⟩
set_option maxRecDepth 100000 in
theorem pX2_27_2 : zfP RX2 27 2 2 (.object "BitWell$Row") true := ⟨_, _, _, "BitWell$Desk", rfl, (by decide +kernel), (zmem 236 (by decide +kernel) (by decide +kernel)), Or.inl rfl, (by decide +kernel), rfl, fun _ => rfl⟩
set_option maxRecDepth 100000 in
theorem pX2_30_2 : zfP RX2 30 2 3 (.object "BitWell$Row") true := ⟨_, _, _, "BitWell$Desk", rfl, (by decide +kernel), (zmem 241 (by decide +kernel) (by decide +kernel)), Or.inl rfl, (by decide +kernel), rfl, fun _ => rfl⟩
set_option maxRecDepth 100000 in
theorem pX2_33_2 : zfP RX2 33 2 4 (.object "BitWell$Row") true := ⟨_, _, _, "BitWell$Desk", rfl, (by decide +kernel), (zmem 245 (by decide +kernel) (by decide +kernel)), Or.inl rfl, (by decide +kernel), rfl, fun _ => rfl⟩
set_option maxRecDepth 100000 in
theorem nX2_18 : znP RX2 18 3 [.int 0, .int 0, .int 0, .long 0, .int 0, .int 0, .null, .null, .null, .null, .null, .null] := ⟨_, _, _, rfl, rfl, (zmem 179 (by decide +kernel) (by decide +kernel)), (by decide +kernel)⟩
set_option maxRecDepth 100000 in
theorem cX2_36 : ziP RX2 36 mX3_init 1 := ⟨kX3_init, (zmem 181 (by decide +kernel) (by decide +kernel)), iwX3_init, ziRX3, rfl⟩
set_option maxRecDepth 100000 in
theorem pX2_39_2 : zfP RX2 39 2 5 (.object "BitWell$Digest") true := ⟨_, _, _, "BitWell$Desk", rfl, (by decide +kernel), (zmem 248 (by decide +kernel) (by decide +kernel)), Or.inl rfl, (by decide +kernel), rfl, fun _ => rfl⟩
set_option maxRecDepth 100000 in
theorem pX2_43_2 : zfP RX2 43 2 6 (.object "BitWell$Digest") true := ⟨_, _, _, "BitWell$Desk", rfl, (by decide +kernel), (zmem 249 (by decide +kernel) (by decide +kernel)), Or.inl rfl, (by decide +kernel), rfl, fun _ => rfl⟩
set_option maxRecDepth 100000 in
theorem gX2_30_2 : zgP RX2 30 2 3 := ⟨_, _, _, "BitWell$Desk", rfl, (by decide +kernel), (zmem 241 (by decide +kernel) (by decide +kernel)), Or.inl rfl⟩
set_option maxRecDepth 100000 in
theorem cX2_54 : zvP RX2 54 mX7_clear 0 := ⟨kX7_clear, (zmem 607 (by decide +kernel) (by decide +kernel)), iwX7_clear, (zmem 342 (by decide +kernel) (by decide +kernel)), ziRX7⟩
set_option maxRecDepth 100000 in
theorem cX2_57 : zvP RX2 57 mX7_appendRow 1 := ⟨kX7_appendRow, (zmem 608 (by decide +kernel) (by decide +kernel)), iwX7_appendRow, (zmem 610 (by decide +kernel) (by decide +kernel)), ziRX7⟩
set_option maxRecDepth 100000 in
theorem gX3_25_3 : zgP RX3 25 3 10 := ⟨_, _, _, "BitWell$Digest", rfl, (by decide +kernel), (zmem 203 (by decide +kernel) (by decide +kernel)), Or.inl rfl⟩
set_option maxRecDepth 100000 in
theorem cX3_80 : zvP RX3 80 mX7_clear 0 := ⟨kX7_clear, (zmem 709 (by decide +kernel) (by decide +kernel)), iwX7_clear, (zmem 342 (by decide +kernel) (by decide +kernel)), ziRX7⟩
set_option maxRecDepth 100000 in
theorem gX3_48_3 : zgP RX3 48 3 4 := ⟨_, _, _, "BitWell$Digest", rfl, (by decide +kernel), (zmem 197 (by decide +kernel) (by decide +kernel)), Or.inl rfl⟩
set_option maxRecDepth 100000 in
theorem cX3_106 : zvP RX3 106 mX7_length 0 := ⟨kX7_length, (zmem 714 (by decide +kernel) (by decide +kernel)), iwX7_length, (zmem 289 (by decide +kernel) (by decide +kernel)), ziRX7⟩
set_option maxRecDepth 100000 in
theorem cX3_109 : zvP RX3 109 mX7_at 1 := ⟨kX7_at, (zmem 772 (by decide +kernel) (by decide +kernel)), iwX7_at, (zmem 322 (by decide +kernel) (by decide +kernel)), ziRX7⟩
set_option maxRecDepth 100000 in
theorem cX3_112 : zvP RX3 112 mX7_append 1 := ⟨kX7_append, (zmem 710 (by decide +kernel) (by decide +kernel)), iwX7_append, (zmem 346 (by decide +kernel) (by decide +kernel)), ziRX7⟩
set_option maxRecDepth 100000 in
theorem gX3_13_3 : zgP RX3 13 3 8 := ⟨_, _, _, "BitWell$Digest", rfl, (by decide +kernel), (zmem 201 (by decide +kernel) (by decide +kernel)), Or.inl rfl⟩
set_option maxRecDepth 100000 in
theorem gX3_51_3 : zgP RX3 51 3 5 := ⟨_, _, _, "BitWell$Digest", rfl, (by decide +kernel), (zmem 198 (by decide +kernel) (by decide +kernel)), Or.inl rfl⟩
set_option maxRecDepth 100000 in
theorem gX3_60_3 : zgP RX3 60 3 6 := ⟨_, _, _, "BitWell$Digest", rfl, (by decide +kernel), (zmem 199 (by decide +kernel) (by decide +kernel)), Or.inl rfl⟩
set_option maxRecDepth 100000 in
theorem cX3_87 : zvP RX3 87 mX3_turned 2 := ⟨kX3_turned, (zmem 734 (by decide +kernel) (by decide +kernel)), iwX3_turned, (zmem 18 (by decide +kernel) (by decide +kernel)), ziRX3⟩
set_option maxRecDepth 100000 in
theorem kcX3_39 : Cond.constantLong RX3 39 (-1 : Int64) ∈ zgood := (zmem 187 (by decide +kernel) (by decide +kernel))
set_option maxRecDepth 100000 in
theorem sX3_91 : zsP RX3 91 3 := ⟨"BitWell$Digest", "ROUND", "[J", (zmem 742 (by decide +kernel) (by decide +kernel)), (by decide +kernel), (by decide +kernel)⟩
set_option maxRecDepth 100000 in
theorem gX3_36_3 : zgP RX3 36 3 2 := ⟨_, _, _, "BitWell$Digest", rfl, (by decide +kernel), (zmem 195 (by decide +kernel) (by decide +kernel)), Or.inl rfl⟩
set_option maxRecDepth 100000 in
theorem gX3_17_3 : zgP RX3 17 3 9 := ⟨_, _, _, "BitWell$Digest", rfl, (by decide +kernel), (zmem 202 (by decide +kernel) (by decide +kernel)), Or.inl rfl⟩
set_option maxRecDepth 100000 in
theorem gX3_41_3 : zgP RX3 41 3 3 := ⟨_, _, _, "BitWell$Digest", rfl, (by decide +kernel), (zmem 196 (by decide +kernel) (by decide +kernel)), Or.inl rfl⟩
set_option maxRecDepth 100000 in
theorem gX3_9_3 : zgP RX3 9 3 7 := ⟨_, _, _, "BitWell$Digest", rfl, (by decide +kernel), (zmem 200 (by decide +kernel) (by decide +kernel)), Or.inl rfl⟩
set_option maxRecDepth 100000 in
theorem cX3_63 : zvP RX3 63 mX7_copyTo 2 := ⟨kX7_copyTo, (zmem 723 (by decide +kernel) (by decide +kernel)), iwX7_copyTo, (zmem 635 (by decide +kernel) (by decide +kernel)), ziRX7⟩
set_option maxRecDepth 100000 in
theorem cX3_67 : zvP RX3 67 mX3_pad 1 := ⟨kX3_pad, (zmem 724 (by decide +kernel) (by decide +kernel)), iwX3_pad, (zmem 16 (by decide +kernel) (by decide +kernel)), ziRX3⟩
set_option maxRecDepth 100000 in
theorem sX3_71 : zsP RX3 71 2 := ⟨"BitWell$Digest", "FIRST", "[J", (zmem 728 (by decide +kernel) (by decide +kernel)), (by decide +kernel), (by decide +kernel)⟩
set_option maxRecDepth 100000 in
theorem cX3_74 : zvP RX3 74 mX3_spread 1 := ⟨kX3_spread, (zmem 730 (by decide +kernel) (by decide +kernel)), iwX3_spread, (zmem 17 (by decide +kernel) (by decide +kernel)), ziRX3⟩
set_option maxRecDepth 100000 in
theorem cX3_77 : zvP RX3 77 mX3_compress 0 := ⟨kX3_compress, (zmem 738 (by decide +kernel) (by decide +kernel)), iwX3_compress, (zmem 19 (by decide +kernel) (by decide +kernel)), ziRX3⟩
set_option maxRecDepth 100000 in
theorem gX3_32_3 : zgP RX3 32 3 1 := ⟨_, _, _, "BitWell$Digest", rfl, (by decide +kernel), (zmem 194 (by decide +kernel) (by decide +kernel)), Or.inl rfl⟩
set_option maxRecDepth 100000 in
theorem cX3_83 : zvP RX3 83 mX7_appendNumber 2 := ⟨kX7_appendNumber, (zmem 712 (by decide +kernel) (by decide +kernel)), iwX7_appendNumber, (zmem 293 (by decide +kernel) (by decide +kernel)), ziRX7⟩
set_option maxRecDepth 100000 in
theorem cX3_1 : Cond.methodLink RX3 1 Lib.objectInit ∈ zgood := (zmem 184 (by decide +kernel) (by decide +kernel))
set_option maxRecDepth 100000 in
theorem pX3_9_3 : zfP RX3 9 3 7 (.array .int) true := ⟨_, _, _, "BitWell$Digest", rfl, (by decide +kernel), (zmem 200 (by decide +kernel) (by decide +kernel)), Or.inl rfl, (by decide +kernel), rfl, fun _ => rfl⟩
set_option maxRecDepth 100000 in
theorem pX3_13_3 : zfP RX3 13 3 8 (.array .long) true := ⟨_, _, _, "BitWell$Digest", rfl, (by decide +kernel), (zmem 201 (by decide +kernel) (by decide +kernel)), Or.inl rfl, (by decide +kernel), rfl, fun _ => rfl⟩
set_option maxRecDepth 100000 in
theorem pX3_17_3 : zfP RX3 17 3 9 (.array .long) true := ⟨_, _, _, "BitWell$Digest", rfl, (by decide +kernel), (zmem 202 (by decide +kernel) (by decide +kernel)), Or.inl rfl, (by decide +kernel), rfl, fun _ => rfl⟩
set_option maxRecDepth 100000 in
theorem nX3_20 : znP RX3 20 6 [.null, .int 0] := ⟨_, _, _, rfl, rfl, (zmem 185 (by decide +kernel) (by decide +kernel)), (by decide +kernel)⟩
set_option maxRecDepth 100000 in
theorem cX3_22 : ziP RX3 22 mX7_init 1 := ⟨kX7_init, (zmem 186 (by decide +kernel) (by decide +kernel)), iwX7_init, ziRX7, rfl⟩
set_option maxRecDepth 100000 in
theorem pX3_25_3 : zfP RX3 25 3 10 (.object "BitWell$Row") true := ⟨_, _, _, "BitWell$Digest", rfl, (by decide +kernel), (zmem 203 (by decide +kernel) (by decide +kernel)), Or.inl rfl, (by decide +kernel), rfl, fun _ => rfl⟩
set_option maxRecDepth 100000 in
theorem pX3_29_3 : zfP RX3 29 3 11 (.object "BitWell$Row") true := ⟨_, _, _, "BitWell$Digest", rfl, (by decide +kernel), (zmem 204 (by decide +kernel) (by decide +kernel)), Or.inl rfl, (by decide +kernel), rfl, fun _ => rfl⟩
set_option maxRecDepth 100000 in
theorem pX3_32_3 : zfP RX3 32 3 1 .int true := ⟨_, _, _, "BitWell$Digest", rfl, (by decide +kernel), (zmem 194 (by decide +kernel) (by decide +kernel)), Or.inl rfl, (by decide +kernel), rfl, fun _ => rfl⟩
set_option maxRecDepth 100000 in
theorem pX3_36_3 : zfP RX3 36 3 2 .int true := ⟨_, _, _, "BitWell$Digest", rfl, (by decide +kernel), (zmem 195 (by decide +kernel) (by decide +kernel)), Or.inl rfl, (by decide +kernel), rfl, fun _ => rfl⟩
set_option maxRecDepth 100000 in
theorem pX3_41_3 : zfP RX3 41 3 3 .long true := ⟨_, _, _, "BitWell$Digest", rfl, (by decide +kernel), (zmem 196 (by decide +kernel) (by decide +kernel)), Or.inl rfl, (by decide +kernel), rfl, fun _ => rfl⟩
set_option maxRecDepth 100000 in
theorem pX3_45_3 : zfP RX3 45 3 0 .int true := ⟨_, _, _, "BitWell$Digest", rfl, (by decide +kernel), (zmem 192 (by decide +kernel) (by decide +kernel)), Or.inl rfl, (by decide +kernel), rfl, fun _ => rfl⟩
set_option maxRecDepth 100000 in
theorem pX3_48_3 : zfP RX3 48 3 4 .int true := ⟨_, _, _, "BitWell$Digest", rfl, (by decide +kernel), (zmem 197 (by decide +kernel) (by decide +kernel)), Or.inl rfl, (by decide +kernel), rfl, fun _ => rfl⟩
set_option maxRecDepth 100000 in
theorem pX3_51_3 : zfP RX3 51 3 5 .int true := ⟨_, _, _, "BitWell$Digest", rfl, (by decide +kernel), (zmem 198 (by decide +kernel) (by decide +kernel)), Or.inl rfl, (by decide +kernel), rfl, fun _ => rfl⟩
set_option maxRecDepth 100000 in
theorem sX3_54 : zsP RX3 54 5 := ⟨"BitWell$Digest", "GREAT_TURNS", "[I", (zmem 188 (by decide +kernel) (by decide +kernel)), (by decide +kernel), (by decide +kernel)⟩
set_option maxRecDepth 100000 in
theorem sX3_57 : zsP RX3 57 4 := ⟨"BitWell$Digest", "SMALL_TURNS", "[I", (zmem 190 (by decide +kernel) (by decide +kernel)), (by decide +kernel), (by decide +kernel)⟩
set_option maxRecDepth 100000 in
theorem pX3_60_3 : zfP RX3 60 3 6 (.array .int) true := ⟨_, _, _, "BitWell$Digest", rfl, (by decide +kernel), (zmem 199 (by decide +kernel) (by decide +kernel)), Or.inl rfl, (by decide +kernel), rfl, fun _ => rfl⟩
set_option maxRecDepth 100000 in
theorem cX3_94 : zvP RX3 94 mX3_beginWithKey 2 := ⟨kX3_beginWithKey, (zmem 768 (by decide +kernel) (by decide +kernel)), iwX3_beginWithKey, (zmem 21 (by decide +kernel) (by decide +kernel)), ziRX3⟩
set_option maxRecDepth 100000 in
theorem cX3_98 : zvP RX3 98 mX7_appendRow 1 := ⟨kX7_appendRow, (zmem 713 (by decide +kernel) (by decide +kernel)), iwX7_appendRow, (zmem 610 (by decide +kernel) (by decide +kernel)), ziRX7⟩
set_option maxRecDepth 100000 in
theorem gX3_29_3 : zgP RX3 29 3 11 := ⟨_, _, _, "BitWell$Digest", rfl, (by decide +kernel), (zmem 204 (by decide +kernel) (by decide +kernel)), Or.inl rfl⟩
set_option maxRecDepth 100000 in
theorem cX3_102 : zvP RX3 102 mX3_hash 2 := ⟨kX3_hash, (zmem 719 (by decide +kernel) (by decide +kernel)), iwX3_hash, (zmem 721 (by decide +kernel) (by decide +kernel)), ziRX3⟩
set_option maxRecDepth 100000 in
theorem kcX3_115 : Cond.constantLong RX3 115 (8 : Int64) ∈ zgood := (zmem 711 (by decide +kernel) (by decide +kernel))
set_option maxRecDepth 100000 in
theorem cX3_117 : zvP RX3 117 mX7_put 2 := ⟨kX7_put, (zmem 715 (by decide +kernel) (by decide +kernel)), iwX7_put, (zmem 717 (by decide +kernel) (by decide +kernel)), ziRX7⟩
set_option maxRecDepth 100000 in
theorem cX3_121 : zvP RX3 121 mX7_appendPart 3 := ⟨kX7_appendPart, (zmem 744 (by decide +kernel) (by decide +kernel)), iwX7_appendPart, (zmem 572 (by decide +kernel) (by decide +kernel)), ziRX7⟩
set_option maxRecDepth 100000 in
theorem gX4_19_4 : zgP RX4 19 4 11 := ⟨_, _, _, "BitWell$DigestGenerator", rfl, (by decide +kernel), (zmem 416 (by decide +kernel) (by decide +kernel)), Or.inl rfl⟩
set_option maxRecDepth 100000 in
theorem gX4_23_4 : zgP RX4 23 4 5 := ⟨_, _, _, "BitWell$DigestGenerator", rfl, (by decide +kernel), (zmem 445 (by decide +kernel) (by decide +kernel)), Or.inr (zmem 446 (by decide +kernel) (by decide +kernel))⟩
set_option maxRecDepth 100000 in
theorem gX4_27_2 : zgP RX4 27 2 2 := ⟨_, _, _, "BitWell$Desk", rfl, (by decide +kernel), (zmem 237 (by decide +kernel) (by decide +kernel)), Or.inl rfl⟩
set_option maxRecDepth 100000 in
theorem gX4_82_2 : zgP RX4 82 2 4 := ⟨_, _, _, "BitWell$Desk", rfl, (by decide +kernel), (zmem 246 (by decide +kernel) (by decide +kernel)), Or.inl rfl⟩
set_option maxRecDepth 100000 in
theorem cX4_85 : zvP RX4 85 mX3_hash 2 := ⟨kX3_hash, (zmem 829 (by decide +kernel) (by decide +kernel)), iwX3_hash, (zmem 721 (by decide +kernel) (by decide +kernel)), ziRX3⟩
set_option maxRecDepth 100000 in
theorem gX4_53_4 : zgP RX4 53 4 3 := ⟨_, _, _, "BitWell$DigestGenerator", rfl, (by decide +kernel), (zmem 433 (by decide +kernel) (by decide +kernel)), Or.inr (zmem 434 (by decide +kernel) (by decide +kernel))⟩
set_option maxRecDepth 100000 in
theorem cX4_95 : zvP RX4 95 mX7_plusRow 1 := ⟨kX7_plusRow, (zmem 830 (by decide +kernel) (by decide +kernel)), iwX7_plusRow, (zmem 832 (by decide +kernel) (by decide +kernel)), ziRX7⟩
set_option maxRecDepth 100000 in
theorem cX4_31 : zvP RX4 31 mX7_clear 0 := ⟨kX7_clear, (zmem 695 (by decide +kernel) (by decide +kernel)), iwX7_clear, (zmem 342 (by decide +kernel) (by decide +kernel)), ziRX7⟩
set_option maxRecDepth 100000 in
theorem cX4_104 : zvP RX4 104 mX7_append 1 := ⟨kX7_append, (zmem 703 (by decide +kernel) (by decide +kernel)), iwX7_append, (zmem 346 (by decide +kernel) (by decide +kernel)), ziRX7⟩
set_option maxRecDepth 100000 in
theorem cX4_45 : zvP RX4 45 mX7_appendRow 1 := ⟨kX7_appendRow, (zmem 704 (by decide +kernel) (by decide +kernel)), iwX7_appendRow, (zmem 610 (by decide +kernel) (by decide +kernel)), ziRX7⟩
set_option maxRecDepth 100000 in
theorem cX4_1 : ziP RX4 1 mX5_init 5 := ⟨kX5_init, (zmem 397 (by decide +kernel) (by decide +kernel)), iwX5_init, ziRX5, rfl⟩
set_option maxRecDepth 100000 in
theorem cX4_13 : zvP RX4 13 mX2_digestOf 1 := ⟨kX2_digestOf, (zmem 412 (by decide +kernel) (by decide +kernel)), iwX2_digestOf, (zmem 414 (by decide +kernel) (by decide +kernel)), ziRX2⟩
set_option maxRecDepth 100000 in
theorem pX4_19_4 : zfP RX4 19 4 11 (.object "BitWell$Digest") true := ⟨_, _, _, "BitWell$DigestGenerator", rfl, (by decide +kernel), (zmem 416 (by decide +kernel) (by decide +kernel)), Or.inl rfl, (by decide +kernel), rfl, fun _ => rfl⟩
set_option maxRecDepth 100000 in
theorem cX4_37_4 : zuP RX4 37 RX4 "BitWell$Generator" ⟨"BitWell$DigestGenerator", "isNew", "()Z"⟩ mX5_isNew 0 := ⟨kX5_isNew, ⟨(zmem 696 (by decide +kernel) (by decide +kernel)), (zmem 697 (by decide +kernel) (by decide +kernel)), (zmem 698 (by decide +kernel) (by decide +kernel)), iwX5_isNew, ziRX5⟩, rfl, Or.inl rfl, (by decide +kernel), (by decide +kernel)⟩
set_option maxRecDepth 100000 in
theorem cX4_41 : zvP RX4 41 mX4_beginMessage 1 := ⟨kX4_beginMessage, (zmem 699 (by decide +kernel) (by decide +kernel)), iwX4_beginMessage, (zmem 15 (by decide +kernel) (by decide +kernel)), ziRX4⟩
set_option maxRecDepth 100000 in
theorem gX4_49_4 : zgP RX4 49 4 2 := ⟨_, _, _, "BitWell$DigestGenerator", rfl, (by decide +kernel), (zmem 426 (by decide +kernel) (by decide +kernel)), Or.inr (zmem 427 (by decide +kernel) (by decide +kernel))⟩
set_option maxRecDepth 100000 in
theorem cX4_56 : zvP RX4 56 mX3_stretch 3 := ⟨kX3_stretch, (zmem 705 (by decide +kernel) (by decide +kernel)), iwX3_stretch, (zmem 707 (by decide +kernel) (by decide +kernel)), ziRX3⟩
set_option maxRecDepth 100000 in
theorem gX4_62_4 : zgP RX4 62 4 4 := ⟨_, _, _, "BitWell$DigestGenerator", rfl, (by decide +kernel), (zmem 441 (by decide +kernel) (by decide +kernel)), Or.inr (zmem 442 (by decide +kernel) (by decide +kernel))⟩
set_option maxRecDepth 100000 in
theorem cX4_65_4 : zuP RX4 65 RX4 "BitWell$Generator" ⟨"BitWell$DigestGenerator", "noteSeeding", "()V"⟩ mX5_noteSeeding 0 := ⟨kX5_noteSeeding, ⟨(zmem 745 (by decide +kernel) (by decide +kernel)), (zmem 746 (by decide +kernel) (by decide +kernel)), (zmem 747 (by decide +kernel) (by decide +kernel)), iwX5_noteSeeding, ziRX5⟩, rfl, Or.inl rfl, (by decide +kernel), (by decide +kernel)⟩
set_option maxRecDepth 100000 in
theorem cX4_68 : zvP RX4 68 mX7_length 0 := ⟨kX7_length, (zmem 824 (by decide +kernel) (by decide +kernel)), iwX7_length, (zmem 289 (by decide +kernel) (by decide +kernel)), ziRX7⟩
set_option maxRecDepth 100000 in
theorem cX4_72 : zvP RX4 72 mX4_addDigest 0 := ⟨kX4_addDigest, (zmem 825 (by decide +kernel) (by decide +kernel)), iwX4_addDigest, (zmem 23 (by decide +kernel) (by decide +kernel)), ziRX4⟩
set_option maxRecDepth 100000 in
theorem gX4_75_2 : zgP RX4 75 2 3 := ⟨_, _, _, "BitWell$Desk", rfl, (by decide +kernel), (zmem 244 (by decide +kernel) (by decide +kernel)), Or.inl rfl⟩
set_option maxRecDepth 100000 in
theorem cX4_78 : zvP RX4 78 mX7_becomePart 3 := ⟨kX7_becomePart, (zmem 834 (by decide +kernel) (by decide +kernel)), iwX7_becomePart, (zmem 568 (by decide +kernel) (by decide +kernel)), ziRX7⟩
set_option maxRecDepth 100000 in
theorem cX4_89 : zvP RX4 89 mX7_appendPart 3 := ⟨kX7_appendPart, (zmem 835 (by decide +kernel) (by decide +kernel)), iwX7_appendPart, (zmem 572 (by decide +kernel) (by decide +kernel)), ziRX7⟩
set_option maxRecDepth 100000 in
theorem cX4_92 : zvP RX4 92 mX7_plusNumber 1 := ⟨kX7_plusNumber, (zmem 836 (by decide +kernel) (by decide +kernel)), iwX7_plusNumber, (zmem 682 (by decide +kernel) (by decide +kernel)), ziRX7⟩
set_option maxRecDepth 100000 in
theorem cX4_98_4 : zuP RX4 98 RX4 "BitWell$Generator" ⟨"BitWell$DigestGenerator", "count", "()I"⟩ mX5_count 0 := ⟨kX5_count, ⟨(zmem 837 (by decide +kernel) (by decide +kernel)), (zmem 838 (by decide +kernel) (by decide +kernel)), (zmem 840 (by decide +kernel) (by decide +kernel)), iwX5_count, ziRX5⟩, rfl, Or.inl rfl, (by decide +kernel), (by decide +kernel)⟩
set_option maxRecDepth 100000 in
theorem cX4_101_4 : zuP RX4 101 RX4 "BitWell$Generator" ⟨"BitWell$DigestGenerator", "noteDrawing", "(I)V"⟩ mX5_noteDrawing 1 := ⟨kX5_noteDrawing, ⟨(zmem 843 (by decide +kernel) (by decide +kernel)), (zmem 844 (by decide +kernel) (by decide +kernel)), (zmem 845 (by decide +kernel) (by decide +kernel)), iwX5_noteDrawing, ziRX5⟩, rfl, Or.inl rfl, (by decide +kernel), (by decide +kernel)⟩
set_option maxRecDepth 100000 in
theorem gX5_9_1 : zgP RX5 9 1 8 := ⟨_, _, _, "BitWell$Generator", rfl, (by decide +kernel), (zmem 453 (by decide +kernel) (by decide +kernel)), Or.inl rfl⟩
set_option maxRecDepth 100000 in
theorem gX5_9_4 : zgP RX5 9 4 8 := ⟨_, _, _, "BitWell$Generator", rfl, (by decide +kernel), (zmem 453 (by decide +kernel) (by decide +kernel)), Or.inl rfl⟩
set_option maxRecDepth 100000 in
theorem gX5_9_5 : zgP RX5 9 5 8 := ⟨_, _, _, "BitWell$Generator", rfl, (by decide +kernel), (zmem 453 (by decide +kernel) (by decide +kernel)), Or.inl rfl⟩
set_option maxRecDepth 100000 in
theorem cX5_69_1 : zuP RX5 69 RX1 "BitWell$Generator" ⟨"BitWell$Generator", "derives", "()Z"⟩ mX5_derives 0 := ⟨kX5_derives, ⟨(zmem 540 (by decide +kernel) (by decide +kernel)), (zmem 542 (by decide +kernel) (by decide +kernel)), (zmem 543 (by decide +kernel) (by decide +kernel)), iwX5_derives, ziRX5⟩, rfl, Or.inl rfl, (by decide +kernel), (by decide +kernel)⟩
set_option maxRecDepth 100000 in
theorem cX5_69_4 : zuP RX5 69 RX4 "BitWell$Generator" ⟨"BitWell$Generator", "derives", "()Z"⟩ mX5_derives 0 := ⟨kX5_derives, ⟨(zmem 540 (by decide +kernel) (by decide +kernel)), (zmem 542 (by decide +kernel) (by decide +kernel)), (zmem 544 (by decide +kernel) (by decide +kernel)), iwX5_derives, ziRX5⟩, rfl, Or.inl rfl, (by decide +kernel), (by decide +kernel)⟩
set_option maxRecDepth 100000 in
theorem cX5_69_5 : zuP RX5 69 RX6 "BitWell$Generator" ⟨"BitWell$Generator", "derives", "()Z"⟩ mX5_derives 0 := ⟨kX5_derives, ⟨(zmem 540 (by decide +kernel) (by decide +kernel)), (zmem 542 (by decide +kernel) (by decide +kernel)), (zmem 545 (by decide +kernel) (by decide +kernel)), iwX5_derives, ziRX5⟩, rfl, Or.inl rfl, (by decide +kernel), (by decide +kernel)⟩
set_option maxRecDepth 100000 in
theorem gX5_42_1 : zgP RX5 42 1 2 := ⟨_, _, _, "BitWell$Generator", rfl, (by decide +kernel), (zmem 423 (by decide +kernel) (by decide +kernel)), Or.inl rfl⟩
set_option maxRecDepth 100000 in
theorem gX5_42_4 : zgP RX5 42 4 2 := ⟨_, _, _, "BitWell$Generator", rfl, (by decide +kernel), (zmem 423 (by decide +kernel) (by decide +kernel)), Or.inl rfl⟩
set_option maxRecDepth 100000 in
theorem gX5_42_5 : zgP RX5 42 5 2 := ⟨_, _, _, "BitWell$Generator", rfl, (by decide +kernel), (zmem 423 (by decide +kernel) (by decide +kernel)), Or.inl rfl⟩
set_option maxRecDepth 100000 in
theorem gX5_24_1 : zgP RX5 24 1 0 := ⟨_, _, _, "BitWell$Generator", rfl, (by decide +kernel), (zmem 417 (by decide +kernel) (by decide +kernel)), Or.inl rfl⟩
set_option maxRecDepth 100000 in
theorem gX5_24_4 : zgP RX5 24 4 0 := ⟨_, _, _, "BitWell$Generator", rfl, (by decide +kernel), (zmem 417 (by decide +kernel) (by decide +kernel)), Or.inl rfl⟩
set_option maxRecDepth 100000 in
theorem gX5_24_5 : zgP RX5 24 5 0 := ⟨_, _, _, "BitWell$Generator", rfl, (by decide +kernel), (zmem 417 (by decide +kernel) (by decide +kernel)), Or.inl rfl⟩
set_option maxRecDepth 100000 in
theorem cX5_77_1 : zuP RX5 77 RX1 "BitWell$Generator" ⟨"BitWell$Generator", "isNew", "()Z"⟩ mX5_isNew 0 := ⟨kX5_isNew, ⟨(zmem 555 (by decide +kernel) (by decide +kernel)), (zmem 557 (by decide +kernel) (by decide +kernel)), (zmem 558 (by decide +kernel) (by decide +kernel)), iwX5_isNew, ziRX5⟩, rfl, Or.inl rfl, (by decide +kernel), (by decide +kernel)⟩
set_option maxRecDepth 100000 in
theorem cX5_77_4 : zuP RX5 77 RX4 "BitWell$Generator" ⟨"BitWell$Generator", "isNew", "()Z"⟩ mX5_isNew 0 := ⟨kX5_isNew, ⟨(zmem 555 (by decide +kernel) (by decide +kernel)), (zmem 557 (by decide +kernel) (by decide +kernel)), (zmem 559 (by decide +kernel) (by decide +kernel)), iwX5_isNew, ziRX5⟩, rfl, Or.inl rfl, (by decide +kernel), (by decide +kernel)⟩
set_option maxRecDepth 100000 in
theorem cX5_77_5 : zuP RX5 77 RX6 "BitWell$Generator" ⟨"BitWell$Generator", "isNew", "()Z"⟩ mX5_isNew 0 := ⟨kX5_isNew, ⟨(zmem 555 (by decide +kernel) (by decide +kernel)), (zmem 557 (by decide +kernel) (by decide +kernel)), (zmem 560 (by decide +kernel) (by decide +kernel)), iwX5_isNew, ziRX5⟩, rfl, Or.inl rfl, (by decide +kernel), (by decide +kernel)⟩
set_option maxRecDepth 100000 in
theorem gX5_21_1 : zgP RX5 21 1 6 := ⟨_, _, _, "BitWell$Generator", rfl, (by decide +kernel), (zmem 451 (by decide +kernel) (by decide +kernel)), Or.inl rfl⟩
set_option maxRecDepth 100000 in
theorem gX5_21_4 : zgP RX5 21 4 6 := ⟨_, _, _, "BitWell$Generator", rfl, (by decide +kernel), (zmem 451 (by decide +kernel) (by decide +kernel)), Or.inl rfl⟩
set_option maxRecDepth 100000 in
theorem gX5_21_5 : zgP RX5 21 5 6 := ⟨_, _, _, "BitWell$Generator", rfl, (by decide +kernel), (zmem 451 (by decide +kernel) (by decide +kernel)), Or.inl rfl⟩
set_option maxRecDepth 100000 in
theorem cX5_3 : Cond.methodLink RX5 3 Lib.objectInit ∈ zgood := (zmem 400 (by decide +kernel) (by decide +kernel))
set_option maxRecDepth 100000 in
theorem pX5_9_1 : zfP RX5 9 1 8 .int false := ⟨_, _, _, "BitWell$Generator", rfl, (by decide +kernel), (zmem 453 (by decide +kernel) (by decide +kernel)), Or.inl rfl, (by decide +kernel), rfl, fun e => by cases e⟩
set_option maxRecDepth 100000 in
theorem pX5_9_4 : zfP RX5 9 4 8 .int false := ⟨_, _, _, "BitWell$Generator", rfl, (by decide +kernel), (zmem 453 (by decide +kernel) (by decide +kernel)), Or.inl rfl, (by decide +kernel), rfl, fun e => by cases e⟩
set_option maxRecDepth 100000 in
theorem pX5_9_5 : zfP RX5 9 5 8 .int false := ⟨_, _, _, "BitWell$Generator", rfl, (by decide +kernel), (zmem 453 (by decide +kernel) (by decide +kernel)), Or.inl rfl, (by decide +kernel), rfl, fun e => by cases e⟩
set_option maxRecDepth 100000 in
theorem pX5_15_1 : zfP RX5 15 1 9 .int false := ⟨_, _, _, "BitWell$Generator", rfl, (by decide +kernel), (zmem 454 (by decide +kernel) (by decide +kernel)), Or.inl rfl, (by decide +kernel), rfl, fun e => by cases e⟩
set_option maxRecDepth 100000 in
theorem pX5_15_4 : zfP RX5 15 4 9 .int false := ⟨_, _, _, "BitWell$Generator", rfl, (by decide +kernel), (zmem 454 (by decide +kernel) (by decide +kernel)), Or.inl rfl, (by decide +kernel), rfl, fun e => by cases e⟩
set_option maxRecDepth 100000 in
theorem pX5_15_5 : zfP RX5 15 5 9 .int false := ⟨_, _, _, "BitWell$Generator", rfl, (by decide +kernel), (zmem 454 (by decide +kernel) (by decide +kernel)), Or.inl rfl, (by decide +kernel), rfl, fun e => by cases e⟩
set_option maxRecDepth 100000 in
theorem pX5_18_1 : zfP RX5 18 1 10 .int false := ⟨_, _, _, "BitWell$Generator", rfl, (by decide +kernel), (zmem 455 (by decide +kernel) (by decide +kernel)), Or.inl rfl, (by decide +kernel), rfl, fun e => by cases e⟩
set_option maxRecDepth 100000 in
theorem pX5_18_4 : zfP RX5 18 4 10 .int false := ⟨_, _, _, "BitWell$Generator", rfl, (by decide +kernel), (zmem 455 (by decide +kernel) (by decide +kernel)), Or.inl rfl, (by decide +kernel), rfl, fun e => by cases e⟩
set_option maxRecDepth 100000 in
theorem pX5_18_5 : zfP RX5 18 5 10 .int false := ⟨_, _, _, "BitWell$Generator", rfl, (by decide +kernel), (zmem 455 (by decide +kernel) (by decide +kernel)), Or.inl rfl, (by decide +kernel), rfl, fun e => by cases e⟩
set_option maxRecDepth 100000 in
theorem pX5_21_1 : zfP RX5 21 1 6 .int true := ⟨_, _, _, "BitWell$Generator", rfl, (by decide +kernel), (zmem 451 (by decide +kernel) (by decide +kernel)), Or.inl rfl, (by decide +kernel), rfl, fun _ => rfl⟩
set_option maxRecDepth 100000 in
theorem pX5_21_4 : zfP RX5 21 4 6 .int true := ⟨_, _, _, "BitWell$Generator", rfl, (by decide +kernel), (zmem 451 (by decide +kernel) (by decide +kernel)), Or.inl rfl, (by decide +kernel), rfl, fun _ => rfl⟩
set_option maxRecDepth 100000 in
theorem pX5_21_5 : zfP RX5 21 5 6 .int true := ⟨_, _, _, "BitWell$Generator", rfl, (by decide +kernel), (zmem 451 (by decide +kernel) (by decide +kernel)), Or.inl rfl, (by decide +kernel), rfl, fun _ => rfl⟩
set_option maxRecDepth 100000 in
theorem pX5_24_1 : zfP RX5 24 1 0 .int true := ⟨_, _, _, "BitWell$Generator", rfl, (by decide +kernel), (zmem 417 (by decide +kernel) (by decide +kernel)), Or.inl rfl, (by decide +kernel), rfl, fun _ => rfl⟩
set_option maxRecDepth 100000 in
theorem pX5_24_4 : zfP RX5 24 4 0 .int true := ⟨_, _, _, "BitWell$Generator", rfl, (by decide +kernel), (zmem 417 (by decide +kernel) (by decide +kernel)), Or.inl rfl, (by decide +kernel), rfl, fun _ => rfl⟩
set_option maxRecDepth 100000 in
theorem pX5_24_5 : zfP RX5 24 5 0 .int true := ⟨_, _, _, "BitWell$Generator", rfl, (by decide +kernel), (zmem 417 (by decide +kernel) (by decide +kernel)), Or.inl rfl, (by decide +kernel), rfl, fun _ => rfl⟩
set_option maxRecDepth 100000 in
theorem pX5_27_1 : zfP RX5 27 1 1 .boolean true := ⟨_, _, _, "BitWell$Generator", rfl, (by decide +kernel), (zmem 419 (by decide +kernel) (by decide +kernel)), Or.inl rfl, (by decide +kernel), rfl, fun _ => rfl⟩
set_option maxRecDepth 100000 in
theorem pX5_27_4 : zfP RX5 27 4 1 .boolean true := ⟨_, _, _, "BitWell$Generator", rfl, (by decide +kernel), (zmem 419 (by decide +kernel) (by decide +kernel)), Or.inl rfl, (by decide +kernel), rfl, fun _ => rfl⟩
set_option maxRecDepth 100000 in
theorem pX5_27_5 : zfP RX5 27 5 1 .boolean true := ⟨_, _, _, "BitWell$Generator", rfl, (by decide +kernel), (zmem 419 (by decide +kernel) (by decide +kernel)), Or.inl rfl, (by decide +kernel), rfl, fun _ => rfl⟩
set_option maxRecDepth 100000 in
theorem pX5_31_1 : zfP RX5 31 1 7 .int true := ⟨_, _, _, "BitWell$Generator", rfl, (by decide +kernel), (zmem 452 (by decide +kernel) (by decide +kernel)), Or.inl rfl, (by decide +kernel), rfl, fun _ => rfl⟩
set_option maxRecDepth 100000 in
theorem pX5_31_4 : zfP RX5 31 4 7 .int true := ⟨_, _, _, "BitWell$Generator", rfl, (by decide +kernel), (zmem 452 (by decide +kernel) (by decide +kernel)), Or.inl rfl, (by decide +kernel), rfl, fun _ => rfl⟩
set_option maxRecDepth 100000 in
theorem pX5_31_5 : zfP RX5 31 5 7 .int true := ⟨_, _, _, "BitWell$Generator", rfl, (by decide +kernel), (zmem 452 (by decide +kernel) (by decide +kernel)), Or.inl rfl, (by decide +kernel), rfl, fun _ => rfl⟩
set_option maxRecDepth 100000 in
theorem pX5_34_1 : zfP RX5 34 1 5 (.object "BitWell$Desk") true := ⟨_, _, _, "BitWell$Generator", rfl, (by decide +kernel), (zmem 444 (by decide +kernel) (by decide +kernel)), Or.inl rfl, (by decide +kernel), rfl, fun _ => rfl⟩
set_option maxRecDepth 100000 in
theorem pX5_34_4 : zfP RX5 34 4 5 (.object "BitWell$Desk") true := ⟨_, _, _, "BitWell$Generator", rfl, (by decide +kernel), (zmem 444 (by decide +kernel) (by decide +kernel)), Or.inl rfl, (by decide +kernel), rfl, fun _ => rfl⟩
set_option maxRecDepth 100000 in
theorem pX5_34_5 : zfP RX5 34 5 5 (.object "BitWell$Desk") true := ⟨_, _, _, "BitWell$Generator", rfl, (by decide +kernel), (zmem 444 (by decide +kernel) (by decide +kernel)), Or.inl rfl, (by decide +kernel), rfl, fun _ => rfl⟩
set_option maxRecDepth 100000 in
theorem cX5_38 : zsvP RX5 38 mX5_seedLengthOf 1 := ⟨kX5_seedLengthOf, (zmem 401 (by decide +kernel) (by decide +kernel)), swX5_seedLengthOf, ziRX5⟩
set_option maxRecDepth 100000 in
theorem pX5_42_1 : zfP RX5 42 1 2 .int true := ⟨_, _, _, "BitWell$Generator", rfl, (by decide +kernel), (zmem 423 (by decide +kernel) (by decide +kernel)), Or.inl rfl, (by decide +kernel), rfl, fun _ => rfl⟩
set_option maxRecDepth 100000 in
theorem pX5_42_4 : zfP RX5 42 4 2 .int true := ⟨_, _, _, "BitWell$Generator", rfl, (by decide +kernel), (zmem 423 (by decide +kernel) (by decide +kernel)), Or.inl rfl, (by decide +kernel), rfl, fun _ => rfl⟩
set_option maxRecDepth 100000 in
theorem pX5_42_5 : zfP RX5 42 5 2 .int true := ⟨_, _, _, "BitWell$Generator", rfl, (by decide +kernel), (zmem 423 (by decide +kernel) (by decide +kernel)), Or.inl rfl, (by decide +kernel), rfl, fun _ => rfl⟩
set_option maxRecDepth 100000 in
theorem nX5_45 : znP RX5 45 6 [.null, .int 0] := ⟨_, _, _, rfl, rfl, (zmem 406 (by decide +kernel) (by decide +kernel)), (by decide +kernel)⟩
set_option maxRecDepth 100000 in
theorem cX5_49 : ziP RX5 49 mX7_init 1 := ⟨kX7_init, (zmem 407 (by decide +kernel) (by decide +kernel)), iwX7_init, ziRX7, rfl⟩
set_option maxRecDepth 100000 in
theorem pX5_52_1 : zfP RX5 52 1 3 (.object "BitWell$Row") true := ⟨_, _, _, "BitWell$Generator", rfl, (by decide +kernel), (zmem 428 (by decide +kernel) (by decide +kernel)), Or.inl rfl, (by decide +kernel), rfl, fun _ => rfl⟩
set_option maxRecDepth 100000 in
theorem pX5_52_4 : zfP RX5 52 4 3 (.object "BitWell$Row") true := ⟨_, _, _, "BitWell$Generator", rfl, (by decide +kernel), (zmem 428 (by decide +kernel) (by decide +kernel)), Or.inl rfl, (by decide +kernel), rfl, fun _ => rfl⟩
set_option maxRecDepth 100000 in
theorem pX5_52_5 : zfP RX5 52 5 3 (.object "BitWell$Row") true := ⟨_, _, _, "BitWell$Generator", rfl, (by decide +kernel), (zmem 428 (by decide +kernel) (by decide +kernel)), Or.inl rfl, (by decide +kernel), rfl, fun _ => rfl⟩
set_option maxRecDepth 100000 in
theorem pX5_56_1 : zfP RX5 56 1 4 (.object "BitWell$Row") true := ⟨_, _, _, "BitWell$Generator", rfl, (by decide +kernel), (zmem 436 (by decide +kernel) (by decide +kernel)), Or.inl rfl, (by decide +kernel), rfl, fun _ => rfl⟩
set_option maxRecDepth 100000 in
theorem pX5_56_4 : zfP RX5 56 4 4 (.object "BitWell$Row") true := ⟨_, _, _, "BitWell$Generator", rfl, (by decide +kernel), (zmem 436 (by decide +kernel) (by decide +kernel)), Or.inl rfl, (by decide +kernel), rfl, fun _ => rfl⟩
set_option maxRecDepth 100000 in
theorem pX5_56_5 : zfP RX5 56 5 4 (.object "BitWell$Row") true := ⟨_, _, _, "BitWell$Generator", rfl, (by decide +kernel), (zmem 436 (by decide +kernel) (by decide +kernel)), Or.inl rfl, (by decide +kernel), rfl, fun _ => rfl⟩
set_option maxRecDepth 100000 in
theorem gX5_31_1 : zgP RX5 31 1 7 := ⟨_, _, _, "BitWell$Generator", rfl, (by decide +kernel), (zmem 452 (by decide +kernel) (by decide +kernel)), Or.inl rfl⟩
set_option maxRecDepth 100000 in
theorem gX5_31_4 : zgP RX5 31 4 7 := ⟨_, _, _, "BitWell$Generator", rfl, (by decide +kernel), (zmem 452 (by decide +kernel) (by decide +kernel)), Or.inl rfl⟩
set_option maxRecDepth 100000 in
theorem gX5_31_5 : zgP RX5 31 5 7 := ⟨_, _, _, "BitWell$Generator", rfl, (by decide +kernel), (zmem 452 (by decide +kernel) (by decide +kernel)), Or.inl rfl⟩
set_option maxRecDepth 100000 in
theorem gX5_18_1 : zgP RX5 18 1 10 := ⟨_, _, _, "BitWell$Generator", rfl, (by decide +kernel), (zmem 455 (by decide +kernel) (by decide +kernel)), Or.inl rfl⟩
set_option maxRecDepth 100000 in
theorem gX5_18_4 : zgP RX5 18 4 10 := ⟨_, _, _, "BitWell$Generator", rfl, (by decide +kernel), (zmem 455 (by decide +kernel) (by decide +kernel)), Or.inl rfl⟩
set_option maxRecDepth 100000 in
theorem gX5_18_5 : zgP RX5 18 5 10 := ⟨_, _, _, "BitWell$Generator", rfl, (by decide +kernel), (zmem 455 (by decide +kernel) (by decide +kernel)), Or.inl rfl⟩
set_option maxRecDepth 100000 in
theorem cX5_73 : zvP RX5 73 mX7_length 0 := ⟨kX7_length, (zmem 547 (by decide +kernel) (by decide +kernel)), iwX7_length, (zmem 289 (by decide +kernel) (by decide +kernel)), ziRX7⟩
set_option maxRecDepth 100000 in
theorem sX5_63 : zsP RX5 63 6 := ⟨"BitWell$Generator", "STRENGTHS", "[I", (zmem 386 (by decide +kernel) (by decide +kernel)), (by decide +kernel), (by decide +kernel)⟩
set_option maxRecDepth 100000 in
theorem gX5_27_1 : zgP RX5 27 1 1 := ⟨_, _, _, "BitWell$Generator", rfl, (by decide +kernel), (zmem 419 (by decide +kernel) (by decide +kernel)), Or.inl rfl⟩
set_option maxRecDepth 100000 in
theorem gX5_27_4 : zgP RX5 27 4 1 := ⟨_, _, _, "BitWell$Generator", rfl, (by decide +kernel), (zmem 419 (by decide +kernel) (by decide +kernel)), Or.inl rfl⟩
set_option maxRecDepth 100000 in
theorem gX5_27_5 : zgP RX5 27 5 1 := ⟨_, _, _, "BitWell$Generator", rfl, (by decide +kernel), (zmem 419 (by decide +kernel) (by decide +kernel)), Or.inl rfl⟩
set_option maxRecDepth 100000 in
theorem gX5_15_1 : zgP RX5 15 1 9 := ⟨_, _, _, "BitWell$Generator", rfl, (by decide +kernel), (zmem 454 (by decide +kernel) (by decide +kernel)), Or.inl rfl⟩
set_option maxRecDepth 100000 in
theorem gX5_15_4 : zgP RX5 15 4 9 := ⟨_, _, _, "BitWell$Generator", rfl, (by decide +kernel), (zmem 454 (by decide +kernel) (by decide +kernel)), Or.inl rfl⟩
set_option maxRecDepth 100000 in
theorem gX5_15_5 : zgP RX5 15 5 9 := ⟨_, _, _, "BitWell$Generator", rfl, (by decide +kernel), (zmem 454 (by decide +kernel) (by decide +kernel)), Or.inl rfl⟩
set_option maxRecDepth 100000 in
theorem sX5_66 : zsP RX5 66 8 := ⟨"BitWell$Generator", "SEED_LENGTHS", "[I", (zmem 404 (by decide +kernel) (by decide +kernel)), (by decide +kernel), (by decide +kernel)⟩
set_option maxRecDepth 100000 in
theorem sX5_59 : zsP RX5 59 7 := ⟨"BitWell$Generator", "STRONGEST", "[I", (zmem 381 (by decide +kernel) (by decide +kernel)), (by decide +kernel), (by decide +kernel)⟩
set_option maxRecDepth 100000 in
theorem gX5_52_1 : zgP RX5 52 1 3 := ⟨_, _, _, "BitWell$Generator", rfl, (by decide +kernel), (zmem 428 (by decide +kernel) (by decide +kernel)), Or.inl rfl⟩
set_option maxRecDepth 100000 in
theorem gX5_52_4 : zgP RX5 52 4 3 := ⟨_, _, _, "BitWell$Generator", rfl, (by decide +kernel), (zmem 428 (by decide +kernel) (by decide +kernel)), Or.inl rfl⟩
set_option maxRecDepth 100000 in
theorem gX5_52_5 : zgP RX5 52 5 3 := ⟨_, _, _, "BitWell$Generator", rfl, (by decide +kernel), (zmem 428 (by decide +kernel) (by decide +kernel)), Or.inl rfl⟩
set_option maxRecDepth 100000 in
theorem cX5_80 : zvP RX5 80 mX7_becomeSame 2 := ⟨kX7_becomeSame, (zmem 791 (by decide +kernel) (by decide +kernel)), iwX7_becomeSame, (zmem 593 (by decide +kernel) (by decide +kernel)), ziRX7⟩
set_option maxRecDepth 100000 in
theorem gX5_56_1 : zgP RX5 56 1 4 := ⟨_, _, _, "BitWell$Generator", rfl, (by decide +kernel), (zmem 436 (by decide +kernel) (by decide +kernel)), Or.inl rfl⟩
set_option maxRecDepth 100000 in
theorem gX5_56_4 : zgP RX5 56 4 4 := ⟨_, _, _, "BitWell$Generator", rfl, (by decide +kernel), (zmem 436 (by decide +kernel) (by decide +kernel)), Or.inl rfl⟩
set_option maxRecDepth 100000 in
theorem gX5_56_5 : zgP RX5 56 5 4 := ⟨_, _, _, "BitWell$Generator", rfl, (by decide +kernel), (zmem 436 (by decide +kernel) (by decide +kernel)), Or.inl rfl⟩
set_option maxRecDepth 100000 in
theorem cX6_1 : ziP RX6 1 mX5_init 5 := ⟨kX5_init, (zmem 486 (by decide +kernel) (by decide +kernel)), iwX5_init, ziRX5, rfl⟩
set_option maxRecDepth 100000 in
theorem cX6_13 : zvP RX6 13 mX2_digestOf 1 := ⟨kX2_digestOf, (zmem 489 (by decide +kernel) (by decide +kernel)), iwX2_digestOf, (zmem 414 (by decide +kernel) (by decide +kernel)), ziRX2⟩
set_option maxRecDepth 100000 in
theorem pX6_19_5 : zfP RX6 19 5 11 (.object "BitWell$Digest") true := ⟨_, _, _, "BitWell$MacGenerator", rfl, (by decide +kernel), (zmem 490 (by decide +kernel) (by decide +kernel)), Or.inl rfl, (by decide +kernel), rfl, fun _ => rfl⟩
set_option maxRecDepth 100000 in
theorem cX6_63 : zvP RX6 63 mX7_length 0 := ⟨kX7_length, (zmem 760 (by decide +kernel) (by decide +kernel)), iwX7_length, (zmem 289 (by decide +kernel) (by decide +kernel)), ziRX7⟩
set_option maxRecDepth 100000 in
theorem gX6_44_5 : zgP RX6 44 5 5 := ⟨_, _, _, "BitWell$MacGenerator", rfl, (by decide +kernel), (zmem 449 (by decide +kernel) (by decide +kernel)), Or.inr (zmem 450 (by decide +kernel) (by decide +kernel))⟩
set_option maxRecDepth 100000 in
theorem gX6_81_2 : zgP RX6 81 2 2 := ⟨_, _, _, "BitWell$Desk", rfl, (by decide +kernel), (zmem 239 (by decide +kernel) (by decide +kernel)), Or.inl rfl⟩
set_option maxRecDepth 100000 in
theorem cX6_84 : zvP RX6 84 mX7_clear 0 := ⟨kX7_clear, (zmem 761 (by decide +kernel) (by decide +kernel)), iwX7_clear, (zmem 342 (by decide +kernel) (by decide +kernel)), ziRX7⟩
set_option maxRecDepth 100000 in
theorem gX6_41_5 : zgP RX6 41 5 3 := ⟨_, _, _, "BitWell$MacGenerator", rfl, (by decide +kernel), (zmem 431 (by decide +kernel) (by decide +kernel)), Or.inr (zmem 432 (by decide +kernel) (by decide +kernel))⟩
set_option maxRecDepth 100000 in
theorem cX6_87 : zvP RX6 87 mX7_appendRow 1 := ⟨kX7_appendRow, (zmem 762 (by decide +kernel) (by decide +kernel)), iwX7_appendRow, (zmem 610 (by decide +kernel) (by decide +kernel)), ziRX7⟩
set_option maxRecDepth 100000 in
theorem cX6_90 : zvP RX6 90 mX7_append 1 := ⟨kX7_append, (zmem 763 (by decide +kernel) (by decide +kernel)), iwX7_append, (zmem 346 (by decide +kernel) (by decide +kernel)), ziRX7⟩
set_option maxRecDepth 100000 in
theorem gX6_19_5 : zgP RX6 19 5 11 := ⟨_, _, _, "BitWell$MacGenerator", rfl, (by decide +kernel), (zmem 490 (by decide +kernel) (by decide +kernel)), Or.inl rfl⟩
set_option maxRecDepth 100000 in
theorem gX6_27_5 : zgP RX6 27 5 4 := ⟨_, _, _, "BitWell$MacGenerator", rfl, (by decide +kernel), (zmem 439 (by decide +kernel) (by decide +kernel)), Or.inr (zmem 440 (by decide +kernel) (by decide +kernel))⟩
set_option maxRecDepth 100000 in
theorem cX6_67 : zvP RX6 67 mX3_keyed 3 := ⟨kX3_keyed, (zmem 764 (by decide +kernel) (by decide +kernel)), iwX3_keyed, (zmem 766 (by decide +kernel) (by decide +kernel)), ziRX3⟩
set_option maxRecDepth 100000 in
theorem cX6_23_5 : zuP RX6 23 RX6 "BitWell$Generator" ⟨"BitWell$MacGenerator", "isNew", "()Z"⟩ mX5_isNew 0 := ⟨kX5_isNew, ⟨(zmem 751 (by decide +kernel) (by decide +kernel)), (zmem 752 (by decide +kernel) (by decide +kernel)), (zmem 753 (by decide +kernel) (by decide +kernel)), iwX5_isNew, ziRX5⟩, rfl, Or.inl rfl, (by decide +kernel), (by decide +kernel)⟩
set_option maxRecDepth 100000 in
theorem gX6_31_5 : zgP RX6 31 5 2 := ⟨_, _, _, "BitWell$MacGenerator", rfl, (by decide +kernel), (zmem 424 (by decide +kernel) (by decide +kernel)), Or.inr (zmem 425 (by decide +kernel) (by decide +kernel))⟩
set_option maxRecDepth 100000 in
theorem cX6_35 : zvP RX6 35 mX7_becomeSame 2 := ⟨kX7_becomeSame, (zmem 754 (by decide +kernel) (by decide +kernel)), iwX7_becomeSame, (zmem 593 (by decide +kernel) (by decide +kernel)), ziRX7⟩
set_option maxRecDepth 100000 in
theorem cX6_48 : zvP RX6 48 mX2_join 2 := ⟨kX2_join, (zmem 755 (by decide +kernel) (by decide +kernel)), iwX2_join, (zmem 605 (by decide +kernel) (by decide +kernel)), ziRX2⟩
set_option maxRecDepth 100000 in
theorem gX6_52_2 : zgP RX6 52 2 3 := ⟨_, _, _, "BitWell$Desk", rfl, (by decide +kernel), (zmem 243 (by decide +kernel) (by decide +kernel)), Or.inl rfl⟩
set_option maxRecDepth 100000 in
theorem cX6_55 : zvP RX6 55 mX6_mix 1 := ⟨kX6_mix, (zmem 756 (by decide +kernel) (by decide +kernel)), iwX6_mix, (zmem 20 (by decide +kernel) (by decide +kernel)), ziRX6⟩
set_option maxRecDepth 100000 in
theorem cX6_59_5 : zuP RX6 59 RX6 "BitWell$Generator" ⟨"BitWell$MacGenerator", "noteSeeding", "()V"⟩ mX5_noteSeeding 0 := ⟨kX5_noteSeeding, ⟨(zmem 773 (by decide +kernel) (by decide +kernel)), (zmem 774 (by decide +kernel) (by decide +kernel)), (zmem 775 (by decide +kernel) (by decide +kernel)), iwX5_noteSeeding, ziRX5⟩, rfl, Or.inl rfl, (by decide +kernel), (by decide +kernel)⟩
set_option maxRecDepth 100000 in
theorem cX6_73 : zvP RX6 73 mX7_appendPart 3 := ⟨kX7_appendPart, (zmem 849 (by decide +kernel) (by decide +kernel)), iwX7_appendPart, (zmem 572 (by decide +kernel) (by decide +kernel)), ziRX7⟩
set_option maxRecDepth 100000 in
theorem cX6_77_5 : zuP RX6 77 RX6 "BitWell$Generator" ⟨"BitWell$MacGenerator", "noteDrawing", "(I)V"⟩ mX5_noteDrawing 1 := ⟨kX5_noteDrawing, ⟨(zmem 850 (by decide +kernel) (by decide +kernel)), (zmem 851 (by decide +kernel) (by decide +kernel)), (zmem 852 (by decide +kernel) (by decide +kernel)), iwX5_noteDrawing, ziRX5⟩, rfl, Or.inl rfl, (by decide +kernel), (by decide +kernel)⟩
set_option maxRecDepth 100000 in
theorem gX7_9_6 : zgP RX7 9 6 1 := ⟨_, _, _, "BitWell$Row", rfl, (by decide +kernel), (zmem 83 (by decide +kernel) (by decide +kernel)), Or.inl rfl⟩
set_option maxRecDepth 100000 in
theorem gX7_21_6 : zgP RX7 21 6 0 := ⟨_, _, _, "BitWell$Row", rfl, (by decide +kernel), (zmem 82 (by decide +kernel) (by decide +kernel)), Or.inl rfl⟩
set_option maxRecDepth 100000 in
theorem pX7_9_6 : zfP RX7 9 6 1 .int false := ⟨_, _, _, "BitWell$Row", rfl, (by decide +kernel), (zmem 83 (by decide +kernel) (by decide +kernel)), Or.inl rfl, (by decide +kernel), rfl, fun e => by cases e⟩
set_option maxRecDepth 100000 in
theorem cX7_29 : Cond.methodLink RX7 29 Lib.Math.min.name ∈ zgood := (zmem 574 (by decide +kernel) (by decide +kernel))
set_option maxRecDepth 100000 in
theorem cX7_15 : Cond.methodLink RX7 15 Lib.Math.max.name ∈ zgood := (zmem 79 (by decide +kernel) (by decide +kernel))
set_option maxRecDepth 100000 in
theorem cX7_25 : zvP RX7 25 mX7_appendPart 3 := ⟨kX7_appendPart, (zmem 570 (by decide +kernel) (by decide +kernel)), iwX7_appendPart, (zmem 572 (by decide +kernel) (by decide +kernel)), ziRX7⟩
set_option maxRecDepth 100000 in
theorem cX7_32 : zvP RX7 32 mX7_appendSame 2 := ⟨kX7_appendSame, (zmem 595 (by decide +kernel) (by decide +kernel)), iwX7_appendSame, (zmem 597 (by decide +kernel) (by decide +kernel)), ziRX7⟩
set_option maxRecDepth 100000 in
theorem cX7_3 : Cond.methodLink RX7 3 Lib.objectInit ∈ zgood := (zmem 78 (by decide +kernel) (by decide +kernel))
set_option maxRecDepth 100000 in
theorem pX7_21_6 : zfP RX7 21 6 0 (.array .int) true := ⟨_, _, _, "BitWell$Row", rfl, (by decide +kernel), (zmem 82 (by decide +kernel) (by decide +kernel)), Or.inl rfl, (by decide +kernel), rfl, fun _ => rfl⟩
set_option maxRecDepth 100000 in
theorem pX8_35_7 : zfP RX8 35 7 5 .boolean false := ⟨_, _, _, "BitWell$Supply", rfl, (by decide +kernel), (zmem 103 (by decide +kernel) (by decide +kernel)), Or.inl rfl, (by decide +kernel), rfl, fun e => by cases e⟩
set_option maxRecDepth 100000 in
theorem gX8_57_7 : zgP RX8 57 7 12 := ⟨_, _, _, "BitWell$Supply", rfl, (by decide +kernel), (zmem 110 (by decide +kernel) (by decide +kernel)), Or.inl rfl⟩
set_option maxRecDepth 100000 in
theorem pX8_57_7 : zfP RX8 57 7 12 .int false := ⟨_, _, _, "BitWell$Supply", rfl, (by decide +kernel), (zmem 110 (by decide +kernel) (by decide +kernel)), Or.inl rfl, (by decide +kernel), rfl, fun e => by cases e⟩
set_option maxRecDepth 100000 in
theorem gX8_16_7 : zgP RX8 16 7 0 := ⟨_, _, _, "BitWell$Supply", rfl, (by decide +kernel), (zmem 98 (by decide +kernel) (by decide +kernel)), Or.inl rfl⟩
set_option maxRecDepth 100000 in
theorem cX8_67 : zvP RX8 67 mX7_clear 0 := ⟨kX7_clear, (zmem 340 (by decide +kernel) (by decide +kernel)), iwX7_clear, (zmem 342 (by decide +kernel) (by decide +kernel)), ziRX7⟩
set_option maxRecDepth 100000 in
theorem pX8_39_7 : zfP RX8 39 7 6 .int false := ⟨_, _, _, "BitWell$Supply", rfl, (by decide +kernel), (zmem 104 (by decide +kernel) (by decide +kernel)), Or.inl rfl, (by decide +kernel), rfl, fun e => by cases e⟩
set_option maxRecDepth 100000 in
theorem pX8_42_7 : zfP RX8 42 7 7 .int false := ⟨_, _, _, "BitWell$Supply", rfl, (by decide +kernel), (zmem 105 (by decide +kernel) (by decide +kernel)), Or.inl rfl, (by decide +kernel), rfl, fun e => by cases e⟩
set_option maxRecDepth 100000 in
theorem cX8_70 : zvP RX8 70 mX8_forgetSample 0 := ⟨kX8_forgetSample, (zmem 332 (by decide +kernel) (by decide +kernel)), iwX8_forgetSample, (zmem 2 (by decide +kernel) (by decide +kernel)), ziRX8⟩
set_option maxRecDepth 100000 in
theorem gX8_45_7 : zgP RX8 45 7 8 := ⟨_, _, _, "BitWell$Supply", rfl, (by decide +kernel), (zmem 106 (by decide +kernel) (by decide +kernel)), Or.inl rfl⟩
set_option maxRecDepth 100000 in
theorem pX8_45_7 : zfP RX8 45 7 8 .int false := ⟨_, _, _, "BitWell$Supply", rfl, (by decide +kernel), (zmem 106 (by decide +kernel) (by decide +kernel)), Or.inl rfl, (by decide +kernel), rfl, fun e => by cases e⟩
set_option maxRecDepth 100000 in
theorem pX8_48_7 : zfP RX8 48 7 9 .int false := ⟨_, _, _, "BitWell$Supply", rfl, (by decide +kernel), (zmem 107 (by decide +kernel) (by decide +kernel)), Or.inl rfl, (by decide +kernel), rfl, fun e => by cases e⟩
set_option maxRecDepth 100000 in
theorem pX8_51_7 : zfP RX8 51 7 10 .int false := ⟨_, _, _, "BitWell$Supply", rfl, (by decide +kernel), (zmem 108 (by decide +kernel) (by decide +kernel)), Or.inl rfl, (by decide +kernel), rfl, fun e => by cases e⟩
set_option maxRecDepth 100000 in
theorem gX8_48_7 : zgP RX8 48 7 9 := ⟨_, _, _, "BitWell$Supply", rfl, (by decide +kernel), (zmem 107 (by decide +kernel) (by decide +kernel)), Or.inl rfl⟩
set_option maxRecDepth 100000 in
theorem gX8_32_7 : zgP RX8 32 7 4 := ⟨_, _, _, "BitWell$Supply", rfl, (by decide +kernel), (zmem 102 (by decide +kernel) (by decide +kernel)), Or.inl rfl⟩
set_option maxRecDepth 100000 in
theorem gX8_51_7 : zgP RX8 51 7 10 := ⟨_, _, _, "BitWell$Supply", rfl, (by decide +kernel), (zmem 108 (by decide +kernel) (by decide +kernel)), Or.inl rfl⟩
set_option maxRecDepth 100000 in
theorem gX8_29_7 : zgP RX8 29 7 3 := ⟨_, _, _, "BitWell$Supply", rfl, (by decide +kernel), (zmem 101 (by decide +kernel) (by decide +kernel)), Or.inl rfl⟩
set_option maxRecDepth 100000 in
theorem gX8_22_7 : zgP RX8 22 7 1 := ⟨_, _, _, "BitWell$Supply", rfl, (by decide +kernel), (zmem 99 (by decide +kernel) (by decide +kernel)), Or.inl rfl⟩
set_option maxRecDepth 100000 in
theorem cX8_90 : zvP RX8 90 mX7_becomePart 3 := ⟨kX7_becomePart, (zmem 566 (by decide +kernel) (by decide +kernel)), iwX7_becomePart, (zmem 568 (by decide +kernel) (by decide +kernel)), ziRX7⟩
set_option maxRecDepth 100000 in
theorem cX8_94 : zvP RX8 94 mX7_dropFirst 1 := ⟨kX7_dropFirst, (zmem 577 (by decide +kernel) (by decide +kernel)), iwX7_dropFirst, (zmem 579 (by decide +kernel) (by decide +kernel)), ziRX7⟩
set_option maxRecDepth 100000 in
theorem gX8_54_7 : zgP RX8 54 7 11 := ⟨_, _, _, "BitWell$Supply", rfl, (by decide +kernel), (zmem 109 (by decide +kernel) (by decide +kernel)), Or.inl rfl⟩
set_option maxRecDepth 100000 in
theorem cX8_60 : zvP RX8 60 mX7_length 0 := ⟨kX7_length, (zmem 315 (by decide +kernel) (by decide +kernel)), iwX7_length, (zmem 289 (by decide +kernel) (by decide +kernel)), ziRX7⟩
set_option maxRecDepth 100000 in
theorem pX8_54_7 : zfP RX8 54 7 11 .int false := ⟨_, _, _, "BitWell$Supply", rfl, (by decide +kernel), (zmem 109 (by decide +kernel) (by decide +kernel)), Or.inl rfl, (by decide +kernel), rfl, fun e => by cases e⟩
set_option maxRecDepth 100000 in
theorem cX8_3 : Cond.methodLink RX8 3 Lib.objectInit ∈ zgood := (zmem 95 (by decide +kernel) (by decide +kernel))
set_option maxRecDepth 100000 in
theorem nX8_9 : znP RX8 9 6 [.null, .int 0] := ⟨_, _, _, rfl, rfl, (zmem 96 (by decide +kernel) (by decide +kernel)), (by decide +kernel)⟩
set_option maxRecDepth 100000 in
theorem cX8_13 : ziP RX8 13 mX7_init 1 := ⟨kX7_init, (zmem 97 (by decide +kernel) (by decide +kernel)), iwX7_init, ziRX7, rfl⟩
set_option maxRecDepth 100000 in
theorem pX8_16_7 : zfP RX8 16 7 0 (.object "BitWell$Row") true := ⟨_, _, _, "BitWell$Supply", rfl, (by decide +kernel), (zmem 98 (by decide +kernel) (by decide +kernel)), Or.inl rfl, (by decide +kernel), rfl, fun _ => rfl⟩
set_option maxRecDepth 100000 in
theorem pX8_22_7 : zfP RX8 22 7 1 (.object "BitWell$Row") true := ⟨_, _, _, "BitWell$Supply", rfl, (by decide +kernel), (zmem 99 (by decide +kernel) (by decide +kernel)), Or.inl rfl, (by decide +kernel), rfl, fun _ => rfl⟩
set_option maxRecDepth 100000 in
theorem pX8_25_7 : zfP RX8 25 7 2 .int false := ⟨_, _, _, "BitWell$Supply", rfl, (by decide +kernel), (zmem 100 (by decide +kernel) (by decide +kernel)), Or.inl rfl, (by decide +kernel), rfl, fun e => by cases e⟩
set_option maxRecDepth 100000 in
theorem pX8_29_7 : zfP RX8 29 7 3 .int false := ⟨_, _, _, "BitWell$Supply", rfl, (by decide +kernel), (zmem 101 (by decide +kernel) (by decide +kernel)), Or.inl rfl, (by decide +kernel), rfl, fun e => by cases e⟩
set_option maxRecDepth 100000 in
theorem pX8_32_7 : zfP RX8 32 7 4 .int false := ⟨_, _, _, "BitWell$Supply", rfl, (by decide +kernel), (zmem 102 (by decide +kernel) (by decide +kernel)), Or.inl rfl, (by decide +kernel), rfl, fun e => by cases e⟩
set_option maxRecDepth 100000 in
theorem gX8_35_7 : zgP RX8 35 7 5 := ⟨_, _, _, "BitWell$Supply", rfl, (by decide +kernel), (zmem 103 (by decide +kernel) (by decide +kernel)), Or.inl rfl⟩
set_option maxRecDepth 100000 in
theorem gX8_42_7 : zgP RX8 42 7 7 := ⟨_, _, _, "BitWell$Supply", rfl, (by decide +kernel), (zmem 105 (by decide +kernel) (by decide +kernel)), Or.inl rfl⟩
set_option maxRecDepth 100000 in
theorem cX8_73 : zvP RX8 73 mX7_at 1 := ⟨kX7_at, (zmem 320 (by decide +kernel) (by decide +kernel)), iwX7_at, (zmem 322 (by decide +kernel) (by decide +kernel)), ziRX7⟩
set_option maxRecDepth 100000 in
theorem cX8_77 : zvP RX8 77 mX8_repeatsTooOften 1 := ⟨kX8_repeatsTooOften, (zmem 324 (by decide +kernel) (by decide +kernel)), iwX8_repeatsTooOften, (zmem 0 (by decide +kernel) (by decide +kernel)), ziRX8⟩
set_option maxRecDepth 100000 in
theorem cX8_81 : zvP RX8 81 mX8_comesTooOften 1 := ⟨kX8_comesTooOften, (zmem 328 (by decide +kernel) (by decide +kernel)), iwX8_comesTooOften, (zmem 1 (by decide +kernel) (by decide +kernel)), ziRX8⟩
set_option maxRecDepth 100000 in
theorem cX8_84 : zvP RX8 84 mX8_becomeUnsound 0 := ⟨kX8_becomeUnsound, (zmem 336 (by decide +kernel) (by decide +kernel)), iwX8_becomeUnsound, (zmem 3 (by decide +kernel) (by decide +kernel)), ziRX8⟩
set_option maxRecDepth 100000 in
theorem cX8_87 : zvP RX8 87 mX7_append 1 := ⟨kX7_append, (zmem 344 (by decide +kernel) (by decide +kernel)), iwX7_append, (zmem 346 (by decide +kernel) (by decide +kernel)), ziRX7⟩
set_option maxRecDepth 100000 in
theorem gX8_39_7 : zgP RX8 39 7 6 := ⟨_, _, _, "BitWell$Supply", rfl, (by decide +kernel), (zmem 104 (by decide +kernel) (by decide +kernel)), Or.inl rfl⟩
set_option maxRecDepth 100000 in
theorem gX8_25_7 : zgP RX8 25 7 2 := ⟨_, _, _, "BitWell$Supply", rfl, (by decide +kernel), (zmem 100 (by decide +kernel) (by decide +kernel)), Or.inl rfl⟩
set_option maxRecDepth 100000 in
theorem cX8_64 : zvP RX8 64 mX8_beginAnew 0 := ⟨kX8_beginAnew, (zmem 357 (by decide +kernel) (by decide +kernel)), iwX8_beginAnew, (zmem 4 (by decide +kernel) (by decide +kernel)), ziRX8⟩
set_option maxRecDepth 100000 in
theorem cX9_144 : zsvP RX9 144 mX0_keyLength 1 := ⟨kX0_keyLength, (zmem 883 (by decide +kernel) (by decide +kernel)), swX0_keyLength, ziRX0⟩
set_option maxRecDepth 100000 in
theorem gX9_14_8 : zgP RX9 14 8 0 := ⟨_, _, _, "BitWell", rfl, (by decide +kernel), (zmem 267 (by decide +kernel) (by decide +kernel)), Or.inl rfl⟩
set_option maxRecDepth 100000 in
theorem cX9_41 : zvP RX9 41 mX7_length 0 := ⟨kX7_length, (zmem 287 (by decide +kernel) (by decide +kernel)), iwX7_length, (zmem 289 (by decide +kernel) (by decide +kernel)), ziRX7⟩
set_option maxRecDepth 100000 in
theorem gX9_31_8 : zgP RX9 31 8 3 := ⟨_, _, _, "BitWell", rfl, (by decide +kernel), (zmem 270 (by decide +kernel) (by decide +kernel)), Or.inl rfl⟩
set_option maxRecDepth 100000 in
theorem cX9_150 : zvP RX9 150 mX2_divide 2 := ⟨kX2_divide, (zmem 884 (by decide +kernel) (by decide +kernel)), iwX2_divide, (zmem 886 (by decide +kernel) (by decide +kernel)), ziRX2⟩
set_option maxRecDepth 100000 in
theorem gX9_154_2 : zgP RX9 154 2 0 := ⟨_, _, _, "BitWell$Desk", rfl, (by decide +kernel), (zmem 233 (by decide +kernel) (by decide +kernel)), Or.inl rfl⟩
set_option maxRecDepth 100000 in
theorem gX9_158_2 : zgP RX9 158 2 1 := ⟨_, _, _, "BitWell$Desk", rfl, (by decide +kernel), (zmem 235 (by decide +kernel) (by decide +kernel)), Or.inl rfl⟩
set_option maxRecDepth 100000 in
theorem cX9_161 : zvP RX9 161 mX0_useKey 1 := ⟨kX0_useKey, (zmem 890 (by decide +kernel) (by decide +kernel)), iwX0_useKey, (zmem 628 (by decide +kernel) (by decide +kernel)), ziRX0⟩
set_option maxRecDepth 100000 in
theorem gX9_164_2 : zgP RX9 164 2 2 := ⟨_, _, _, "BitWell$Desk", rfl, (by decide +kernel), (zmem 240 (by decide +kernel) (by decide +kernel)), Or.inl rfl⟩
set_option maxRecDepth 100000 in
theorem gX9_18_8 : zgP RX9 18 8 1 := ⟨_, _, _, "BitWell", rfl, (by decide +kernel), (zmem 268 (by decide +kernel) (by decide +kernel)), Or.inl rfl⟩
set_option maxRecDepth 100000 in
theorem cX9_167 : zvP RX9 167 mX0_encrypt 2 := ⟨kX0_encrypt, (zmem 891 (by decide +kernel) (by decide +kernel)), iwX0_encrypt, (zmem 652 (by decide +kernel) (by decide +kernel)), ziRX0⟩
set_option maxRecDepth 100000 in
theorem cX9_103 : zvP RX9 103 mX9_openOne 1 := ⟨kX9_openOne, (zmem 780 (by decide +kernel) (by decide +kernel)), iwX9_openOne, (zmem 22 (by decide +kernel) (by decide +kernel)), ziRX9⟩
set_option maxRecDepth 100000 in
theorem cX9_107_1 : zuP RX9 107 RX1 "BitWell$Generator" ⟨"BitWell$Generator", "wipe", "()V"⟩ mX5_wipe 0 := ⟨kX5_wipe, ⟨(zmem 784 (by decide +kernel) (by decide +kernel)), (zmem 786 (by decide +kernel) (by decide +kernel)), (zmem 787 (by decide +kernel) (by decide +kernel)), iwX5_wipe, ziRX5⟩, rfl, Or.inl rfl, (by decide +kernel), (by decide +kernel)⟩
set_option maxRecDepth 100000 in
theorem cX9_107_4 : zuP RX9 107 RX4 "BitWell$Generator" ⟨"BitWell$Generator", "wipe", "()V"⟩ mX5_wipe 0 := ⟨kX5_wipe, ⟨(zmem 784 (by decide +kernel) (by decide +kernel)), (zmem 786 (by decide +kernel) (by decide +kernel)), (zmem 788 (by decide +kernel) (by decide +kernel)), iwX5_wipe, ziRX5⟩, rfl, Or.inl rfl, (by decide +kernel), (by decide +kernel)⟩
set_option maxRecDepth 100000 in
theorem cX9_107_5 : zuP RX9 107 RX6 "BitWell$Generator" ⟨"BitWell$Generator", "wipe", "()V"⟩ mX5_wipe 0 := ⟨kX5_wipe, ⟨(zmem 784 (by decide +kernel) (by decide +kernel)), (zmem 786 (by decide +kernel) (by decide +kernel)), (zmem 789 (by decide +kernel) (by decide +kernel)), iwX5_wipe, ziRX5⟩, rfl, Or.inl rfl, (by decide +kernel), (by decide +kernel)⟩
set_option maxRecDepth 100000 in
theorem gX9_37_8 : zgP RX9 37 8 4 := ⟨_, _, _, "BitWell", rfl, (by decide +kernel), (zmem 271 (by decide +kernel) (by decide +kernel)), Or.inl rfl⟩
set_option maxRecDepth 100000 in
theorem cX9_135 : zvP RX9 135 mX2_digestOf 1 := ⟨kX2_digestOf, (zmem 877 (by decide +kernel) (by decide +kernel)), iwX2_digestOf, (zmem 414 (by decide +kernel) (by decide +kernel)), ziRX2⟩
set_option maxRecDepth 100000 in
theorem cX9_176 : zvP RX9 176 mX3_stretch 3 := ⟨kX3_stretch, (zmem 901 (by decide +kernel) (by decide +kernel)), iwX3_stretch, (zmem 707 (by decide +kernel) (by decide +kernel)), ziRX3⟩
set_option maxRecDepth 100000 in
theorem cX9_180 : zvP RX9 180 mX0_stretch 4 := ⟨kX0_stretch, (zmem 902 (by decide +kernel) (by decide +kernel)), iwX0_stretch, (zmem 614 (by decide +kernel) (by decide +kernel)), ziRX0⟩
set_option maxRecDepth 100000 in
theorem cX9_139 : zvP RX9 139 mX3_hash 2 := ⟨kX3_hash, (zmem 878 (by decide +kernel) (by decide +kernel)), iwX3_hash, (zmem 721 (by decide +kernel) (by decide +kernel)), ziRX3⟩
set_option maxRecDepth 100000 in
theorem gX9_110_1 : zgP RX9 110 1 0 := ⟨_, _, _, "BitWell$Generator", rfl, (by decide +kernel), (zmem 418 (by decide +kernel) (by decide +kernel)), Or.inl rfl⟩
set_option maxRecDepth 100000 in
theorem gX9_110_4 : zgP RX9 110 4 0 := ⟨_, _, _, "BitWell$Generator", rfl, (by decide +kernel), (zmem 418 (by decide +kernel) (by decide +kernel)), Or.inl rfl⟩
set_option maxRecDepth 100000 in
theorem gX9_110_5 : zgP RX9 110 5 0 := ⟨_, _, _, "BitWell$Generator", rfl, (by decide +kernel), (zmem 418 (by decide +kernel) (by decide +kernel)), Or.inl rfl⟩
set_option maxRecDepth 100000 in
theorem cX9_114_1 : zuP RX9 114 RX1 "BitWell$Generator" ⟨"BitWell$Generator", "isDue", "()Z"⟩ mX5_isDue 0 := ⟨kX5_isDue, ⟨(zmem 800 (by decide +kernel) (by decide +kernel)), (zmem 802 (by decide +kernel) (by decide +kernel)), (zmem 803 (by decide +kernel) (by decide +kernel)), iwX5_isDue, ziRX5⟩, rfl, Or.inl rfl, (by decide +kernel), (by decide +kernel)⟩
set_option maxRecDepth 100000 in
theorem cX9_114_4 : zuP RX9 114 RX4 "BitWell$Generator" ⟨"BitWell$Generator", "isDue", "()Z"⟩ mX5_isDue 0 := ⟨kX5_isDue, ⟨(zmem 800 (by decide +kernel) (by decide +kernel)), (zmem 802 (by decide +kernel) (by decide +kernel)), (zmem 804 (by decide +kernel) (by decide +kernel)), iwX5_isDue, ziRX5⟩, rfl, Or.inl rfl, (by decide +kernel), (by decide +kernel)⟩
set_option maxRecDepth 100000 in
theorem cX9_114_5 : zuP RX9 114 RX6 "BitWell$Generator" ⟨"BitWell$Generator", "isDue", "()Z"⟩ mX5_isDue 0 := ⟨kX5_isDue, ⟨(zmem 800 (by decide +kernel) (by decide +kernel)), (zmem 802 (by decide +kernel) (by decide +kernel)), (zmem 805 (by decide +kernel) (by decide +kernel)), iwX5_isDue, ziRX5⟩, rfl, Or.inl rfl, (by decide +kernel), (by decide +kernel)⟩
set_option maxRecDepth 100000 in
theorem cX9_88 : zvP RX9 88 mX9_refusalToSeed 2 := ⟨kX9_refusalToSeed, (zmem 529 (by decide +kernel) (by decide +kernel)), iwX9_refusalToSeed, (zmem 7 (by decide +kernel) (by decide +kernel)), ziRX9⟩
set_option maxRecDepth 100000 in
theorem gX9_24_8 : zgP RX9 24 8 2 := ⟨_, _, _, "BitWell", rfl, (by decide +kernel), (zmem 269 (by decide +kernel) (by decide +kernel)), Or.inl rfl⟩
set_option maxRecDepth 100000 in
theorem cX9_92_1 : zuP RX9 92 RX1 "BitWell$Generator" ⟨"BitWell$Generator", "demand", "()I"⟩ mX5_demand 0 := ⟨kX5_demand, ⟨(zmem 548 (by decide +kernel) (by decide +kernel)), (zmem 550 (by decide +kernel) (by decide +kernel)), (zmem 551 (by decide +kernel) (by decide +kernel)), iwX5_demand, ziRX5⟩, rfl, Or.inl rfl, (by decide +kernel), (by decide +kernel)⟩
set_option maxRecDepth 100000 in
theorem cX9_92_4 : zuP RX9 92 RX4 "BitWell$Generator" ⟨"BitWell$Generator", "demand", "()I"⟩ mX5_demand 0 := ⟨kX5_demand, ⟨(zmem 548 (by decide +kernel) (by decide +kernel)), (zmem 550 (by decide +kernel) (by decide +kernel)), (zmem 552 (by decide +kernel) (by decide +kernel)), iwX5_demand, ziRX5⟩, rfl, Or.inl rfl, (by decide +kernel), (by decide +kernel)⟩
set_option maxRecDepth 100000 in
theorem cX9_92_5 : zuP RX9 92 RX6 "BitWell$Generator" ⟨"BitWell$Generator", "demand", "()I"⟩ mX5_demand 0 := ⟨kX5_demand, ⟨(zmem 548 (by decide +kernel) (by decide +kernel)), (zmem 550 (by decide +kernel) (by decide +kernel)), (zmem 553 (by decide +kernel) (by decide +kernel)), iwX5_demand, ziRX5⟩, rfl, Or.inl rfl, (by decide +kernel), (by decide +kernel)⟩
set_option maxRecDepth 100000 in
theorem cX9_95 : zvP RX9 95 mX8_give 1 := ⟨kX8_give, (zmem 562 (by decide +kernel) (by decide +kernel)), iwX8_give, (zmem 564 (by decide +kernel) (by decide +kernel)), ziRX8⟩
set_option maxRecDepth 100000 in
theorem cX9_99_1 : zuP RX9 99 RX1 "BitWell$Generator" ⟨"BitWell$Generator", "plant", "(LBitWell$Row;LBitWell$Row;)V"⟩ mX1_plant 2 := ⟨kX1_plant, ⟨(zmem 581 (by decide +kernel) (by decide +kernel)), (zmem 583 (by decide +kernel) (by decide +kernel)), (zmem 584 (by decide +kernel) (by decide +kernel)), iwX1_plant, ziRX1⟩, rfl, Or.inr (List.mem_filter.mpr ⟨List.mem_of_getElem? (i := 582) (by decide +kernel), (by decide +kernel)⟩), (by decide +kernel), (by decide +kernel)⟩
set_option maxRecDepth 100000 in
theorem cX9_99_4 : zuP RX9 99 RX4 "BitWell$Generator" ⟨"BitWell$Generator", "plant", "(LBitWell$Row;LBitWell$Row;)V"⟩ mX4_plant 2 := ⟨kX4_plant, ⟨(zmem 581 (by decide +kernel) (by decide +kernel)), (zmem 583 (by decide +kernel) (by decide +kernel)), (zmem 692 (by decide +kernel) (by decide +kernel)), iwX4_plant, ziRX4⟩, rfl, Or.inr (List.mem_filter.mpr ⟨List.mem_of_getElem? (i := 582) (by decide +kernel), (by decide +kernel)⟩), (by decide +kernel), (by decide +kernel)⟩
set_option maxRecDepth 100000 in
theorem cX9_99_5 : zuP RX9 99 RX6 "BitWell$Generator" ⟨"BitWell$Generator", "plant", "(LBitWell$Row;LBitWell$Row;)V"⟩ mX6_plant 2 := ⟨kX6_plant, ⟨(zmem 581 (by decide +kernel) (by decide +kernel)), (zmem 583 (by decide +kernel) (by decide +kernel)), (zmem 748 (by decide +kernel) (by decide +kernel)), iwX6_plant, ziRX6⟩, rfl, Or.inr (List.mem_filter.mpr ⟨List.mem_of_getElem? (i := 582) (by decide +kernel), (by decide +kernel)⟩), (by decide +kernel), (by decide +kernel)⟩
set_option maxRecDepth 100000 in
theorem cX9_63 : zvP RX9 63 mX7_clear 0 := ⟨kX7_clear, (zmem 348 (by decide +kernel) (by decide +kernel)), iwX7_clear, (zmem 342 (by decide +kernel) (by decide +kernel)), ziRX7⟩
set_option maxRecDepth 100000 in
theorem cX9_117_1 : zuP RX9 117 RX1 "BitWell$Generator" ⟨"BitWell$Generator", "isTooLong", "(LBitWell$Row;)Z"⟩ mX5_isTooLong 1 := ⟨kX5_isTooLong, ⟨(zmem 533 (by decide +kernel) (by decide +kernel)), (zmem 535 (by decide +kernel) (by decide +kernel)), (zmem 536 (by decide +kernel) (by decide +kernel)), iwX5_isTooLong, ziRX5⟩, rfl, Or.inl rfl, (by decide +kernel), (by decide +kernel)⟩
set_option maxRecDepth 100000 in
theorem cX9_117_4 : zuP RX9 117 RX4 "BitWell$Generator" ⟨"BitWell$Generator", "isTooLong", "(LBitWell$Row;)Z"⟩ mX5_isTooLong 1 := ⟨kX5_isTooLong, ⟨(zmem 533 (by decide +kernel) (by decide +kernel)), (zmem 535 (by decide +kernel) (by decide +kernel)), (zmem 537 (by decide +kernel) (by decide +kernel)), iwX5_isTooLong, ziRX5⟩, rfl, Or.inl rfl, (by decide +kernel), (by decide +kernel)⟩
set_option maxRecDepth 100000 in
theorem cX9_117_5 : zuP RX9 117 RX6 "BitWell$Generator" ⟨"BitWell$Generator", "isTooLong", "(LBitWell$Row;)Z"⟩ mX5_isTooLong 1 := ⟨kX5_isTooLong, ⟨(zmem 533 (by decide +kernel) (by decide +kernel)), (zmem 535 (by decide +kernel) (by decide +kernel)), (zmem 538 (by decide +kernel) (by decide +kernel)), iwX5_isTooLong, ziRX5⟩, rfl, Or.inl rfl, (by decide +kernel), (by decide +kernel)⟩
set_option maxRecDepth 100000 in
theorem cX9_121_1 : zuP RX9 121 RX1 "BitWell$Generator" ⟨"BitWell$Generator", "produce", "(ILBitWell$Row;LBitWell$Row;)V"⟩ mX1_produce 3 := ⟨kX1_produce, ⟨(zmem 807 (by decide +kernel) (by decide +kernel)), (zmem 809 (by decide +kernel) (by decide +kernel)), (zmem 810 (by decide +kernel) (by decide +kernel)), iwX1_produce, ziRX1⟩, rfl, Or.inr (List.mem_filter.mpr ⟨List.mem_of_getElem? (i := 808) (by decide +kernel), (by decide +kernel)⟩), (by decide +kernel), (by decide +kernel)⟩
set_option maxRecDepth 100000 in
theorem cX9_121_4 : zuP RX9 121 RX4 "BitWell$Generator" ⟨"BitWell$Generator", "produce", "(ILBitWell$Row;LBitWell$Row;)V"⟩ mX4_produce 3 := ⟨kX4_produce, ⟨(zmem 807 (by decide +kernel) (by decide +kernel)), (zmem 809 (by decide +kernel) (by decide +kernel)), (zmem 821 (by decide +kernel) (by decide +kernel)), iwX4_produce, ziRX4⟩, rfl, Or.inr (List.mem_filter.mpr ⟨List.mem_of_getElem? (i := 808) (by decide +kernel), (by decide +kernel)⟩), (by decide +kernel), (by decide +kernel)⟩
set_option maxRecDepth 100000 in
theorem cX9_121_5 : zuP RX9 121 RX6 "BitWell$Generator" ⟨"BitWell$Generator", "produce", "(ILBitWell$Row;LBitWell$Row;)V"⟩ mX6_produce 3 := ⟨kX6_produce, ⟨(zmem 807 (by decide +kernel) (by decide +kernel)), (zmem 809 (by decide +kernel) (by decide +kernel)), (zmem 846 (by decide +kernel) (by decide +kernel)), iwX6_produce, ziRX6⟩, rfl, Or.inr (List.mem_filter.mpr ⟨List.mem_of_getElem? (i := 808) (by decide +kernel), (by decide +kernel)⟩), (by decide +kernel), (by decide +kernel)⟩
set_option maxRecDepth 100000 in
theorem cX9_125 : zvP RX9 125 mX7_at 1 := ⟨kX7_at, (zmem 857 (by decide +kernel) (by decide +kernel)), iwX7_at, (zmem 322 (by decide +kernel) (by decide +kernel)), ziRX7⟩
set_option maxRecDepth 100000 in
theorem cX9_49 : zvP RX9 49 mX7_cut 1 := ⟨kX7_cut, (zmem 299 (by decide +kernel) (by decide +kernel)), iwX7_cut, (zmem 301 (by decide +kernel) (by decide +kernel)), ziRX7⟩
set_option maxRecDepth 100000 in
theorem cX9_45 : zvP RX9 45 mX7_appendNumber 2 := ⟨kX7_appendNumber, (zmem 291 (by decide +kernel) (by decide +kernel)), iwX7_appendNumber, (zmem 293 (by decide +kernel) (by decide +kernel)), ziRX7⟩
set_option maxRecDepth 100000 in
theorem cX9_128_1 : zuP RX9 128 RX1 "BitWell$Generator" ⟨"BitWell$Generator", "look", "(I)I"⟩ mX5_look 1 := ⟨kX5_look, ⟨(zmem 862 (by decide +kernel) (by decide +kernel)), (zmem 864 (by decide +kernel) (by decide +kernel)), (zmem 865 (by decide +kernel) (by decide +kernel)), iwX5_look, ziRX5⟩, rfl, Or.inl rfl, (by decide +kernel), (by decide +kernel)⟩
set_option maxRecDepth 100000 in
theorem cX9_128_4 : zuP RX9 128 RX4 "BitWell$Generator" ⟨"BitWell$Generator", "look", "(I)I"⟩ mX5_look 1 := ⟨kX5_look, ⟨(zmem 862 (by decide +kernel) (by decide +kernel)), (zmem 864 (by decide +kernel) (by decide +kernel)), (zmem 866 (by decide +kernel) (by decide +kernel)), iwX5_look, ziRX5⟩, rfl, Or.inl rfl, (by decide +kernel), (by decide +kernel)⟩
set_option maxRecDepth 100000 in
theorem cX9_128_5 : zuP RX9 128 RX6 "BitWell$Generator" ⟨"BitWell$Generator", "look", "(I)I"⟩ mX5_look 1 := ⟨kX5_look, ⟨(zmem 862 (by decide +kernel) (by decide +kernel)), (zmem 864 (by decide +kernel) (by decide +kernel)), (zmem 867 (by decide +kernel) (by decide +kernel)), iwX5_look, ziRX5⟩, rfl, Or.inl rfl, (by decide +kernel), (by decide +kernel)⟩
set_option maxRecDepth 100000 in
theorem cX9_3 : Cond.methodLink RX9 3 Lib.objectInit ∈ zgood := (zmem 70 (by decide +kernel) (by decide +kernel))
set_option maxRecDepth 100000 in
theorem nX9_9 : znP RX9 9 6 [.null, .int 0] := ⟨_, _, _, rfl, rfl, (zmem 73 (by decide +kernel) (by decide +kernel)), (by decide +kernel)⟩
set_option maxRecDepth 100000 in
theorem cX9_11 : ziP RX9 11 mX7_init 1 := ⟨kX7_init, (zmem 75 (by decide +kernel) (by decide +kernel)), iwX7_init, ziRX7, rfl⟩
set_option maxRecDepth 100000 in
theorem pX9_14_8 : zfP RX9 14 8 0 (.object "BitWell$Row") true := ⟨_, _, _, "BitWell", rfl, (by decide +kernel), (zmem 267 (by decide +kernel) (by decide +kernel)), Or.inl rfl, (by decide +kernel), rfl, fun _ => rfl⟩
set_option maxRecDepth 100000 in
theorem pX9_18_8 : zfP RX9 18 8 1 (.object "BitWell$Row") true := ⟨_, _, _, "BitWell", rfl, (by decide +kernel), (zmem 268 (by decide +kernel) (by decide +kernel)), Or.inl rfl, (by decide +kernel), rfl, fun _ => rfl⟩
set_option maxRecDepth 100000 in
theorem nX9_21 : znP RX9 21 7 [.null, .null, .int 0, .int 0, .int 0, .int 0, .int 0, .int 0, .int 0, .int 0, .int 0, .int 0, .int 0] := ⟨_, _, _, rfl, rfl, (zmem 90 (by decide +kernel) (by decide +kernel)), (by decide +kernel)⟩
set_option maxRecDepth 100000 in
theorem cX9_23 : zinP RX9 23 mX8_init 0 "BitWell" := ⟨kX8_init, iwX8_init, ziRX8, (List.mem_filter.mpr ⟨List.mem_of_getElem? (i := 92) (by decide +kernel), (by decide +kernel)⟩), rfl⟩
set_option maxRecDepth 100000 in
theorem pX9_24_8 : zfP RX9 24 8 2 (.object "BitWell$Supply") true := ⟨_, _, _, "BitWell", rfl, (by decide +kernel), (zmem 269 (by decide +kernel) (by decide +kernel)), Or.inl rfl, (by decide +kernel), rfl, fun _ => rfl⟩
set_option maxRecDepth 100000 in
theorem nX9_28 : znP RX9 28 2 [.null, .null, .null, .null, .null, .null, .null] := ⟨_, _, _, rfl, rfl, (zmem 138 (by decide +kernel) (by decide +kernel)), (by decide +kernel)⟩
set_option maxRecDepth 100000 in
theorem cX9_30 : zinP RX9 30 mX2_init 0 "BitWell" := ⟨kX2_init, iwX2_init, ziRX2, (List.mem_filter.mpr ⟨List.mem_of_getElem? (i := 140) (by decide +kernel), (by decide +kernel)⟩), rfl⟩
set_option maxRecDepth 100000 in
theorem pX9_31_8 : zfP RX9 31 8 3 (.object "BitWell$Desk") true := ⟨_, _, _, "BitWell", rfl, (by decide +kernel), (zmem 270 (by decide +kernel) (by decide +kernel)), Or.inl rfl, (by decide +kernel), rfl, fun _ => rfl⟩
set_option maxRecDepth 100000 in
theorem nX9_35 : Cond.classLink RX9 35 (zgc false) ∈ zgood := (zmem 265 (by decide +kernel) (by decide +kernel))
set_option maxRecDepth 100000 in
theorem pX9_37_8 : zfP RX9 37 8 4 (.array (.object "BitWell$Generator")) true := ⟨_, _, _, "BitWell", rfl, (by decide +kernel), (zmem 271 (by decide +kernel) (by decide +kernel)), Or.inl rfl, (by decide +kernel), rfl, fun _ => rfl⟩
set_option maxRecDepth 100000 in
theorem gX9_170_3 : zgP RX9 170 3 0 := ⟨_, _, _, "BitWell$Digest", rfl, (by decide +kernel), (zmem 193 (by decide +kernel) (by decide +kernel)), Or.inl rfl⟩
set_option maxRecDepth 100000 in
theorem cX9_172 : zvP RX9 172 mX3_keyed 3 := ⟨kX3_keyed, (zmem 896 (by decide +kernel) (by decide +kernel)), iwX3_keyed, (zmem 766 (by decide +kernel) (by decide +kernel)), ziRX3⟩
set_option maxRecDepth 100000 in
theorem nX9_183 : znP RX9 183 4 [.int 0, .int 0, .int 0, .null, .null, .null, .int 0, .int 0, .int 0, .int 0, .int 0, .null] := ⟨_, _, _, rfl, rfl, (zmem 392 (by decide +kernel) (by decide +kernel)), (by decide +kernel)⟩
set_option maxRecDepth 100000 in
theorem cX9_185 : ziP RX9 185 mX4_init 5 := ⟨kX4_init, (zmem 394 (by decide +kernel) (by decide +kernel)), iwX4_init, ziRX4, rfl⟩
set_option maxRecDepth 100000 in
theorem nX9_188 : znP RX9 188 5 [.int 0, .int 0, .int 0, .null, .null, .null, .int 0, .int 0, .int 0, .int 0, .int 0, .null] := ⟨_, _, _, rfl, rfl, (zmem 481 (by decide +kernel) (by decide +kernel)), (by decide +kernel)⟩
set_option maxRecDepth 100000 in
theorem cX9_190 : ziP RX9 190 mX6_init 5 := ⟨kX6_init, (zmem 483 (by decide +kernel) (by decide +kernel)), iwX6_init, ziRX6, rfl⟩
set_option maxRecDepth 100000 in
theorem nX9_191 : znP RX9 191 1 [.int 0, .int 0, .int 0, .null, .null, .null, .int 0, .int 0, .int 0, .int 0, .int 0, .null, .int 0] := ⟨_, _, _, rfl, rfl, (zmem 505 (by decide +kernel) (by decide +kernel)), (by decide +kernel)⟩
set_option maxRecDepth 100000 in
theorem cX9_193 : ziP RX9 193 mX1_init 5 := ⟨kX1_init, (zmem 507 (by decide +kernel) (by decide +kernel)), iwX1_init, ziRX1, rfl⟩
set_option maxRecDepth 100000 in
theorem kcX9_74 : Cond.constant RX9 74 (100000 : Int32) ∈ zgood := (zmem 373 (by decide +kernel) (by decide +kernel))
set_option maxRecDepth 100000 in
theorem cX9_75 : zvP RX9 75 mX9_freeNumber 0 := ⟨kX9_freeNumber, (zmem 374 (by decide +kernel) (by decide +kernel)), iwX9_freeNumber, (zmem 5 (by decide +kernel) (by decide +kernel)), ziRX9⟩
set_option maxRecDepth 100000 in
theorem cX9_78 : zsvP RX9 78 mX5_strongest 1 := ⟨kX5_strongest, (zmem 378 (by decide +kernel) (by decide +kernel)), swX5_strongest, ziRX5⟩
set_option maxRecDepth 100000 in
theorem cX9_81 : zsvP RX9 81 mX5_leastStrength 1 := ⟨kX5_leastStrength, (zmem 383 (by decide +kernel) (by decide +kernel)), swX5_leastStrength, ziRX5⟩
set_option maxRecDepth 100000 in
theorem cX9_84 : zvP RX9 84 mX9_makeGenerator 4 := ⟨kX9_makeGenerator, (zmem 388 (by decide +kernel) (by decide +kernel)), iwX9_makeGenerator, (zmem 6 (by decide +kernel) (by decide +kernel)), ziRX9⟩
set_option maxRecDepth 100000 in
theorem gX9_194_1 : zgP RX9 194 1 1 := ⟨_, _, _, "BitWell$Generator", rfl, (by decide +kernel), (zmem 420 (by decide +kernel) (by decide +kernel)), Or.inl rfl⟩
set_option maxRecDepth 100000 in
theorem gX9_194_4 : zgP RX9 194 4 1 := ⟨_, _, _, "BitWell$Generator", rfl, (by decide +kernel), (zmem 420 (by decide +kernel) (by decide +kernel)), Or.inl rfl⟩
set_option maxRecDepth 100000 in
theorem gX9_194_5 : zgP RX9 194 5 1 := ⟨_, _, _, "BitWell$Generator", rfl, (by decide +kernel), (zmem 420 (by decide +kernel) (by decide +kernel)), Or.inl rfl⟩
set_option maxRecDepth 100000 in
theorem cX9_56 : zvP RX9 56 mX8_waiting 0 := ⟨kX8_waiting, (zmem 311 (by decide +kernel) (by decide +kernel)), iwX8_waiting, (zmem 313 (by decide +kernel) (by decide +kernel)), ziRX8⟩
set_option maxRecDepth 100000 in
theorem cX9_70 : zvP RX9 70 mX8_look 1 := ⟨kX8_look, (zmem 365 (by decide +kernel) (by decide +kernel)), iwX8_look, (zmem 367 (by decide +kernel) (by decide +kernel)), ziRX8⟩
set_option maxRecDepth 100000 in
theorem gX9_129_1 : zgP RX9 129 1 3 := ⟨_, _, _, "BitWell$Generator", rfl, (by decide +kernel), (zmem 435 (by decide +kernel) (by decide +kernel)), Or.inl rfl⟩
set_option maxRecDepth 100000 in
theorem gX9_129_4 : zgP RX9 129 4 3 := ⟨_, _, _, "BitWell$Generator", rfl, (by decide +kernel), (zmem 435 (by decide +kernel) (by decide +kernel)), Or.inl rfl⟩
set_option maxRecDepth 100000 in
theorem gX9_129_5 : zgP RX9 129 5 3 := ⟨_, _, _, "BitWell$Generator", rfl, (by decide +kernel), (zmem 435 (by decide +kernel) (by decide +kernel)), Or.inl rfl⟩
set_option maxRecDepth 100000 in
theorem gX9_132_1 : zgP RX9 132 1 4 := ⟨_, _, _, "BitWell$Generator", rfl, (by decide +kernel), (zmem 443 (by decide +kernel) (by decide +kernel)), Or.inl rfl⟩
set_option maxRecDepth 100000 in
theorem gX9_132_4 : zgP RX9 132 4 4 := ⟨_, _, _, "BitWell$Generator", rfl, (by decide +kernel), (zmem 443 (by decide +kernel) (by decide +kernel)), Or.inl rfl⟩
set_option maxRecDepth 100000 in
theorem gX9_132_5 : zgP RX9 132 5 4 := ⟨_, _, _, "BitWell$Generator", rfl, (by decide +kernel), (zmem 443 (by decide +kernel) (by decide +kernel)), Or.inl rfl⟩
set_option maxRecDepth 100000 in
theorem cX9_52 : zvP RX9 52 mX8_isUnsound 0 := ⟨kX8_isUnsound, (zmem 307 (by decide +kernel) (by decide +kernel)), iwX8_isUnsound, (zmem 309 (by decide +kernel) (by decide +kernel)), ziRX8⟩
set_option maxRecDepth 100000 in
theorem cX9_59 : zvP RX9 59 mX8_receive 1 := ⟨kX8_receive, (zmem 316 (by decide +kernel) (by decide +kernel)), iwX8_receive, (zmem 318 (by decide +kernel) (by decide +kernel)), ziRX8⟩
set_option maxRecDepth 100000 in
theorem cX9_66 : zvP RX9 66 mX8_set 3 := ⟨kX8_set, (zmem 353 (by decide +kernel) (by decide +kernel)), iwX8_set, (zmem 355 (by decide +kernel) (by decide +kernel)), ziRX8⟩
set_option maxRecDepth 100000 in
theorem zao_false : Cond.arrayOver (.object (zgc false)) ∈ znest := List.mem_filter.mpr ⟨List.mem_of_getElem? (i := 266) (by decide +kernel), (by decide +kernel)⟩
set_option maxRecDepth 100000 in
theorem zao_true : Cond.arrayOver (.object (zgc true)) ∈ znest := List.mem_filter.mpr ⟨List.mem_of_getElem? (i := 914) (by decide +kernel), (by decide +kernel)⟩
set_option maxRecDepth 100000 in
theorem zca_RX1 : Cond.castable RX1 (zgc false) ∈ znest := List.mem_filter.mpr ⟨List.mem_of_getElem? (i := 1338) (by decide +kernel), (by decide +kernel)⟩
set_option maxRecDepth 100000 in
theorem zca_RX4 : Cond.castable RX4 (zgc false) ∈ znest := List.mem_filter.mpr ⟨List.mem_of_getElem? (i := 1339) (by decide +kernel), (by decide +kernel)⟩
set_option maxRecDepth 100000 in
theorem zca_RX6 : Cond.castable RX6 (zgc false) ∈ znest := List.mem_filter.mpr ⟨List.mem_of_getElem? (i := 1340) (by decide +kernel), (by decide +kernel)⟩
