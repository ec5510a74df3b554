abbrev bc_PC_init : ByteArray := prog_1_method_1_code
abbrev yn_PC_init : MethodName := ⟨"PayChain", "<init>", "()V"⟩
abbrev cd_PC_init : Cond := .code yn_PC_init bc_PC_init 1 none
theorem mc_PC_init : cd_PC_init ∈ bw_B := mw_25
abbrev bc_Obj_init : ByteArray := object_method_1_code
abbrev yn_Obj_init : MethodName := ⟨"java/lang/Object", "<init>", "()V"⟩
abbrev cd_Obj_init : Cond := .code yn_Obj_init bc_Obj_init 1 none
theorem mc_Obj_init : cd_Obj_init ∈ bw_B := mw_28
abbrev bc_Row_init : ByteArray := prog_8_method_1_code
abbrev yn_Row_init : MethodName := ⟨"PayChain$Row", "<init>", "(I)V"⟩
abbrev cd_Row_init : Cond := .code yn_Row_init bc_Row_init 2 none
theorem mc_Row_init : cd_Row_init ∈ bw_B := mw_33
abbrev bc_Term_init : ByteArray := prog_10_method_1_code
abbrev yn_Term_init : MethodName := ⟨"PayChain$Terminal", "<init>", "()V"⟩
abbrev cd_Term_init : Cond := .code yn_Term_init bc_Term_init 1 none
theorem mc_Term_init : cd_Term_init ∈ bw_B := mw_49
abbrev bc_Host_init : ByteArray := prog_3_method_1_code
abbrev yn_Host_init : MethodName := ⟨"PayChain$Host", "<init>", "()V"⟩
abbrev cd_Host_init : Cond := .code yn_Host_init bc_Host_init 1 none
theorem mc_Host_init : cd_Host_init ∈ bw_B := mw_59
abbrev bc_Pmt_init : ByteArray := prog_6_method_1_code
abbrev yn_Pmt_init : MethodName := ⟨"PayChain$Payment", "<init>", "()V"⟩
abbrev cd_Pmt_init : Cond := .code yn_Pmt_init bc_Pmt_init 1 none
theorem mc_Pmt_init : cd_Pmt_init ∈ bw_B := mw_80
abbrev bc_AL_init : ByteArray := prog_20_method_2_code
abbrev yn_AL_init : MethodName := ⟨"java/util/ArrayList", "<init>", "()V"⟩
abbrev cd_AL_init : Cond := .code yn_AL_init bc_AL_init 1 none
theorem mc_AL_init : cd_AL_init ∈ bw_B := mw_134
abbrev bc_AbL_init : ByteArray := prog_19_method_1_code
abbrev yn_AbL_init : MethodName := ⟨"java/util/AbstractList", "<init>", "()V"⟩
abbrev cd_AbL_init : Cond := .code yn_AbL_init bc_AbL_init 1 none
theorem mc_AbL_init : cd_AbL_init ∈ bw_B := mw_137
abbrev bc_AbC_init : ByteArray := prog_18_method_1_code
abbrev yn_AbC_init : MethodName := ⟨"java/util/AbstractCollection", "<init>", "()V"⟩
abbrev cd_AbC_init : Cond := .code yn_AbC_init bc_AbC_init 1 none
theorem mc_AbC_init : cd_AbC_init ∈ bw_B := mw_140
abbrev bc_Card_init : ByteArray := prog_2_method_1_code
abbrev yn_Card_init : MethodName := ⟨"PayChain$Card", "<init>", "()V"⟩
abbrev cd_Card_init : Cond := .code yn_Card_init bc_Card_init 1 none
theorem mc_Card_init : cd_Card_init ∈ bw_B := mw_159
abbrev bc_Tree_init : ByteArray := prog_5_method_1_code
abbrev yn_Tree_init : MethodName := ⟨"PayChain$ObjectTree", "<init>", "()V"⟩
abbrev cd_Tree_init : Cond := .code yn_Tree_init bc_Tree_init 1 none
theorem mc_Tree_init : cd_Tree_init ∈ bw_B := mw_165
abbrev bc_PC_feed : ByteArray := prog_1_method_2_code
abbrev yn_PC_feed : MethodName := ⟨"PayChain", "feed", "(I)I"⟩
abbrev cd_PC_feed : Cond := .code yn_PC_feed bc_PC_feed 2 (some .int)
theorem mc_PC_feed : cd_PC_feed ∈ bw_B := mw_276
abbrev bc_PC_isWithin : ByteArray := prog_1_method_21_code
abbrev yn_PC_isWithin : MethodName := ⟨"PayChain", "isWithin", "(III)Z"⟩
abbrev cd_PC_isWithin : Cond := .code yn_PC_isWithin bc_PC_isWithin 3 (some .boolean)
theorem mc_PC_isWithin : cd_PC_isWithin ∈ bw_B := mw_279
abbrev bc_Row_add : ByteArray := prog_8_method_4_code
abbrev yn_Row_add : MethodName := ⟨"PayChain$Row", "add", "(I)Z"⟩
abbrev cd_Row_add : Cond := .code yn_Row_add bc_Row_add 2 (some .boolean)
theorem mc_Row_add : cd_Row_add ∈ bw_B := mw_283
abbrev bc_Row_length : ByteArray := prog_8_method_2_code
abbrev yn_Row_length : MethodName := ⟨"PayChain$Row", "length", "()I"⟩
abbrev cd_Row_length : Cond := .code yn_Row_length bc_Row_length 1 (some .int)
theorem mc_Row_length : cd_Row_length ∈ bw_B := mw_287
abbrev bc_PC_wipe : ByteArray := prog_1_method_3_code
abbrev yn_PC_wipe : MethodName := ⟨"PayChain", "wipe", "()I"⟩
abbrev cd_PC_wipe : Cond := .code yn_PC_wipe bc_PC_wipe 2 (some .int)
theorem mc_PC_wipe : cd_PC_wipe ∈ bw_B := mw_291
abbrev bc_Row_clear : ByteArray := prog_8_method_3_code
abbrev yn_Row_clear : MethodName := ⟨"PayChain$Row", "clear", "()V"⟩
abbrev cd_Row_clear : Cond := .code yn_Row_clear bc_Row_clear 1 none
theorem mc_Row_clear : cd_Row_clear ∈ bw_B := mw_295
abbrev bc_PC_make : ByteArray := prog_1_method_4_code
abbrev yn_PC_make : MethodName := ⟨"PayChain", "make", "(III)I"⟩
abbrev cd_PC_make : Cond := .code yn_PC_make bc_PC_make 7 (some .int)
theorem mc_PC_make : cd_PC_make ∈ bw_B := mw_299
abbrev bc_Tree_read : ByteArray := prog_5_method_2_code
abbrev yn_Tree_read : MethodName := ⟨"PayChain$ObjectTree", "read", "(LPayChain$Row;)I"⟩
abbrev cd_Tree_read : Cond := .code yn_Tree_read bc_Tree_read 2 (some .int)
theorem mc_Tree_read : cd_Tree_read ∈ bw_B := mw_303
abbrev bc_Row_copy : ByteArray := prog_8_method_7_code
abbrev yn_Row_copy : MethodName := ⟨"PayChain$Row", "copy", "(LPayChain$Row;)V"⟩
abbrev cd_Row_copy : Cond := .code yn_Row_copy bc_Row_copy 3 none
theorem mc_Row_copy : cd_Row_copy ∈ bw_B := mw_307
abbrev bc_Row_at : ByteArray := prog_8_method_5_code
abbrev yn_Row_at : MethodName := ⟨"PayChain$Row", "at", "(I)I"⟩
abbrev cd_Row_at : Cond := .code yn_Row_at bc_Row_at 2 (some .int)
theorem mc_Row_at : cd_Row_at ∈ bw_B := mw_312
abbrev bc_Tree_cut : ByteArray := prog_5_method_3_code
abbrev yn_Tree_cut : MethodName := ⟨"PayChain$ObjectTree", "cut", "(IIII)I"⟩
abbrev cd_Tree_cut : Cond := .code yn_Tree_cut bc_Tree_cut 13 (some .int)
theorem mc_Tree_cut : cd_Tree_cut ∈ bw_B := mw_318
abbrev bc_Tag_read : ByteArray := prog_9_method_2_code
abbrev yn_Tag_read : MethodName := ⟨"PayChain$Tag", "read", "(LPayChain$Row;II)I"⟩
abbrev cd_Tag_read : Cond := .code yn_Tag_read bc_Tag_read 5 (some .int)
theorem mc_Tag_read : cd_Tag_read ∈ bw_B := mw_321
abbrev bc_Row_atBefore : ByteArray := prog_8_method_6_code
abbrev yn_Row_atBefore : MethodName := ⟨"PayChain$Row", "atBefore", "(II)I"⟩
abbrev cd_Row_atBefore : Cond := .code yn_Row_atBefore bc_Row_atBefore 3 (some .int)
theorem mc_Row_atBefore : cd_Row_atBefore ∈ bw_B := mw_325
abbrev bc_Tag_bytesOf : ByteArray := prog_9_method_3_code
abbrev yn_Tag_bytesOf : MethodName := ⟨"PayChain$Tag", "bytesOf", "(I)I"⟩
abbrev cd_Tag_bytesOf : Cond := .code yn_Tag_bytesOf bc_Tag_bytesOf 1 (some .int)
theorem mc_Tag_bytesOf : cd_Tag_bytesOf ∈ bw_B := mw_329
abbrev bc_Tree_readLength : ByteArray := prog_5_method_4_code
abbrev yn_Tree_readLength : MethodName := ⟨"PayChain$ObjectTree", "readLength", "(II)I"⟩
abbrev cd_Tree_readLength : Cond := .code yn_Tree_readLength bc_Tree_readLength 4 (some .int)
theorem mc_Tree_readLength : cd_Tree_readLength ∈ bw_B := mw_333
abbrev bc_Tree_keep : ByteArray := prog_5_method_5_code
abbrev yn_Tree_keep : MethodName := ⟨"PayChain$ObjectTree", "keep", "(IIII)I"⟩
abbrev cd_Tree_keep : Cond := .code yn_Tree_keep bc_Tree_keep 5 (some .int)
theorem mc_Tree_keep : cd_Tree_keep ∈ bw_B := mw_339
abbrev bc_Tree_isObject : ByteArray := prog_5_method_6_code
abbrev yn_Tree_isObject : MethodName := ⟨"PayChain$ObjectTree", "isObject", "(I)Z"⟩
abbrev cd_Tree_isObject : Cond := .code yn_Tree_isObject bc_Tree_isObject 2 (some .boolean)
theorem mc_Tree_isObject : cd_Tree_isObject ∈ bw_B := mw_343
abbrev bc_Tag_hasInner : ByteArray := prog_9_method_4_code
abbrev yn_Tag_hasInner : MethodName := ⟨"PayChain$Tag", "hasInner", "(I)Z"⟩
abbrev cd_Tag_hasInner : Cond := .code yn_Tag_hasInner bc_Tag_hasInner 2 (some .boolean)
theorem mc_Tag_hasInner : cd_Tag_hasInner ∈ bw_B := mw_346
abbrev bc_Tree_size : ByteArray := prog_5_method_7_code
abbrev yn_Tree_size : MethodName := ⟨"PayChain$ObjectTree", "size", "()I"⟩
abbrev cd_Tree_size : Cond := .code yn_Tree_size bc_Tree_size 1 (some .int)
theorem mc_Tree_size : cd_Tree_size ∈ bw_B := mw_350
abbrev bc_Card_unfitTag : ByteArray := prog_2_method_3_code
abbrev yn_Card_unfitTag : MethodName := ⟨"PayChain$Card", "unfitTag", "()I"⟩
abbrev cd_Card_unfitTag : Cond := .code yn_Card_unfitTag bc_Card_unfitTag 2 (some .int)
theorem mc_Card_unfitTag : cd_Card_unfitTag ∈ bw_B := mw_354
abbrev bc_Card_fits : ByteArray := prog_2_method_4_code
abbrev yn_Card_fits : MethodName := ⟨"PayChain$Card", "fits", "(I)Z"⟩
abbrev cd_Card_fits : Cond := .code yn_Card_fits bc_Card_fits 4 (some .boolean)
theorem mc_Card_fits : cd_Card_fits ∈ bw_B := mw_360
abbrev bc_Tree_first : ByteArray := prog_5_method_8_code
abbrev yn_Tree_first : MethodName := ⟨"PayChain$ObjectTree", "first", "(I)I"⟩
abbrev cd_Tree_first : Cond := .code yn_Tree_first bc_Tree_first 3 (some .int)
theorem mc_Tree_first : cd_Tree_first ∈ bw_B := mw_364
abbrev bc_Tree_lengthOf : ByteArray := prog_5_method_9_code
abbrev yn_Tree_lengthOf : MethodName := ⟨"PayChain$ObjectTree", "lengthOf", "(I)I"⟩
abbrev cd_Tree_lengthOf : Cond := .code yn_Tree_lengthOf bc_Tree_lengthOf 2 (some .int)
theorem mc_Tree_lengthOf : cd_Tree_lengthOf ∈ bw_B := mw_368
abbrev bc_Tree_byteOf : ByteArray := prog_5_method_12_code
abbrev yn_Tree_byteOf : MethodName := ⟨"PayChain$ObjectTree", "byteOf", "(II)I"⟩
abbrev cd_Tree_byteOf : Cond := .code yn_Tree_byteOf bc_Tree_byteOf 3 (some .int)
theorem mc_Tree_byteOf : cd_Tree_byteOf ∈ bw_B := mw_372
abbrev bc_Tree_hasByte : ByteArray := prog_5_method_11_code
abbrev yn_Tree_hasByte : MethodName := ⟨"PayChain$ObjectTree", "hasByte", "(II)Z"⟩
abbrev cd_Tree_hasByte : Cond := .code yn_Tree_hasByte bc_Tree_hasByte 3 (some .boolean)
theorem mc_Tree_hasByte : cd_Tree_hasByte ∈ bw_B := mw_376
abbrev bc_Card_isList : ByteArray := prog_2_method_5_code
abbrev yn_Card_isList : MethodName := ⟨"PayChain$Card", "isList", "(I)Z"⟩
abbrev cd_Card_isList : Cond := .code yn_Card_isList bc_Card_isList 8 (some .boolean)
theorem mc_Card_isList : cd_Card_isList ∈ bw_B := mw_380
abbrev bc_Tree_tagOf : ByteArray := prog_5_method_13_code
abbrev yn_Tree_tagOf : MethodName := ⟨"PayChain$ObjectTree", "tagOf", "(II)I"⟩
abbrev cd_Tree_tagOf : Cond := .code yn_Tree_tagOf bc_Tree_tagOf 3 (some .int)
theorem mc_Tree_tagOf : cd_Tree_tagOf ∈ bw_B := mw_384
abbrev bc_Card_reset : ByteArray := prog_2_method_2_code
abbrev yn_Card_reset : MethodName := ⟨"PayChain$Card", "reset", "(II)V"⟩
abbrev cd_Card_reset : Cond := .code yn_Card_reset bc_Card_reset 3 none
theorem mc_Card_reset : cd_Card_reset ∈ bw_B := mw_390
abbrev bc_Tree_pairOf : ByteArray := prog_5_method_14_code
abbrev yn_Tree_pairOf : MethodName := ⟨"PayChain$ObjectTree", "pairOf", "(I)I"⟩
abbrev cd_Tree_pairOf : Cond := .code yn_Tree_pairOf bc_Tree_pairOf 2 (some .int)
theorem mc_Tree_pairOf : cd_Tree_pairOf ∈ bw_B := mw_394
abbrev bc_PC_putSpare : ByteArray := prog_1_method_19_code
abbrev yn_PC_putSpare : MethodName := ⟨"PayChain", "putSpare", "(I)V"⟩
abbrev cd_PC_putSpare : Cond := .code yn_PC_putSpare bc_PC_putSpare 3 none
theorem mc_PC_putSpare : cd_PC_putSpare ∈ bw_B := mw_404
abbrev bc_PC_place : ByteArray := prog_1_method_5_code
abbrev yn_PC_place : MethodName := ⟨"PayChain", "place", "()I"⟩
abbrev cd_PC_place : Cond := .code yn_PC_place bc_PC_place 1 (some .int)
theorem mc_PC_place : cd_PC_place ∈ bw_B := mw_408
abbrev bc_PC_account : ByteArray := prog_1_method_6_code
abbrev yn_PC_account : MethodName := ⟨"PayChain", "account", "(III)I"⟩
abbrev cd_PC_account : Cond := .code yn_PC_account bc_PC_account 4 (some .int)
theorem mc_PC_account : cd_PC_account ∈ bw_B := mw_412
abbrev bc_Host_open : ByteArray := prog_3_method_2_code
abbrev yn_Host_open : MethodName := ⟨"PayChain$Host", "open", "(III)V"⟩
abbrev cd_Host_open : Cond := .code yn_Host_open bc_Host_open 4 none
theorem mc_Host_open : cd_Host_open ∈ bw_B := mw_417
abbrev bc_Host_isAccount : ByteArray := prog_3_method_3_code
abbrev yn_Host_isAccount : MethodName := ⟨"PayChain$Host", "isAccount", "(I)Z"⟩
abbrev cd_Host_isAccount : Cond := .code yn_Host_isAccount bc_Host_isAccount 1 (some .boolean)
theorem mc_Host_isAccount : cd_Host_isAccount ∈ bw_B := mw_420
abbrev bc_PC_setting : ByteArray := prog_1_method_7_code
abbrev yn_PC_setting : MethodName := ⟨"PayChain", "setting", "(II)I"⟩
abbrev cd_PC_setting : Cond := .code yn_PC_setting bc_PC_setting 3 (some .int)
theorem mc_PC_setting : cd_PC_setting ∈ bw_B := mw_425
abbrev bc_Term_set : ByteArray := prog_10_method_2_code
abbrev yn_Term_set : MethodName := ⟨"PayChain$Terminal", "set", "(II)Z"⟩
abbrev cd_Term_set : Cond := .code yn_Term_set bc_Term_set 4 (some .boolean)
theorem mc_Term_set : cd_Term_set ∈ bw_B := mw_429
abbrev bc_PC_pay : ByteArray := prog_1_method_8_code
abbrev yn_PC_pay : MethodName := ⟨"PayChain", "pay", "(IIII)I"⟩
abbrev cd_PC_pay : Cond := .code yn_PC_pay bc_PC_pay 6 (some .int)
theorem mc_PC_pay : cd_PC_pay ∈ bw_B := mw_436
abbrev bc_PC_cardThere : ByteArray := prog_1_method_18_code
abbrev yn_PC_cardThere : MethodName := ⟨"PayChain", "cardThere", "(I)LPayChain$Card;"⟩
abbrev cd_PC_cardThere : Cond := .code yn_PC_cardThere bc_PC_cardThere 2 (some (.object "PayChain$Card"))
theorem mc_PC_cardThere : cd_PC_cardThere ∈ bw_B := mw_440
abbrev bc_AL_size : ByteArray := prog_20_method_8_code
abbrev yn_AL_size : MethodName := ⟨"java/util/ArrayList", "size", "()I"⟩
abbrev cd_AL_size : Cond := .code yn_AL_size bc_AL_size 1 (some .int)
theorem mc_AL_size : cd_AL_size ∈ bw_B := mw_445
abbrev bc_Pmt_start : ByteArray := prog_6_method_2_code
abbrev yn_Pmt_start : MethodName := ⟨"PayChain$Payment", "start", "(III)V"⟩
abbrev cd_Pmt_start : Cond := .code yn_Pmt_start bc_Pmt_start 4 none
theorem mc_Pmt_start : cd_Pmt_start ∈ bw_B := mw_449
abbrev bc_Pmt_run : ByteArray := prog_6_method_3_code
abbrev yn_Pmt_run : MethodName := ⟨"PayChain$Payment", "run", "(LPayChain$Card;LPayChain$Terminal;LPayChain$Host;)V"⟩
abbrev cd_Pmt_run : Cond := .code yn_Pmt_run bc_Pmt_run 4 none
theorem mc_Pmt_run : cd_Pmt_run ∈ bw_B := mw_453
abbrev bc_Term_day : ByteArray := prog_10_method_4_code
abbrev yn_Term_day : MethodName := ⟨"PayChain$Terminal", "day", "()I"⟩
abbrev cd_Term_day : Cond := .code yn_Term_day bc_Term_day 1 (some .int)
theorem mc_Term_day : cd_Term_day ∈ bw_B := mw_457
abbrev bc_Pmt_setIf : ByteArray := prog_6_method_4_code
abbrev yn_Pmt_setIf : MethodName := ⟨"PayChain$Payment", "setIf", "(ZI)V"⟩
abbrev cd_Pmt_setIf : Cond := .code yn_Pmt_setIf bc_Pmt_setIf 3 none
theorem mc_Pmt_setIf : cd_Pmt_setIf ∈ bw_B := mw_461
abbrev bc_Pmt_checkHolder : ByteArray := prog_6_method_5_code
abbrev yn_Pmt_checkHolder : MethodName := ⟨"PayChain$Payment", "checkHolder", "(LPayChain$Card;LPayChain$Terminal;)V"⟩
abbrev cd_Pmt_checkHolder : Cond := .code yn_Pmt_checkHolder bc_Pmt_checkHolder 7 none
theorem mc_Pmt_checkHolder : cd_Pmt_checkHolder ∈ bw_B := mw_465
abbrev bc_Pmt_isCase : ByteArray := prog_6_method_6_code
abbrev yn_Pmt_isCase : MethodName := ⟨"PayChain$Payment", "isCase", "(IILPayChain$Terminal;)Z"⟩
abbrev cd_Pmt_isCase : Cond := .code yn_Pmt_isCase bc_Pmt_isCase 4 (some .boolean)
theorem mc_Pmt_isCase : cd_Pmt_isCase ∈ bw_B := mw_473
abbrev bc_Term_hasPad : ByteArray := prog_10_method_6_code
abbrev yn_Term_hasPad : MethodName := ⟨"PayChain$Terminal", "hasPad", "()Z"⟩
abbrev cd_Term_hasPad : Cond := .code yn_Term_hasPad bc_Term_hasPad 1 (some .boolean)
theorem mc_Term_hasPad : cd_Term_hasPad ∈ bw_B := mw_477
abbrev bc_Pmt_isMet : ByteArray := prog_6_method_7_code
abbrev yn_Pmt_isMet : MethodName := ⟨"PayChain$Payment", "isMet", "(ILPayChain$Card;LPayChain$Terminal;)Z"⟩
abbrev cd_Pmt_isMet : Cond := .code yn_Pmt_isMet bc_Pmt_isMet 4 (some .boolean)
theorem mc_Pmt_isMet : cd_Pmt_isMet ∈ bw_B := mw_481
abbrev bc_Pmt_isPinRight : ByteArray := prog_6_method_8_code
abbrev yn_Pmt_isPinRight : MethodName := ⟨"PayChain$Payment", "isPinRight", "(LPayChain$Card;LPayChain$Terminal;)Z"⟩
abbrev cd_Pmt_isPinRight : Cond := .code yn_Pmt_isPinRight bc_Pmt_isPinRight 3 (some .boolean)
theorem mc_Pmt_isPinRight : cd_Pmt_isPinRight ∈ bw_B := mw_485
abbrev bc_Card_isBlocked : ByteArray := prog_2_method_9_code
abbrev yn_Card_isBlocked : MethodName := ⟨"PayChain$Card", "isBlocked", "()Z"⟩
abbrev cd_Card_isBlocked : Cond := .code yn_Card_isBlocked bc_Card_isBlocked 1 (some .boolean)
theorem mc_Card_isBlocked : cd_Card_isBlocked ∈ bw_B := mw_489
abbrev bc_Card_acceptsPin : ByteArray := prog_2_method_10_code
abbrev yn_Card_acceptsPin : MethodName := ⟨"PayChain$Card", "acceptsPin", "(I)Z"⟩
abbrev cd_Card_acceptsPin : Cond := .code yn_Card_acceptsPin bc_Card_acceptsPin 2 (some .boolean)
theorem mc_Card_acceptsPin : cd_Card_acceptsPin ∈ bw_B := mw_493
abbrev bc_Pmt_weighRisks : ByteArray := prog_6_method_9_code
abbrev yn_Pmt_weighRisks : MethodName := ⟨"PayChain$Payment", "weighRisks", "(LPayChain$Card;LPayChain$Terminal;)V"⟩
abbrev cd_Pmt_weighRisks : Cond := .code yn_Pmt_weighRisks bc_Pmt_weighRisks 3 none
theorem mc_Pmt_weighRisks : cd_Pmt_weighRisks ∈ bw_B := mw_497
abbrev bc_Term_floor : ByteArray := prog_10_method_3_code
abbrev yn_Term_floor : MethodName := ⟨"PayChain$Terminal", "floor", "()I"⟩
abbrev cd_Term_floor : Cond := .code yn_Term_floor bc_Term_floor 1 (some .int)
theorem mc_Term_floor : cd_Term_floor ∈ bw_B := mw_501
abbrev bc_Card_isRunAtLower : ByteArray := prog_2_method_7_code
abbrev yn_Card_isRunAtLower : MethodName := ⟨"PayChain$Card", "isRunAtLower", "()Z"⟩
abbrev cd_Card_isRunAtLower : Cond := .code yn_Card_isRunAtLower bc_Card_isRunAtLower 1 (some .boolean)
theorem mc_Card_isRunAtLower : cd_Card_isRunAtLower ∈ bw_B := mw_505
abbrev bc_Card_isRunAtUpper : ByteArray := prog_2_method_8_code
abbrev yn_Card_isRunAtUpper : MethodName := ⟨"PayChain$Card", "isRunAtUpper", "()Z"⟩
abbrev cd_Card_isRunAtUpper : Cond := .code yn_Card_isRunAtUpper bc_Card_isRunAtUpper 1 (some .boolean)
theorem mc_Card_isRunAtUpper : cd_Card_isRunAtUpper ∈ bw_B := mw_509
abbrev bc_Pmt_findWish : ByteArray := prog_6_method_10_code
abbrev yn_Pmt_findWish : MethodName := ⟨"PayChain$Payment", "findWish", "(LPayChain$Card;LPayChain$Terminal;)I"⟩
abbrev cd_Pmt_findWish : Cond := .code yn_Pmt_findWish bc_Pmt_findWish 3 (some .int)
theorem mc_Pmt_findWish : cd_Pmt_findWish ∈ bw_B := mw_513
abbrev bc_Term_maskDenial : ByteArray := prog_10_method_8_code
abbrev yn_Term_maskDenial : MethodName := ⟨"PayChain$Terminal", "maskDenial", "()I"⟩
abbrev cd_Term_maskDenial : Cond := .code yn_Term_maskDenial bc_Term_maskDenial 1 (some .int)
theorem mc_Term_maskDenial : cd_Term_maskDenial ∈ bw_B := mw_517
abbrev bc_Pmt_hasFlagIn : ByteArray := prog_6_method_11_code
abbrev yn_Pmt_hasFlagIn : MethodName := ⟨"PayChain$Payment", "hasFlagIn", "(I)Z"⟩
abbrev cd_Pmt_hasFlagIn : Cond := .code yn_Pmt_hasFlagIn bc_Pmt_hasFlagIn 2 (some .boolean)
theorem mc_Pmt_hasFlagIn : cd_Pmt_hasFlagIn ∈ bw_B := mw_521
abbrev bc_Term_isConnected : ByteArray := prog_10_method_5_code
abbrev yn_Term_isConnected : MethodName := ⟨"PayChain$Terminal", "isConnected", "()Z"⟩
abbrev cd_Term_isConnected : Cond := .code yn_Term_isConnected bc_Term_isConnected 1 (some .boolean)
theorem mc_Term_isConnected : cd_Term_isConnected ∈ bw_B := mw_525
abbrev bc_Term_maskOnline : ByteArray := prog_10_method_9_code
abbrev yn_Term_maskOnline : MethodName := ⟨"PayChain$Terminal", "maskOnline", "()I"⟩
abbrev cd_Term_maskOnline : Cond := .code yn_Term_maskOnline bc_Term_maskOnline 1 (some .int)
theorem mc_Term_maskOnline : cd_Term_maskOnline ∈ bw_B := mw_529
abbrev bc_Term_maskDefault : ByteArray := prog_10_method_7_code
abbrev yn_Term_maskDefault : MethodName := ⟨"PayChain$Terminal", "maskDefault", "()I"⟩
abbrev cd_Term_maskDefault : Cond := .code yn_Term_maskDefault bc_Term_maskDefault 1 (some .int)
theorem mc_Term_maskDefault : cd_Term_maskDefault ∈ bw_B := mw_533
abbrev bc_Pmt_gatherData : ByteArray := prog_6_method_12_code
abbrev yn_Pmt_gatherData : MethodName := ⟨"PayChain$Payment", "gatherData", "(LPayChain$Card;LPayChain$Terminal;)V"⟩
abbrev cd_Pmt_gatherData : Cond := .code yn_Pmt_gatherData bc_Pmt_gatherData 8 none
theorem mc_Pmt_gatherData : cd_Pmt_gatherData ∈ bw_B := mw_537
abbrev bc_Pmt_demanded : ByteArray := prog_6_method_13_code
abbrev yn_Pmt_demanded : MethodName := ⟨"PayChain$Payment", "demanded", "(ILPayChain$Terminal;)I"⟩
abbrev cd_Pmt_demanded : Cond := .code yn_Pmt_demanded bc_Pmt_demanded 3 (some .int)
theorem mc_Pmt_demanded : cd_Pmt_demanded ∈ bw_B := mw_544
abbrev bc_Pmt_addNumber : ByteArray := prog_6_method_14_code
abbrev yn_Pmt_addNumber : MethodName := ⟨"PayChain$Payment", "addNumber", "(II)V"⟩
abbrev cd_Pmt_addNumber : Cond := .code yn_Pmt_addNumber bc_Pmt_addNumber 4 none
theorem mc_Pmt_addNumber : cd_Pmt_addNumber ∈ bw_B := mw_548
abbrev bc_Card_firstAnswer : ByteArray := prog_2_method_11_code
abbrev yn_Card_firstAnswer : MethodName := ⟨"PayChain$Card", "firstAnswer", "(I)I"⟩
abbrev cd_Card_firstAnswer : Cond := .code yn_Card_firstAnswer bc_Card_firstAnswer 2 (some .int)
theorem mc_Card_firstAnswer : cd_Card_firstAnswer ∈ bw_B := mw_553
abbrev bc_Mac_cryptogram : ByteArray := prog_4_method_3_code
abbrev yn_Mac_cryptogram : MethodName := ⟨"PayChain$Mac", "cryptogram", "(IIILPayChain$Row;)I"⟩
abbrev cd_Mac_cryptogram : Cond := .code yn_Mac_cryptogram bc_Mac_cryptogram 6 (some .int)
theorem mc_Mac_cryptogram : cd_Mac_cryptogram ∈ bw_B := mw_558
abbrev bc_Mac_grow : ByteArray := prog_4_method_2_code
abbrev yn_Mac_grow : MethodName := ⟨"PayChain$Mac", "grow", "(II)I"⟩
abbrev cd_Mac_grow : Cond := .code yn_Mac_grow bc_Mac_grow 3 (some .int)
theorem mc_Mac_grow : cd_Mac_grow ∈ bw_B := mw_561
abbrev bc_Pmt_askHost : ByteArray := prog_6_method_15_code
abbrev yn_Pmt_askHost : MethodName := ⟨"PayChain$Payment", "askHost", "(LPayChain$Card;LPayChain$Terminal;LPayChain$Host;)V"⟩
abbrev cd_Pmt_askHost : Cond := .code yn_Pmt_askHost bc_Pmt_askHost 4 none
theorem mc_Pmt_askHost : cd_Pmt_askHost ∈ bw_B := mw_568
abbrev bc_Host_judge : ByteArray := prog_3_method_5_code
abbrev yn_Host_judge : MethodName := ⟨"PayChain$Host", "judge", "(IILPayChain$Row;II)I"⟩
abbrev cd_Host_judge : Cond := .code yn_Host_judge bc_Host_judge 6 (some .int)
theorem mc_Host_judge : cd_Host_judge ∈ bw_B := mw_572
abbrev bc_Pmt_hasReply : ByteArray := prog_6_method_16_code
abbrev yn_Pmt_hasReply : MethodName := ⟨"PayChain$Payment", "hasReply", "(LPayChain$Terminal;)Z"⟩
abbrev cd_Pmt_hasReply : Cond := .code yn_Pmt_hasReply bc_Pmt_hasReply 2 (some .boolean)
theorem mc_Pmt_hasReply : cd_Pmt_hasReply ∈ bw_B := mw_577
abbrev bc_Pmt_answerReply : ByteArray := prog_6_method_17_code
abbrev yn_Pmt_answerReply : MethodName := ⟨"PayChain$Payment", "answerReply", "(LPayChain$Card;LPayChain$Host;)I"⟩
abbrev cd_Pmt_answerReply : Cond := .code yn_Pmt_answerReply bc_Pmt_answerReply 4 (some .int)
theorem mc_Pmt_answerReply : cd_Pmt_answerReply ∈ bw_B := mw_581
abbrev bc_Host_sealOf : ByteArray := prog_3_method_6_code
abbrev yn_Host_sealOf : MethodName := ⟨"PayChain$Host", "sealOf", "(III)I"⟩
abbrev cd_Host_sealOf : Cond := .code yn_Host_sealOf bc_Host_sealOf 4 (some .int)
theorem mc_Host_sealOf : cd_Host_sealOf ∈ bw_B := mw_585
abbrev bc_Mac_seal : ByteArray := prog_4_method_4_code
abbrev yn_Mac_seal : MethodName := ⟨"PayChain$Mac", "seal", "(III)I"⟩
abbrev cd_Mac_seal : Cond := .code yn_Mac_seal bc_Mac_seal 5 (some .int)
theorem mc_Mac_seal : cd_Mac_seal ∈ bw_B := mw_588
abbrev bc_Card_acceptsReply : ByteArray := prog_2_method_12_code
abbrev yn_Card_acceptsReply : MethodName := ⟨"PayChain$Card", "acceptsReply", "(III)Z"⟩
abbrev cd_Card_acceptsReply : Cond := .code yn_Card_acceptsReply bc_Card_acceptsReply 4 (some .boolean)
theorem mc_Card_acceptsReply : cd_Card_acceptsReply ∈ bw_B := mw_592
abbrev bc_Pmt_answerAlone : ByteArray := prog_6_method_18_code
abbrev yn_Pmt_answerAlone : MethodName := ⟨"PayChain$Payment", "answerAlone", "(LPayChain$Card;LPayChain$Terminal;)I"⟩
abbrev cd_Pmt_answerAlone : Cond := .code yn_Pmt_answerAlone bc_Pmt_answerAlone 3 (some .int)
theorem mc_Pmt_answerAlone : cd_Pmt_answerAlone ∈ bw_B := mw_597
abbrev bc_Pmt_needsReversal : ByteArray := prog_6_method_19_code
abbrev yn_Pmt_needsReversal : MethodName := ⟨"PayChain$Payment", "needsReversal", "(LPayChain$Terminal;)Z"⟩
abbrev cd_Pmt_needsReversal : Cond := .code yn_Pmt_needsReversal bc_Pmt_needsReversal 2 (some .boolean)
theorem mc_Pmt_needsReversal : cd_Pmt_needsReversal ∈ bw_B := mw_601
abbrev bc_Rev_init : ByteArray := prog_7_method_1_code
abbrev yn_Rev_init : MethodName := ⟨"PayChain$Reversal", "<init>", "(LPayChain$Payment;I)V"⟩
abbrev cd_Rev_init : Cond := .code yn_Rev_init bc_Rev_init 3 none
theorem mc_Rev_init : cd_Rev_init ∈ bw_B := mw_606
abbrev bc_AL_add : ByteArray := prog_20_method_25_code
abbrev yn_AL_add : MethodName := ⟨"java/util/ArrayList", "add", "(Ljava/lang/Object;)Z"⟩
abbrev cd_AL_add : Cond := .code yn_AL_add bc_AL_add 2 (some .boolean)
theorem mc_AL_add : cd_AL_add ∈ bw_B := mw_628
abbrev bc_AL_add2 : ByteArray := prog_20_method_24_code
abbrev yn_AL_add2 : MethodName := ⟨"java/util/ArrayList", "add", "(Ljava/lang/Object;[Ljava/lang/Object;I)V"⟩
abbrev cd_AL_add2 : Cond := .code yn_AL_add2 bc_AL_add2 4 none
theorem mc_AL_add2 : cd_AL_add2 ∈ bw_B := mw_632
abbrev bc_AL_grow : ByteArray := prog_20_method_7_code
abbrev yn_AL_grow : MethodName := ⟨"java/util/ArrayList", "grow", "()[Ljava/lang/Object;"⟩
abbrev cd_AL_grow : Cond := .code yn_AL_grow bc_AL_grow 1 (some (.array (.object "java/lang/Object")))
theorem mc_AL_grow : cd_AL_grow ∈ bw_B := mw_636
abbrev bc_AL_grow2 : ByteArray := prog_20_method_6_code
abbrev yn_AL_grow2 : MethodName := ⟨"java/util/ArrayList", "grow", "(I)[Ljava/lang/Object;"⟩
abbrev cd_AL_grow2 : Cond := .code yn_AL_grow2 bc_AL_grow2 4 (some (.array (.object "java/lang/Object")))
theorem mc_AL_grow2 : cd_AL_grow2 ∈ bw_B := mw_640
abbrev bc_ArrS_newLength : ByteArray := prog_27_method_27_code
abbrev yn_ArrS_newLength : MethodName := ⟨"jdk/internal/util/ArraysSupport", "newLength", "(III)I"⟩
abbrev cd_ArrS_newLength : Cond := .code yn_ArrS_newLength bc_ArrS_newLength 4 (some .int)
theorem mc_ArrS_newLength : cd_ArrS_newLength ∈ bw_B := mw_643
abbrev bc_Math_max : ByteArray := prog_16_method_65_code
abbrev yn_Math_max : MethodName := ⟨"java/lang/Math", "max", "(II)I"⟩
abbrev cd_Math_max : Cond := .code yn_Math_max bc_Math_max 2 (some .int)
theorem mc_Math_max : cd_Math_max ∈ bw_B := mw_646
abbrev bc_ArrS_hugeLength : ByteArray := prog_27_method_28_code
abbrev yn_ArrS_hugeLength : MethodName := ⟨"jdk/internal/util/ArraysSupport", "hugeLength", "(II)I"⟩
abbrev cd_ArrS_hugeLength : Cond := .code yn_ArrS_hugeLength bc_ArrS_hugeLength 3 (some .int)
theorem mc_ArrS_hugeLength : cd_ArrS_hugeLength ∈ bw_B := mw_650
abbrev bc_Arrs_copyOf : ByteArray := prog_21_method_119_code
abbrev yn_Arrs_copyOf : MethodName := ⟨"java/util/Arrays", "copyOf", "([Ljava/lang/Object;I)[Ljava/lang/Object;"⟩
abbrev cd_Arrs_copyOf : Cond := .code yn_Arrs_copyOf bc_Arrs_copyOf 2 (some (.array (.object "java/lang/Object")))
theorem mc_Arrs_copyOf : cd_Arrs_copyOf ∈ bw_B := mw_653
abbrev bc_Arrs_copyOf2 : ByteArray := prog_21_method_120_code
abbrev yn_Arrs_copyOf2 : MethodName := ⟨"java/util/Arrays", "copyOf", "([Ljava/lang/Object;ILjava/lang/Class;)[Ljava/lang/Object;"⟩
abbrev cd_Arrs_copyOf2 : Cond := .code yn_Arrs_copyOf2 bc_Arrs_copyOf2 4 (some (.array (.object "java/lang/Object")))
theorem mc_Arrs_copyOf2 : cd_Arrs_copyOf2 ∈ bw_B := mw_670
abbrev bc_Math_min : ByteArray := prog_16_method_69_code
abbrev yn_Math_min : MethodName := ⟨"java/lang/Math", "min", "(II)I"⟩
abbrev cd_Math_min : Cond := .code yn_Math_min bc_Math_min 2 (some .int)
theorem mc_Math_min : cd_Math_min ∈ bw_B := mw_676
abbrev bc_PC_send : ByteArray := prog_1_method_9_code
abbrev yn_PC_send : MethodName := ⟨"PayChain", "send", "(I)I"⟩
abbrev cd_PC_send : Cond := .code yn_PC_send bc_PC_send 2 (some .int)
theorem mc_PC_send : cd_PC_send ∈ bw_B := mw_685
abbrev bc_AL_isEmpty : ByteArray := prog_20_method_9_code
abbrev yn_AL_isEmpty : MethodName := ⟨"java/util/ArrayList", "isEmpty", "()Z"⟩
abbrev cd_AL_isEmpty : Cond := .code yn_AL_isEmpty bc_AL_isEmpty 1 (some .boolean)
theorem mc_AL_isEmpty : cd_AL_isEmpty ∈ bw_B := mw_690
abbrev bc_AL_get : ByteArray := prog_20_method_20_code
abbrev yn_AL_get : MethodName := ⟨"java/util/ArrayList", "get", "(I)Ljava/lang/Object;"⟩
abbrev cd_AL_get : Cond := .code yn_AL_get bc_AL_get 2 (some (.object "java/lang/Object"))
theorem mc_AL_get : cd_AL_get ∈ bw_B := mw_694
abbrev bc_Objs_checkIndex : ByteArray := prog_24_method_17_code
abbrev yn_Objs_checkIndex : MethodName := ⟨"java/util/Objects", "checkIndex", "(II)I"⟩
abbrev cd_Objs_checkIndex : Cond := .code yn_Objs_checkIndex bc_Objs_checkIndex 2 (some .int)
theorem mc_Objs_checkIndex : cd_Objs_checkIndex ∈ bw_B := mw_697
abbrev bc_Prec_checkIndex : ByteArray := prog_28_method_11_code
abbrev yn_Prec_checkIndex : MethodName := ⟨"jdk/internal/util/Preconditions", "checkIndex", "(IILjava/util/function/BiFunction;)I"⟩
abbrev cd_Prec_checkIndex : Cond := .code yn_Prec_checkIndex bc_Prec_checkIndex 3 (some .int)
theorem mc_Prec_checkIndex : cd_Prec_checkIndex ∈ bw_B := mw_700
abbrev bc_AL_elementData : ByteArray := prog_20_method_18_code
abbrev yn_AL_elementData : MethodName := ⟨"java/util/ArrayList", "elementData", "(I)Ljava/lang/Object;"⟩
abbrev cd_AL_elementData : Cond := .code yn_AL_elementData bc_AL_elementData 2 (some (.object "java/lang/Object"))
theorem mc_AL_elementData : cd_AL_elementData ∈ bw_B := mw_704
abbrev bc_Host_reverse : ByteArray := prog_3_method_7_code
abbrev yn_Host_reverse : MethodName := ⟨"PayChain$Host", "reverse", "(LPayChain$Reversal;)V"⟩
abbrev cd_Host_reverse : Cond := .code yn_Host_reverse bc_Host_reverse 2 none
theorem mc_Host_reverse : cd_Host_reverse ∈ bw_B := mw_708
abbrev bc_AL_remove : ByteArray := prog_20_method_29_code
abbrev yn_AL_remove : MethodName := ⟨"java/util/ArrayList", "remove", "(I)Ljava/lang/Object;"⟩
abbrev cd_AL_remove : Cond := .code yn_AL_remove bc_AL_remove 4 (some (.object "java/lang/Object"))
theorem mc_AL_remove : cd_AL_remove ∈ bw_B := mw_712
abbrev bc_AL_fastRemove : ByteArray := prog_20_method_39_code
abbrev yn_AL_fastRemove : MethodName := ⟨"java/util/ArrayList", "fastRemove", "([Ljava/lang/Object;I)V"⟩
abbrev cd_AL_fastRemove : Cond := .code yn_AL_fastRemove bc_AL_fastRemove 4 none
theorem mc_AL_fastRemove : cd_AL_fastRemove ∈ bw_B := mw_716
abbrev bc_PC_last : ByteArray := prog_1_method_10_code
abbrev yn_PC_last : MethodName := ⟨"PayChain", "last", "(I)I"⟩
abbrev cd_PC_last : Cond := .code yn_PC_last bc_PC_last 2 (some .int)
theorem mc_PC_last : cd_PC_last ∈ bw_B := mw_721
abbrev bc_Pmt_tell : ByteArray := prog_6_method_20_code
abbrev yn_Pmt_tell : MethodName := ⟨"PayChain$Payment", "tell", "(I)I"⟩
abbrev cd_Pmt_tell : Cond := .code yn_Pmt_tell bc_Pmt_tell 2 (some .int)
theorem mc_Pmt_tell : cd_Pmt_tell ∈ bw_B := mw_725
abbrev bc_PC_data : ByteArray := prog_1_method_11_code
abbrev yn_PC_data : MethodName := ⟨"PayChain", "data", "(I)I"⟩
abbrev cd_PC_data : Cond := .code yn_PC_data bc_PC_data 2 (some .int)
theorem mc_PC_data : cd_PC_data ∈ bw_B := mw_729
abbrev bc_PC_orRefused : ByteArray := prog_1_method_20_code
abbrev yn_PC_orRefused : MethodName := ⟨"PayChain", "orRefused", "(I)I"⟩
abbrev cd_PC_orRefused : Cond := .code yn_PC_orRefused bc_PC_orRefused 1 (some .int)
theorem mc_PC_orRefused : cd_PC_orRefused ∈ bw_B := mw_733
abbrev bc_PC_card : ByteArray := prog_1_method_12_code
abbrev yn_PC_card : MethodName := ⟨"PayChain", "card", "(II)I"⟩
abbrev cd_PC_card : Cond := .code yn_PC_card bc_PC_card 4 (some .int)
theorem mc_PC_card : cd_PC_card ∈ bw_B := mw_737
abbrev bc_Card_tell : ByteArray := prog_2_method_6_code
abbrev yn_Card_tell : MethodName := ⟨"PayChain$Card", "tell", "(I)I"⟩
abbrev cd_Card_tell : Cond := .code yn_Card_tell bc_Card_tell 2 (some .int)
theorem mc_Card_tell : cd_Card_tell ∈ bw_B := mw_741
abbrev bc_PC_value : ByteArray := prog_1_method_13_code
abbrev yn_PC_value : MethodName := ⟨"PayChain", "value", "(III)I"⟩
abbrev cd_PC_value : Cond := .code yn_PC_value bc_PC_value 5 (some .int)
theorem mc_PC_value : cd_PC_value ∈ bw_B := mw_746
abbrev bc_PC_inside : ByteArray := prog_1_method_14_code
abbrev yn_PC_inside : MethodName := ⟨"PayChain", "inside", "(II)I"⟩
abbrev cd_PC_inside : Cond := .code yn_PC_inside bc_PC_inside 4 (some .int)
theorem mc_PC_inside : cd_PC_inside ∈ bw_B := mw_752
abbrev bc_Tree_innerOf : ByteArray := prog_5_method_10_code
abbrev yn_Tree_innerOf : MethodName := ⟨"PayChain$ObjectTree", "innerOf", "(I)I"⟩
abbrev cd_Tree_innerOf : Cond := .code yn_Tree_innerOf bc_Tree_innerOf 2 (some .int)
theorem mc_Tree_innerOf : cd_Tree_innerOf ∈ bw_B := mw_756
abbrev bc_PC_balance : ByteArray := prog_1_method_15_code
abbrev yn_PC_balance : MethodName := ⟨"PayChain", "balance", "(I)J"⟩
abbrev cd_PC_balance : Cond := .code yn_PC_balance bc_PC_balance 2 (some .long)
theorem mc_PC_balance : cd_PC_balance ∈ bw_B := mw_760
abbrev bc_Host_balanceOf : ByteArray := prog_3_method_4_code
abbrev yn_Host_balanceOf : MethodName := ⟨"PayChain$Host", "balanceOf", "(I)J"⟩
abbrev cd_Host_balanceOf : Cond := .code yn_Host_balanceOf bc_Host_balanceOf 2 (some .long)
theorem mc_Host_balanceOf : cd_Host_balanceOf ∈ bw_B := mw_764
abbrev bc_PC_queued : ByteArray := prog_1_method_16_code
abbrev yn_PC_queued : MethodName := ⟨"PayChain", "queued", "(I)I"⟩
abbrev cd_PC_queued : Cond := .code yn_PC_queued bc_PC_queued 2 (some .int)
theorem mc_PC_queued : cd_PC_queued ∈ bw_B := mw_769
abbrev bc_PC_count : ByteArray := prog_1_method_17_code
abbrev yn_PC_count : MethodName := ⟨"PayChain", "count", "(I)I"⟩
abbrev cd_PC_count : Cond := .code yn_PC_count bc_PC_count 2 (some .int)
theorem mc_PC_count : cd_PC_count ∈ bw_B := mw_773
abbrev bc_Mod_init : ByteArray := prog_12_method_1_code
abbrev yn_Mod_init : MethodName := ⟨"PayChainModel", "<init>", "()V"⟩
abbrev cd_Mod_init : Cond := .code yn_Mod_init bc_Mod_init 1 none
theorem mc_Mod_init : cd_Mod_init ∈ bw_B := mw_778
abbrev bc_Mod_feed : ByteArray := prog_12_method_8_code
abbrev yn_Mod_feed : MethodName := ⟨"PayChainModel", "feed", "(I)I"⟩
abbrev cd_Mod_feed : Cond := .code yn_Mod_feed bc_Mod_feed 2 (some .int)
theorem mc_Mod_feed : cd_Mod_feed ∈ bw_B := mw_878
abbrev bc_Mod_in : ByteArray := prog_12_method_2_code
abbrev yn_Mod_in : MethodName := ⟨"PayChainModel", "in", "(III)Z"⟩
abbrev cd_Mod_in : Cond := .code yn_Mod_in bc_Mod_in 3 (some .boolean)
theorem mc_Mod_in : cd_Mod_in ∈ bw_B := mw_881
abbrev bc_Mod_wipe : ByteArray := prog_12_method_9_code
abbrev yn_Mod_wipe : MethodName := ⟨"PayChainModel", "wipe", "()I"⟩
abbrev cd_Mod_wipe : Cond := .code yn_Mod_wipe bc_Mod_wipe 2 (some .int)
theorem mc_Mod_wipe : cd_Mod_wipe ∈ bw_B := mw_885
abbrev bc_Mod_make : ByteArray := prog_12_method_13_code
abbrev yn_Mod_make : MethodName := ⟨"PayChainModel", "make", "(III)I"⟩
abbrev cd_Mod_make : Cond := .code yn_Mod_make bc_Mod_make 7 (some .int)
theorem mc_Mod_make : cd_Mod_make ∈ bw_B := mw_889
abbrev bc_Mod_walk : ByteArray := prog_12_method_4_code
abbrev yn_Mod_walk : MethodName := ⟨"PayChainModel", "walk", "(II)I"⟩
abbrev cd_Mod_walk : Cond := .code yn_Mod_walk bc_Mod_walk 17 (some .int)
theorem mc_Mod_walk : cd_Mod_walk ∈ bw_B := mw_893
abbrev bc_Mod_at : ByteArray := prog_12_method_3_code
abbrev yn_Mod_at : MethodName := ⟨"PayChainModel", "at", "(II)I"⟩
abbrev cd_Mod_at : Cond := .code yn_Mod_at bc_Mod_at 3 (some .int)
theorem mc_Mod_at : cd_Mod_at ∈ bw_B := mw_897
abbrev bc_Mod_unfit : ByteArray := prog_12_method_12_code
abbrev yn_Mod_unfit : MethodName := ⟨"PayChainModel", "unfit", "()I"⟩
abbrev cd_Mod_unfit : Cond := .code yn_Mod_unfit bc_Mod_unfit 2 (some .int)
theorem mc_Mod_unfit : cd_Mod_unfit ∈ bw_B := mw_901
abbrev bc_Mod_has : ByteArray := prog_12_method_5_code
abbrev yn_Mod_has : MethodName := ⟨"PayChainModel", "has", "(II)Z"⟩
abbrev cd_Mod_has : Cond := .code yn_Mod_has bc_Mod_has 3 (some .boolean)
theorem mc_Mod_has : cd_Mod_has ∈ bw_B := mw_905
abbrev bc_Mod_bytes : ByteArray := prog_12_method_6_code
abbrev yn_Mod_bytes : MethodName := ⟨"PayChainModel", "bytes", "()I"⟩
abbrev cd_Mod_bytes : Cond := .code yn_Mod_bytes bc_Mod_bytes 1 (some .int)
theorem mc_Mod_bytes : cd_Mod_bytes ∈ bw_B := mw_909
abbrev bc_Mod_list : ByteArray := prog_12_method_11_code
abbrev yn_Mod_list : MethodName := ⟨"PayChainModel", "list", "()Z"⟩
abbrev cd_Mod_list : Cond := .code yn_Mod_list bc_Mod_list 4 (some .boolean)
theorem mc_Mod_list : cd_Mod_list ∈ bw_B := mw_913
abbrev bc_Mod_sized : ByteArray := prog_12_method_10_code
abbrev yn_Mod_sized : MethodName := ⟨"PayChainModel", "sized", "(II)Z"⟩
abbrev cd_Mod_sized : Cond := .code yn_Mod_sized bc_Mod_sized 3 (some .boolean)
theorem mc_Mod_sized : cd_Mod_sized ∈ bw_B := mw_919
abbrev bc_Mod_place : ByteArray := prog_12_method_14_code
abbrev yn_Mod_place : MethodName := ⟨"PayChainModel", "place", "()I"⟩
abbrev cd_Mod_place : Cond := .code yn_Mod_place bc_Mod_place 1 (some .int)
theorem mc_Mod_place : cd_Mod_place ∈ bw_B := mw_925
abbrev bc_Mod_account : ByteArray := prog_12_method_15_code
abbrev yn_Mod_account : MethodName := ⟨"PayChainModel", "account", "(III)I"⟩
abbrev cd_Mod_account : Cond := .code yn_Mod_account bc_Mod_account 4 (some .int)
theorem mc_Mod_account : cd_Mod_account ∈ bw_B := mw_929
abbrev bc_Mod_setting : ByteArray := prog_12_method_16_code
abbrev yn_Mod_setting : MethodName := ⟨"PayChainModel", "setting", "(II)I"⟩
abbrev cd_Mod_setting : Cond := .code yn_Mod_setting bc_Mod_setting 3 (some .int)
theorem mc_Mod_setting : cd_Mod_setting ∈ bw_B := mw_934
abbrev bc_Mod_pay : ByteArray := prog_12_method_27_code
abbrev yn_Mod_pay : MethodName := ⟨"PayChainModel", "pay", "(IIII)I"⟩
abbrev cd_Mod_pay : Cond := .code yn_Mod_pay bc_Mod_pay 10 (some .int)
theorem mc_Mod_pay : cd_Mod_pay ∈ bw_B := mw_940
abbrev bc_Mod_number : ByteArray := prog_12_method_7_code
abbrev yn_Mod_number : MethodName := ⟨"PayChainModel", "number", "(III)I"⟩
abbrev cd_Mod_number : Cond := .code yn_Mod_number bc_Mod_number 6 (some .int)
theorem mc_Mod_number : cd_Mod_number ∈ bw_B := mw_944
abbrev bc_Mod_holder : ByteArray := prog_12_method_21_code
abbrev yn_Mod_holder : MethodName := ⟨"PayChainModel", "holder", "(III)V"⟩
abbrev cd_Mod_holder : Cond := .code yn_Mod_holder bc_Mod_holder 10 none
theorem mc_Mod_holder : cd_Mod_holder ∈ bw_B := mw_948
abbrev bc_Mod_pin : ByteArray := prog_12_method_20_code
abbrev yn_Mod_pin : MethodName := ⟨"PayChainModel", "pin", "(II)Z"⟩
abbrev cd_Mod_pin : Cond := .code yn_Mod_pin bc_Mod_pin 3 (some .boolean)
theorem mc_Mod_pin : cd_Mod_pin ∈ bw_B := mw_952
abbrev bc_Mod_wish : ByteArray := prog_12_method_24_code
abbrev yn_Mod_wish : MethodName := ⟨"PayChainModel", "wish", "(I)I"⟩
abbrev cd_Mod_wish : Cond := .code yn_Mod_wish bc_Mod_wish 2 (some .int)
theorem mc_Mod_wish : cd_Mod_wish ∈ bw_B := mw_956
abbrev bc_Mod_mask : ByteArray := prog_12_method_22_code
abbrev yn_Mod_mask : MethodName := ⟨"PayChainModel", "mask", "(III)I"⟩
abbrev cd_Mod_mask : Cond := .code yn_Mod_mask bc_Mod_mask 4 (some .int)
theorem mc_Mod_mask : cd_Mod_mask ∈ bw_B := mw_961
abbrev bc_Mod_gather : ByteArray := prog_12_method_23_code
abbrev yn_Mod_gather : MethodName := ⟨"PayChainModel", "gather", "(II)V"⟩
abbrev cd_Mod_gather : Cond := .code yn_Mod_gather bc_Mod_gather 9 none
theorem mc_Mod_gather : cd_Mod_gather ∈ bw_B := mw_965
abbrev bc_Mod_over : ByteArray := prog_12_method_25_code
abbrev yn_Mod_over : MethodName := ⟨"PayChainModel", "over", "(I)Z"⟩
abbrev cd_Mod_over : Cond := .code yn_Mod_over bc_Mod_over 3 (some .boolean)
theorem mc_Mod_over : cd_Mod_over ∈ bw_B := mw_971
abbrev bc_Mod_cryptogram : ByteArray := prog_12_method_18_code
abbrev yn_Mod_cryptogram : MethodName := ⟨"PayChainModel", "cryptogram", "(III)I"⟩
abbrev cd_Mod_cryptogram : Cond := .code yn_Mod_cryptogram bc_Mod_cryptogram 6 (some .int)
theorem mc_Mod_cryptogram : cd_Mod_cryptogram ∈ bw_B := mw_975
abbrev bc_Mod_stir : ByteArray := prog_12_method_17_code
abbrev yn_Mod_stir : MethodName := ⟨"PayChainModel", "stir", "(II)I"⟩
abbrev cd_Mod_stir : Cond := .code yn_Mod_stir bc_Mod_stir 3 (some .int)
theorem mc_Mod_stir : cd_Mod_stir ∈ bw_B := mw_978
abbrev bc_Mod_online : ByteArray := prog_12_method_28_code
abbrev yn_Mod_online : MethodName := ⟨"PayChainModel", "online", "(III)I"⟩
abbrev cd_Mod_online : Cond := .code yn_Mod_online bc_Mod_online 8 (some .int)
theorem mc_Mod_online : cd_Mod_online ∈ bw_B := mw_983
abbrev bc_Mod_host : ByteArray := prog_12_method_26_code
abbrev yn_Mod_host : MethodName := ⟨"PayChainModel", "host", "(III)I"⟩
abbrev cd_Mod_host : Cond := .code yn_Mod_host bc_Mod_host 5 (some .int)
theorem mc_Mod_host : cd_Mod_host ∈ bw_B := mw_987
abbrev bc_Mod_replied : ByteArray := prog_12_method_30_code
abbrev yn_Mod_replied : MethodName := ⟨"PayChainModel", "replied", "(I)I"⟩
abbrev cd_Mod_replied : Cond := .code yn_Mod_replied bc_Mod_replied 3 (some .int)
theorem mc_Mod_replied : cd_Mod_replied ∈ bw_B := mw_991
abbrev bc_Mod_seal : ByteArray := prog_12_method_19_code
abbrev yn_Mod_seal : MethodName := ⟨"PayChainModel", "seal", "(III)I"⟩
abbrev cd_Mod_seal : Cond := .code yn_Mod_seal bc_Mod_seal 5 (some .int)
theorem mc_Mod_seal : cd_Mod_seal ∈ bw_B := mw_994
abbrev bc_Mod_alone : ByteArray := prog_12_method_29_code
abbrev yn_Mod_alone : MethodName := ⟨"PayChainModel", "alone", "(I)I"⟩
abbrev cd_Mod_alone : Cond := .code yn_Mod_alone bc_Mod_alone 2 (some .int)
theorem mc_Mod_alone : cd_Mod_alone ∈ bw_B := mw_998
abbrev bc_Mod_send : ByteArray := prog_12_method_31_code
abbrev yn_Mod_send : MethodName := ⟨"PayChainModel", "send", "(I)I"⟩
abbrev cd_Mod_send : Cond := .code yn_Mod_send bc_Mod_send 4 (some .int)
theorem mc_Mod_send : cd_Mod_send ∈ bw_B := mw_1002
abbrev bc_Mod_last : ByteArray := prog_12_method_32_code
abbrev yn_Mod_last : MethodName := ⟨"PayChainModel", "last", "(I)I"⟩
abbrev cd_Mod_last : Cond := .code yn_Mod_last bc_Mod_last 2 (some .int)
theorem mc_Mod_last : cd_Mod_last ∈ bw_B := mw_1006
abbrev bc_Mod_data : ByteArray := prog_12_method_33_code
abbrev yn_Mod_data : MethodName := ⟨"PayChainModel", "data", "(I)I"⟩
abbrev cd_Mod_data : Cond := .code yn_Mod_data bc_Mod_data 2 (some .int)
theorem mc_Mod_data : cd_Mod_data ∈ bw_B := mw_1010
abbrev bc_Mod_card : ByteArray := prog_12_method_34_code
abbrev yn_Mod_card : MethodName := ⟨"PayChainModel", "card", "(II)I"⟩
abbrev cd_Mod_card : Cond := .code yn_Mod_card bc_Mod_card 3 (some .int)
theorem mc_Mod_card : cd_Mod_card ∈ bw_B := mw_1014
abbrev bc_Mod_value : ByteArray := prog_12_method_35_code
abbrev yn_Mod_value : MethodName := ⟨"PayChainModel", "value", "(III)I"⟩
abbrev cd_Mod_value : Cond := .code yn_Mod_value bc_Mod_value 4 (some .int)
theorem mc_Mod_value : cd_Mod_value ∈ bw_B := mw_1018
abbrev bc_Mod_inside : ByteArray := prog_12_method_36_code
abbrev yn_Mod_inside : MethodName := ⟨"PayChainModel", "inside", "(II)I"⟩
abbrev cd_Mod_inside : Cond := .code yn_Mod_inside bc_Mod_inside 3 (some .int)
theorem mc_Mod_inside : cd_Mod_inside ∈ bw_B := mw_1022
abbrev bc_Mod_balance : ByteArray := prog_12_method_37_code
abbrev yn_Mod_balance : MethodName := ⟨"PayChainModel", "balance", "(I)J"⟩
abbrev cd_Mod_balance : Cond := .code yn_Mod_balance bc_Mod_balance 2 (some .long)
theorem mc_Mod_balance : cd_Mod_balance ∈ bw_B := mw_1026
abbrev bc_Mod_queued : ByteArray := prog_12_method_38_code
abbrev yn_Mod_queued : MethodName := ⟨"PayChainModel", "queued", "(I)I"⟩
abbrev cd_Mod_queued : Cond := .code yn_Mod_queued bc_Mod_queued 2 (some .int)
theorem mc_Mod_queued : cd_Mod_queued ∈ bw_B := mw_1031
abbrev bc_Mod_count : ByteArray := prog_12_method_39_code
abbrev yn_Mod_count : MethodName := ⟨"PayChainModel", "count", "(I)I"⟩
abbrev cd_Mod_count : Cond := .code yn_Mod_count bc_Mod_count 4 (some .int)
theorem mc_Mod_count : cd_Mod_count ∈ bw_B := mw_1035
theorem cw_PC_11 {R : Room} {s : State} {args : Array Value} {c0 : Cond} {rm : Room} {mc ms : Nat} (ht : ∀ w ∈ c0 :: bw_B, w.before args s = true) (hrc : rm.cells = mc) (hrs : rm.slots = ms) (hR : rm.frames + 1 ≤ R.frames ∧ 8 + (2 + 11) + rm.locals ≤ R.locals) : CallB R s args "PayChain" 11 yn_Row_init bc_Row_init 2 none (cd_Row_init :: bw_B) rm mc ms 1 ∧ yn_Row_init.name = "<init>" ∧ (Cond.instanceMethod yn_Row_init).before args s = true := cwI 1 ht (bw_in mc_Row_init) rfl hrc hrs (ht _ (List.mem_cons_of_mem _ mw_2)) (ht _ (List.mem_cons_of_mem _ mw_31)) (ht _ (List.mem_cons_of_mem _ mw_32)) rfl (by decide +kernel) hR
theorem cw_PC_26 {R : Room} {s : State} {args : Array Value} {c0 : Cond} {rm : Room} {mc ms : Nat} (ht : ∀ w ∈ c0 :: bw_B, w.before args s = true) (hrc : rm.cells = mc) (hrs : rm.slots = ms) (hR : rm.frames + 1 ≤ R.frames ∧ 8 + (1 + 11) + rm.locals ≤ R.locals) (hl : va_Nw (Cond.methodLinkNest "PayChain" (26 : Nat) ({ cls := "PayChain$Terminal", name := "<init>", desc := "()V" } : MethodName) "PayChain") s) : va_CN R s args "PayChain" 26 yn_Term_init "PayChain" bc_Term_init 1 none (cd_Term_init :: bw_B) rm mc ms 0 ∧ yn_Term_init.name = "<init>" ∧ (Cond.instanceMethod yn_Term_init).before args s = true := ⟨va_cnB 0 ht (bw_in mc_Term_init) rfl hrc hrs hl (ht _ (List.mem_cons_of_mem _ mw_3)) (by decide +kernel) hR, rfl, (ht _ (List.mem_cons_of_mem _ mw_48))⟩
theorem cw_PC_33 {R : Room} {s : State} {args : Array Value} {c0 : Cond} {rm : Room} {mc ms : Nat} (ht : ∀ w ∈ c0 :: bw_B, w.before args s = true) (hrc : rm.cells = mc) (hrs : rm.slots = ms) (hR : rm.frames + 1 ≤ R.frames ∧ 8 + (1 + 11) + rm.locals ≤ R.locals) (hl : va_Nw (Cond.methodLinkNest "PayChain" (33 : Nat) ({ cls := "PayChain$Host", name := "<init>", desc := "()V" } : MethodName) "PayChain") s) : va_CN R s args "PayChain" 33 yn_Host_init "PayChain" bc_Host_init 1 none (cd_Host_init :: bw_B) rm mc ms 0 ∧ yn_Host_init.name = "<init>" ∧ (Cond.instanceMethod yn_Host_init).before args s = true := ⟨va_cnB 0 ht (bw_in mc_Host_init) rfl hrc hrs hl (ht _ (List.mem_cons_of_mem _ mw_4)) (by decide +kernel) hR, rfl, (ht _ (List.mem_cons_of_mem _ mw_58))⟩
theorem cw_PC_40 {R : Room} {s : State} {args : Array Value} {c0 : Cond} {rm : Room} {mc ms : Nat} (ht : ∀ w ∈ c0 :: bw_B, w.before args s = true) (hrc : rm.cells = mc) (hrs : rm.slots = ms) (hR : rm.frames + 1 ≤ R.frames ∧ 8 + (1 + 11) + rm.locals ≤ R.locals) (hl : va_Nw (Cond.methodLinkNest "PayChain" (40 : Nat) ({ cls := "PayChain$Payment", name := "<init>", desc := "()V" } : MethodName) "PayChain") s) : va_CN R s args "PayChain" 40 yn_Pmt_init "PayChain" bc_Pmt_init 1 none (cd_Pmt_init :: bw_B) rm mc ms 0 ∧ yn_Pmt_init.name = "<init>" ∧ (Cond.instanceMethod yn_Pmt_init).before args s = true := ⟨va_cnB 0 ht (bw_in mc_Pmt_init) rfl hrc hrs hl (ht _ (List.mem_cons_of_mem _ mw_5)) (by decide +kernel) hR, rfl, (ht _ (List.mem_cons_of_mem _ mw_79))⟩
theorem cw_PC_47 {R : Room} {s : State} {args : Array Value} {c0 : Cond} {rm : Room} {mc ms : Nat} (ht : ∀ w ∈ c0 :: bw_B, w.before args s = true) (hrc : rm.cells = mc) (hrs : rm.slots = ms) (hR : rm.frames + 1 ≤ R.frames ∧ 8 + (1 + 11) + rm.locals ≤ R.locals) : CallB R s args "PayChain" 47 yn_AL_init bc_AL_init 1 none (cd_AL_init :: bw_B) rm mc ms 0 ∧ yn_AL_init.name = "<init>" ∧ (Cond.instanceMethod yn_AL_init).before args s = true := cwI 0 ht (bw_in mc_AL_init) rfl hrc hrs (ht _ (List.mem_cons_of_mem _ mw_8)) (ht _ (List.mem_cons_of_mem _ mw_132)) (ht _ (List.mem_cons_of_mem _ mw_133)) rfl (by decide +kernel) hR
theorem cw_PC_52 {R : Room} {s : State} {args : Array Value} {c0 : Cond} {rm : Room} {mc ms : Nat} (ht : ∀ w ∈ c0 :: bw_B, w.before args s = true) (hrc : rm.cells = mc) (hrs : rm.slots = ms) (hR : rm.frames + 1 ≤ R.frames ∧ 8 + (1 + 11) + rm.locals ≤ R.locals) (hl : va_Nw (Cond.methodLinkNest "PayChain" (52 : Nat) ({ cls := "PayChain$Card", name := "<init>", desc := "()V" } : MethodName) "PayChain") s) : va_CN R s args "PayChain" 52 yn_Card_init "PayChain" bc_Card_init 1 none (cd_Card_init :: bw_B) rm mc ms 0 ∧ yn_Card_init.name = "<init>" ∧ (Cond.instanceMethod yn_Card_init).before args s = true := ⟨va_cnB 0 ht (bw_in mc_Card_init) rfl hrc hrs hl (ht _ (List.mem_cons_of_mem _ mw_9)) (by decide +kernel) hR, rfl, (ht _ (List.mem_cons_of_mem _ mw_158))⟩
theorem cw_PC_61 {R : Room} {s : State} {args : Array Value} {c0 : Cond} {rm : Room} {mc ms : Nat} (ht : ∀ w ∈ c0 :: bw_B, w.before args s = true) (hrc : rm.cells = mc) (hrs : rm.slots = ms) (hR : rm.frames + 1 ≤ R.frames ∧ 8 + (3 + 11) + rm.locals ≤ R.locals) : CallB R s args "PayChain" 61 yn_PC_isWithin bc_PC_isWithin 3 (some .boolean) (cd_PC_isWithin :: bw_B) rm mc ms 3 ∧ (Cond.static yn_PC_isWithin).before args s = true := va_cwS 3 ht (bw_app (bw_3w mw_277 mw_278 mw_1) (bw_in mc_PC_isWithin)) rfl hrc hrs (by decide +kernel) hR
theorem cw_PC_65 {R : Room} {s : State} {args : Array Value} {c0 : Cond} {rm : Room} {mc ms : Nat} (ht : ∀ w ∈ c0 :: bw_B, w.before args s = true) (hrc : rm.cells = mc) (hrs : rm.slots = ms) (hR : rm.frames + 1 ≤ R.frames ∧ 8 + (2 + 11) + rm.locals ≤ R.locals) : CallW R s args "PayChain" "PayChain$Row" 65 yn_Row_add bc_Row_add 2 (some .boolean) (cd_Row_add :: bw_B) rm mc ms 1 := cwV 1 ht (bw_app (bw_4w mw_280 mw_281 mw_282 mw_2) (bw_in mc_Row_add)) rfl hrc hrs (by decide +kernel) hR
theorem cw_PC_69 {R : Room} {s : State} {args : Array Value} {c0 : Cond} {rm : Room} {mc ms : Nat} (ht : ∀ w ∈ c0 :: bw_B, w.before args s = true) (hrc : rm.cells = mc) (hrs : rm.slots = ms) (hR : rm.frames + 1 ≤ R.frames ∧ 8 + (1 + 11) + rm.locals ≤ R.locals) : CallW R s args "PayChain" "PayChain$Row" 69 yn_Row_length bc_Row_length 1 (some .int) (cd_Row_length :: bw_B) rm mc ms 0 := cwV 0 ht (bw_app (bw_4w mw_284 mw_285 mw_286 mw_2) (bw_in mc_Row_length)) rfl hrc hrs (by decide +kernel) hR
theorem cw_PC_73 {R : Room} {s : State} {args : Array Value} {c0 : Cond} {rm : Room} {mc ms : Nat} (ht : ∀ w ∈ c0 :: bw_B, w.before args s = true) (hrc : rm.cells = mc) (hrs : rm.slots = ms) (hR : rm.frames + 1 ≤ R.frames ∧ 8 + (1 + 11) + rm.locals ≤ R.locals) : CallW R s args "PayChain" "PayChain$Row" 73 yn_Row_clear bc_Row_clear 1 none (cd_Row_clear :: bw_B) rm mc ms 0 := cwV 0 ht (bw_app (bw_4w mw_292 mw_293 mw_294 mw_2) (bw_in mc_Row_clear)) rfl hrc hrs (by decide +kernel) hR
theorem cw_PC_80 {R : Room} {s : State} {args : Array Value} {c0 : Cond} {rm : Room} {mc ms : Nat} (ht : ∀ w ∈ c0 :: bw_B, w.before args s = true) (hrc : rm.cells = mc) (hrs : rm.slots = ms) (hR : rm.frames + 1 ≤ R.frames ∧ 8 + (2 + 11) + rm.locals ≤ R.locals) : CallW R s args "PayChain" "PayChain$ObjectTree" 80 yn_Tree_read bc_Tree_read 2 (some .int) (cd_Tree_read :: bw_B) rm mc ms 1 := cwV 1 ht (bw_app (bw_4w mw_300 mw_301 mw_302 mw_10) (bw_in mc_Tree_read)) rfl hrc hrs (by decide +kernel) hR
theorem cw_PC_86 {R : Room} {s : State} {args : Array Value} {c0 : Cond} {rm : Room} {mc ms : Nat} (ht : ∀ w ∈ c0 :: bw_B, w.before args s = true) (hrc : rm.cells = mc) (hrs : rm.slots = ms) (hR : rm.frames + 1 ≤ R.frames ∧ 8 + (1 + 11) + rm.locals ≤ R.locals) : CallW R s args "PayChain" "PayChain$ObjectTree" 86 yn_Tree_size bc_Tree_size 1 (some .int) (cd_Tree_size :: bw_B) rm mc ms 0 := cwV 0 ht (bw_app (bw_4w mw_347 mw_348 mw_349 mw_10) (bw_in mc_Tree_size)) rfl hrc hrs (by decide +kernel) hR
theorem cw_PC_89 {R : Room} {s : State} {args : Array Value} {c0 : Cond} {rm : Room} {mc ms : Nat} (ht : ∀ w ∈ c0 :: bw_B, w.before args s = true) (hrc : rm.cells = mc) (hrs : rm.slots = ms) (hR : rm.frames + 1 ≤ R.frames ∧ 8 + (2 + 11) + rm.locals ≤ R.locals) : CallW R s args "PayChain" "PayChain$Card" 89 yn_Card_unfitTag bc_Card_unfitTag 2 (some .int) (cd_Card_unfitTag :: bw_B) rm mc ms 0 := cwV 0 ht (bw_app (bw_4w mw_351 mw_352 mw_353 mw_9) (bw_in mc_Card_unfitTag)) rfl hrc hrs (by decide +kernel) hR
theorem cw_PC_92 {R : Room} {s : State} {args : Array Value} {c0 : Cond} {rm : Room} {mc ms : Nat} (ht : ∀ w ∈ c0 :: bw_B, w.before args s = true) (hrc : rm.cells = mc) (hrs : rm.slots = ms) (hR : rm.frames + 1 ≤ R.frames ∧ 8 + (3 + 11) + rm.locals ≤ R.locals) : CallW R s args "PayChain" "PayChain$Card" 92 yn_Card_reset bc_Card_reset 3 none (cd_Card_reset :: bw_B) rm mc ms 2 := cwV 2 ht (bw_app (bw_4w mw_387 mw_388 mw_389 mw_9) (bw_in mc_Card_reset)) rfl hrc hrs (by decide +kernel) hR
theorem cw_PC_96 {R : Room} {s : State} {args : Array Value} {c0 : Cond} {rm : Room} {mc ms : Nat} (ht : ∀ w ∈ c0 :: bw_B, w.before args s = true) (hrc : rm.cells = mc) (hrs : rm.slots = ms) (hR : rm.frames + 1 ≤ R.frames ∧ 8 + (3 + 11) + rm.locals ≤ R.locals) : CallW R s args "PayChain" "PayChain" 96 yn_PC_putSpare bc_PC_putSpare 3 none (cd_PC_putSpare :: bw_B) rm mc ms 1 := cwV 1 ht (bw_app (bw_4w mw_401 mw_403 ms_7 mw_1) (bw_in mc_PC_putSpare)) rfl hrc hrs (by decide +kernel) hR
theorem cw_PC_100 {R : Room} {s : State} {args : Array Value} {c0 : Cond} {rm : Room} {mc ms : Nat} (ht : ∀ w ∈ c0 :: bw_B, w.before args s = true) (hrc : rm.cells = mc) (hrs : rm.slots = ms) (hR : rm.frames + 1 ≤ R.frames ∧ 8 + (4 + 11) + rm.locals ≤ R.locals) : CallW R s args "PayChain" "PayChain$Host" 100 yn_Host_open bc_Host_open 4 none (cd_Host_open :: bw_B) rm mc ms 3 := cwV 3 ht (bw_app (bw_4w mw_414 mw_415 mw_416 mw_4) (bw_in mc_Host_open)) rfl hrc hrs (by decide +kernel) hR
theorem cw_PC_104 {R : Room} {s : State} {args : Array Value} {c0 : Cond} {rm : Room} {mc ms : Nat} (ht : ∀ w ∈ c0 :: bw_B, w.before args s = true) (hrc : rm.cells = mc) (hrs : rm.slots = ms) (hR : rm.frames + 1 ≤ R.frames ∧ 8 + (4 + 11) + rm.locals ≤ R.locals) : CallW R s args "PayChain" "PayChain$Terminal" 104 yn_Term_set bc_Term_set 4 (some .boolean) (cd_Term_set :: bw_B) rm mc ms 2 := cwV 2 ht (bw_app (bw_4w mw_426 mw_427 mw_428 mw_3) (bw_in mc_Term_set)) rfl hrc hrs (by decide +kernel) hR
theorem cw_PC_108 {R : Room} {s : State} {args : Array Value} {c0 : Cond} {rm : Room} {mc ms : Nat} (ht : ∀ w ∈ c0 :: bw_B, w.before args s = true) (hrc : rm.cells = mc) (hrs : rm.slots = ms) (hR : rm.frames + 1 ≤ R.frames ∧ 8 + (2 + 11) + rm.locals ≤ R.locals) : CallW R s args "PayChain" "PayChain" 108 yn_PC_cardThere bc_PC_cardThere 2 (some (.object "PayChain$Card")) (cd_PC_cardThere :: bw_B) rm mc ms 1 := cwV 1 ht (bw_app (bw_4w mw_437 mw_439 ms_8 mw_1) (bw_in mc_PC_cardThere)) rfl hrc hrs (by decide +kernel) hR
theorem cw_PC_113 {R : Room} {s : State} {args : Array Value} {c0 : Cond} {rm : Room} {mc ms : Nat} (ht : ∀ w ∈ c0 :: bw_B, w.before args s = true) (hrc : rm.cells = mc) (hrs : rm.slots = ms) (hR : rm.frames + 1 ≤ R.frames ∧ 8 + (1 + 11) + rm.locals ≤ R.locals) : CallW R s args "PayChain" "java/util/ArrayList" 113 yn_AL_size bc_AL_size 1 (some .int) (cd_AL_size :: bw_B) rm mc ms 0 := cwV 0 ht (bw_app (bw_4w mw_442 mw_443 mw_444 mw_8) (bw_in mc_AL_size)) rfl hrc hrs (by decide +kernel) hR
theorem cw_PC_114 {R : Room} {s : State} {args : Array Value} {c0 : Cond} {rm : Room} {mc ms : Nat} (ht : ∀ w ∈ c0 :: bw_B, w.before args s = true) (hrc : rm.cells = mc) (hrs : rm.slots = ms) (hR : rm.frames + 1 ≤ R.frames ∧ 8 + (4 + 11) + rm.locals ≤ R.locals) : CallW R s args "PayChain" "PayChain$Payment" 114 yn_Pmt_start bc_Pmt_start 4 none (cd_Pmt_start :: bw_B) rm mc ms 3 := cwV 3 ht (bw_app (bw_4w mw_446 mw_447 mw_448 mw_5) (bw_in mc_Pmt_start)) rfl hrc hrs (by decide +kernel) hR
theorem cw_PC_117 {R : Room} {s : State} {args : Array Value} {c0 : Cond} {rm : Room} {mc ms : Nat} (ht : ∀ w ∈ c0 :: bw_B, w.before args s = true) (hrc : rm.cells = mc) (hrs : rm.slots = ms) (hR : rm.frames + 1 ≤ R.frames ∧ 8 + (4 + 11) + rm.locals ≤ R.locals) : CallW R s args "PayChain" "PayChain$Payment" 117 yn_Pmt_run bc_Pmt_run 4 none (cd_Pmt_run :: bw_B) rm mc ms 3 := cwV 3 ht (bw_app (bw_4w mw_450 mw_451 mw_452 mw_5) (bw_in mc_Pmt_run)) rfl hrc hrs (by decide +kernel) hR
theorem cw_PC_127 {R : Room} {s : State} {args : Array Value} {c0 : Cond} {rm : Room} {mc ms : Nat} (ht : ∀ w ∈ c0 :: bw_B, w.before args s = true) (hrc : rm.cells = mc) (hrs : rm.slots = ms) (hR : rm.frames + 1 ≤ R.frames ∧ 8 + (2 + 11) + rm.locals ≤ R.locals) : CallW R s args "PayChain" "PayChain$Payment" 127 yn_Pmt_needsReversal bc_Pmt_needsReversal 2 (some .boolean) (cd_Pmt_needsReversal :: bw_B) rm mc ms 1 := cwV 1 ht (bw_app (bw_4w mw_598 mw_599 mw_600 mw_5) (bw_in mc_Pmt_needsReversal)) rfl hrc hrs (by decide +kernel) hR
theorem cw_PC_136 {R : Room} {s : State} {args : Array Value} {c0 : Cond} {rm : Room} {mc ms : Nat} (ht : ∀ w ∈ c0 :: bw_B, w.before args s = true) (hrc : rm.cells = mc) (hrs : rm.slots = ms) (hR : rm.frames + 1 ≤ R.frames ∧ 8 + (3 + 11) + rm.locals ≤ R.locals) : CallB R s args "PayChain" 136 yn_Rev_init bc_Rev_init 3 none (cd_Rev_init :: bw_B) rm mc ms 2 ∧ yn_Rev_init.name = "<init>" ∧ (Cond.instanceMethod yn_Rev_init).before args s = true := cwI 2 ht (bw_in mc_Rev_init) rfl hrc hrs (ht _ (List.mem_cons_of_mem _ mw_14)) (ht _ (List.mem_cons_of_mem _ mw_604)) (ht _ (List.mem_cons_of_mem _ mw_605)) rfl (by decide +kernel) hR
theorem cw_PC_139 {R : Room} {s : State} {args : Array Value} {c0 : Cond} {rm : Room} {mc ms : Nat} (ht : ∀ w ∈ c0 :: bw_B, w.before args s = true) (hrc : rm.cells = mc) (hrs : rm.slots = ms) (hR : rm.frames + 1 ≤ R.frames ∧ 8 + (2 + 11) + rm.locals ≤ R.locals) : CallW R s args "PayChain" "java/util/ArrayList" 139 yn_AL_add bc_AL_add 2 (some .boolean) (cd_AL_add :: bw_B) rm mc ms 1 := cwV 1 ht (bw_app (bw_4w mw_625 mw_626 mw_627 mw_8) (bw_in mc_AL_add)) rfl hrc hrs (by decide +kernel) hR
theorem cw_PC_142 {R : Room} {s : State} {args : Array Value} {c0 : Cond} {rm : Room} {mc ms : Nat} (ht : ∀ w ∈ c0 :: bw_B, w.before args s = true) (hrc : rm.cells = mc) (hrs : rm.slots = ms) (hR : rm.frames + 1 ≤ R.frames ∧ 8 + (1 + 11) + rm.locals ≤ R.locals) : CallW R s args "PayChain" "PayChain$Terminal" 142 yn_Term_isConnected bc_Term_isConnected 1 (some .boolean) (cd_Term_isConnected :: bw_B) rm mc ms 0 := cwV 0 ht (bw_app (bw_4w mw_686 mw_523 mw_524 mw_3) (bw_in mc_Term_isConnected)) rfl hrc hrs (by decide +kernel) hR
theorem cw_PC_146 {R : Room} {s : State} {args : Array Value} {c0 : Cond} {rm : Room} {mc ms : Nat} (ht : ∀ w ∈ c0 :: bw_B, w.before args s = true) (hrc : rm.cells = mc) (hrs : rm.slots = ms) (hR : rm.frames + 1 ≤ R.frames ∧ 8 + (1 + 11) + rm.locals ≤ R.locals) : CallW R s args "PayChain" "java/util/ArrayList" 146 yn_AL_isEmpty bc_AL_isEmpty 1 (some .boolean) (cd_AL_isEmpty :: bw_B) rm mc ms 0 := cwV 0 ht (bw_app (bw_4w mw_687 mw_688 mw_689 mw_8) (bw_in mc_AL_isEmpty)) rfl hrc hrs (by decide +kernel) hR
theorem cw_PC_149 {R : Room} {s : State} {args : Array Value} {c0 : Cond} {rm : Room} {mc ms : Nat} (ht : ∀ w ∈ c0 :: bw_B, w.before args s = true) (hrc : rm.cells = mc) (hrs : rm.slots = ms) (hR : rm.frames + 1 ≤ R.frames ∧ 8 + (2 + 11) + rm.locals ≤ R.locals) : CallW R s args "PayChain" "java/util/ArrayList" 149 yn_AL_get bc_AL_get 2 (some (.object "java/lang/Object")) (cd_AL_get :: bw_B) rm mc ms 1 := cwV 1 ht (bw_app (bw_4w mw_691 mw_692 mw_693 mw_8) (bw_in mc_AL_get)) rfl hrc hrs (by decide +kernel) hR
theorem cw_PC_153 {R : Room} {s : State} {args : Array Value} {c0 : Cond} {rm : Room} {mc ms : Nat} (ht : ∀ w ∈ c0 :: bw_B, w.before args s = true) (hrc : rm.cells = mc) (hrs : rm.slots = ms) (hR : rm.frames + 1 ≤ R.frames ∧ 8 + (2 + 11) + rm.locals ≤ R.locals) : CallW R s args "PayChain" "PayChain$Host" 153 yn_Host_reverse bc_Host_reverse 2 none (cd_Host_reverse :: bw_B) rm mc ms 1 := cwV 1 ht (bw_app (bw_4w mw_705 mw_706 mw_707 mw_4) (bw_in mc_Host_reverse)) rfl hrc hrs (by decide +kernel) hR
theorem cw_PC_157 {R : Room} {s : State} {args : Array Value} {c0 : Cond} {rm : Room} {mc ms : Nat} (ht : ∀ w ∈ c0 :: bw_B, w.before args s = true) (hrc : rm.cells = mc) (hrs : rm.slots = ms) (hR : rm.frames + 1 ≤ R.frames ∧ 8 + (4 + 11) + rm.locals ≤ R.locals) : CallW R s args "PayChain" "java/util/ArrayList" 157 yn_AL_remove bc_AL_remove 4 (some (.object "java/lang/Object")) (cd_AL_remove :: bw_B) rm mc ms 1 := cwV 1 ht (bw_app (bw_4w mw_709 mw_710 mw_711 mw_8) (bw_in mc_AL_remove)) rfl hrc hrs (by decide +kernel) hR
theorem cw_PC_160 {R : Room} {s : State} {args : Array Value} {c0 : Cond} {rm : Room} {mc ms : Nat} (ht : ∀ w ∈ c0 :: bw_B, w.before args s = true) (hrc : rm.cells = mc) (hrs : rm.slots = ms) (hR : rm.frames + 1 ≤ R.frames ∧ 8 + (2 + 11) + rm.locals ≤ R.locals) : CallW R s args "PayChain" "PayChain$Payment" 160 yn_Pmt_tell bc_Pmt_tell 2 (some .int) (cd_Pmt_tell :: bw_B) rm mc ms 1 := cwV 1 ht (bw_app (bw_4w mw_722 mw_723 mw_724 mw_5) (bw_in mc_Pmt_tell)) rfl hrc hrs (by decide +kernel) hR
theorem cw_PC_167 {R : Room} {s : State} {args : Array Value} {c0 : Cond} {rm : Room} {mc ms : Nat} (ht : ∀ w ∈ c0 :: bw_B, w.before args s = true) (hrc : rm.cells = mc) (hrs : rm.slots = ms) (hR : rm.frames + 1 ≤ R.frames ∧ 8 + (2 + 11) + rm.locals ≤ R.locals) : CallW R s args "PayChain" "PayChain$Row" 167 yn_Row_at bc_Row_at 2 (some .int) (cd_Row_at :: bw_B) rm mc ms 1 := cwV 1 ht (bw_app (bw_4w mw_730 mw_310 mw_311 mw_2) (bw_in mc_Row_at)) rfl hrc hrs (by decide +kernel) hR
theorem cw_PC_170 {R : Room} {s : State} {args : Array Value} {c0 : Cond} {rm : Room} {mc ms : Nat} (ht : ∀ w ∈ c0 :: bw_B, w.before args s = true) (hrc : rm.cells = mc) (hrs : rm.slots = ms) (hR : rm.frames + 1 ≤ R.frames ∧ 8 + (1 + 11) + rm.locals ≤ R.locals) : CallB R s args "PayChain" 170 yn_PC_orRefused bc_PC_orRefused 1 (some .int) (cd_PC_orRefused :: bw_B) rm mc ms 1 ∧ (Cond.static yn_PC_orRefused).before args s = true := va_cwS 1 ht (bw_app (bw_3w mw_731 mw_732 mw_1) (bw_in mc_PC_orRefused)) rfl hrc hrs (by decide +kernel) hR
theorem cw_PC_173 {R : Room} {s : State} {args : Array Value} {c0 : Cond} {rm : Room} {mc ms : Nat} (ht : ∀ w ∈ c0 :: bw_B, w.before args s = true) (hrc : rm.cells = mc) (hrs : rm.slots = ms) (hR : rm.frames + 1 ≤ R.frames ∧ 8 + (2 + 11) + rm.locals ≤ R.locals) : CallW R s args "PayChain" "PayChain$Card" 173 yn_Card_tell bc_Card_tell 2 (some .int) (cd_Card_tell :: bw_B) rm mc ms 1 := cwV 1 ht (bw_app (bw_4w mw_738 mw_739 mw_740 mw_9) (bw_in mc_Card_tell)) rfl hrc hrs (by decide +kernel) hR
theorem cw_PC_174 {R : Room} {s : State} {args : Array Value} {c0 : Cond} {rm : Room} {mc ms : Nat} (ht : ∀ w ∈ c0 :: bw_B, w.before args s = true) (hrc : rm.cells = mc) (hrs : rm.slots = ms) (hR : rm.frames + 1 ≤ R.frames ∧ 8 + (3 + 11) + rm.locals ≤ R.locals) : CallW R s args "PayChain" "PayChain$ObjectTree" 174 yn_Tree_first bc_Tree_first 3 (some .int) (cd_Tree_first :: bw_B) rm mc ms 1 := cwV 1 ht (bw_app (bw_4w mw_747 mw_362 mw_363 mw_10) (bw_in mc_Tree_first)) rfl hrc hrs (by decide +kernel) hR
theorem cw_PC_177 {R : Room} {s : State} {args : Array Value} {c0 : Cond} {rm : Room} {mc ms : Nat} (ht : ∀ w ∈ c0 :: bw_B, w.before args s = true) (hrc : rm.cells = mc) (hrs : rm.slots = ms) (hR : rm.frames + 1 ≤ R.frames ∧ 8 + (3 + 11) + rm.locals ≤ R.locals) : CallW R s args "PayChain" "PayChain$ObjectTree" 177 yn_Tree_byteOf bc_Tree_byteOf 3 (some .int) (cd_Tree_byteOf :: bw_B) rm mc ms 2 := cwV 2 ht (bw_app (bw_4w mw_748 mw_370 mw_371 mw_10) (bw_in mc_Tree_byteOf)) rfl hrc hrs (by decide +kernel) hR
theorem cw_PC_181 {R : Room} {s : State} {args : Array Value} {c0 : Cond} {rm : Room} {mc ms : Nat} (ht : ∀ w ∈ c0 :: bw_B, w.before args s = true) (hrc : rm.cells = mc) (hrs : rm.slots = ms) (hR : rm.frames + 1 ≤ R.frames ∧ 8 + (2 + 11) + rm.locals ≤ R.locals) : CallW R s args "PayChain" "PayChain$ObjectTree" 181 yn_Tree_innerOf bc_Tree_innerOf 2 (some .int) (cd_Tree_innerOf :: bw_B) rm mc ms 1 := cwV 1 ht (bw_app (bw_4w mw_753 mw_754 mw_755 mw_10) (bw_in mc_Tree_innerOf)) rfl hrc hrs (by decide +kernel) hR
theorem cw_PC_184 {R : Room} {s : State} {args : Array Value} {c0 : Cond} {rm : Room} {mc ms : Nat} (ht : ∀ w ∈ c0 :: bw_B, w.before args s = true) (hrc : rm.cells = mc) (hrs : rm.slots = ms) (hR : rm.frames + 1 ≤ R.frames ∧ 8 + (2 + 11) + rm.locals ≤ R.locals) : CallW R s args "PayChain" "PayChain$Host" 184 yn_Host_balanceOf bc_Host_balanceOf 2 (some .long) (cd_Host_balanceOf :: bw_B) rm mc ms 1 := cwV 1 ht (bw_app (bw_4w mw_761 mw_762 mw_763 mw_4) (bw_in mc_Host_balanceOf)) rfl hrc hrs (by decide +kernel) hR
theorem cw_Card_11 {R : Room} {s : State} {args : Array Value} {c0 : Cond} {rm : Room} {mc ms : Nat} (ht : ∀ w ∈ c0 :: bw_B, w.before args s = true) (hrc : rm.cells = mc) (hrs : rm.slots = ms) (hR : rm.frames + 1 ≤ R.frames ∧ 8 + (1 + 11) + rm.locals ≤ R.locals) (hl : va_Nw (Cond.methodLinkNest "PayChain$Card" (11 : Nat) ({ cls := "PayChain$ObjectTree", name := "<init>", desc := "()V" } : MethodName) "PayChain") s) : va_CN R s args "PayChain$Card" 11 yn_Tree_init "PayChain" bc_Tree_init 1 none (cd_Tree_init :: bw_B) rm mc ms 0 ∧ yn_Tree_init.name = "<init>" ∧ (Cond.instanceMethod yn_Tree_init).before args s = true := ⟨va_cnB 0 ht (bw_in mc_Tree_init) rfl hrc hrs hl (ht _ (List.mem_cons_of_mem _ mw_10)) (by decide +kernel) hR, rfl, (ht _ (List.mem_cons_of_mem _ mw_164))⟩
theorem cw_Card_40 {R : Room} {s : State} {args : Array Value} {c0 : Cond} {rm : Room} {mc ms : Nat} (ht : ∀ w ∈ c0 :: bw_B, w.before args s = true) (hrc : rm.cells = mc) (hrs : rm.slots = ms) (hR : rm.frames + 1 ≤ R.frames ∧ 8 + (3 + 11) + rm.locals ≤ R.locals) : CallW R s args "PayChain$Card" "PayChain$ObjectTree" 40 yn_Tree_first bc_Tree_first 3 (some .int) (cd_Tree_first :: bw_B) rm mc ms 1 := cwV 1 ht (bw_app (bw_4w mw_361 mw_362 mw_363 mw_10) (bw_in mc_Tree_first)) rfl hrc hrs (by decide +kernel) hR
theorem cw_Card_44 {R : Room} {s : State} {args : Array Value} {c0 : Cond} {rm : Room} {mc ms : Nat} (ht : ∀ w ∈ c0 :: bw_B, w.before args s = true) (hrc : rm.cells = mc) (hrs : rm.slots = ms) (hR : rm.frames + 1 ≤ R.frames ∧ 8 + (3 + 11) + rm.locals ≤ R.locals) : CallW R s args "PayChain$Card" "PayChain$ObjectTree" 44 yn_Tree_byteOf bc_Tree_byteOf 3 (some .int) (cd_Tree_byteOf :: bw_B) rm mc ms 2 := cwV 2 ht (bw_app (bw_4w mw_369 mw_370 mw_371 mw_10) (bw_in mc_Tree_byteOf)) rfl hrc hrs (by decide +kernel) hR
theorem cw_Card_51 {R : Room} {s : State} {args : Array Value} {c0 : Cond} {rm : Room} {mc ms : Nat} (ht : ∀ w ∈ c0 :: bw_B, w.before args s = true) (hrc : rm.cells = mc) (hrs : rm.slots = ms) (hR : rm.frames + 1 ≤ R.frames ∧ 8 + (2 + 11) + rm.locals ≤ R.locals) : CallW R s args "PayChain$Card" "PayChain$ObjectTree" 51 yn_Tree_pairOf bc_Tree_pairOf 2 (some .int) (cd_Tree_pairOf :: bw_B) rm mc ms 1 := cwV 1 ht (bw_app (bw_4w mw_391 mw_392 mw_393 mw_10) (bw_in mc_Tree_pairOf)) rfl hrc hrs (by decide +kernel) hR
theorem cw_Card_81 {R : Room} {s : State} {args : Array Value} {c0 : Cond} {rm : Room} {mc ms : Nat} (ht : ∀ w ∈ c0 :: bw_B, w.before args s = true) (hrc : rm.cells = mc) (hrs : rm.slots = ms) (hR : rm.frames + 1 ≤ R.frames ∧ 8 + (4 + 11) + rm.locals ≤ R.locals) : CallW R s args "PayChain$Card" "PayChain$Card" 81 yn_Card_fits bc_Card_fits 4 (some .boolean) (cd_Card_fits :: bw_B) rm mc ms 1 := cwV 1 ht (bw_app (bw_4w mw_357 mw_359 ms_4 mw_9) (bw_in mc_Card_fits)) rfl hrc hrs (by decide +kernel) hR
theorem cw_Card_85 {R : Room} {s : State} {args : Array Value} {c0 : Cond} {rm : Room} {mc ms : Nat} (ht : ∀ w ∈ c0 :: bw_B, w.before args s = true) (hrc : rm.cells = mc) (hrs : rm.slots = ms) (hR : rm.frames + 1 ≤ R.frames ∧ 8 + (2 + 11) + rm.locals ≤ R.locals) : CallW R s args "PayChain$Card" "PayChain$ObjectTree" 85 yn_Tree_lengthOf bc_Tree_lengthOf 2 (some .int) (cd_Tree_lengthOf :: bw_B) rm mc ms 1 := cwV 1 ht (bw_app (bw_4w mw_365 mw_366 mw_367 mw_10) (bw_in mc_Tree_lengthOf)) rfl hrc hrs (by decide +kernel) hR
theorem cw_Card_88 {R : Room} {s : State} {args : Array Value} {c0 : Cond} {rm : Room} {mc ms : Nat} (ht : ∀ w ∈ c0 :: bw_B, w.before args s = true) (hrc : rm.cells = mc) (hrs : rm.slots = ms) (hR : rm.frames + 1 ≤ R.frames ∧ 8 + (8 + 11) + rm.locals ≤ R.locals) : CallW R s args "PayChain$Card" "PayChain$Card" 88 yn_Card_isList bc_Card_isList 8 (some .boolean) (cd_Card_isList :: bw_B) rm mc ms 1 := cwV 1 ht (bw_app (bw_4w mw_377 mw_379 ms_6 mw_9) (bw_in mc_Card_isList)) rfl hrc hrs (by decide +kernel) hR
theorem cw_Card_91 {R : Room} {s : State} {args : Array Value} {c0 : Cond} {rm : Room} {mc ms : Nat} (ht : ∀ w ∈ c0 :: bw_B, w.before args s = true) (hrc : rm.cells = mc) (hrs : rm.slots = ms) (hR : rm.frames + 1 ≤ R.frames ∧ 8 + (3 + 11) + rm.locals ≤ R.locals) (hl : va_Nw (Cond.methodLinkNest "PayChain$Card" (91 : Nat) ({ cls := "PayChain", name := "isWithin", desc := "(III)Z" } : MethodName) "PayChain") s) : va_CN R s args "PayChain$Card" 91 yn_PC_isWithin "PayChain" bc_PC_isWithin 3 (some .boolean) (cd_PC_isWithin :: bw_B) rm mc ms 3 ∧ (Cond.static yn_PC_isWithin).before args s = true ∧ True := ⟨va_cnB 3 ht (bw_in mc_PC_isWithin) rfl hrc hrs hl (ht _ (List.mem_cons_of_mem _ mw_1)) (by decide +kernel) hR, (ht _ (List.mem_cons_of_mem _ mw_278)), trivial⟩
theorem cw_Card_95 {R : Room} {s : State} {args : Array Value} {c0 : Cond} {rm : Room} {mc ms : Nat} (ht : ∀ w ∈ c0 :: bw_B, w.before args s = true) (hrc : rm.cells = mc) (hrs : rm.slots = ms) (hR : rm.frames + 1 ≤ R.frames ∧ 8 + (3 + 11) + rm.locals ≤ R.locals) : CallW R s args "PayChain$Card" "PayChain$ObjectTree" 95 yn_Tree_tagOf bc_Tree_tagOf 3 (some .int) (cd_Tree_tagOf :: bw_B) rm mc ms 2 := cwV 2 ht (bw_app (bw_4w mw_381 mw_382 mw_383 mw_10) (bw_in mc_Tree_tagOf)) rfl hrc hrs (by decide +kernel) hR
theorem cw_Card_98 {R : Room} {s : State} {args : Array Value} {c0 : Cond} {rm : Room} {mc ms : Nat} (ht : ∀ w ∈ c0 :: bw_B, w.before args s = true) (hrc : rm.cells = mc) (hrs : rm.slots = ms) (hR : rm.frames + 1 ≤ R.frames ∧ 8 + (1 + 11) + rm.locals ≤ R.locals) : CallB R s args "PayChain$Card" 98 yn_Tag_bytesOf bc_Tag_bytesOf 1 (some .int) (cd_Tag_bytesOf :: bw_B) rm mc ms 1 ∧ (Cond.static yn_Tag_bytesOf).before args s = true := va_cwS 1 ht (bw_app (bw_3w mw_385 mw_328 mw_12) (bw_in mc_Tag_bytesOf)) rfl hrc hrs (by decide +kernel) hR
theorem cw_Card_101 {R : Room} {s : State} {args : Array Value} {c0 : Cond} {rm : Room} {mc ms : Nat} (ht : ∀ w ∈ c0 :: bw_B, w.before args s = true) (hrc : rm.cells = mc) (hrs : rm.slots = ms) (hR : rm.frames + 1 ≤ R.frames ∧ 8 + (1 + 11) + rm.locals ≤ R.locals) : CallW R s args "PayChain$Card" "PayChain$ObjectTree" 101 yn_Tree_size bc_Tree_size 1 (some .int) (cd_Tree_size :: bw_B) rm mc ms 0 := cwV 0 ht (bw_app (bw_4w mw_742 mw_348 mw_349 mw_10) (bw_in mc_Tree_size)) rfl hrc hrs (by decide +kernel) hR
theorem cw_Card_105 {R : Room} {s : State} {args : Array Value} {c0 : Cond} {rm : Room} {mc ms : Nat} (ht : ∀ w ∈ c0 :: bw_B, w.before args s = true) (hrc : rm.cells = mc) (hrs : rm.slots = ms) (hR : rm.frames + 1 ≤ R.frames ∧ 8 + (1 + 11) + rm.locals ≤ R.locals) : CallW R s args "PayChain$Card" "PayChain$Card" 105 yn_Card_isBlocked bc_Card_isBlocked 1 (some .boolean) (cd_Card_isBlocked :: bw_B) rm mc ms 0 := cwV 0 ht (bw_app (bw_4w mw_554 mw_487 mw_488 mw_9) (bw_in mc_Card_isBlocked)) rfl hrc hrs (by decide +kernel) hR
theorem cw_Card_109 {R : Room} {s : State} {args : Array Value} {c0 : Cond} {rm : Room} {mc ms : Nat} (ht : ∀ w ∈ c0 :: bw_B, w.before args s = true) (hrc : rm.cells = mc) (hrs : rm.slots = ms) (hR : rm.frames + 1 ≤ R.frames ∧ 8 + (1 + 11) + rm.locals ≤ R.locals) : CallW R s args "PayChain$Card" "PayChain$Card" 109 yn_Card_isRunAtUpper bc_Card_isRunAtUpper 1 (some .boolean) (cd_Card_isRunAtUpper :: bw_B) rm mc ms 0 := cwV 0 ht (bw_app (bw_4w mw_555 mw_507 mw_508 mw_9) (bw_in mc_Card_isRunAtUpper)) rfl hrc hrs (by decide +kernel) hR
theorem cw_Card_112 {R : Room} {s : State} {args : Array Value} {c0 : Cond} {rm : Room} {mc ms : Nat} (ht : ∀ w ∈ c0 :: bw_B, w.before args s = true) (hrc : rm.cells = mc) (hrs : rm.slots = ms) (hR : rm.frames + 1 ≤ R.frames ∧ 8 + (5 + 11) + rm.locals ≤ R.locals) : CallB R s args "PayChain$Card" 112 yn_Mac_seal bc_Mac_seal 5 (some .int) (cd_Mac_seal :: bw_B) rm mc ms 3 ∧ (Cond.static yn_Mac_seal).before args s = true := va_cwS 3 ht (bw_app (bw_3w mw_593 mw_587 mw_13) (bw_in mc_Mac_seal)) rfl hrc hrs (by decide +kernel) hR
theorem cw_Host_22 {R : Room} {s : State} {args : Array Value} {c0 : Cond} {rm : Room} {mc ms : Nat} (ht : ∀ w ∈ c0 :: bw_B, w.before args s = true) (hrc : rm.cells = mc) (hrs : rm.slots = ms) (hR : rm.frames + 1 ≤ R.frames ∧ 8 + (1 + 11) + rm.locals ≤ R.locals) : CallB R s args "PayChain$Host" 22 yn_Host_isAccount bc_Host_isAccount 1 (some .boolean) (cd_Host_isAccount :: bw_B) rm mc ms 1 ∧ (Cond.static yn_Host_isAccount).before args s = true := va_cwS 1 ht (bw_app (bw_3w mw_418 mw_419 mw_4) (bw_in mc_Host_isAccount)) rfl hrc hrs (by decide +kernel) hR
theorem cw_Host_26 {R : Room} {s : State} {args : Array Value} {c0 : Cond} {rm : Room} {mc ms : Nat} (ht : ∀ w ∈ c0 :: bw_B, w.before args s = true) (hrc : rm.cells = mc) (hrs : rm.slots = ms) (hR : rm.frames + 1 ≤ R.frames ∧ 8 + (3 + 11) + rm.locals ≤ R.locals) (hl : va_Nw (Cond.methodLinkNest "PayChain$Host" (26 : Nat) ({ cls := "PayChain", name := "isWithin", desc := "(III)Z" } : MethodName) "PayChain") s) : va_CN R s args "PayChain$Host" 26 yn_PC_isWithin "PayChain" bc_PC_isWithin 3 (some .boolean) (cd_PC_isWithin :: bw_B) rm mc ms 3 ∧ (Cond.static yn_PC_isWithin).before args s = true ∧ True := ⟨va_cnB 3 ht (bw_in mc_PC_isWithin) rfl hrc hrs hl (ht _ (List.mem_cons_of_mem _ mw_1)) (by decide +kernel) hR, (ht _ (List.mem_cons_of_mem _ mw_278)), trivial⟩
theorem cw_Host_32 {R : Room} {s : State} {args : Array Value} {c0 : Cond} {rm : Room} {mc ms : Nat} (ht : ∀ w ∈ c0 :: bw_B, w.before args s = true) (hrc : rm.cells = mc) (hrs : rm.slots = ms) (hR : rm.frames + 1 ≤ R.frames ∧ 8 + (6 + 11) + rm.locals ≤ R.locals) : CallB R s args "PayChain$Host" 32 yn_Mac_cryptogram bc_Mac_cryptogram 6 (some .int) (cd_Mac_cryptogram :: bw_B) rm mc ms 4 ∧ (Cond.static yn_Mac_cryptogram).before args s = true := va_cwS 4 ht (bw_app (bw_3w mw_573 mw_557 mw_13) (bw_in mc_Mac_cryptogram)) rfl hrc hrs (by decide +kernel) hR
theorem cw_Host_42 {R : Room} {s : State} {args : Array Value} {c0 : Cond} {rm : Room} {mc ms : Nat} (ht : ∀ w ∈ c0 :: bw_B, w.before args s = true) (hrc : rm.cells = mc) (hrs : rm.slots = ms) (hR : rm.frames + 1 ≤ R.frames ∧ 8 + (5 + 11) + rm.locals ≤ R.locals) : CallB R s args "PayChain$Host" 42 yn_Mac_seal bc_Mac_seal 5 (some .int) (cd_Mac_seal :: bw_B) rm mc ms 3 ∧ (Cond.static yn_Mac_seal).before args s = true := va_cwS 3 ht (bw_app (bw_3w mw_586 mw_587 mw_13) (bw_in mc_Mac_seal)) rfl hrc hrs (by decide +kernel) hR
theorem cw_Mac_12 {R : Room} {s : State} {args : Array Value} {c0 : Cond} {rm : Room} {mc ms : Nat} (ht : ∀ w ∈ c0 :: bw_B, w.before args s = true) (hrc : rm.cells = mc) (hrs : rm.slots = ms) (hR : rm.frames + 1 ≤ R.frames ∧ 8 + (3 + 11) + rm.locals ≤ R.locals) : CallB R s args "PayChain$Mac" 12 yn_Mac_grow bc_Mac_grow 3 (some .int) (cd_Mac_grow :: bw_B) rm mc ms 2 ∧ (Cond.static yn_Mac_grow).before args s = true := va_cwS 2 ht (bw_app (bw_3w mw_559 mw_560 mw_13) (bw_in mc_Mac_grow)) rfl hrc hrs (by decide +kernel) hR
theorem cw_Mac_16 {R : Room} {s : State} {args : Array Value} {c0 : Cond} {rm : Room} {mc ms : Nat} (ht : ∀ w ∈ c0 :: bw_B, w.before args s = true) (hrc : rm.cells = mc) (hrs : rm.slots = ms) (hR : rm.frames + 1 ≤ R.frames ∧ 8 + (1 + 11) + rm.locals ≤ R.locals) : CallW R s args "PayChain$Mac" "PayChain$Row" 16 yn_Row_length bc_Row_length 1 (some .int) (cd_Row_length :: bw_B) rm mc ms 0 := cwV 0 ht (bw_app (bw_4w mw_563 mw_285 mw_286 mw_2) (bw_in mc_Row_length)) rfl hrc hrs (by decide +kernel) hR
theorem cw_Mac_22 {R : Room} {s : State} {args : Array Value} {c0 : Cond} {rm : Room} {mc ms : Nat} (ht : ∀ w ∈ c0 :: bw_B, w.before args s = true) (hrc : rm.cells = mc) (hrs : rm.slots = ms) (hR : rm.frames + 1 ≤ R.frames ∧ 8 + (2 + 11) + rm.locals ≤ R.locals) : CallW R s args "PayChain$Mac" "PayChain$Row" 22 yn_Row_at bc_Row_at 2 (some .int) (cd_Row_at :: bw_B) rm mc ms 1 := cwV 1 ht (bw_app (bw_4w mw_564 mw_310 mw_311 mw_2) (bw_in mc_Row_at)) rfl hrc hrs (by decide +kernel) hR
theorem cw_Tree_11 {R : Room} {s : State} {args : Array Value} {c0 : Cond} {rm : Room} {mc ms : Nat} (ht : ∀ w ∈ c0 :: bw_B, w.before args s = true) (hrc : rm.cells = mc) (hrs : rm.slots = ms) (hR : rm.frames + 1 ≤ R.frames ∧ 8 + (2 + 11) + rm.locals ≤ R.locals) : CallB R s args "PayChain$ObjectTree" 11 yn_Row_init bc_Row_init 2 none (cd_Row_init :: bw_B) rm mc ms 1 ∧ yn_Row_init.name = "<init>" ∧ (Cond.instanceMethod yn_Row_init).before args s = true := cwI 1 ht (bw_in mc_Row_init) rfl hrc hrs (ht _ (List.mem_cons_of_mem _ mw_2)) (ht _ (List.mem_cons_of_mem _ mw_168)) (ht _ (List.mem_cons_of_mem _ mw_32)) rfl (by decide +kernel) hR
theorem cw_Tree_33 {R : Room} {s : State} {args : Array Value} {c0 : Cond} {rm : Room} {mc ms : Nat} (ht : ∀ w ∈ c0 :: bw_B, w.before args s = true) (hrc : rm.cells = mc) (hrs : rm.slots = ms) (hR : rm.frames + 1 ≤ R.frames ∧ 8 + (3 + 11) + rm.locals ≤ R.locals) : CallW R s args "PayChain$ObjectTree" "PayChain$Row" 33 yn_Row_copy bc_Row_copy 3 none (cd_Row_copy :: bw_B) rm mc ms 1 := cwV 1 ht (bw_app (bw_4w mw_304 mw_305 mw_306 mw_2) (bw_in mc_Row_copy)) rfl hrc hrs (by decide +kernel) hR
theorem cw_Tree_41 {R : Room} {s : State} {args : Array Value} {c0 : Cond} {rm : Room} {mc ms : Nat} (ht : ∀ w ∈ c0 :: bw_B, w.before args s = true) (hrc : rm.cells = mc) (hrs : rm.slots = ms) (hR : rm.frames + 1 ≤ R.frames ∧ 8 + (1 + 11) + rm.locals ≤ R.locals) : CallW R s args "PayChain$ObjectTree" "PayChain$Row" 41 yn_Row_length bc_Row_length 1 (some .int) (cd_Row_length :: bw_B) rm mc ms 0 := cwV 0 ht (bw_app (bw_4w mw_314 mw_285 mw_286 mw_2) (bw_in mc_Row_length)) rfl hrc hrs (by decide +kernel) hR
theorem cw_Tree_45 {R : Room} {s : State} {args : Array Value} {c0 : Cond} {rm : Room} {mc ms : Nat} (ht : ∀ w ∈ c0 :: bw_B, w.before args s = true) (hrc : rm.cells = mc) (hrs : rm.slots = ms) (hR : rm.frames + 1 ≤ R.frames ∧ 8 + (13 + 11) + rm.locals ≤ R.locals) : CallW R s args "PayChain$ObjectTree" "PayChain$ObjectTree" 45 yn_Tree_cut bc_Tree_cut 13 (some .int) (cd_Tree_cut :: bw_B) rm mc ms 4 := cwV 4 ht (bw_app (bw_4w mw_315 mw_317 ms_0 mw_10) (bw_in mc_Tree_cut)) rfl hrc hrs (by decide +kernel) hR
theorem cw_Tree_49 {R : Room} {s : State} {args : Array Value} {c0 : Cond} {rm : Room} {mc ms : Nat} (ht : ∀ w ∈ c0 :: bw_B, w.before args s = true) (hrc : rm.cells = mc) (hrs : rm.slots = ms) (hR : rm.frames + 1 ≤ R.frames ∧ 8 + (5 + 11) + rm.locals ≤ R.locals) : CallB R s args "PayChain$ObjectTree" 49 yn_Tag_read bc_Tag_read 5 (some .int) (cd_Tag_read :: bw_B) rm mc ms 3 ∧ (Cond.static yn_Tag_read).before args s = true := va_cwS 3 ht (bw_app (bw_3w mw_319 mw_320 mw_12) (bw_in mc_Tag_read)) rfl hrc hrs (by decide +kernel) hR
theorem cw_Tree_55 {R : Room} {s : State} {args : Array Value} {c0 : Cond} {rm : Room} {mc ms : Nat} (ht : ∀ w ∈ c0 :: bw_B, w.before args s = true) (hrc : rm.cells = mc) (hrs : rm.slots = ms) (hR : rm.frames + 1 ≤ R.frames ∧ 8 + (1 + 11) + rm.locals ≤ R.locals) : CallB R s args "PayChain$ObjectTree" 55 yn_Tag_bytesOf bc_Tag_bytesOf 1 (some .int) (cd_Tag_bytesOf :: bw_B) rm mc ms 1 ∧ (Cond.static yn_Tag_bytesOf).before args s = true := va_cwS 1 ht (bw_app (bw_3w mw_327 mw_328 mw_12) (bw_in mc_Tag_bytesOf)) rfl hrc hrs (by decide +kernel) hR
theorem cw_Tree_59 {R : Room} {s : State} {args : Array Value} {c0 : Cond} {rm : Room} {mc ms : Nat} (ht : ∀ w ∈ c0 :: bw_B, w.before args s = true) (hrc : rm.cells = mc) (hrs : rm.slots = ms) (hR : rm.frames + 1 ≤ R.frames ∧ 8 + (4 + 11) + rm.locals ≤ R.locals) : CallW R s args "PayChain$ObjectTree" "PayChain$ObjectTree" 59 yn_Tree_readLength bc_Tree_readLength 4 (some .int) (cd_Tree_readLength :: bw_B) rm mc ms 2 := cwV 2 ht (bw_app (bw_4w mw_330 mw_332 ms_1 mw_10) (bw_in mc_Tree_readLength)) rfl hrc hrs (by decide +kernel) hR
theorem cw_Tree_63 {R : Room} {s : State} {args : Array Value} {c0 : Cond} {rm : Room} {mc ms : Nat} (ht : ∀ w ∈ c0 :: bw_B, w.before args s = true) (hrc : rm.cells = mc) (hrs : rm.slots = ms) (hR : rm.frames + 1 ≤ R.frames ∧ 8 + (2 + 11) + rm.locals ≤ R.locals) : CallW R s args "PayChain$ObjectTree" "PayChain$Row" 63 yn_Row_at bc_Row_at 2 (some .int) (cd_Row_at :: bw_B) rm mc ms 1 := cwV 1 ht (bw_app (bw_4w mw_335 mw_310 mw_311 mw_2) (bw_in mc_Row_at)) rfl hrc hrs (by decide +kernel) hR
theorem cw_Tree_66 {R : Room} {s : State} {args : Array Value} {c0 : Cond} {rm : Room} {mc ms : Nat} (ht : ∀ w ∈ c0 :: bw_B, w.before args s = true) (hrc : rm.cells = mc) (hrs : rm.slots = ms) (hR : rm.frames + 1 ≤ R.frames ∧ 8 + (5 + 11) + rm.locals ≤ R.locals) : CallW R s args "PayChain$ObjectTree" "PayChain$ObjectTree" 66 yn_Tree_keep bc_Tree_keep 5 (some .int) (cd_Tree_keep :: bw_B) rm mc ms 4 := cwV 4 ht (bw_app (bw_4w mw_336 mw_338 ms_2 mw_10) (bw_in mc_Tree_keep)) rfl hrc hrs (by decide +kernel) hR
theorem cw_Tree_69 {R : Room} {s : State} {args : Array Value} {c0 : Cond} {rm : Room} {mc ms : Nat} (ht : ∀ w ∈ c0 :: bw_B, w.before args s = true) (hrc : rm.cells = mc) (hrs : rm.slots = ms) (hR : rm.frames + 1 ≤ R.frames ∧ 8 + (2 + 11) + rm.locals ≤ R.locals) : CallB R s args "PayChain$ObjectTree" 69 yn_Tag_hasInner bc_Tag_hasInner 2 (some .boolean) (cd_Tag_hasInner :: bw_B) rm mc ms 1 ∧ (Cond.static yn_Tag_hasInner).before args s = true := va_cwS 1 ht (bw_app (bw_3w mw_344 mw_345 mw_12) (bw_in mc_Tag_hasInner)) rfl hrc hrs (by decide +kernel) hR
theorem cw_Tree_73 {R : Room} {s : State} {args : Array Value} {c0 : Cond} {rm : Room} {mc ms : Nat} (ht : ∀ w ∈ c0 :: bw_B, w.before args s = true) (hrc : rm.cells = mc) (hrs : rm.slots = ms) (hR : rm.frames + 1 ≤ R.frames ∧ 8 + (3 + 11) + rm.locals ≤ R.locals) : CallW R s args "PayChain$ObjectTree" "PayChain$Row" 73 yn_Row_atBefore bc_Row_atBefore 3 (some .int) (cd_Row_atBefore :: bw_B) rm mc ms 2 := cwV 2 ht (bw_app (bw_4w mw_334 mw_323 mw_324 mw_2) (bw_in mc_Row_atBefore)) rfl hrc hrs (by decide +kernel) hR
theorem cw_Tree_76 {R : Room} {s : State} {args : Array Value} {c0 : Cond} {rm : Room} {mc ms : Nat} (ht : ∀ w ∈ c0 :: bw_B, w.before args s = true) (hrc : rm.cells = mc) (hrs : rm.slots = ms) (hR : rm.frames + 1 ≤ R.frames ∧ 8 + (2 + 11) + rm.locals ≤ R.locals) : CallW R s args "PayChain$ObjectTree" "PayChain$ObjectTree" 76 yn_Tree_isObject bc_Tree_isObject 2 (some .boolean) (cd_Tree_isObject :: bw_B) rm mc ms 1 := cwV 1 ht (bw_app (bw_4w mw_340 mw_342 ms_3 mw_10) (bw_in mc_Tree_isObject)) rfl hrc hrs (by decide +kernel) hR
theorem cw_Tree_79 {R : Room} {s : State} {args : Array Value} {c0 : Cond} {rm : Room} {mc ms : Nat} (ht : ∀ w ∈ c0 :: bw_B, w.before args s = true) (hrc : rm.cells = mc) (hrs : rm.slots = ms) (hR : rm.frames + 1 ≤ R.frames ∧ 8 + (3 + 11) + rm.locals ≤ R.locals) : CallW R s args "PayChain$ObjectTree" "PayChain$ObjectTree" 79 yn_Tree_hasByte bc_Tree_hasByte 3 (some .boolean) (cd_Tree_hasByte :: bw_B) rm mc ms 2 := cwV 2 ht (bw_app (bw_4w mw_373 mw_375 ms_5 mw_10) (bw_in mc_Tree_hasByte)) rfl hrc hrs (by decide +kernel) hR
theorem cw_Tree_83 {R : Room} {s : State} {args : Array Value} {c0 : Cond} {rm : Room} {mc ms : Nat} (ht : ∀ w ∈ c0 :: bw_B, w.before args s = true) (hrc : rm.cells = mc) (hrs : rm.slots = ms) (hR : rm.frames + 1 ≤ R.frames ∧ 8 + (3 + 11) + rm.locals ≤ R.locals) : CallW R s args "PayChain$ObjectTree" "PayChain$ObjectTree" 83 yn_Tree_byteOf bc_Tree_byteOf 3 (some .int) (cd_Tree_byteOf :: bw_B) rm mc ms 2 := cwV 2 ht (bw_app (bw_4w mw_395 mw_370 mw_371 mw_10) (bw_in mc_Tree_byteOf)) rfl hrc hrs (by decide +kernel) hR
theorem cw_Pmt_11 {R : Room} {s : State} {args : Array Value} {c0 : Cond} {rm : Room} {mc ms : Nat} (ht : ∀ w ∈ c0 :: bw_B, w.before args s = true) (hrc : rm.cells = mc) (hrs : rm.slots = ms) (hR : rm.frames + 1 ≤ R.frames ∧ 8 + (2 + 11) + rm.locals ≤ R.locals) : CallB R s args "PayChain$Payment" 11 yn_Row_init bc_Row_init 2 none (cd_Row_init :: bw_B) rm mc ms 1 ∧ yn_Row_init.name = "<init>" ∧ (Cond.instanceMethod yn_Row_init).before args s = true := cwI 1 ht (bw_in mc_Row_init) rfl hrc hrs (ht _ (List.mem_cons_of_mem _ mw_2)) (ht _ (List.mem_cons_of_mem _ mw_83)) (ht _ (List.mem_cons_of_mem _ mw_32)) rfl (by decide +kernel) hR
theorem cw_Pmt_50 {R : Room} {s : State} {args : Array Value} {c0 : Cond} {rm : Room} {mc ms : Nat} (ht : ∀ w ∈ c0 :: bw_B, w.before args s = true) (hrc : rm.cells = mc) (hrs : rm.slots = ms) (hR : rm.frames + 1 ≤ R.frames ∧ 8 + (1 + 11) + rm.locals ≤ R.locals) : CallW R s args "PayChain$Payment" "PayChain$Terminal" 50 yn_Term_day bc_Term_day 1 (some .int) (cd_Term_day :: bw_B) rm mc ms 0 := cwV 0 ht (bw_app (bw_4w mw_454 mw_455 mw_456 mw_3) (bw_in mc_Term_day)) rfl hrc hrs (by decide +kernel) hR
theorem cw_Pmt_59 {R : Room} {s : State} {args : Array Value} {c0 : Cond} {rm : Room} {mc ms : Nat} (ht : ∀ w ∈ c0 :: bw_B, w.before args s = true) (hrc : rm.cells = mc) (hrs : rm.slots = ms) (hR : rm.frames + 1 ≤ R.frames ∧ 8 + (3 + 11) + rm.locals ≤ R.locals) : CallW R s args "PayChain$Payment" "PayChain$Payment" 59 yn_Pmt_setIf bc_Pmt_setIf 3 none (cd_Pmt_setIf :: bw_B) rm mc ms 2 := cwV 2 ht (bw_app (bw_4w mw_458 mw_460 ms_9 mw_5) (bw_in mc_Pmt_setIf)) rfl hrc hrs (by decide +kernel) hR
theorem cw_Pmt_67 {R : Room} {s : State} {args : Array Value} {c0 : Cond} {rm : Room} {mc ms : Nat} (ht : ∀ w ∈ c0 :: bw_B, w.before args s = true) (hrc : rm.cells = mc) (hrs : rm.slots = ms) (hR : rm.frames + 1 ≤ R.frames ∧ 8 + (7 + 11) + rm.locals ≤ R.locals) : CallW R s args "PayChain$Payment" "PayChain$Payment" 67 yn_Pmt_checkHolder bc_Pmt_checkHolder 7 none (cd_Pmt_checkHolder :: bw_B) rm mc ms 2 := cwV 2 ht (bw_app (bw_4w mw_462 mw_464 ms_10 mw_5) (bw_in mc_Pmt_checkHolder)) rfl hrc hrs (by decide +kernel) hR
theorem cw_Pmt_71 {R : Room} {s : State} {args : Array Value} {c0 : Cond} {rm : Room} {mc ms : Nat} (ht : ∀ w ∈ c0 :: bw_B, w.before args s = true) (hrc : rm.cells = mc) (hrs : rm.slots = ms) (hR : rm.frames + 1 ≤ R.frames ∧ 8 + (3 + 11) + rm.locals ≤ R.locals) : CallW R s args "PayChain$Payment" "PayChain$Payment" 71 yn_Pmt_weighRisks bc_Pmt_weighRisks 3 none (cd_Pmt_weighRisks :: bw_B) rm mc ms 2 := cwV 2 ht (bw_app (bw_4w mw_494 mw_496 ms_14 mw_5) (bw_in mc_Pmt_weighRisks)) rfl hrc hrs (by decide +kernel) hR
theorem cw_Pmt_74 {R : Room} {s : State} {args : Array Value} {c0 : Cond} {rm : Room} {mc ms : Nat} (ht : ∀ w ∈ c0 :: bw_B, w.before args s = true) (hrc : rm.cells = mc) (hrs : rm.slots = ms) (hR : rm.frames + 1 ≤ R.frames ∧ 8 + (3 + 11) + rm.locals ≤ R.locals) : CallW R s args "PayChain$Payment" "PayChain$Payment" 74 yn_Pmt_findWish bc_Pmt_findWish 3 (some .int) (cd_Pmt_findWish :: bw_B) rm mc ms 2 := cwV 2 ht (bw_app (bw_4w mw_510 mw_512 ms_15 mw_5) (bw_in mc_Pmt_findWish)) rfl hrc hrs (by decide +kernel) hR
theorem cw_Pmt_81 {R : Room} {s : State} {args : Array Value} {c0 : Cond} {rm : Room} {mc ms : Nat} (ht : ∀ w ∈ c0 :: bw_B, w.before args s = true) (hrc : rm.cells = mc) (hrs : rm.slots = ms) (hR : rm.frames + 1 ≤ R.frames ∧ 8 + (8 + 11) + rm.locals ≤ R.locals) : CallW R s args "PayChain$Payment" "PayChain$Payment" 81 yn_Pmt_gatherData bc_Pmt_gatherData 8 none (cd_Pmt_gatherData :: bw_B) rm mc ms 2 := cwV 2 ht (bw_app (bw_4w mw_534 mw_536 ms_17 mw_5) (bw_in mc_Pmt_gatherData)) rfl hrc hrs (by decide +kernel) hR
theorem cw_Pmt_84 {R : Room} {s : State} {args : Array Value} {c0 : Cond} {rm : Room} {mc ms : Nat} (ht : ∀ w ∈ c0 :: bw_B, w.before args s = true) (hrc : rm.cells = mc) (hrs : rm.slots = ms) (hR : rm.frames + 1 ≤ R.frames ∧ 8 + (2 + 11) + rm.locals ≤ R.locals) : CallW R s args "PayChain$Payment" "PayChain$Card" 84 yn_Card_firstAnswer bc_Card_firstAnswer 2 (some .int) (cd_Card_firstAnswer :: bw_B) rm mc ms 1 := cwV 1 ht (bw_app (bw_4w mw_550 mw_551 mw_552 mw_9) (bw_in mc_Card_firstAnswer)) rfl hrc hrs (by decide +kernel) hR
theorem cw_Pmt_93 {R : Room} {s : State} {args : Array Value} {c0 : Cond} {rm : Room} {mc ms : Nat} (ht : ∀ w ∈ c0 :: bw_B, w.before args s = true) (hrc : rm.cells = mc) (hrs : rm.slots = ms) (hR : rm.frames + 1 ≤ R.frames ∧ 8 + (6 + 11) + rm.locals ≤ R.locals) : CallB R s args "PayChain$Payment" 93 yn_Mac_cryptogram bc_Mac_cryptogram 6 (some .int) (cd_Mac_cryptogram :: bw_B) rm mc ms 4 ∧ (Cond.static yn_Mac_cryptogram).before args s = true := va_cwS 4 ht (bw_app (bw_3w mw_556 mw_557 mw_13) (bw_in mc_Mac_cryptogram)) rfl hrc hrs (by decide +kernel) hR
theorem cw_Pmt_102 {R : Room} {s : State} {args : Array Value} {c0 : Cond} {rm : Room} {mc ms : Nat} (ht : ∀ w ∈ c0 :: bw_B, w.before args s = true) (hrc : rm.cells = mc) (hrs : rm.slots = ms) (hR : rm.frames + 1 ≤ R.frames ∧ 8 + (4 + 11) + rm.locals ≤ R.locals) : CallW R s args "PayChain$Payment" "PayChain$Payment" 102 yn_Pmt_askHost bc_Pmt_askHost 4 none (cd_Pmt_askHost :: bw_B) rm mc ms 3 := cwV 3 ht (bw_app (bw_4w mw_565 mw_567 ms_20 mw_5) (bw_in mc_Pmt_askHost)) rfl hrc hrs (by decide +kernel) hR
theorem cw_Pmt_118 {R : Room} {s : State} {args : Array Value} {c0 : Cond} {rm : Room} {mc ms : Nat} (ht : ∀ w ∈ c0 :: bw_B, w.before args s = true) (hrc : rm.cells = mc) (hrs : rm.slots = ms) (hR : rm.frames + 1 ≤ R.frames ∧ 8 + (3 + 11) + rm.locals ≤ R.locals) : CallW R s args "PayChain$Payment" "PayChain$ObjectTree" 118 yn_Tree_first bc_Tree_first 3 (some .int) (cd_Tree_first :: bw_B) rm mc ms 1 := cwV 1 ht (bw_app (bw_4w mw_466 mw_362 mw_363 mw_10) (bw_in mc_Tree_first)) rfl hrc hrs (by decide +kernel) hR
theorem cw_Pmt_123 {R : Room} {s : State} {args : Array Value} {c0 : Cond} {rm : Room} {mc ms : Nat} (ht : ∀ w ∈ c0 :: bw_B, w.before args s = true) (hrc : rm.cells = mc) (hrs : rm.slots = ms) (hR : rm.frames + 1 ≤ R.frames ∧ 8 + (2 + 11) + rm.locals ≤ R.locals) : CallW R s args "PayChain$Payment" "PayChain$ObjectTree" 123 yn_Tree_pairOf bc_Tree_pairOf 2 (some .int) (cd_Tree_pairOf :: bw_B) rm mc ms 1 := cwV 1 ht (bw_app (bw_4w mw_467 mw_392 mw_393 mw_10) (bw_in mc_Tree_pairOf)) rfl hrc hrs (by decide +kernel) hR
theorem cw_Pmt_126 {R : Room} {s : State} {args : Array Value} {c0 : Cond} {rm : Room} {mc ms : Nat} (ht : ∀ w ∈ c0 :: bw_B, w.before args s = true) (hrc : rm.cells = mc) (hrs : rm.slots = ms) (hR : rm.frames + 1 ≤ R.frames ∧ 8 + (2 + 11) + rm.locals ≤ R.locals) : CallW R s args "PayChain$Payment" "PayChain$ObjectTree" 126 yn_Tree_lengthOf bc_Tree_lengthOf 2 (some .int) (cd_Tree_lengthOf :: bw_B) rm mc ms 1 := cwV 1 ht (bw_app (bw_4w mw_468 mw_366 mw_367 mw_10) (bw_in mc_Tree_lengthOf)) rfl hrc hrs (by decide +kernel) hR
theorem cw_Pmt_129 {R : Room} {s : State} {args : Array Value} {c0 : Cond} {rm : Room} {mc ms : Nat} (ht : ∀ w ∈ c0 :: bw_B, w.before args s = true) (hrc : rm.cells = mc) (hrs : rm.slots = ms) (hR : rm.frames + 1 ≤ R.frames ∧ 8 + (3 + 11) + rm.locals ≤ R.locals) : CallW R s args "PayChain$Payment" "PayChain$ObjectTree" 129 yn_Tree_byteOf bc_Tree_byteOf 3 (some .int) (cd_Tree_byteOf :: bw_B) rm mc ms 2 := cwV 2 ht (bw_app (bw_4w mw_469 mw_370 mw_371 mw_10) (bw_in mc_Tree_byteOf)) rfl hrc hrs (by decide +kernel) hR
theorem cw_Pmt_133 {R : Room} {s : State} {args : Array Value} {c0 : Cond} {rm : Room} {mc ms : Nat} (ht : ∀ w ∈ c0 :: bw_B, w.before args s = true) (hrc : rm.cells = mc) (hrs : rm.slots = ms) (hR : rm.frames + 1 ≤ R.frames ∧ 8 + (4 + 11) + rm.locals ≤ R.locals) : CallW R s args "PayChain$Payment" "PayChain$Payment" 133 yn_Pmt_isCase bc_Pmt_isCase 4 (some .boolean) (cd_Pmt_isCase :: bw_B) rm mc ms 3 := cwV 3 ht (bw_app (bw_4w mw_470 mw_472 ms_11 mw_5) (bw_in mc_Pmt_isCase)) rfl hrc hrs (by decide +kernel) hR
theorem cw_Pmt_137 {R : Room} {s : State} {args : Array Value} {c0 : Cond} {rm : Room} {mc ms : Nat} (ht : ∀ w ∈ c0 :: bw_B, w.before args s = true) (hrc : rm.cells = mc) (hrs : rm.slots = ms) (hR : rm.frames + 1 ≤ R.frames ∧ 8 + (4 + 11) + rm.locals ≤ R.locals) : CallW R s args "PayChain$Payment" "PayChain$Payment" 137 yn_Pmt_isMet bc_Pmt_isMet 4 (some .boolean) (cd_Pmt_isMet :: bw_B) rm mc ms 3 := cwV 3 ht (bw_app (bw_4w mw_478 mw_480 ms_12 mw_5) (bw_in mc_Pmt_isMet)) rfl hrc hrs (by decide +kernel) hR
theorem cw_Pmt_141 {R : Room} {s : State} {args : Array Value} {c0 : Cond} {rm : Room} {mc ms : Nat} (ht : ∀ w ∈ c0 :: bw_B, w.before args s = true) (hrc : rm.cells = mc) (hrs : rm.slots = ms) (hR : rm.frames + 1 ≤ R.frames ∧ 8 + (1 + 11) + rm.locals ≤ R.locals) : CallW R s args "PayChain$Payment" "PayChain$Terminal" 141 yn_Term_hasPad bc_Term_hasPad 1 (some .boolean) (cd_Term_hasPad :: bw_B) rm mc ms 0 := cwV 0 ht (bw_app (bw_4w mw_474 mw_475 mw_476 mw_3) (bw_in mc_Term_hasPad)) rfl hrc hrs (by decide +kernel) hR
theorem cw_Pmt_145 {R : Room} {s : State} {args : Array Value} {c0 : Cond} {rm : Room} {mc ms : Nat} (ht : ∀ w ∈ c0 :: bw_B, w.before args s = true) (hrc : rm.cells = mc) (hrs : rm.slots = ms) (hR : rm.frames + 1 ≤ R.frames ∧ 8 + (3 + 11) + rm.locals ≤ R.locals) : CallW R s args "PayChain$Payment" "PayChain$Payment" 145 yn_Pmt_isPinRight bc_Pmt_isPinRight 3 (some .boolean) (cd_Pmt_isPinRight :: bw_B) rm mc ms 2 := cwV 2 ht (bw_app (bw_4w mw_482 mw_484 ms_13 mw_5) (bw_in mc_Pmt_isPinRight)) rfl hrc hrs (by decide +kernel) hR
theorem cw_Pmt_149 {R : Room} {s : State} {args : Array Value} {c0 : Cond} {rm : Room} {mc ms : Nat} (ht : ∀ w ∈ c0 :: bw_B, w.before args s = true) (hrc : rm.cells = mc) (hrs : rm.slots = ms) (hR : rm.frames + 1 ≤ R.frames ∧ 8 + (1 + 11) + rm.locals ≤ R.locals) : CallW R s args "PayChain$Payment" "PayChain$Card" 149 yn_Card_isBlocked bc_Card_isBlocked 1 (some .boolean) (cd_Card_isBlocked :: bw_B) rm mc ms 0 := cwV 0 ht (bw_app (bw_4w mw_486 mw_487 mw_488 mw_9) (bw_in mc_Card_isBlocked)) rfl hrc hrs (by decide +kernel) hR
theorem cw_Pmt_152 {R : Room} {s : State} {args : Array Value} {c0 : Cond} {rm : Room} {mc ms : Nat} (ht : ∀ w ∈ c0 :: bw_B, w.before args s = true) (hrc : rm.cells = mc) (hrs : rm.slots = ms) (hR : rm.frames + 1 ≤ R.frames ∧ 8 + (2 + 11) + rm.locals ≤ R.locals) : CallW R s args "PayChain$Payment" "PayChain$Card" 152 yn_Card_acceptsPin bc_Card_acceptsPin 2 (some .boolean) (cd_Card_acceptsPin :: bw_B) rm mc ms 1 := cwV 1 ht (bw_app (bw_4w mw_490 mw_491 mw_492 mw_9) (bw_in mc_Card_acceptsPin)) rfl hrc hrs (by decide +kernel) hR
theorem cw_Pmt_156 {R : Room} {s : State} {args : Array Value} {c0 : Cond} {rm : Room} {mc ms : Nat} (ht : ∀ w ∈ c0 :: bw_B, w.before args s = true) (hrc : rm.cells = mc) (hrs : rm.slots = ms) (hR : rm.frames + 1 ≤ R.frames ∧ 8 + (1 + 11) + rm.locals ≤ R.locals) : CallW R s args "PayChain$Payment" "PayChain$Terminal" 156 yn_Term_floor bc_Term_floor 1 (some .int) (cd_Term_floor :: bw_B) rm mc ms 0 := cwV 0 ht (bw_app (bw_4w mw_498 mw_499 mw_500 mw_3) (bw_in mc_Term_floor)) rfl hrc hrs (by decide +kernel) hR
theorem cw_Pmt_165 {R : Room} {s : State} {args : Array Value} {c0 : Cond} {rm : Room} {mc ms : Nat} (ht : ∀ w ∈ c0 :: bw_B, w.before args s = true) (hrc : rm.cells = mc) (hrs : rm.slots = ms) (hR : rm.frames + 1 ≤ R.frames ∧ 8 + (1 + 11) + rm.locals ≤ R.locals) : CallW R s args "PayChain$Payment" "PayChain$Card" 165 yn_Card_isRunAtLower bc_Card_isRunAtLower 1 (some .boolean) (cd_Card_isRunAtLower :: bw_B) rm mc ms 0 := cwV 0 ht (bw_app (bw_4w mw_502 mw_503 mw_504 mw_9) (bw_in mc_Card_isRunAtLower)) rfl hrc hrs (by decide +kernel) hR
theorem cw_Pmt_168 {R : Room} {s : State} {args : Array Value} {c0 : Cond} {rm : Room} {mc ms : Nat} (ht : ∀ w ∈ c0 :: bw_B, w.before args s = true) (hrc : rm.cells = mc) (hrs : rm.slots = ms) (hR : rm.frames + 1 ≤ R.frames ∧ 8 + (1 + 11) + rm.locals ≤ R.locals) : CallW R s args "PayChain$Payment" "PayChain$Card" 168 yn_Card_isRunAtUpper bc_Card_isRunAtUpper 1 (some .boolean) (cd_Card_isRunAtUpper :: bw_B) rm mc ms 0 := cwV 0 ht (bw_app (bw_4w mw_506 mw_507 mw_508 mw_9) (bw_in mc_Card_isRunAtUpper)) rfl hrc hrs (by decide +kernel) hR
theorem cw_Pmt_174 {R : Room} {s : State} {args : Array Value} {c0 : Cond} {rm : Room} {mc ms : Nat} (ht : ∀ w ∈ c0 :: bw_B, w.before args s = true) (hrc : rm.cells = mc) (hrs : rm.slots = ms) (hR : rm.frames + 1 ≤ R.frames ∧ 8 + (1 + 11) + rm.locals ≤ R.locals) : CallW R s args "PayChain$Payment" "PayChain$Terminal" 174 yn_Term_maskDenial bc_Term_maskDenial 1 (some .int) (cd_Term_maskDenial :: bw_B) rm mc ms 0 := cwV 0 ht (bw_app (bw_4w mw_514 mw_515 mw_516 mw_3) (bw_in mc_Term_maskDenial)) rfl hrc hrs (by decide +kernel) hR
theorem cw_Pmt_176 {R : Room} {s : State} {args : Array Value} {c0 : Cond} {rm : Room} {mc ms : Nat} (ht : ∀ w ∈ c0 :: bw_B, w.before args s = true) (hrc : rm.cells = mc) (hrs : rm.slots = ms) (hR : rm.frames + 1 ≤ R.frames ∧ 8 + (2 + 11) + rm.locals ≤ R.locals) : CallW R s args "PayChain$Payment" "PayChain$Payment" 176 yn_Pmt_hasFlagIn bc_Pmt_hasFlagIn 2 (some .boolean) (cd_Pmt_hasFlagIn :: bw_B) rm mc ms 1 := cwV 1 ht (bw_app (bw_4w mw_518 mw_520 ms_16 mw_5) (bw_in mc_Pmt_hasFlagIn)) rfl hrc hrs (by decide +kernel) hR
theorem cw_Pmt_179 {R : Room} {s : State} {args : Array Value} {c0 : Cond} {rm : Room} {mc ms : Nat} (ht : ∀ w ∈ c0 :: bw_B, w.before args s = true) (hrc : rm.cells = mc) (hrs : rm.slots = ms) (hR : rm.frames + 1 ≤ R.frames ∧ 8 + (1 + 11) + rm.locals ≤ R.locals) : CallW R s args "PayChain$Payment" "PayChain$Terminal" 179 yn_Term_isConnected bc_Term_isConnected 1 (some .boolean) (cd_Term_isConnected :: bw_B) rm mc ms 0 := cwV 0 ht (bw_app (bw_4w mw_522 mw_523 mw_524 mw_3) (bw_in mc_Term_isConnected)) rfl hrc hrs (by decide +kernel) hR
theorem cw_Pmt_185 {R : Room} {s : State} {args : Array Value} {c0 : Cond} {rm : Room} {mc ms : Nat} (ht : ∀ w ∈ c0 :: bw_B, w.before args s = true) (hrc : rm.cells = mc) (hrs : rm.slots = ms) (hR : rm.frames + 1 ≤ R.frames ∧ 8 + (1 + 11) + rm.locals ≤ R.locals) : CallW R s args "PayChain$Payment" "PayChain$Terminal" 185 yn_Term_maskOnline bc_Term_maskOnline 1 (some .int) (cd_Term_maskOnline :: bw_B) rm mc ms 0 := cwV 0 ht (bw_app (bw_4w mw_526 mw_527 mw_528 mw_3) (bw_in mc_Term_maskOnline)) rfl hrc hrs (by decide +kernel) hR
theorem cw_Pmt_190 {R : Room} {s : State} {args : Array Value} {c0 : Cond} {rm : Room} {mc ms : Nat} (ht : ∀ w ∈ c0 :: bw_B, w.before args s = true) (hrc : rm.cells = mc) (hrs : rm.slots = ms) (hR : rm.frames + 1 ≤ R.frames ∧ 8 + (1 + 11) + rm.locals ≤ R.locals) : CallW R s args "PayChain$Payment" "PayChain$Terminal" 190 yn_Term_maskDefault bc_Term_maskDefault 1 (some .int) (cd_Term_maskDefault :: bw_B) rm mc ms 0 := cwV 0 ht (bw_app (bw_4w mw_530 mw_531 mw_532 mw_3) (bw_in mc_Term_maskDefault)) rfl hrc hrs (by decide +kernel) hR
theorem cw_Pmt_192 {R : Room} {s : State} {args : Array Value} {c0 : Cond} {rm : Room} {mc ms : Nat} (ht : ∀ w ∈ c0 :: bw_B, w.before args s = true) (hrc : rm.cells = mc) (hrs : rm.slots = ms) (hR : rm.frames + 1 ≤ R.frames ∧ 8 + (1 + 11) + rm.locals ≤ R.locals) : CallW R s args "PayChain$Payment" "PayChain$Row" 192 yn_Row_clear bc_Row_clear 1 none (cd_Row_clear :: bw_B) rm mc ms 0 := cwV 0 ht (bw_app (bw_4w mw_538 mw_293 mw_294 mw_2) (bw_in mc_Row_clear)) rfl hrc hrs (by decide +kernel) hR
theorem cw_Pmt_195 {R : Room} {s : State} {args : Array Value} {c0 : Cond} {rm : Room} {mc ms : Nat} (ht : ∀ w ∈ c0 :: bw_B, w.before args s = true) (hrc : rm.cells = mc) (hrs : rm.slots = ms) (hR : rm.frames + 1 ≤ R.frames ∧ 8 + (3 + 11) + rm.locals ≤ R.locals) : CallW R s args "PayChain$Payment" "PayChain$ObjectTree" 195 yn_Tree_tagOf bc_Tree_tagOf 3 (some .int) (cd_Tree_tagOf :: bw_B) rm mc ms 2 := cwV 2 ht (bw_app (bw_4w mw_539 mw_382 mw_383 mw_10) (bw_in mc_Tree_tagOf)) rfl hrc hrs (by decide +kernel) hR
theorem cw_Pmt_198 {R : Room} {s : State} {args : Array Value} {c0 : Cond} {rm : Room} {mc ms : Nat} (ht : ∀ w ∈ c0 :: bw_B, w.before args s = true) (hrc : rm.cells = mc) (hrs : rm.slots = ms) (hR : rm.frames + 1 ≤ R.frames ∧ 8 + (1 + 11) + rm.locals ≤ R.locals) : CallB R s args "PayChain$Payment" 198 yn_Tag_bytesOf bc_Tag_bytesOf 1 (some .int) (cd_Tag_bytesOf :: bw_B) rm mc ms 1 ∧ (Cond.static yn_Tag_bytesOf).before args s = true := va_cwS 1 ht (bw_app (bw_3w mw_540 mw_328 mw_12) (bw_in mc_Tag_bytesOf)) rfl hrc hrs (by decide +kernel) hR
theorem cw_Pmt_201 {R : Room} {s : State} {args : Array Value} {c0 : Cond} {rm : Room} {mc ms : Nat} (ht : ∀ w ∈ c0 :: bw_B, w.before args s = true) (hrc : rm.cells = mc) (hrs : rm.slots = ms) (hR : rm.frames + 1 ≤ R.frames ∧ 8 + (3 + 11) + rm.locals ≤ R.locals) : CallW R s args "PayChain$Payment" "PayChain$Payment" 201 yn_Pmt_demanded bc_Pmt_demanded 3 (some .int) (cd_Pmt_demanded :: bw_B) rm mc ms 2 := cwV 2 ht (bw_app (bw_4w mw_541 mw_543 ms_18 mw_5) (bw_in mc_Pmt_demanded)) rfl hrc hrs (by decide +kernel) hR
theorem cw_Pmt_205 {R : Room} {s : State} {args : Array Value} {c0 : Cond} {rm : Room} {mc ms : Nat} (ht : ∀ w ∈ c0 :: bw_B, w.before args s = true) (hrc : rm.cells = mc) (hrs : rm.slots = ms) (hR : rm.frames + 1 ≤ R.frames ∧ 8 + (4 + 11) + rm.locals ≤ R.locals) : CallW R s args "PayChain$Payment" "PayChain$Payment" 205 yn_Pmt_addNumber bc_Pmt_addNumber 4 none (cd_Pmt_addNumber :: bw_B) rm mc ms 2 := cwV 2 ht (bw_app (bw_4w mw_545 mw_547 ms_19 mw_5) (bw_in mc_Pmt_addNumber)) rfl hrc hrs (by decide +kernel) hR
theorem cw_Pmt_209 {R : Room} {s : State} {args : Array Value} {c0 : Cond} {rm : Room} {mc ms : Nat} (ht : ∀ w ∈ c0 :: bw_B, w.before args s = true) (hrc : rm.cells = mc) (hrs : rm.slots = ms) (hR : rm.frames + 1 ≤ R.frames ∧ 8 + (2 + 11) + rm.locals ≤ R.locals) : CallW R s args "PayChain$Payment" "PayChain$Row" 209 yn_Row_add bc_Row_add 2 (some .boolean) (cd_Row_add :: bw_B) rm mc ms 1 := cwV 1 ht (bw_app (bw_4w mw_549 mw_281 mw_282 mw_2) (bw_in mc_Row_add)) rfl hrc hrs (by decide +kernel) hR
theorem cw_Pmt_215 {R : Room} {s : State} {args : Array Value} {c0 : Cond} {rm : Room} {mc ms : Nat} (ht : ∀ w ∈ c0 :: bw_B, w.before args s = true) (hrc : rm.cells = mc) (hrs : rm.slots = ms) (hR : rm.frames + 1 ≤ R.frames ∧ 8 + (6 + 11) + rm.locals ≤ R.locals) : CallW R s args "PayChain$Payment" "PayChain$Host" 215 yn_Host_judge bc_Host_judge 6 (some .int) (cd_Host_judge :: bw_B) rm mc ms 5 := cwV 5 ht (bw_app (bw_4w mw_569 mw_570 mw_571 mw_4) (bw_in mc_Host_judge)) rfl hrc hrs (by decide +kernel) hR
theorem cw_Pmt_221 {R : Room} {s : State} {args : Array Value} {c0 : Cond} {rm : Room} {mc ms : Nat} (ht : ∀ w ∈ c0 :: bw_B, w.before args s = true) (hrc : rm.cells = mc) (hrs : rm.slots = ms) (hR : rm.frames + 1 ≤ R.frames ∧ 8 + (2 + 11) + rm.locals ≤ R.locals) : CallW R s args "PayChain$Payment" "PayChain$Payment" 221 yn_Pmt_hasReply bc_Pmt_hasReply 2 (some .boolean) (cd_Pmt_hasReply :: bw_B) rm mc ms 1 := cwV 1 ht (bw_app (bw_4w mw_574 mw_576 ms_21 mw_5) (bw_in mc_Pmt_hasReply)) rfl hrc hrs (by decide +kernel) hR
theorem cw_Pmt_225 {R : Room} {s : State} {args : Array Value} {c0 : Cond} {rm : Room} {mc ms : Nat} (ht : ∀ w ∈ c0 :: bw_B, w.before args s = true) (hrc : rm.cells = mc) (hrs : rm.slots = ms) (hR : rm.frames + 1 ≤ R.frames ∧ 8 + (4 + 11) + rm.locals ≤ R.locals) : CallW R s args "PayChain$Payment" "PayChain$Payment" 225 yn_Pmt_answerReply bc_Pmt_answerReply 4 (some .int) (cd_Pmt_answerReply :: bw_B) rm mc ms 2 := cwV 2 ht (bw_app (bw_4w mw_578 mw_580 ms_22 mw_5) (bw_in mc_Pmt_answerReply)) rfl hrc hrs (by decide +kernel) hR
theorem cw_Pmt_229 {R : Room} {s : State} {args : Array Value} {c0 : Cond} {rm : Room} {mc ms : Nat} (ht : ∀ w ∈ c0 :: bw_B, w.before args s = true) (hrc : rm.cells = mc) (hrs : rm.slots = ms) (hR : rm.frames + 1 ≤ R.frames ∧ 8 + (3 + 11) + rm.locals ≤ R.locals) : CallW R s args "PayChain$Payment" "PayChain$Payment" 229 yn_Pmt_answerAlone bc_Pmt_answerAlone 3 (some .int) (cd_Pmt_answerAlone :: bw_B) rm mc ms 2 := cwV 2 ht (bw_app (bw_4w mw_594 mw_596 ms_23 mw_5) (bw_in mc_Pmt_answerAlone)) rfl hrc hrs (by decide +kernel) hR
theorem cw_Pmt_232 {R : Room} {s : State} {args : Array Value} {c0 : Cond} {rm : Room} {mc ms : Nat} (ht : ∀ w ∈ c0 :: bw_B, w.before args s = true) (hrc : rm.cells = mc) (hrs : rm.slots = ms) (hR : rm.frames + 1 ≤ R.frames ∧ 8 + (4 + 11) + rm.locals ≤ R.locals) : CallW R s args "PayChain$Payment" "PayChain$Host" 232 yn_Host_sealOf bc_Host_sealOf 4 (some .int) (cd_Host_sealOf :: bw_B) rm mc ms 3 := cwV 3 ht (bw_app (bw_4w mw_582 mw_583 mw_584 mw_4) (bw_in mc_Host_sealOf)) rfl hrc hrs (by decide +kernel) hR
theorem cw_Pmt_236 {R : Room} {s : State} {args : Array Value} {c0 : Cond} {rm : Room} {mc ms : Nat} (ht : ∀ w ∈ c0 :: bw_B, w.before args s = true) (hrc : rm.cells = mc) (hrs : rm.slots = ms) (hR : rm.frames + 1 ≤ R.frames ∧ 8 + (4 + 11) + rm.locals ≤ R.locals) : CallW R s args "PayChain$Payment" "PayChain$Card" 236 yn_Card_acceptsReply bc_Card_acceptsReply 4 (some .boolean) (cd_Card_acceptsReply :: bw_B) rm mc ms 3 := cwV 3 ht (bw_app (bw_4w mw_589 mw_590 mw_591 mw_9) (bw_in mc_Card_acceptsReply)) rfl hrc hrs (by decide +kernel) hR
theorem cw_Row_19 {R : Room} {s : State} {args : Array Value} {c0 : Cond} {rm : Room} {mc ms : Nat} (ht : ∀ w ∈ c0 :: bw_B, w.before args s = true) (hrc : rm.cells = mc) (hrs : rm.slots = ms) (hR : rm.frames + 1 ≤ R.frames ∧ 8 + (1 + 11) + rm.locals ≤ R.locals) : CallW R s args "PayChain$Row" "PayChain$Row" 19 yn_Row_clear bc_Row_clear 1 none (cd_Row_clear :: bw_B) rm mc ms 0 := cwV 0 ht (bw_app (bw_4w mw_308 mw_293 mw_294 mw_2) (bw_in mc_Row_clear)) rfl hrc hrs (by decide +kernel) hR
theorem cw_Row_22 {R : Room} {s : State} {args : Array Value} {c0 : Cond} {rm : Room} {mc ms : Nat} (ht : ∀ w ∈ c0 :: bw_B, w.before args s = true) (hrc : rm.cells = mc) (hrs : rm.slots = ms) (hR : rm.frames + 1 ≤ R.frames ∧ 8 + (2 + 11) + rm.locals ≤ R.locals) : CallW R s args "PayChain$Row" "PayChain$Row" 22 yn_Row_at bc_Row_at 2 (some .int) (cd_Row_at :: bw_B) rm mc ms 1 := cwV 1 ht (bw_app (bw_4w mw_309 mw_310 mw_311 mw_2) (bw_in mc_Row_at)) rfl hrc hrs (by decide +kernel) hR
theorem cw_Row_26 {R : Room} {s : State} {args : Array Value} {c0 : Cond} {rm : Room} {mc ms : Nat} (ht : ∀ w ∈ c0 :: bw_B, w.before args s = true) (hrc : rm.cells = mc) (hrs : rm.slots = ms) (hR : rm.frames + 1 ≤ R.frames ∧ 8 + (2 + 11) + rm.locals ≤ R.locals) : CallW R s args "PayChain$Row" "PayChain$Row" 26 yn_Row_add bc_Row_add 2 (some .boolean) (cd_Row_add :: bw_B) rm mc ms 1 := cwV 1 ht (bw_app (bw_4w mw_313 mw_281 mw_282 mw_2) (bw_in mc_Row_add)) rfl hrc hrs (by decide +kernel) hR
theorem cw_Tag_9 {R : Room} {s : State} {args : Array Value} {c0 : Cond} {rm : Room} {mc ms : Nat} (ht : ∀ w ∈ c0 :: bw_B, w.before args s = true) (hrc : rm.cells = mc) (hrs : rm.slots = ms) (hR : rm.frames + 1 ≤ R.frames ∧ 8 + (3 + 11) + rm.locals ≤ R.locals) : CallW R s args "PayChain$Tag" "PayChain$Row" 9 yn_Row_atBefore bc_Row_atBefore 3 (some .int) (cd_Row_atBefore :: bw_B) rm mc ms 2 := cwV 2 ht (bw_app (bw_4w mw_322 mw_323 mw_324 mw_2) (bw_in mc_Row_atBefore)) rfl hrc hrs (by decide +kernel) hR
theorem cw_Tag_17 {R : Room} {s : State} {args : Array Value} {c0 : Cond} {rm : Room} {mc ms : Nat} (ht : ∀ w ∈ c0 :: bw_B, w.before args s = true) (hrc : rm.cells = mc) (hrs : rm.slots = ms) (hR : rm.frames + 1 ≤ R.frames ∧ 8 + (3 + 11) + rm.locals ≤ R.locals) (hl : va_Nw (Cond.methodLinkNest "PayChain$Tag" (17 : Nat) ({ cls := "PayChain", name := "isWithin", desc := "(III)Z" } : MethodName) "PayChain") s) : va_CN R s args "PayChain$Tag" 17 yn_PC_isWithin "PayChain" bc_PC_isWithin 3 (some .boolean) (cd_PC_isWithin :: bw_B) rm mc ms 3 ∧ (Cond.static yn_PC_isWithin).before args s = true ∧ True := ⟨va_cnB 3 ht (bw_in mc_PC_isWithin) rfl hrc hrs hl (ht _ (List.mem_cons_of_mem _ mw_1)) (by decide +kernel) hR, (ht _ (List.mem_cons_of_mem _ mw_278)), trivial⟩
theorem cw_Term_15 {R : Room} {s : State} {args : Array Value} {c0 : Cond} {rm : Room} {mc ms : Nat} (ht : ∀ w ∈ c0 :: bw_B, w.before args s = true) (hrc : rm.cells = mc) (hrs : rm.slots = ms) (hR : rm.frames + 1 ≤ R.frames ∧ 8 + (3 + 11) + rm.locals ≤ R.locals) (hl : va_Nw (Cond.methodLinkNest "PayChain$Terminal" (15 : Nat) ({ cls := "PayChain", name := "isWithin", desc := "(III)Z" } : MethodName) "PayChain") s) : va_CN R s args "PayChain$Terminal" 15 yn_PC_isWithin "PayChain" bc_PC_isWithin 3 (some .boolean) (cd_PC_isWithin :: bw_B) rm mc ms 3 ∧ (Cond.static yn_PC_isWithin).before args s = true ∧ True := ⟨va_cnB 3 ht (bw_in mc_PC_isWithin) rfl hrc hrs hl (ht _ (List.mem_cons_of_mem _ mw_1)) (by decide +kernel) hR, (ht _ (List.mem_cons_of_mem _ mw_278)), trivial⟩
theorem cw_Law_9 {R : Room} {s : State} {args : Array Value} {c0 : Cond} {rm : Room} {mc ms : Nat} (ht : ∀ w ∈ c0 :: bw_B, w.before args s = true) (hrc : rm.cells = mc) (hrs : rm.slots = ms) (hR : rm.frames + 1 ≤ R.frames ∧ 8 + (1 + 11) + rm.locals ≤ R.locals) : CallB R s args "PayChainLaw" 9 yn_PC_init bc_PC_init 1 none (cd_PC_init :: bw_B) rm mc ms 0 ∧ yn_PC_init.name = "<init>" ∧ (Cond.instanceMethod yn_PC_init).before args s = true := cwI 0 ht (bw_in mc_PC_init) rfl hrc hrs (ht _ (List.mem_cons_of_mem _ mw_1)) (ht _ (List.mem_cons_of_mem _ mw_23)) (ht _ (List.mem_cons_of_mem _ mw_24)) rfl (by decide +kernel) hR
theorem cw_Law_12 {R : Room} {s : State} {args : Array Value} {c0 : Cond} {rm : Room} {mc ms : Nat} (ht : ∀ w ∈ c0 :: bw_B, w.before args s = true) (hrc : rm.cells = mc) (hrs : rm.slots = ms) (hR : rm.frames + 1 ≤ R.frames ∧ 8 + (1 + 11) + rm.locals ≤ R.locals) : CallB R s args "PayChainLaw" 12 yn_Mod_init bc_Mod_init 1 none (cd_Mod_init :: bw_B) rm mc ms 0 ∧ yn_Mod_init.name = "<init>" ∧ (Cond.instanceMethod yn_Mod_init).before args s = true := cwI 0 ht (bw_in mc_Mod_init) rfl hrc hrs (ht _ (List.mem_cons_of_mem _ mw_11)) (ht _ (List.mem_cons_of_mem _ mw_776)) (ht _ (List.mem_cons_of_mem _ mw_777)) rfl (by decide +kernel) hR
theorem cw_Law_13 {R : Room} {s : State} {args : Array Value} {c0 : Cond} {rm : Room} {mc ms : Nat} (ht : ∀ w ∈ c0 :: bw_B, w.before args s = true) (hrc : rm.cells = mc) (hrs : rm.slots = ms) (hR : rm.frames + 1 ≤ R.frames ∧ 8 + (2 + 11) + rm.locals ≤ R.locals) : CallW R s args "PayChainLaw" "PayChain" 13 yn_PC_feed bc_PC_feed 2 (some .int) (cd_PC_feed :: bw_B) rm mc ms 1 := cwV 1 ht (bw_app (bw_4w mw_273 mw_274 mw_275 mw_1) (bw_in mc_PC_feed)) rfl hrc hrs (by decide +kernel) hR
theorem cw_Law_17 {R : Room} {s : State} {args : Array Value} {c0 : Cond} {rm : Room} {mc ms : Nat} (ht : ∀ w ∈ c0 :: bw_B, w.before args s = true) (hrc : rm.cells = mc) (hrs : rm.slots = ms) (hR : rm.frames + 1 ≤ R.frames ∧ 8 + (2 + 11) + rm.locals ≤ R.locals) : CallW R s args "PayChainLaw" "PayChainModel" 17 yn_Mod_feed bc_Mod_feed 2 (some .int) (cd_Mod_feed :: bw_B) rm mc ms 1 := cwV 1 ht (bw_app (bw_4w mw_875 mw_876 mw_877 mw_11) (bw_in mc_Mod_feed)) rfl hrc hrs (by decide +kernel) hR
theorem cw_Law_18 {R : Room} {s : State} {args : Array Value} {c0 : Cond} {rm : Room} {mc ms : Nat} (ht : ∀ w ∈ c0 :: bw_B, w.before args s = true) (hrc : rm.cells = mc) (hrs : rm.slots = ms) (hR : rm.frames + 1 ≤ R.frames ∧ 8 + (2 + 11) + rm.locals ≤ R.locals) : CallW R s args "PayChainLaw" "PayChain" 18 yn_PC_wipe bc_PC_wipe 2 (some .int) (cd_PC_wipe :: bw_B) rm mc ms 0 := cwV 0 ht (bw_app (bw_4w mw_288 mw_289 mw_290 mw_1) (bw_in mc_PC_wipe)) rfl hrc hrs (by decide +kernel) hR
theorem cw_Law_22 {R : Room} {s : State} {args : Array Value} {c0 : Cond} {rm : Room} {mc ms : Nat} (ht : ∀ w ∈ c0 :: bw_B, w.before args s = true) (hrc : rm.cells = mc) (hrs : rm.slots = ms) (hR : rm.frames + 1 ≤ R.frames ∧ 8 + (2 + 11) + rm.locals ≤ R.locals) : CallW R s args "PayChainLaw" "PayChainModel" 22 yn_Mod_wipe bc_Mod_wipe 2 (some .int) (cd_Mod_wipe :: bw_B) rm mc ms 0 := cwV 0 ht (bw_app (bw_4w mw_882 mw_883 mw_884 mw_11) (bw_in mc_Mod_wipe)) rfl hrc hrs (by decide +kernel) hR
theorem cw_Law_23 {R : Room} {s : State} {args : Array Value} {c0 : Cond} {rm : Room} {mc ms : Nat} (ht : ∀ w ∈ c0 :: bw_B, w.before args s = true) (hrc : rm.cells = mc) (hrs : rm.slots = ms) (hR : rm.frames + 1 ≤ R.frames ∧ 8 + (7 + 11) + rm.locals ≤ R.locals) : CallW R s args "PayChainLaw" "PayChain" 23 yn_PC_make bc_PC_make 7 (some .int) (cd_PC_make :: bw_B) rm mc ms 3 := cwV 3 ht (bw_app (bw_4w mw_296 mw_297 mw_298 mw_1) (bw_in mc_PC_make)) rfl hrc hrs (by decide +kernel) hR
theorem cw_Law_27 {R : Room} {s : State} {args : Array Value} {c0 : Cond} {rm : Room} {mc ms : Nat} (ht : ∀ w ∈ c0 :: bw_B, w.before args s = true) (hrc : rm.cells = mc) (hrs : rm.slots = ms) (hR : rm.frames + 1 ≤ R.frames ∧ 8 + (7 + 11) + rm.locals ≤ R.locals) : CallW R s args "PayChainLaw" "PayChainModel" 27 yn_Mod_make bc_Mod_make 7 (some .int) (cd_Mod_make :: bw_B) rm mc ms 3 := cwV 3 ht (bw_app (bw_4w mw_886 mw_887 mw_888 mw_11) (bw_in mc_Mod_make)) rfl hrc hrs (by decide +kernel) hR
theorem cw_Law_28 {R : Room} {s : State} {args : Array Value} {c0 : Cond} {rm : Room} {mc ms : Nat} (ht : ∀ w ∈ c0 :: bw_B, w.before args s = true) (hrc : rm.cells = mc) (hrs : rm.slots = ms) (hR : rm.frames + 1 ≤ R.frames ∧ 8 + (1 + 11) + rm.locals ≤ R.locals) : CallW R s args "PayChainLaw" "PayChain" 28 yn_PC_place bc_PC_place 1 (some .int) (cd_PC_place :: bw_B) rm mc ms 0 := cwV 0 ht (bw_app (bw_4w mw_405 mw_406 mw_407 mw_1) (bw_in mc_PC_place)) rfl hrc hrs (by decide +kernel) hR
theorem cw_Law_31 {R : Room} {s : State} {args : Array Value} {c0 : Cond} {rm : Room} {mc ms : Nat} (ht : ∀ w ∈ c0 :: bw_B, w.before args s = true) (hrc : rm.cells = mc) (hrs : rm.slots = ms) (hR : rm.frames + 1 ≤ R.frames ∧ 8 + (1 + 11) + rm.locals ≤ R.locals) : CallW R s args "PayChainLaw" "PayChainModel" 31 yn_Mod_place bc_Mod_place 1 (some .int) (cd_Mod_place :: bw_B) rm mc ms 0 := cwV 0 ht (bw_app (bw_4w mw_922 mw_923 mw_924 mw_11) (bw_in mc_Mod_place)) rfl hrc hrs (by decide +kernel) hR
theorem cw_Law_32 {R : Room} {s : State} {args : Array Value} {c0 : Cond} {rm : Room} {mc ms : Nat} (ht : ∀ w ∈ c0 :: bw_B, w.before args s = true) (hrc : rm.cells = mc) (hrs : rm.slots = ms) (hR : rm.frames + 1 ≤ R.frames ∧ 8 + (4 + 11) + rm.locals ≤ R.locals) : CallW R s args "PayChainLaw" "PayChain" 32 yn_PC_account bc_PC_account 4 (some .int) (cd_PC_account :: bw_B) rm mc ms 3 := cwV 3 ht (bw_app (bw_4w mw_409 mw_410 mw_411 mw_1) (bw_in mc_PC_account)) rfl hrc hrs (by decide +kernel) hR
theorem cw_Law_35 {R : Room} {s : State} {args : Array Value} {c0 : Cond} {rm : Room} {mc ms : Nat} (ht : ∀ w ∈ c0 :: bw_B, w.before args s = true) (hrc : rm.cells = mc) (hrs : rm.slots = ms) (hR : rm.frames + 1 ≤ R.frames ∧ 8 + (4 + 11) + rm.locals ≤ R.locals) : CallW R s args "PayChainLaw" "PayChainModel" 35 yn_Mod_account bc_Mod_account 4 (some .int) (cd_Mod_account :: bw_B) rm mc ms 3 := cwV 3 ht (bw_app (bw_4w mw_926 mw_927 mw_928 mw_11) (bw_in mc_Mod_account)) rfl hrc hrs (by decide +kernel) hR
theorem cw_Law_36 {R : Room} {s : State} {args : Array Value} {c0 : Cond} {rm : Room} {mc ms : Nat} (ht : ∀ w ∈ c0 :: bw_B, w.before args s = true) (hrc : rm.cells = mc) (hrs : rm.slots = ms) (hR : rm.frames + 1 ≤ R.frames ∧ 8 + (3 + 11) + rm.locals ≤ R.locals) : CallW R s args "PayChainLaw" "PayChain" 36 yn_PC_setting bc_PC_setting 3 (some .int) (cd_PC_setting :: bw_B) rm mc ms 2 := cwV 2 ht (bw_app (bw_4w mw_422 mw_423 mw_424 mw_1) (bw_in mc_PC_setting)) rfl hrc hrs (by decide +kernel) hR
theorem cw_Law_40 {R : Room} {s : State} {args : Array Value} {c0 : Cond} {rm : Room} {mc ms : Nat} (ht : ∀ w ∈ c0 :: bw_B, w.before args s = true) (hrc : rm.cells = mc) (hrs : rm.slots = ms) (hR : rm.frames + 1 ≤ R.frames ∧ 8 + (3 + 11) + rm.locals ≤ R.locals) : CallW R s args "PayChainLaw" "PayChainModel" 40 yn_Mod_setting bc_Mod_setting 3 (some .int) (cd_Mod_setting :: bw_B) rm mc ms 2 := cwV 2 ht (bw_app (bw_4w mw_931 mw_932 mw_933 mw_11) (bw_in mc_Mod_setting)) rfl hrc hrs (by decide +kernel) hR
theorem cw_Law_41 {R : Room} {s : State} {args : Array Value} {c0 : Cond} {rm : Room} {mc ms : Nat} (ht : ∀ w ∈ c0 :: bw_B, w.before args s = true) (hrc : rm.cells = mc) (hrs : rm.slots = ms) (hR : rm.frames + 1 ≤ R.frames ∧ 8 + (6 + 11) + rm.locals ≤ R.locals) : CallW R s args "PayChainLaw" "PayChain" 41 yn_PC_pay bc_PC_pay 6 (some .int) (cd_PC_pay :: bw_B) rm mc ms 4 := cwV 4 ht (bw_app (bw_4w mw_433 mw_434 mw_435 mw_1) (bw_in mc_PC_pay)) rfl hrc hrs (by decide +kernel) hR
theorem cw_Law_45 {R : Room} {s : State} {args : Array Value} {c0 : Cond} {rm : Room} {mc ms : Nat} (ht : ∀ w ∈ c0 :: bw_B, w.before args s = true) (hrc : rm.cells = mc) (hrs : rm.slots = ms) (hR : rm.frames + 1 ≤ R.frames ∧ 8 + (10 + 11) + rm.locals ≤ R.locals) : CallW R s args "PayChainLaw" "PayChainModel" 45 yn_Mod_pay bc_Mod_pay 10 (some .int) (cd_Mod_pay :: bw_B) rm mc ms 4 := cwV 4 ht (bw_app (bw_4w mw_937 mw_938 mw_939 mw_11) (bw_in mc_Mod_pay)) rfl hrc hrs (by decide +kernel) hR
theorem cw_Law_46 {R : Room} {s : State} {args : Array Value} {c0 : Cond} {rm : Room} {mc ms : Nat} (ht : ∀ w ∈ c0 :: bw_B, w.before args s = true) (hrc : rm.cells = mc) (hrs : rm.slots = ms) (hR : rm.frames + 1 ≤ R.frames ∧ 8 + (2 + 11) + rm.locals ≤ R.locals) : CallW R s args "PayChainLaw" "PayChain" 46 yn_PC_send bc_PC_send 2 (some .int) (cd_PC_send :: bw_B) rm mc ms 1 := cwV 1 ht (bw_app (bw_4w mw_682 mw_683 mw_684 mw_1) (bw_in mc_PC_send)) rfl hrc hrs (by decide +kernel) hR
theorem cw_Law_49 {R : Room} {s : State} {args : Array Value} {c0 : Cond} {rm : Room} {mc ms : Nat} (ht : ∀ w ∈ c0 :: bw_B, w.before args s = true) (hrc : rm.cells = mc) (hrs : rm.slots = ms) (hR : rm.frames + 1 ≤ R.frames ∧ 8 + (4 + 11) + rm.locals ≤ R.locals) : CallW R s args "PayChainLaw" "PayChainModel" 49 yn_Mod_send bc_Mod_send 4 (some .int) (cd_Mod_send :: bw_B) rm mc ms 1 := cwV 1 ht (bw_app (bw_4w mw_999 mw_1000 mw_1001 mw_11) (bw_in mc_Mod_send)) rfl hrc hrs (by decide +kernel) hR
theorem cw_Law_50 {R : Room} {s : State} {args : Array Value} {c0 : Cond} {rm : Room} {mc ms : Nat} (ht : ∀ w ∈ c0 :: bw_B, w.before args s = true) (hrc : rm.cells = mc) (hrs : rm.slots = ms) (hR : rm.frames + 1 ≤ R.frames ∧ 8 + (2 + 11) + rm.locals ≤ R.locals) : CallW R s args "PayChainLaw" "PayChain" 50 yn_PC_last bc_PC_last 2 (some .int) (cd_PC_last :: bw_B) rm mc ms 1 := cwV 1 ht (bw_app (bw_4w mw_718 mw_719 mw_720 mw_1) (bw_in mc_PC_last)) rfl hrc hrs (by decide +kernel) hR
theorem cw_Law_53 {R : Room} {s : State} {args : Array Value} {c0 : Cond} {rm : Room} {mc ms : Nat} (ht : ∀ w ∈ c0 :: bw_B, w.before args s = true) (hrc : rm.cells = mc) (hrs : rm.slots = ms) (hR : rm.frames + 1 ≤ R.frames ∧ 8 + (2 + 11) + rm.locals ≤ R.locals) : CallW R s args "PayChainLaw" "PayChainModel" 53 yn_Mod_last bc_Mod_last 2 (some .int) (cd_Mod_last :: bw_B) rm mc ms 1 := cwV 1 ht (bw_app (bw_4w mw_1003 mw_1004 mw_1005 mw_11) (bw_in mc_Mod_last)) rfl hrc hrs (by decide +kernel) hR
theorem cw_Law_54 {R : Room} {s : State} {args : Array Value} {c0 : Cond} {rm : Room} {mc ms : Nat} (ht : ∀ w ∈ c0 :: bw_B, w.before args s = true) (hrc : rm.cells = mc) (hrs : rm.slots = ms) (hR : rm.frames + 1 ≤ R.frames ∧ 8 + (2 + 11) + rm.locals ≤ R.locals) : CallW R s args "PayChainLaw" "PayChain" 54 yn_PC_data bc_PC_data 2 (some .int) (cd_PC_data :: bw_B) rm mc ms 1 := cwV 1 ht (bw_app (bw_4w mw_726 mw_727 mw_728 mw_1) (bw_in mc_PC_data)) rfl hrc hrs (by decide +kernel) hR
theorem cw_Law_57 {R : Room} {s : State} {args : Array Value} {c0 : Cond} {rm : Room} {mc ms : Nat} (ht : ∀ w ∈ c0 :: bw_B, w.before args s = true) (hrc : rm.cells = mc) (hrs : rm.slots = ms) (hR : rm.frames + 1 ≤ R.frames ∧ 8 + (2 + 11) + rm.locals ≤ R.locals) : CallW R s args "PayChainLaw" "PayChainModel" 57 yn_Mod_data bc_Mod_data 2 (some .int) (cd_Mod_data :: bw_B) rm mc ms 1 := cwV 1 ht (bw_app (bw_4w mw_1007 mw_1008 mw_1009 mw_11) (bw_in mc_Mod_data)) rfl hrc hrs (by decide +kernel) hR
theorem cw_Law_58 {R : Room} {s : State} {args : Array Value} {c0 : Cond} {rm : Room} {mc ms : Nat} (ht : ∀ w ∈ c0 :: bw_B, w.before args s = true) (hrc : rm.cells = mc) (hrs : rm.slots = ms) (hR : rm.frames + 1 ≤ R.frames ∧ 8 + (4 + 11) + rm.locals ≤ R.locals) : CallW R s args "PayChainLaw" "PayChain" 58 yn_PC_card bc_PC_card 4 (some .int) (cd_PC_card :: bw_B) rm mc ms 2 := cwV 2 ht (bw_app (bw_4w mw_734 mw_735 mw_736 mw_1) (bw_in mc_PC_card)) rfl hrc hrs (by decide +kernel) hR
theorem cw_Law_61 {R : Room} {s : State} {args : Array Value} {c0 : Cond} {rm : Room} {mc ms : Nat} (ht : ∀ w ∈ c0 :: bw_B, w.before args s = true) (hrc : rm.cells = mc) (hrs : rm.slots = ms) (hR : rm.frames + 1 ≤ R.frames ∧ 8 + (3 + 11) + rm.locals ≤ R.locals) : CallW R s args "PayChainLaw" "PayChainModel" 61 yn_Mod_card bc_Mod_card 3 (some .int) (cd_Mod_card :: bw_B) rm mc ms 2 := cwV 2 ht (bw_app (bw_4w mw_1011 mw_1012 mw_1013 mw_11) (bw_in mc_Mod_card)) rfl hrc hrs (by decide +kernel) hR
theorem cw_Law_62 {R : Room} {s : State} {args : Array Value} {c0 : Cond} {rm : Room} {mc ms : Nat} (ht : ∀ w ∈ c0 :: bw_B, w.before args s = true) (hrc : rm.cells = mc) (hrs : rm.slots = ms) (hR : rm.frames + 1 ≤ R.frames ∧ 8 + (5 + 11) + rm.locals ≤ R.locals) : CallW R s args "PayChainLaw" "PayChain" 62 yn_PC_value bc_PC_value 5 (some .int) (cd_PC_value :: bw_B) rm mc ms 3 := cwV 3 ht (bw_app (bw_4w mw_743 mw_744 mw_745 mw_1) (bw_in mc_PC_value)) rfl hrc hrs (by decide +kernel) hR
theorem cw_Law_65 {R : Room} {s : State} {args : Array Value} {c0 : Cond} {rm : Room} {mc ms : Nat} (ht : ∀ w ∈ c0 :: bw_B, w.before args s = true) (hrc : rm.cells = mc) (hrs : rm.slots = ms) (hR : rm.frames + 1 ≤ R.frames ∧ 8 + (4 + 11) + rm.locals ≤ R.locals) : CallW R s args "PayChainLaw" "PayChainModel" 65 yn_Mod_value bc_Mod_value 4 (some .int) (cd_Mod_value :: bw_B) rm mc ms 3 := cwV 3 ht (bw_app (bw_4w mw_1015 mw_1016 mw_1017 mw_11) (bw_in mc_Mod_value)) rfl hrc hrs (by decide +kernel) hR
theorem cw_Law_66 {R : Room} {s : State} {args : Array Value} {c0 : Cond} {rm : Room} {mc ms : Nat} (ht : ∀ w ∈ c0 :: bw_B, w.before args s = true) (hrc : rm.cells = mc) (hrs : rm.slots = ms) (hR : rm.frames + 1 ≤ R.frames ∧ 8 + (4 + 11) + rm.locals ≤ R.locals) : CallW R s args "PayChainLaw" "PayChain" 66 yn_PC_inside bc_PC_inside 4 (some .int) (cd_PC_inside :: bw_B) rm mc ms 2 := cwV 2 ht (bw_app (bw_4w mw_749 mw_750 mw_751 mw_1) (bw_in mc_PC_inside)) rfl hrc hrs (by decide +kernel) hR
theorem cw_Law_69 {R : Room} {s : State} {args : Array Value} {c0 : Cond} {rm : Room} {mc ms : Nat} (ht : ∀ w ∈ c0 :: bw_B, w.before args s = true) (hrc : rm.cells = mc) (hrs : rm.slots = ms) (hR : rm.frames + 1 ≤ R.frames ∧ 8 + (3 + 11) + rm.locals ≤ R.locals) : CallW R s args "PayChainLaw" "PayChainModel" 69 yn_Mod_inside bc_Mod_inside 3 (some .int) (cd_Mod_inside :: bw_B) rm mc ms 2 := cwV 2 ht (bw_app (bw_4w mw_1019 mw_1020 mw_1021 mw_11) (bw_in mc_Mod_inside)) rfl hrc hrs (by decide +kernel) hR
theorem cw_Law_70 {R : Room} {s : State} {args : Array Value} {c0 : Cond} {rm : Room} {mc ms : Nat} (ht : ∀ w ∈ c0 :: bw_B, w.before args s = true) (hrc : rm.cells = mc) (hrs : rm.slots = ms) (hR : rm.frames + 1 ≤ R.frames ∧ 8 + (2 + 11) + rm.locals ≤ R.locals) : CallW R s args "PayChainLaw" "PayChain" 70 yn_PC_balance bc_PC_balance 2 (some .long) (cd_PC_balance :: bw_B) rm mc ms 1 := cwV 1 ht (bw_app (bw_4w mw_757 mw_758 mw_759 mw_1) (bw_in mc_PC_balance)) rfl hrc hrs (by decide +kernel) hR
theorem cw_Law_74 {R : Room} {s : State} {args : Array Value} {c0 : Cond} {rm : Room} {mc ms : Nat} (ht : ∀ w ∈ c0 :: bw_B, w.before args s = true) (hrc : rm.cells = mc) (hrs : rm.slots = ms) (hR : rm.frames + 1 ≤ R.frames ∧ 8 + (2 + 11) + rm.locals ≤ R.locals) : CallW R s args "PayChainLaw" "PayChainModel" 74 yn_Mod_balance bc_Mod_balance 2 (some .long) (cd_Mod_balance :: bw_B) rm mc ms 1 := cwV 1 ht (bw_app (bw_4w mw_1023 mw_1024 mw_1025 mw_11) (bw_in mc_Mod_balance)) rfl hrc hrs (by decide +kernel) hR
theorem cw_Law_75 {R : Room} {s : State} {args : Array Value} {c0 : Cond} {rm : Room} {mc ms : Nat} (ht : ∀ w ∈ c0 :: bw_B, w.before args s = true) (hrc : rm.cells = mc) (hrs : rm.slots = ms) (hR : rm.frames + 1 ≤ R.frames ∧ 8 + (2 + 11) + rm.locals ≤ R.locals) : CallW R s args "PayChainLaw" "PayChain" 75 yn_PC_queued bc_PC_queued 2 (some .int) (cd_PC_queued :: bw_B) rm mc ms 1 := cwV 1 ht (bw_app (bw_4w mw_766 mw_767 mw_768 mw_1) (bw_in mc_PC_queued)) rfl hrc hrs (by decide +kernel) hR
theorem cw_Law_78 {R : Room} {s : State} {args : Array Value} {c0 : Cond} {rm : Room} {mc ms : Nat} (ht : ∀ w ∈ c0 :: bw_B, w.before args s = true) (hrc : rm.cells = mc) (hrs : rm.slots = ms) (hR : rm.frames + 1 ≤ R.frames ∧ 8 + (2 + 11) + rm.locals ≤ R.locals) : CallW R s args "PayChainLaw" "PayChainModel" 78 yn_Mod_queued bc_Mod_queued 2 (some .int) (cd_Mod_queued :: bw_B) rm mc ms 1 := cwV 1 ht (bw_app (bw_4w mw_1028 mw_1029 mw_1030 mw_11) (bw_in mc_Mod_queued)) rfl hrc hrs (by decide +kernel) hR
theorem cw_Law_79 {R : Room} {s : State} {args : Array Value} {c0 : Cond} {rm : Room} {mc ms : Nat} (ht : ∀ w ∈ c0 :: bw_B, w.before args s = true) (hrc : rm.cells = mc) (hrs : rm.slots = ms) (hR : rm.frames + 1 ≤ R.frames ∧ 8 + (2 + 11) + rm.locals ≤ R.locals) : CallW R s args "PayChainLaw" "PayChain" 79 yn_PC_count bc_PC_count 2 (some .int) (cd_PC_count :: bw_B) rm mc ms 1 := cwV 1 ht (bw_app (bw_4w mw_770 mw_771 mw_772 mw_1) (bw_in mc_PC_count)) rfl hrc hrs (by decide +kernel) hR
theorem cw_Law_82 {R : Room} {s : State} {args : Array Value} {c0 : Cond} {rm : Room} {mc ms : Nat} (ht : ∀ w ∈ c0 :: bw_B, w.before args s = true) (hrc : rm.cells = mc) (hrs : rm.slots = ms) (hR : rm.frames + 1 ≤ R.frames ∧ 8 + (4 + 11) + rm.locals ≤ R.locals) : CallW R s args "PayChainLaw" "PayChainModel" 82 yn_Mod_count bc_Mod_count 4 (some .int) (cd_Mod_count :: bw_B) rm mc ms 1 := cwV 1 ht (bw_app (bw_4w mw_1032 mw_1033 mw_1034 mw_11) (bw_in mc_Mod_count)) rfl hrc hrs (by decide +kernel) hR
theorem cw_Mod_90 {R : Room} {s : State} {args : Array Value} {c0 : Cond} {rm : Room} {mc ms : Nat} (ht : ∀ w ∈ c0 :: bw_B, w.before args s = true) (hrc : rm.cells = mc) (hrs : rm.slots = ms) (hR : rm.frames + 1 ≤ R.frames ∧ 8 + (3 + 11) + rm.locals ≤ R.locals) : CallW R s args "PayChainModel" "PayChainModel" 90 yn_Mod_at bc_Mod_at 3 (some .int) (cd_Mod_at :: bw_B) rm mc ms 2 := cwV 2 ht (bw_app (bw_4w mw_894 mw_896 ms_29 mw_11) (bw_in mc_Mod_at)) rfl hrc hrs (by decide +kernel) hR
theorem cw_Mod_94 {R : Room} {s : State} {args : Array Value} {c0 : Cond} {rm : Room} {mc ms : Nat} (ht : ∀ w ∈ c0 :: bw_B, w.before args s = true) (hrc : rm.cells = mc) (hrs : rm.slots = ms) (hR : rm.frames + 1 ≤ R.frames ∧ 8 + (17 + 11) + rm.locals ≤ R.locals) : CallW R s args "PayChainModel" "PayChainModel" 94 yn_Mod_walk bc_Mod_walk 17 (some .int) (cd_Mod_walk :: bw_B) rm mc ms 2 := cwV 2 ht (bw_app (bw_4w mw_890 mw_892 ms_28 mw_11) (bw_in mc_Mod_walk)) rfl hrc hrs (by decide +kernel) hR
theorem cw_Mod_97 {R : Room} {s : State} {args : Array Value} {c0 : Cond} {rm : Room} {mc ms : Nat} (ht : ∀ w ∈ c0 :: bw_B, w.before args s = true) (hrc : rm.cells = mc) (hrs : rm.slots = ms) (hR : rm.frames + 1 ≤ R.frames ∧ 8 + (3 + 11) + rm.locals ≤ R.locals) : CallW R s args "PayChainModel" "PayChainModel" 97 yn_Mod_has bc_Mod_has 3 (some .boolean) (cd_Mod_has :: bw_B) rm mc ms 2 := cwV 2 ht (bw_app (bw_4w mw_902 mw_904 ms_31 mw_11) (bw_in mc_Mod_has)) rfl hrc hrs (by decide +kernel) hR
theorem cw_Mod_101 {R : Room} {s : State} {args : Array Value} {c0 : Cond} {rm : Room} {mc ms : Nat} (ht : ∀ w ∈ c0 :: bw_B, w.before args s = true) (hrc : rm.cells = mc) (hrs : rm.slots = ms) (hR : rm.frames + 1 ≤ R.frames ∧ 8 + (3 + 11) + rm.locals ≤ R.locals) : CallB R s args "PayChainModel" 101 yn_Mod_in bc_Mod_in 3 (some .boolean) (cd_Mod_in :: bw_B) rm mc ms 3 ∧ (Cond.static yn_Mod_in).before args s = true := va_cwS 3 ht (bw_app (bw_3w mw_879 mw_880 mw_11) (bw_in mc_Mod_in)) rfl hrc hrs (by decide +kernel) hR
theorem cw_Mod_105 {R : Room} {s : State} {args : Array Value} {c0 : Cond} {rm : Room} {mc ms : Nat} (ht : ∀ w ∈ c0 :: bw_B, w.before args s = true) (hrc : rm.cells = mc) (hrs : rm.slots = ms) (hR : rm.frames + 1 ≤ R.frames ∧ 8 + (1 + 11) + rm.locals ≤ R.locals) : CallW R s args "PayChainModel" "PayChainModel" 105 yn_Mod_bytes bc_Mod_bytes 1 (some .int) (cd_Mod_bytes :: bw_B) rm mc ms 0 := cwV 0 ht (bw_app (bw_4w mw_906 mw_908 ms_32 mw_11) (bw_in mc_Mod_bytes)) rfl hrc hrs (by decide +kernel) hR
theorem cw_Mod_109 {R : Room} {s : State} {args : Array Value} {c0 : Cond} {rm : Room} {mc ms : Nat} (ht : ∀ w ∈ c0 :: bw_B, w.before args s = true) (hrc : rm.cells = mc) (hrs : rm.slots = ms) (hR : rm.frames + 1 ≤ R.frames ∧ 8 + (4 + 11) + rm.locals ≤ R.locals) : CallW R s args "PayChainModel" "PayChainModel" 109 yn_Mod_list bc_Mod_list 4 (some .boolean) (cd_Mod_list :: bw_B) rm mc ms 0 := cwV 0 ht (bw_app (bw_4w mw_910 mw_912 ms_33 mw_11) (bw_in mc_Mod_list)) rfl hrc hrs (by decide +kernel) hR
theorem cw_Mod_115 {R : Room} {s : State} {args : Array Value} {c0 : Cond} {rm : Room} {mc ms : Nat} (ht : ∀ w ∈ c0 :: bw_B, w.before args s = true) (hrc : rm.cells = mc) (hrs : rm.slots = ms) (hR : rm.frames + 1 ≤ R.frames ∧ 8 + (3 + 11) + rm.locals ≤ R.locals) : CallW R s args "PayChainModel" "PayChainModel" 115 yn_Mod_sized bc_Mod_sized 3 (some .boolean) (cd_Mod_sized :: bw_B) rm mc ms 2 := cwV 2 ht (bw_app (bw_4w mw_916 mw_918 ms_34 mw_11) (bw_in mc_Mod_sized)) rfl hrc hrs (by decide +kernel) hR
theorem cw_Mod_120 {R : Room} {s : State} {args : Array Value} {c0 : Cond} {rm : Room} {mc ms : Nat} (ht : ∀ w ∈ c0 :: bw_B, w.before args s = true) (hrc : rm.cells = mc) (hrs : rm.slots = ms) (hR : rm.frames + 1 ≤ R.frames ∧ 8 + (2 + 11) + rm.locals ≤ R.locals) : CallW R s args "PayChainModel" "PayChainModel" 120 yn_Mod_unfit bc_Mod_unfit 2 (some .int) (cd_Mod_unfit :: bw_B) rm mc ms 0 := cwV 0 ht (bw_app (bw_4w mw_898 mw_900 ms_30 mw_11) (bw_in mc_Mod_unfit)) rfl hrc hrs (by decide +kernel) hR
theorem cw_Mod_127 {R : Room} {s : State} {args : Array Value} {c0 : Cond} {rm : Room} {mc ms : Nat} (ht : ∀ w ∈ c0 :: bw_B, w.before args s = true) (hrc : rm.cells = mc) (hrs : rm.slots = ms) (hR : rm.frames + 1 ≤ R.frames ∧ 8 + (3 + 11) + rm.locals ≤ R.locals) : CallB R s args "PayChainModel" 127 yn_Mod_stir bc_Mod_stir 3 (some .int) (cd_Mod_stir :: bw_B) rm mc ms 2 ∧ (Cond.static yn_Mod_stir).before args s = true := va_cwS 2 ht (bw_app (bw_3w mw_976 mw_977 mw_11) (bw_in mc_Mod_stir)) rfl hrc hrs (by decide +kernel) hR
theorem cw_Mod_136 {R : Room} {s : State} {args : Array Value} {c0 : Cond} {rm : Room} {mc ms : Nat} (ht : ∀ w ∈ c0 :: bw_B, w.before args s = true) (hrc : rm.cells = mc) (hrs : rm.slots = ms) (hR : rm.frames + 1 ≤ R.frames ∧ 8 + (3 + 11) + rm.locals ≤ R.locals) : CallW R s args "PayChainModel" "PayChainModel" 136 yn_Mod_pin bc_Mod_pin 3 (some .boolean) (cd_Mod_pin :: bw_B) rm mc ms 2 := cwV 2 ht (bw_app (bw_4w mw_949 mw_951 ms_37 mw_11) (bw_in mc_Mod_pin)) rfl hrc hrs (by decide +kernel) hR
theorem cw_Mod_139 {R : Room} {s : State} {args : Array Value} {c0 : Cond} {rm : Room} {mc ms : Nat} (ht : ∀ w ∈ c0 :: bw_B, w.before args s = true) (hrc : rm.cells = mc) (hrs : rm.slots = ms) (hR : rm.frames + 1 ≤ R.frames ∧ 8 + (6 + 11) + rm.locals ≤ R.locals) : CallW R s args "PayChainModel" "PayChainModel" 139 yn_Mod_number bc_Mod_number 6 (some .int) (cd_Mod_number :: bw_B) rm mc ms 3 := cwV 3 ht (bw_app (bw_4w mw_941 mw_943 ms_35 mw_11) (bw_in mc_Mod_number)) rfl hrc hrs (by decide +kernel) hR
theorem cw_Mod_149 {R : Room} {s : State} {args : Array Value} {c0 : Cond} {rm : Room} {mc ms : Nat} (ht : ∀ w ∈ c0 :: bw_B, w.before args s = true) (hrc : rm.cells = mc) (hrs : rm.slots = ms) (hR : rm.frames + 1 ≤ R.frames ∧ 8 + (4 + 11) + rm.locals ≤ R.locals) : CallW R s args "PayChainModel" "PayChainModel" 149 yn_Mod_mask bc_Mod_mask 4 (some .int) (cd_Mod_mask :: bw_B) rm mc ms 3 := cwV 3 ht (bw_app (bw_4w mw_958 mw_960 ms_39 mw_11) (bw_in mc_Mod_mask)) rfl hrc hrs (by decide +kernel) hR
theorem cw_Mod_152 {R : Room} {s : State} {args : Array Value} {c0 : Cond} {rm : Room} {mc ms : Nat} (ht : ∀ w ∈ c0 :: bw_B, w.before args s = true) (hrc : rm.cells = mc) (hrs : rm.slots = ms) (hR : rm.frames + 1 ≤ R.frames ∧ 8 + (6 + 11) + rm.locals ≤ R.locals) : CallW R s args "PayChainModel" "PayChainModel" 152 yn_Mod_cryptogram bc_Mod_cryptogram 6 (some .int) (cd_Mod_cryptogram :: bw_B) rm mc ms 3 := cwV 3 ht (bw_app (bw_4w mw_972 mw_974 ms_42 mw_11) (bw_in mc_Mod_cryptogram)) rfl hrc hrs (by decide +kernel) hR
theorem cw_Mod_158 {R : Room} {s : State} {args : Array Value} {c0 : Cond} {rm : Room} {mc ms : Nat} (ht : ∀ w ∈ c0 :: bw_B, w.before args s = true) (hrc : rm.cells = mc) (hrs : rm.slots = ms) (hR : rm.frames + 1 ≤ R.frames ∧ 8 + (10 + 11) + rm.locals ≤ R.locals) : CallW R s args "PayChainModel" "PayChainModel" 158 yn_Mod_holder bc_Mod_holder 10 none (cd_Mod_holder :: bw_B) rm mc ms 3 := cwV 3 ht (bw_app (bw_4w mw_945 mw_947 ms_36 mw_11) (bw_in mc_Mod_holder)) rfl hrc hrs (by decide +kernel) hR
theorem cw_Mod_162 {R : Room} {s : State} {args : Array Value} {c0 : Cond} {rm : Room} {mc ms : Nat} (ht : ∀ w ∈ c0 :: bw_B, w.before args s = true) (hrc : rm.cells = mc) (hrs : rm.slots = ms) (hR : rm.frames + 1 ≤ R.frames ∧ 8 + (2 + 11) + rm.locals ≤ R.locals) : CallW R s args "PayChainModel" "PayChainModel" 162 yn_Mod_wish bc_Mod_wish 2 (some .int) (cd_Mod_wish :: bw_B) rm mc ms 1 := cwV 1 ht (bw_app (bw_4w mw_953 mw_955 ms_38 mw_11) (bw_in mc_Mod_wish)) rfl hrc hrs (by decide +kernel) hR
theorem cw_Mod_166 {R : Room} {s : State} {args : Array Value} {c0 : Cond} {rm : Room} {mc ms : Nat} (ht : ∀ w ∈ c0 :: bw_B, w.before args s = true) (hrc : rm.cells = mc) (hrs : rm.slots = ms) (hR : rm.frames + 1 ≤ R.frames ∧ 8 + (9 + 11) + rm.locals ≤ R.locals) : CallW R s args "PayChainModel" "PayChainModel" 166 yn_Mod_gather bc_Mod_gather 9 none (cd_Mod_gather :: bw_B) rm mc ms 2 := cwV 2 ht (bw_app (bw_4w mw_962 mw_964 ms_40 mw_11) (bw_in mc_Mod_gather)) rfl hrc hrs (by decide +kernel) hR
theorem cw_Mod_170 {R : Room} {s : State} {args : Array Value} {c0 : Cond} {rm : Room} {mc ms : Nat} (ht : ∀ w ∈ c0 :: bw_B, w.before args s = true) (hrc : rm.cells = mc) (hrs : rm.slots = ms) (hR : rm.frames + 1 ≤ R.frames ∧ 8 + (3 + 11) + rm.locals ≤ R.locals) : CallW R s args "PayChainModel" "PayChainModel" 170 yn_Mod_over bc_Mod_over 3 (some .boolean) (cd_Mod_over :: bw_B) rm mc ms 1 := cwV 1 ht (bw_app (bw_4w mw_968 mw_970 ms_41 mw_11) (bw_in mc_Mod_over)) rfl hrc hrs (by decide +kernel) hR
theorem cw_Mod_174 {R : Room} {s : State} {args : Array Value} {c0 : Cond} {rm : Room} {mc ms : Nat} (ht : ∀ w ∈ c0 :: bw_B, w.before args s = true) (hrc : rm.cells = mc) (hrs : rm.slots = ms) (hR : rm.frames + 1 ≤ R.frames ∧ 8 + (8 + 11) + rm.locals ≤ R.locals) : CallW R s args "PayChainModel" "PayChainModel" 174 yn_Mod_online bc_Mod_online 8 (some .int) (cd_Mod_online :: bw_B) rm mc ms 3 := cwV 3 ht (bw_app (bw_4w mw_980 mw_982 ms_43 mw_11) (bw_in mc_Mod_online)) rfl hrc hrs (by decide +kernel) hR
theorem cw_Mod_180 {R : Room} {s : State} {args : Array Value} {c0 : Cond} {rm : Room} {mc ms : Nat} (ht : ∀ w ∈ c0 :: bw_B, w.before args s = true) (hrc : rm.cells = mc) (hrs : rm.slots = ms) (hR : rm.frames + 1 ≤ R.frames ∧ 8 + (5 + 11) + rm.locals ≤ R.locals) : CallW R s args "PayChainModel" "PayChainModel" 180 yn_Mod_host bc_Mod_host 5 (some .int) (cd_Mod_host :: bw_B) rm mc ms 3 := cwV 3 ht (bw_app (bw_4w mw_984 mw_986 ms_44 mw_11) (bw_in mc_Mod_host)) rfl hrc hrs (by decide +kernel) hR
theorem cw_Mod_183 {R : Room} {s : State} {args : Array Value} {c0 : Cond} {rm : Room} {mc ms : Nat} (ht : ∀ w ∈ c0 :: bw_B, w.before args s = true) (hrc : rm.cells = mc) (hrs : rm.slots = ms) (hR : rm.frames + 1 ≤ R.frames ∧ 8 + (3 + 11) + rm.locals ≤ R.locals) : CallW R s args "PayChainModel" "PayChainModel" 183 yn_Mod_replied bc_Mod_replied 3 (some .int) (cd_Mod_replied :: bw_B) rm mc ms 1 := cwV 1 ht (bw_app (bw_4w mw_988 mw_990 ms_45 mw_11) (bw_in mc_Mod_replied)) rfl hrc hrs (by decide +kernel) hR
theorem cw_Mod_186 {R : Room} {s : State} {args : Array Value} {c0 : Cond} {rm : Room} {mc ms : Nat} (ht : ∀ w ∈ c0 :: bw_B, w.before args s = true) (hrc : rm.cells = mc) (hrs : rm.slots = ms) (hR : rm.frames + 1 ≤ R.frames ∧ 8 + (2 + 11) + rm.locals ≤ R.locals) : CallW R s args "PayChainModel" "PayChainModel" 186 yn_Mod_alone bc_Mod_alone 2 (some .int) (cd_Mod_alone :: bw_B) rm mc ms 1 := cwV 1 ht (bw_app (bw_4w mw_995 mw_997 ms_46 mw_11) (bw_in mc_Mod_alone)) rfl hrc hrs (by decide +kernel) hR
theorem cw_Mod_189 {R : Room} {s : State} {args : Array Value} {c0 : Cond} {rm : Room} {mc ms : Nat} (ht : ∀ w ∈ c0 :: bw_B, w.before args s = true) (hrc : rm.cells = mc) (hrs : rm.slots = ms) (hR : rm.frames + 1 ≤ R.frames ∧ 8 + (5 + 11) + rm.locals ≤ R.locals) : CallB R s args "PayChainModel" 189 yn_Mod_seal bc_Mod_seal 5 (some .int) (cd_Mod_seal :: bw_B) rm mc ms 3 ∧ (Cond.static yn_Mod_seal).before args s = true := va_cwS 3 ht (bw_app (bw_3w mw_992 mw_993 mw_11) (bw_in mc_Mod_seal)) rfl hrc hrs (by decide +kernel) hR
theorem cw_AbL_1 {R : Room} {s : State} {args : Array Value} {c0 : Cond} {rm : Room} {mc ms : Nat} (ht : ∀ w ∈ c0 :: bw_B, w.before args s = true) (hrc : rm.cells = mc) (hrs : rm.slots = ms) (hR : rm.frames + 1 ≤ R.frames ∧ 8 + (1 + 11) + rm.locals ≤ R.locals) : CallB R s args "java/util/AbstractList" 1 yn_AbC_init bc_AbC_init 1 none (cd_AbC_init :: bw_B) rm mc ms 0 ∧ yn_AbC_init.name = "<init>" ∧ (Cond.instanceMethod yn_AbC_init).before args s = true := cwI 0 ht (bw_in mc_AbC_init) rfl hrc hrs (ht _ (List.mem_cons_of_mem _ mw_6)) (ht _ (List.mem_cons_of_mem _ mw_138)) (ht _ (List.mem_cons_of_mem _ mw_139)) rfl (by decide +kernel) hR
theorem cw_AL_1 {R : Room} {s : State} {args : Array Value} {c0 : Cond} {rm : Room} {mc ms : Nat} (ht : ∀ w ∈ c0 :: bw_B, w.before args s = true) (hrc : rm.cells = mc) (hrs : rm.slots = ms) (hR : rm.frames + 1 ≤ R.frames ∧ 8 + (1 + 11) + rm.locals ≤ R.locals) : CallB R s args "java/util/ArrayList" 1 yn_AbL_init bc_AbL_init 1 none (cd_AbL_init :: bw_B) rm mc ms 0 ∧ yn_AbL_init.name = "<init>" ∧ (Cond.instanceMethod yn_AbL_init).before args s = true := cwI 0 ht (bw_in mc_AbL_init) rfl hrc hrs (ht _ (List.mem_cons_of_mem _ mw_7)) (ht _ (List.mem_cons_of_mem _ mw_135)) (ht _ (List.mem_cons_of_mem _ mw_136)) rfl (by decide +kernel) hR
theorem cw_AL_66 {R : Room} {s : State} {args : Array Value} {c0 : Cond} {rm : Room} {mc ms : Nat} (ht : ∀ w ∈ c0 :: bw_B, w.before args s = true) (hrc : rm.cells = mc) (hrs : rm.slots = ms) (hR : rm.frames + 1 ≤ R.frames ∧ 8 + (2 + 11) + rm.locals ≤ R.locals) : CallB R s args "java/util/ArrayList" 66 yn_Arrs_copyOf bc_Arrs_copyOf 2 (some (.array (.object "java/lang/Object"))) (cd_Arrs_copyOf :: bw_B) rm mc ms 2 ∧ (Cond.static yn_Arrs_copyOf).before args s = true := va_cwS 2 ht (bw_app (bw_3w mw_651 mw_652 mw_17) (bw_in mc_Arrs_copyOf)) rfl hrc hrs (by decide +kernel) hR
theorem cw_AL_69 {R : Room} {s : State} {args : Array Value} {c0 : Cond} {rm : Room} {mc ms : Nat} (ht : ∀ w ∈ c0 :: bw_B, w.before args s = true) (hrc : rm.cells = mc) (hrs : rm.slots = ms) (hR : rm.frames + 1 ≤ R.frames ∧ 8 + (4 + 11) + rm.locals ≤ R.locals) : CallW R s args "java/util/ArrayList" "java/util/ArrayList" 69 yn_AL_grow2 bc_AL_grow2 4 (some (.array (.object "java/lang/Object"))) (cd_AL_grow2 :: bw_B) rm mc ms 1 := cwV 1 ht (bw_app (bw_4w mw_637 mw_639 ms_26 mw_8) (bw_in mc_AL_grow2)) rfl hrc hrs (by decide +kernel) hR
theorem cw_AL_73 {R : Room} {s : State} {args : Array Value} {c0 : Cond} {rm : Room} {mc ms : Nat} (ht : ∀ w ∈ c0 :: bw_B, w.before args s = true) (hrc : rm.cells = mc) (hrs : rm.slots = ms) (hR : rm.frames + 1 ≤ R.frames ∧ 8 + (4 + 11) + rm.locals ≤ R.locals) : CallB R s args "java/util/ArrayList" 73 yn_ArrS_newLength bc_ArrS_newLength 4 (some .int) (cd_ArrS_newLength :: bw_B) rm mc ms 3 ∧ (Cond.static yn_ArrS_newLength).before args s = true := va_cwS 3 ht (bw_app (bw_3w mw_641 mw_642 mw_15) (bw_in mc_ArrS_newLength)) rfl hrc hrs (by decide +kernel) hR
theorem cw_AL_79 {R : Room} {s : State} {args : Array Value} {c0 : Cond} {rm : Room} {mc ms : Nat} (ht : ∀ w ∈ c0 :: bw_B, w.before args s = true) (hrc : rm.cells = mc) (hrs : rm.slots = ms) (hR : rm.frames + 1 ≤ R.frames ∧ 8 + (2 + 11) + rm.locals ≤ R.locals) : CallB R s args "java/util/ArrayList" 79 yn_Math_max bc_Math_max 2 (some .int) (cd_Math_max :: bw_B) rm mc ms 2 ∧ (Cond.static yn_Math_max).before args s = true := va_cwS 2 ht (bw_app (bw_3w mw_680 mw_645 mw_16) (bw_in mc_Math_max)) rfl hrc hrs (by decide +kernel) hR
theorem cw_AL_118 {R : Room} {s : State} {args : Array Value} {c0 : Cond} {rm : Room} {mc ms : Nat} (ht : ∀ w ∈ c0 :: bw_B, w.before args s = true) (hrc : rm.cells = mc) (hrs : rm.slots = ms) (hR : rm.frames + 1 ≤ R.frames ∧ 8 + (2 + 11) + rm.locals ≤ R.locals) : CallB R s args "java/util/ArrayList" 118 yn_Objs_checkIndex bc_Objs_checkIndex 2 (some .int) (cd_Objs_checkIndex :: bw_B) rm mc ms 2 ∧ (Cond.static yn_Objs_checkIndex).before args s = true := va_cwS 2 ht (bw_app (bw_3w mw_695 mw_696 mw_19) (bw_in mc_Objs_checkIndex)) rfl hrc hrs (by decide +kernel) hR
theorem cw_AL_123 {R : Room} {s : State} {args : Array Value} {c0 : Cond} {rm : Room} {mc ms : Nat} (ht : ∀ w ∈ c0 :: bw_B, w.before args s = true) (hrc : rm.cells = mc) (hrs : rm.slots = ms) (hR : rm.frames + 1 ≤ R.frames ∧ 8 + (2 + 11) + rm.locals ≤ R.locals) : CallW R s args "java/util/ArrayList" "java/util/ArrayList" 123 yn_AL_elementData bc_AL_elementData 2 (some (.object "java/lang/Object")) (cd_AL_elementData :: bw_B) rm mc ms 1 := cwV 1 ht (bw_app (bw_4w mw_701 mw_702 mw_703 mw_8) (bw_in mc_AL_elementData)) rfl hrc hrs (by decide +kernel) hR
theorem cw_AL_129 {R : Room} {s : State} {args : Array Value} {c0 : Cond} {rm : Room} {mc ms : Nat} (ht : ∀ w ∈ c0 :: bw_B, w.before args s = true) (hrc : rm.cells = mc) (hrs : rm.slots = ms) (hR : rm.frames + 1 ≤ R.frames ∧ 8 + (1 + 11) + rm.locals ≤ R.locals) : CallW R s args "java/util/ArrayList" "java/util/ArrayList" 129 yn_AL_grow bc_AL_grow 1 (some (.array (.object "java/lang/Object"))) (cd_AL_grow :: bw_B) rm mc ms 0 := cwV 0 ht (bw_app (bw_4w mw_633 mw_635 ms_25 mw_8) (bw_in mc_AL_grow)) rfl hrc hrs (by decide +kernel) hR
theorem cw_AL_131 {R : Room} {s : State} {args : Array Value} {c0 : Cond} {rm : Room} {mc ms : Nat} (ht : ∀ w ∈ c0 :: bw_B, w.before args s = true) (hrc : rm.cells = mc) (hrs : rm.slots = ms) (hR : rm.frames + 1 ≤ R.frames ∧ 8 + (4 + 11) + rm.locals ≤ R.locals) : CallW R s args "java/util/ArrayList" "java/util/ArrayList" 131 yn_AL_add2 bc_AL_add2 4 none (cd_AL_add2 :: bw_B) rm mc ms 3 := cwV 3 ht (bw_app (bw_4w mw_629 mw_631 ms_24 mw_8) (bw_in mc_AL_add2)) rfl hrc hrs (by decide +kernel) hR
theorem cw_AL_144 {R : Room} {s : State} {args : Array Value} {c0 : Cond} {rm : Room} {mc ms : Nat} (ht : ∀ w ∈ c0 :: bw_B, w.before args s = true) (hrc : rm.cells = mc) (hrs : rm.slots = ms) (hR : rm.frames + 1 ≤ R.frames ∧ 8 + (4 + 11) + rm.locals ≤ R.locals) : CallW R s args "java/util/ArrayList" "java/util/ArrayList" 144 yn_AL_fastRemove bc_AL_fastRemove 4 none (cd_AL_fastRemove :: bw_B) rm mc ms 2 := cwV 2 ht (bw_app (bw_4w mw_713 mw_715 ms_27 mw_8) (bw_in mc_AL_fastRemove)) rfl hrc hrs (by decide +kernel) hR
theorem cw_Arrs_300 {R : Room} {s : State} {args : Array Value} {c0 : Cond} {rm : Room} {mc ms : Nat} (ht : ∀ w ∈ c0 :: bw_B, w.before args s = true) (hrc : rm.cells = mc) (hrs : rm.slots = ms) (hR : rm.frames + 1 ≤ R.frames ∧ 8 + (4 + 11) + rm.locals ≤ R.locals) : CallB R s args "java/util/Arrays" 300 yn_Arrs_copyOf2 bc_Arrs_copyOf2 4 (some (.array (.object "java/lang/Object"))) (cd_Arrs_copyOf2 :: bw_B) rm mc ms 3 ∧ (Cond.static yn_Arrs_copyOf2).before args s = true := va_cwS 3 ht (bw_app (bw_3w mw_668 mw_669 mw_17) (bw_in mc_Arrs_copyOf2)) rfl hrc hrs (by decide +kernel) hR
theorem cw_Arrs_304 {R : Room} {s : State} {args : Array Value} {c0 : Cond} {rm : Room} {mc ms : Nat} (ht : ∀ w ∈ c0 :: bw_B, w.before args s = true) (hrc : rm.cells = mc) (hrs : rm.slots = ms) (hR : rm.frames + 1 ≤ R.frames ∧ 8 + (2 + 11) + rm.locals ≤ R.locals) : CallB R s args "java/util/Arrays" 304 yn_Math_min bc_Math_min 2 (some .int) (cd_Math_min :: bw_B) rm mc ms 2 ∧ (Cond.static yn_Math_min).before args s = true := va_cwS 2 ht (bw_app (bw_3w mw_674 mw_675 mw_16) (bw_in mc_Math_min)) rfl hrc hrs (by decide +kernel) hR
theorem cw_Objs_105 {R : Room} {s : State} {args : Array Value} {c0 : Cond} {rm : Room} {mc ms : Nat} (ht : ∀ w ∈ c0 :: bw_B, w.before args s = true) (hrc : rm.cells = mc) (hrs : rm.slots = ms) (hR : rm.frames + 1 ≤ R.frames ∧ 8 + (3 + 11) + rm.locals ≤ R.locals) : CallB R s args "java/util/Objects" 105 yn_Prec_checkIndex bc_Prec_checkIndex 3 (some .int) (cd_Prec_checkIndex :: bw_B) rm mc ms 3 ∧ (Cond.static yn_Prec_checkIndex).before args s = true := va_cwS 3 ht (bw_app (bw_3w mw_698 mw_699 mw_20) (bw_in mc_Prec_checkIndex)) rfl hrc hrs (by decide +kernel) hR
theorem cw_ArrS_194 {R : Room} {s : State} {args : Array Value} {c0 : Cond} {rm : Room} {mc ms : Nat} (ht : ∀ w ∈ c0 :: bw_B, w.before args s = true) (hrc : rm.cells = mc) (hrs : rm.slots = ms) (hR : rm.frames + 1 ≤ R.frames ∧ 8 + (2 + 11) + rm.locals ≤ R.locals) : CallB R s args "jdk/internal/util/ArraysSupport" 194 yn_Math_max bc_Math_max 2 (some .int) (cd_Math_max :: bw_B) rm mc ms 2 ∧ (Cond.static yn_Math_max).before args s = true := va_cwS 2 ht (bw_app (bw_3w mw_644 mw_645 mw_16) (bw_in mc_Math_max)) rfl hrc hrs (by decide +kernel) hR
theorem cw_ArrS_201 {R : Room} {s : State} {args : Array Value} {c0 : Cond} {rm : Room} {mc ms : Nat} (ht : ∀ w ∈ c0 :: bw_B, w.before args s = true) (hrc : rm.cells = mc) (hrs : rm.slots = ms) (hR : rm.frames + 1 ≤ R.frames ∧ 8 + (3 + 11) + rm.locals ≤ R.locals) : CallB R s args "jdk/internal/util/ArraysSupport" 201 yn_ArrS_hugeLength bc_ArrS_hugeLength 3 (some .int) (cd_ArrS_hugeLength :: bw_B) rm mc ms 2 ∧ (Cond.static yn_ArrS_hugeLength).before args s = true := va_cwS 2 ht (bw_app (bw_3w mw_648 mw_649 mw_15) (bw_in mc_ArrS_hugeLength)) rfl hrc hrs (by decide +kernel) hR
