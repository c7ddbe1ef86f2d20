abbrev c_La_cell : ByteArray := method_2_code
abbrev y_La_cell : MethodName := ⟨"GaleNamesLaw", "cell", "([II)I"⟩
abbrev c_La_puts : ByteArray := method_3_code
abbrev y_La_puts : MethodName := ⟨"GaleNamesLaw", "puts", "(LGaleNames;I)Z"⟩
abbrev c_La_isAhead : ByteArray := method_4_code
abbrev y_La_isAhead : MethodName := ⟨"GaleNamesLaw", "isAhead", "(LGaleNames;II)Z"⟩
abbrev c_La_areNames : ByteArray := method_5_code
abbrev y_La_areNames : MethodName := ⟨"GaleNamesLaw", "areNames", "(LGaleNames;)Z"⟩
abbrev c_La_areLists : ByteArray := method_6_code
abbrev y_La_areLists : MethodName := ⟨"GaleNamesLaw", "areLists", "(LGaleNames;)Z"⟩
abbrev c_La_areSakes : ByteArray := method_7_code
abbrev y_La_areSakes : MethodName := ⟨"GaleNamesLaw", "areSakes", "(LGaleNames;)Z"⟩
abbrev c_La_acts : ByteArray := method_8_code
abbrev y_La_acts : MethodName := ⟨"GaleNamesLaw", "acts", "(LGaleNames;I)Z"⟩
abbrev c_La_isWritten : ByteArray := method_9_code
abbrev y_La_isWritten : MethodName := ⟨"GaleNamesLaw", "isWritten", "(LGaleNames;II)Z"⟩
theorem cl_La_10 : Cond.classLink "GaleNamesLaw" 10 "GaleNames" ∈ lw_g := lw_mg (List.mem_of_getElem? (i := 18) (by decide +kernel)) rfl
theorem ml_La_106 : Cond.methodLink "GaleNamesLaw" 106 y_Ga_init ∈ lw_g := lw_mg (List.mem_of_getElem? (i := 20) (by decide +kernel)) rfl
theorem ml_La_64 : Cond.methodLink "GaleNamesLaw" 64 y_Ga_fill ∈ lw_g := lw_mg (List.mem_of_getElem? (i := 161) (by decide +kernel)) rfl
theorem ml_La_70 : Cond.methodLink "GaleNamesLaw" 70 y_Ga_storm ∈ lw_g := lw_mg (List.mem_of_getElem? (i := 290) (by decide +kernel)) rfl
theorem ml_La_79 : Cond.methodLink "GaleNamesLaw" 79 y_Ga_endYear ∈ lw_g := lw_mg (List.mem_of_getElem? (i := 319) (by decide +kernel)) rfl
theorem ml_La_82 : Cond.methodLink "GaleNamesLaw" 82 y_Ga_namesake ∈ lw_g := lw_mg (List.mem_of_getElem? (i := 349) (by decide +kernel)) rfl
theorem ml_La_22 : Cond.methodLink "GaleNamesLaw" 22 y_Ga_count ∈ lw_g := lw_mg (List.mem_of_getElem? (i := 362) (by decide +kernel)) rfl
theorem ml_La_48 : Cond.methodLink "GaleNamesLaw" 48 y_Ga_next ∈ lw_g := lw_mg (List.mem_of_getElem? (i := 382) (by decide +kernel)) rfl
theorem ml_La_45 : Cond.methodLink "GaleNamesLaw" 45 y_Ga_left ∈ lw_g := lw_mg (List.mem_of_getElem? (i := 386) (by decide +kernel)) rfl
theorem ml_La_107 : Cond.methodLink "GaleNamesLaw" 107 y_Ga_undo ∈ lw_g := lw_mg (List.mem_of_getElem? (i := 394) (by decide +kernel)) rfl
theorem ml_La_127 : Cond.methodLink "GaleNamesLaw" 127 y_Ga_save ∈ lw_g := lw_mg (List.mem_of_getElem? (i := 403) (by decide +kernel)) rfl
theorem ml_La_110 : Cond.methodLink "GaleNamesLaw" 110 y_Ga_restore ∈ lw_g := lw_mg (List.mem_of_getElem? (i := 422) (by decide +kernel)) rfl
theorem ml_La_113 : Cond.methodLink "GaleNamesLaw" 113 y_La_cell ∈ lw_g := lw_mg (List.mem_of_getElem? (i := 427) (by decide +kernel)) rfl
theorem sm_La_cell : Cond.static y_La_cell ∈ lw_g := lw_mg (List.mem_of_getElem? (i := 428) (by decide +kernel)) rfl
theorem co_La_cell : Cond.code y_La_cell method_2_code 2 (Option.some Jvm.ClassFile.FieldType.int) ∈ lw_g := lw_mg (List.mem_of_getElem? (i := 429) (by decide +kernel)) rfl
theorem ml_La_130 : Cond.methodLink "GaleNamesLaw" 130 y_La_areNames ∈ lw_g := lw_mg (List.mem_of_getElem? (i := 432) (by decide +kernel)) rfl
theorem sm_La_areNames : Cond.static y_La_areNames ∈ lw_g := lw_mg (List.mem_of_getElem? (i := 433) (by decide +kernel)) rfl
theorem co_La_areNames : Cond.code y_La_areNames method_5_code 9 (Option.some Jvm.ClassFile.FieldType.boolean) ∈ lw_g := lw_mg (List.mem_of_getElem? (i := 434) (by decide +kernel)) rfl
theorem ml_La_26 : Cond.methodLink "GaleNamesLaw" 26 y_Ga_of ∈ lw_g := lw_mg (List.mem_of_getElem? (i := 435) (by decide +kernel)) rfl
theorem ml_La_29 : Cond.methodLink "GaleNamesLaw" 29 y_Ga_ranked ∈ lw_g := lw_mg (List.mem_of_getElem? (i := 459) (by decide +kernel)) rfl
theorem ml_La_15 : Cond.methodLink "GaleNamesLaw" 15 y_Ga_same ∈ lw_g := lw_mg (List.mem_of_getElem? (i := 467) (by decide +kernel)) rfl
theorem ml_La_19 : Cond.methodLink "GaleNamesLaw" 19 y_Ga_letter ∈ lw_g := lw_mg (List.mem_of_getElem? (i := 472) (by decide +kernel)) rfl
theorem ml_La_32 : Cond.methodLink "GaleNamesLaw" 32 y_La_isAhead ∈ lw_g := lw_mg (List.mem_of_getElem? (i := 480) (by decide +kernel)) rfl
theorem sm_La_isAhead : Cond.static y_La_isAhead ∈ lw_g := lw_mg (List.mem_of_getElem? (i := 481) (by decide +kernel)) rfl
theorem co_La_isAhead : Cond.code y_La_isAhead method_4_code 5 (Option.some Jvm.ClassFile.FieldType.boolean) ∈ lw_g := lw_mg (List.mem_of_getElem? (i := 482) (by decide +kernel)) rfl
theorem ml_La_120 : Cond.methodLink "GaleNamesLaw" 120 y_La_areLists ∈ lw_g := lw_mg (List.mem_of_getElem? (i := 483) (by decide +kernel)) rfl
theorem sm_La_areLists : Cond.static y_La_areLists ∈ lw_g := lw_mg (List.mem_of_getElem? (i := 484) (by decide +kernel)) rfl
theorem co_La_areLists : Cond.code y_La_areLists method_6_code 12 (Option.some Jvm.ClassFile.FieldType.boolean) ∈ lw_g := lw_mg (List.mem_of_getElem? (i := 485) (by decide +kernel)) rfl
theorem ml_La_38 : Cond.methodLink "GaleNamesLaw" 38 y_Ga_listed ∈ lw_g := lw_mg (List.mem_of_getElem? (i := 486) (by decide +kernel)) rfl
theorem ml_La_42 : Cond.methodLink "GaleNamesLaw" 42 y_Ga_ofStorm ∈ lw_g := lw_mg (List.mem_of_getElem? (i := 490) (by decide +kernel)) rfl
theorem ml_La_124 : Cond.methodLink "GaleNamesLaw" 124 y_La_areSakes ∈ lw_g := lw_mg (List.mem_of_getElem? (i := 495) (by decide +kernel)) rfl
theorem sm_La_areSakes : Cond.static y_La_areSakes ∈ lw_g := lw_mg (List.mem_of_getElem? (i := 496) (by decide +kernel)) rfl
theorem co_La_areSakes : Cond.code y_La_areSakes method_7_code 6 (Option.some Jvm.ClassFile.FieldType.boolean) ∈ lw_g := lw_mg (List.mem_of_getElem? (i := 497) (by decide +kernel)) rfl
theorem ml_La_51 : Cond.methodLink "GaleNamesLaw" 51 y_Ga_ofNamesake ∈ lw_g := lw_mg (List.mem_of_getElem? (i := 498) (by decide +kernel)) rfl
theorem ml_La_117 : Cond.methodLink "GaleNamesLaw" 117 y_La_acts ∈ lw_g := lw_mg (List.mem_of_getElem? (i := 502) (by decide +kernel)) rfl
theorem sm_La_acts : Cond.static y_La_acts ∈ lw_g := lw_mg (List.mem_of_getElem? (i := 503) (by decide +kernel)) rfl
set_option maxRecDepth 100000 in
set_option maxHeartbeats 4000000 in
theorem co_La_acts : Cond.code y_La_acts method_8_code 30 (Option.some Jvm.ClassFile.FieldType.boolean) ∈ lw_g := lw_mg (List.mem_of_getElem? (i := 504) (show lw_tbl[504]? = _ from rfl)) rfl
theorem ml_La_54 : Cond.methodLink "GaleNamesLaw" 54 y_Ga_wipe ∈ lw_g := lw_mg (List.mem_of_getElem? (i := 505) (by decide +kernel)) rfl
theorem ml_La_58 : Cond.methodLink "GaleNamesLaw" 58 y_La_puts ∈ lw_g := lw_mg (List.mem_of_getElem? (i := 509) (by decide +kernel)) rfl
theorem sm_La_puts : Cond.static y_La_puts ∈ lw_g := lw_mg (List.mem_of_getElem? (i := 510) (by decide +kernel)) rfl
theorem co_La_puts : Cond.code y_La_puts method_3_code 4 (Option.some Jvm.ClassFile.FieldType.boolean) ∈ lw_g := lw_mg (List.mem_of_getElem? (i := 511) (by decide +kernel)) rfl
theorem ml_La_9 : Cond.methodLink "GaleNamesLaw" 9 y_Ga_put ∈ lw_g := lw_mg (List.mem_of_getElem? (i := 512) (by decide +kernel)) rfl
theorem kl_La_62 : Cond.constantLong "GaleNamesLaw" 62 44 ∈ lw_g := lw_mg (List.mem_of_getElem? (i := 522) (by decide +kernel)) rfl
theorem ml_La_67 : Cond.methodLink "GaleNamesLaw" 67 y_Ga_strike ∈ lw_g := lw_mg (List.mem_of_getElem? (i := 523) (by decide +kernel)) rfl
theorem ml_La_73 : Cond.methodLink "GaleNamesLaw" 73 y_Ga_harm ∈ lw_g := lw_mg (List.mem_of_getElem? (i := 528) (by decide +kernel)) rfl
theorem ml_La_76 : Cond.methodLink "GaleNamesLaw" 76 y_Ga_ifRetired ∈ lw_g := lw_mg (List.mem_of_getElem? (i := 533) (by decide +kernel)) rfl
theorem ml_La_85 : Cond.methodLink "GaleNamesLaw" 85 y_Ga_apologise ∈ lw_g := lw_mg (List.mem_of_getElem? (i := 541) (by decide +kernel)) rfl
theorem ml_La_88 : Cond.methodLink "GaleNamesLaw" 88 y_Ga_set ∈ lw_g := lw_mg (List.mem_of_getElem? (i := 545) (by decide +kernel)) rfl
theorem ml_La_133 : Cond.methodLink "GaleNamesLaw" 133 y_La_isWritten ∈ lw_g := lw_mg (List.mem_of_getElem? (i := 550) (by decide +kernel)) rfl
theorem sm_La_isWritten : Cond.static y_La_isWritten ∈ lw_g := lw_mg (List.mem_of_getElem? (i := 551) (by decide +kernel)) rfl
theorem co_La_isWritten : Cond.code y_La_isWritten method_9_code 9 (Option.some Jvm.ClassFile.FieldType.boolean) ∈ lw_g := lw_mg (List.mem_of_getElem? (i := 552) (by decide +kernel)) rfl
theorem ml_La_91 : Cond.methodLink "GaleNamesLaw" 91 y_Ga_write ∈ lw_g := lw_mg (List.mem_of_getElem? (i := 553) (by decide +kernel)) rfl
theorem ml_La_94 : Cond.methodLink "GaleNamesLaw" 94 y_Ga_sign ∈ lw_g := lw_mg (List.mem_of_getElem? (i := 564) (by decide +kernel)) rfl
theorem ml_La_97 : Cond.methodLink "GaleNamesLaw" 97 y_Ga_find ∈ lw_g := lw_mg (List.mem_of_getElem? (i := 568) (by decide +kernel)) rfl
theorem ml_La_100 : Cond.methodLink "GaleNamesLaw" 100 y_Ga_beginning ∈ lw_g := lw_mg (List.mem_of_getElem? (i := 573) (by decide +kernel)) rfl
theorem ml_La_103 : Cond.methodLink "GaleNamesLaw" 103 y_Ga_fault ∈ lw_g := lw_mg (List.mem_of_getElem? (i := 583) (by decide +kernel)) rfl
theorem kc_La_7 : Cond.constant "GaleNamesLaw" 7 15485959 ∈ lw_g := lw_mg (List.mem_of_getElem? (i := 430) (by decide +kernel)) rfl
theorem kc_La_8 : Cond.constant "GaleNamesLaw" 8 2147483647 ∈ lw_g := lw_mg (List.mem_of_getElem? (i := 431) (by decide +kernel)) rfl
theorem gc_La_cell : gCal y_La_cell 2 := ⟨by decide +kernel, by decide +kernel, by decide +kernel⟩
theorem gc_La_puts : gCal y_La_puts 2 := ⟨by decide +kernel, by decide +kernel, by decide +kernel⟩
theorem gc_La_isAhead : gCal y_La_isAhead 3 := ⟨by decide +kernel, by decide +kernel, by decide +kernel⟩
theorem gc_La_areNames : gCal y_La_areNames 1 := ⟨by decide +kernel, by decide +kernel, by decide +kernel⟩
theorem gc_La_areLists : gCal y_La_areLists 1 := ⟨by decide +kernel, by decide +kernel, by decide +kernel⟩
theorem gc_La_areSakes : gCal y_La_areSakes 1 := ⟨by decide +kernel, by decide +kernel, by decide +kernel⟩
theorem gc_La_acts : gCal y_La_acts 2 := ⟨by decide +kernel, by decide +kernel, by decide +kernel⟩
theorem gc_La_isWritten : gCal y_La_isWritten 3 := ⟨by decide +kernel, by decide +kernel, by decide +kernel⟩
