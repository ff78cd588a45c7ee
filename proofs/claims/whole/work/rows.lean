section
-- ===== PART A: goes FIRST, ahead of the names: the tables' words, and 'selects' of the private methods out of them =====
/-- a private method of a class that the tables say can be made, by its rows of tables_1 -/
def lw_okq (q : MethodName × Nat) : Prop := (q.1.cls ≠ "java/lang/invoke/MethodHandle" ∧ q.1.cls ≠ "java/lang/invoke/VarHandle") ∧ Cond.instantiable q.1.cls q.2 ∈ tables_1 ∧ Cond.privateMethod q.1 ∈ tables_1 ∧ Cond.instanceMethod q.1 ∈ tables_1
theorem lw_p0 : lw_okq (⟨"UnguessedRound$Nights", "add", "(I)Z"⟩, 8) := ⟨⟨by decide +kernel, by decide +kernel⟩, List.mem_of_getElem? (i := 46) (by decide +kernel), List.mem_of_getElem? (i := 238) (by decide +kernel), List.mem_of_getElem? (i := 239) (by decide +kernel)⟩
theorem lw_p1 : lw_okq (⟨"UnguessedRound$Nights", "reread", "()V"⟩, 8) := ⟨⟨by decide +kernel, by decide +kernel⟩, List.mem_of_getElem? (i := 46) (by decide +kernel), List.mem_of_getElem? (i := 245) (by decide +kernel), List.mem_of_getElem? (i := 246) (by decide +kernel)⟩
theorem lw_p2 : lw_okq (⟨"UnguessedRound$Nights", "goesOnWith", "(I)Z"⟩, 8) := ⟨⟨by decide +kernel, by decide +kernel⟩, List.mem_of_getElem? (i := 46) (by decide +kernel), List.mem_of_getElem? (i := 255) (by decide +kernel), List.mem_of_getElem? (i := 256) (by decide +kernel)⟩
theorem lw_p3 : lw_okq (⟨"UnguessedRound$Nights", "empty", "()I"⟩, 8) := ⟨⟨by decide +kernel, by decide +kernel⟩, List.mem_of_getElem? (i := 46) (by decide +kernel), List.mem_of_getElem? (i := 266) (by decide +kernel), List.mem_of_getElem? (i := 267) (by decide +kernel)⟩
theorem lw_p4 : lw_okq (⟨"UnguessedRound$Harbour", "changeWorth", "(II)I"⟩, 4) := ⟨⟨by decide +kernel, by decide +kernel⟩, List.mem_of_getElem? (i := 21) (by decide +kernel), List.mem_of_getElem? (i := 282) (by decide +kernel), List.mem_of_getElem? (i := 283) (by decide +kernel)⟩
theorem lw_p5 : lw_okq (⟨"UnguessedRound$Harbour", "worthOf", "(I)I"⟩, 4) := ⟨⟨by decide +kernel, by decide +kernel⟩, List.mem_of_getElem? (i := 21) (by decide +kernel), List.mem_of_getElem? (i := 286) (by decide +kernel), List.mem_of_getElem? (i := 287) (by decide +kernel)⟩
theorem lw_p6 : lw_okq (⟨"UnguessedRound$Harbour", "changeWay", "(III)I"⟩, 4) := ⟨⟨by decide +kernel, by decide +kernel⟩, List.mem_of_getElem? (i := 21) (by decide +kernel), List.mem_of_getElem? (i := 295) (by decide +kernel), List.mem_of_getElem? (i := 296) (by decide +kernel)⟩
theorem lw_p7 : lw_okq (⟨"UnguessedRound$Harbour", "wayOf", "(II)I"⟩, 4) := ⟨⟨by decide +kernel, by decide +kernel⟩, List.mem_of_getElem? (i := 21) (by decide +kernel), List.mem_of_getElem? (i := 299) (by decide +kernel), List.mem_of_getElem? (i := 300) (by decide +kernel)⟩
theorem lw_p8 : lw_okq (⟨"UnguessedRound$Harbour", "changeLook", "(I)I"⟩, 4) := ⟨⟨by decide +kernel, by decide +kernel⟩, List.mem_of_getElem? (i := 21) (by decide +kernel), List.mem_of_getElem? (i := 307) (by decide +kernel), List.mem_of_getElem? (i := 308) (by decide +kernel)⟩
theorem lw_p9 : lw_okq (⟨"UnguessedRound$Harbour", "changeNeed", "(I)I"⟩, 4) := ⟨⟨by decide +kernel, by decide +kernel⟩, List.mem_of_getElem? (i := 21) (by decide +kernel), List.mem_of_getElem? (i := 311) (by decide +kernel), List.mem_of_getElem? (i := 312) (by decide +kernel)⟩
theorem lw_p10 : lw_okq (⟨"UnguessedRound$Sheets", "isLost", "(I)Z"⟩, 5) := ⟨⟨by decide +kernel, by decide +kernel⟩, List.mem_of_getElem? (i := 186) (by decide +kernel), List.mem_of_getElem? (i := 322) (by decide +kernel), List.mem_of_getElem? (i := 323) (by decide +kernel)⟩
theorem lw_p11 : lw_okq (⟨"UnguessedRound$Sheets", "formOf", "(I)I"⟩, 5) := ⟨⟨by decide +kernel, by decide +kernel⟩, List.mem_of_getElem? (i := 186) (by decide +kernel), List.mem_of_getElem? (i := 326) (by decide +kernel), List.mem_of_getElem? (i := 327) (by decide +kernel)⟩
theorem lw_p12 : lw_okq (⟨"UnguessedRound$Sheets", "found", "(I)I"⟩, 5) := ⟨⟨by decide +kernel, by decide +kernel⟩, List.mem_of_getElem? (i := 186) (by decide +kernel), List.mem_of_getElem? (i := 331) (by decide +kernel), List.mem_of_getElem? (i := 332) (by decide +kernel)⟩
theorem lw_p13 : lw_okq (⟨"UnguessedRound$Sheets", "sizeOf", "(I)I"⟩, 5) := ⟨⟨by decide +kernel, by decide +kernel⟩, List.mem_of_getElem? (i := 186) (by decide +kernel), List.mem_of_getElem? (i := 335) (by decide +kernel), List.mem_of_getElem? (i := 336) (by decide +kernel)⟩
theorem lw_p14 : lw_okq (⟨"UnguessedRound$Sheets", "itemOf", "(II)I"⟩, 5) := ⟨⟨by decide +kernel, by decide +kernel⟩, List.mem_of_getElem? (i := 186) (by decide +kernel), List.mem_of_getElem? (i := 339) (by decide +kernel), List.mem_of_getElem? (i := 340) (by decide +kernel)⟩
theorem lw_p15 : lw_okq (⟨"UnguessedRound$Nights", "isTold", "(I)Z"⟩, 8) := ⟨⟨by decide +kernel, by decide +kernel⟩, List.mem_of_getElem? (i := 46) (by decide +kernel), List.mem_of_getElem? (i := 347) (by decide +kernel), List.mem_of_getElem? (i := 348) (by decide +kernel)⟩
def lw_privs_1 : List (MethodName × Nat) := [(⟨"UnguessedRound$Nights", "add", "(I)Z"⟩, 8), (⟨"UnguessedRound$Nights", "reread", "()V"⟩, 8), (⟨"UnguessedRound$Nights", "goesOnWith", "(I)Z"⟩, 8), (⟨"UnguessedRound$Nights", "empty", "()I"⟩, 8), (⟨"UnguessedRound$Harbour", "changeWorth", "(II)I"⟩, 4), (⟨"UnguessedRound$Harbour", "worthOf", "(I)I"⟩, 4), (⟨"UnguessedRound$Harbour", "changeWay", "(III)I"⟩, 4), (⟨"UnguessedRound$Harbour", "wayOf", "(II)I"⟩, 4), (⟨"UnguessedRound$Harbour", "changeLook", "(I)I"⟩, 4), (⟨"UnguessedRound$Harbour", "changeNeed", "(I)I"⟩, 4), (⟨"UnguessedRound$Sheets", "isLost", "(I)Z"⟩, 5), (⟨"UnguessedRound$Sheets", "formOf", "(I)I"⟩, 5), (⟨"UnguessedRound$Sheets", "found", "(I)I"⟩, 5), (⟨"UnguessedRound$Sheets", "sizeOf", "(I)I"⟩, 5), (⟨"UnguessedRound$Sheets", "itemOf", "(II)I"⟩, 5), (⟨"UnguessedRound$Nights", "isTold", "(I)Z"⟩, 8)]
theorem lw_r1 : ∀ q ∈ lw_privs_1, lw_okq q := List.forall_mem_cons.mpr ⟨lw_p0, List.forall_mem_cons.mpr ⟨lw_p1, List.forall_mem_cons.mpr ⟨lw_p2, List.forall_mem_cons.mpr ⟨lw_p3, List.forall_mem_cons.mpr ⟨lw_p4, List.forall_mem_cons.mpr ⟨lw_p5, List.forall_mem_cons.mpr ⟨lw_p6, List.forall_mem_cons.mpr ⟨lw_p7, List.forall_mem_cons.mpr ⟨lw_p8, List.forall_mem_cons.mpr ⟨lw_p9, List.forall_mem_cons.mpr ⟨lw_p10, List.forall_mem_cons.mpr ⟨lw_p11, List.forall_mem_cons.mpr ⟨lw_p12, List.forall_mem_cons.mpr ⟨lw_p13, List.forall_mem_cons.mpr ⟨lw_p14, List.forall_mem_cons.mpr ⟨lw_p15, fun _ h => absurd h List.not_mem_nil⟩⟩⟩⟩⟩⟩⟩⟩⟩⟩⟩⟩⟩⟩⟩⟩
theorem lw_p16 : lw_okq (⟨"UnguessedRound$Nights", "shedOf", "(II)I"⟩, 8) := ⟨⟨by decide +kernel, by decide +kernel⟩, List.mem_of_getElem? (i := 46) (by decide +kernel), List.mem_of_getElem? (i := 351) (by decide +kernel), List.mem_of_getElem? (i := 352) (by decide +kernel)⟩
theorem lw_p17 : lw_okq (⟨"UnguessedRound$Watch", "shedIn", "(II)I"⟩, 2) := ⟨⟨by decide +kernel, by decide +kernel⟩, List.mem_of_getElem? (i := 82) (by decide +kernel), List.mem_of_getElem? (i := 359) (by decide +kernel), List.mem_of_getElem? (i := 360) (by decide +kernel)⟩
theorem lw_p18 : lw_okq (⟨"UnguessedRound$Nights", "lengthOf", "(I)I"⟩, 8) := ⟨⟨by decide +kernel, by decide +kernel⟩, List.mem_of_getElem? (i := 46) (by decide +kernel), List.mem_of_getElem? (i := 363) (by decide +kernel), List.mem_of_getElem? (i := 364) (by decide +kernel)⟩
theorem lw_p19 : lw_okq (⟨"UnguessedRound$Watch", "comesTo", "(II)I"⟩, 2) := ⟨⟨by decide +kernel, by decide +kernel⟩, List.mem_of_getElem? (i := 82) (by decide +kernel), List.mem_of_getElem? (i := 374) (by decide +kernel), List.mem_of_getElem? (i := 375) (by decide +kernel)⟩
theorem lw_p20 : lw_okq (⟨"UnguessedRound$Watch", "aloneFor", "(II)I"⟩, 2) := ⟨⟨by decide +kernel, by decide +kernel⟩, List.mem_of_getElem? (i := 82) (by decide +kernel), List.mem_of_getElem? (i := 382) (by decide +kernel), List.mem_of_getElem? (i := 383) (by decide +kernel)⟩
theorem lw_p21 : lw_okq (⟨"UnguessedRound$Watch", "aloneFrom", "(II)I"⟩, 2) := ⟨⟨by decide +kernel, by decide +kernel⟩, List.mem_of_getElem? (i := 82) (by decide +kernel), List.mem_of_getElem? (i := 390) (by decide +kernel), List.mem_of_getElem? (i := 391) (by decide +kernel)⟩
theorem lw_p22 : lw_okq (⟨"UnguessedRound$Thieves", "haul", "(III)I"⟩, 11) := ⟨⟨by decide +kernel, by decide +kernel⟩, List.mem_of_getElem? (i := 127) (by decide +kernel), List.mem_of_getElem? (i := 398) (by decide +kernel), List.mem_of_getElem? (i := 399) (by decide +kernel)⟩
theorem lw_p23 : lw_okq (⟨"UnguessedRound$Book", "nextBehind", "(III)LUnguessedRound$Fraction;"⟩, 4) := ⟨⟨by decide +kernel, by decide +kernel⟩, List.mem_of_getElem? (i := 95) (by decide +kernel), List.mem_of_getElem? (i := 411) (by decide +kernel), List.mem_of_getElem? (i := 412) (by decide +kernel)⟩
theorem lw_p24 : lw_okq (⟨"UnguessedRound$Book", "tell", "(I)V"⟩, 4) := ⟨⟨by decide +kernel, by decide +kernel⟩, List.mem_of_getElem? (i := 95) (by decide +kernel), List.mem_of_getElem? (i := 415) (by decide +kernel), List.mem_of_getElem? (i := 416) (by decide +kernel)⟩
theorem lw_p25 : lw_okq (⟨"UnguessedRound$Book", "go", "(II)V"⟩, 4) := ⟨⟨by decide +kernel, by decide +kernel⟩, List.mem_of_getElem? (i := 95) (by decide +kernel), List.mem_of_getElem? (i := 422) (by decide +kernel), List.mem_of_getElem? (i := 423) (by decide +kernel)⟩
theorem lw_p26 : lw_okq (⟨"UnguessedRound$Book", "gone", "(II)I"⟩, 4) := ⟨⟨by decide +kernel, by decide +kernel⟩, List.mem_of_getElem? (i := 95) (by decide +kernel), List.mem_of_getElem? (i := 426) (by decide +kernel), List.mem_of_getElem? (i := 427) (by decide +kernel)⟩
theorem lw_p27 : lw_okq (⟨"UnguessedRound$Book", "above", "(II)I"⟩, 4) := ⟨⟨by decide +kernel, by decide +kernel⟩, List.mem_of_getElem? (i := 95) (by decide +kernel), List.mem_of_getElem? (i := 431) (by decide +kernel), List.mem_of_getElem? (i := 432) (by decide +kernel)⟩
theorem lw_p28 : lw_okq (⟨"UnguessedRound$Book", "below", "(I)I"⟩, 4) := ⟨⟨by decide +kernel, by decide +kernel⟩, List.mem_of_getElem? (i := 95) (by decide +kernel), List.mem_of_getElem? (i := 435) (by decide +kernel), List.mem_of_getElem? (i := 436) (by decide +kernel)⟩
theorem lw_p29 : lw_okq (⟨"UnguessedRound$Fraction", "become", "(JJ)LUnguessedRound$Fraction;"⟩, 2) := ⟨⟨by decide +kernel, by decide +kernel⟩, List.mem_of_getElem? (i := 101) (by decide +kernel), List.mem_of_getElem? (i := 439) (by decide +kernel), List.mem_of_getElem? (i := 440) (by decide +kernel)⟩
theorem lw_p30 : lw_okq (⟨"UnguessedRound$Fraction", "part", "(I)J"⟩, 2) := ⟨⟨by decide +kernel, by decide +kernel⟩, List.mem_of_getElem? (i := 101) (by decide +kernel), List.mem_of_getElem? (i := 446) (by decide +kernel), List.mem_of_getElem? (i := 447) (by decide +kernel)⟩
theorem lw_p31 : lw_okq (⟨"UnguessedRound$Book", "likelihood", "(I)LUnguessedRound$Fraction;"⟩, 4) := ⟨⟨by decide +kernel, by decide +kernel⟩, List.mem_of_getElem? (i := 95) (by decide +kernel), List.mem_of_getElem? (i := 454) (by decide +kernel), List.mem_of_getElem? (i := 455) (by decide +kernel)⟩
def lw_privs_2 : List (MethodName × Nat) := [(⟨"UnguessedRound$Nights", "shedOf", "(II)I"⟩, 8), (⟨"UnguessedRound$Watch", "shedIn", "(II)I"⟩, 2), (⟨"UnguessedRound$Nights", "lengthOf", "(I)I"⟩, 8), (⟨"UnguessedRound$Watch", "comesTo", "(II)I"⟩, 2), (⟨"UnguessedRound$Watch", "aloneFor", "(II)I"⟩, 2), (⟨"UnguessedRound$Watch", "aloneFrom", "(II)I"⟩, 2), (⟨"UnguessedRound$Thieves", "haul", "(III)I"⟩, 11), (⟨"UnguessedRound$Book", "nextBehind", "(III)LUnguessedRound$Fraction;"⟩, 4), (⟨"UnguessedRound$Book", "tell", "(I)V"⟩, 4), (⟨"UnguessedRound$Book", "go", "(II)V"⟩, 4), (⟨"UnguessedRound$Book", "gone", "(II)I"⟩, 4), (⟨"UnguessedRound$Book", "above", "(II)I"⟩, 4), (⟨"UnguessedRound$Book", "below", "(I)I"⟩, 4), (⟨"UnguessedRound$Fraction", "become", "(JJ)LUnguessedRound$Fraction;"⟩, 2), (⟨"UnguessedRound$Fraction", "part", "(I)J"⟩, 2), (⟨"UnguessedRound$Book", "likelihood", "(I)LUnguessedRound$Fraction;"⟩, 4)]
theorem lw_r2 : ∀ q ∈ lw_privs_2, lw_okq q := List.forall_mem_cons.mpr ⟨lw_p16, List.forall_mem_cons.mpr ⟨lw_p17, List.forall_mem_cons.mpr ⟨lw_p18, List.forall_mem_cons.mpr ⟨lw_p19, List.forall_mem_cons.mpr ⟨lw_p20, List.forall_mem_cons.mpr ⟨lw_p21, List.forall_mem_cons.mpr ⟨lw_p22, List.forall_mem_cons.mpr ⟨lw_p23, List.forall_mem_cons.mpr ⟨lw_p24, List.forall_mem_cons.mpr ⟨lw_p25, List.forall_mem_cons.mpr ⟨lw_p26, List.forall_mem_cons.mpr ⟨lw_p27, List.forall_mem_cons.mpr ⟨lw_p28, List.forall_mem_cons.mpr ⟨lw_p29, List.forall_mem_cons.mpr ⟨lw_p30, List.forall_mem_cons.mpr ⟨lw_p31, fun _ h => absurd h List.not_mem_nil⟩⟩⟩⟩⟩⟩⟩⟩⟩⟩⟩⟩⟩⟩⟩⟩
theorem lw_p32 : lw_okq (⟨"UnguessedRound$Fraction", "multiply", "(JJ)V"⟩, 2) := ⟨⟨by decide +kernel, by decide +kernel⟩, List.mem_of_getElem? (i := 101) (by decide +kernel), List.mem_of_getElem? (i := 458) (by decide +kernel), List.mem_of_getElem? (i := 459) (by decide +kernel)⟩
theorem lw_p33 : lw_okq (⟨"UnguessedRound$Book", "findEndings", "()V"⟩, 4) := ⟨⟨by decide +kernel, by decide +kernel⟩, List.mem_of_getElem? (i := 95) (by decide +kernel), List.mem_of_getElem? (i := 467) (by decide +kernel), List.mem_of_getElem? (i := 468) (by decide +kernel)⟩
theorem lw_p34 : lw_okq (⟨"UnguessedRound$Book", "endingsBehind", "(II)I"⟩, 4) := ⟨⟨by decide +kernel, by decide +kernel⟩, List.mem_of_getElem? (i := 95) (by decide +kernel), List.mem_of_getElem? (i := 471) (by decide +kernel), List.mem_of_getElem? (i := 472) (by decide +kernel)⟩
theorem lw_p35 : lw_okq (⟨"UnguessedRound$Book", "endingsBy", "(III)I"⟩, 4) := ⟨⟨by decide +kernel, by decide +kernel⟩, List.mem_of_getElem? (i := 95) (by decide +kernel), List.mem_of_getElem? (i := 475) (by decide +kernel), List.mem_of_getElem? (i := 476) (by decide +kernel)⟩
theorem lw_p36 : lw_okq (⟨"UnguessedRound$Book", "leastNewRow", "(I)I"⟩, 4) := ⟨⟨by decide +kernel, by decide +kernel⟩, List.mem_of_getElem? (i := 95) (by decide +kernel), List.mem_of_getElem? (i := 481) (by decide +kernel), List.mem_of_getElem? (i := 482) (by decide +kernel)⟩
theorem lw_p37 : lw_okq (⟨"UnguessedRound$Book", "leastOn", "(II)I"⟩, 4) := ⟨⟨by decide +kernel, by decide +kernel⟩, List.mem_of_getElem? (i := 95) (by decide +kernel), List.mem_of_getElem? (i := 485) (by decide +kernel), List.mem_of_getElem? (i := 486) (by decide +kernel)⟩
theorem lw_p38 : lw_okq (⟨"UnguessedRound", "isLot", "(III)Z"⟩, 7) := ⟨⟨by decide +kernel, by decide +kernel⟩, List.mem_of_getElem? (i := 13) (by decide +kernel), List.mem_of_getElem? (i := 493) (by decide +kernel), List.mem_of_getElem? (i := 494) (by decide +kernel)⟩
theorem lw_p39 : lw_okq (⟨"UnguessedRound$Thieves", "seek", "(IIIIII)V"⟩, 11) := ⟨⟨by decide +kernel, by decide +kernel⟩, List.mem_of_getElem? (i := 127) (by decide +kernel), List.mem_of_getElem? (i := 500) (by decide +kernel), List.mem_of_getElem? (i := 501) (by decide +kernel)⟩
theorem lw_p40 : lw_okq (⟨"UnguessedRound$Thieves", "take", "(III)V"⟩, 11) := ⟨⟨by decide +kernel, by decide +kernel⟩, List.mem_of_getElem? (i := 127) (by decide +kernel), List.mem_of_getElem? (i := 506) (by decide +kernel), List.mem_of_getElem? (i := 507) (by decide +kernel)⟩
theorem lw_p41 : lw_okq (⟨"UnguessedRound$Thieves", "part", "(I)I"⟩, 11) := ⟨⟨by decide +kernel, by decide +kernel⟩, List.mem_of_getElem? (i := 127) (by decide +kernel), List.mem_of_getElem? (i := 510) (by decide +kernel), List.mem_of_getElem? (i := 511) (by decide +kernel)⟩
theorem lw_p42 : lw_okq (⟨"UnguessedRound$Thieves", "leastLot", "(II)LUnguessedRound$Fraction;"⟩, 11) := ⟨⟨by decide +kernel, by decide +kernel⟩, List.mem_of_getElem? (i := 127) (by decide +kernel), List.mem_of_getElem? (i := 522) (by decide +kernel), List.mem_of_getElem? (i := 523) (by decide +kernel)⟩
theorem lw_p43 : lw_okq (⟨"UnguessedRound$Thieves", "weigh", "(II)V"⟩, 11) := ⟨⟨by decide +kernel, by decide +kernel⟩, List.mem_of_getElem? (i := 127) (by decide +kernel), List.mem_of_getElem? (i := 526) (by decide +kernel), List.mem_of_getElem? (i := 527) (by decide +kernel)⟩
theorem lw_p44 : lw_okq (⟨"UnguessedRound$Thieves", "sort", "(II)V"⟩, 11) := ⟨⟨by decide +kernel, by decide +kernel⟩, List.mem_of_getElem? (i := 127) (by decide +kernel), List.mem_of_getElem? (i := 530) (by decide +kernel), List.mem_of_getElem? (i := 531) (by decide +kernel)⟩
theorem lw_p45 : lw_okq (⟨"UnguessedRound$Thieves", "meetAboveBoth", "()Z"⟩, 11) := ⟨⟨by decide +kernel, by decide +kernel⟩, List.mem_of_getElem? (i := 127) (by decide +kernel), List.mem_of_getElem? (i := 535) (by decide +kernel), List.mem_of_getElem? (i := 536) (by decide +kernel)⟩
theorem lw_p46 : lw_okq (⟨"UnguessedRound$Thieves", "leastMean", "(II)LUnguessedRound$Fraction;"⟩, 11) := ⟨⟨by decide +kernel, by decide +kernel⟩, List.mem_of_getElem? (i := 127) (by decide +kernel), List.mem_of_getElem? (i := 540) (by decide +kernel), List.mem_of_getElem? (i := 541) (by decide +kernel)⟩
theorem lw_p47 : lw_okq (⟨"UnguessedRound$Thieves", "learnBy", "(III)V"⟩, 11) := ⟨⟨by decide +kernel, by decide +kernel⟩, List.mem_of_getElem? (i := 127) (by decide +kernel), List.mem_of_getElem? (i := 552) (by decide +kernel), List.mem_of_getElem? (i := 553) (by decide +kernel)⟩
def lw_privs_3 : List (MethodName × Nat) := [(⟨"UnguessedRound$Fraction", "multiply", "(JJ)V"⟩, 2), (⟨"UnguessedRound$Book", "findEndings", "()V"⟩, 4), (⟨"UnguessedRound$Book", "endingsBehind", "(II)I"⟩, 4), (⟨"UnguessedRound$Book", "endingsBy", "(III)I"⟩, 4), (⟨"UnguessedRound$Book", "leastNewRow", "(I)I"⟩, 4), (⟨"UnguessedRound$Book", "leastOn", "(II)I"⟩, 4), (⟨"UnguessedRound", "isLot", "(III)Z"⟩, 7), (⟨"UnguessedRound$Thieves", "seek", "(IIIIII)V"⟩, 11), (⟨"UnguessedRound$Thieves", "take", "(III)V"⟩, 11), (⟨"UnguessedRound$Thieves", "part", "(I)I"⟩, 11), (⟨"UnguessedRound$Thieves", "leastLot", "(II)LUnguessedRound$Fraction;"⟩, 11), (⟨"UnguessedRound$Thieves", "weigh", "(II)V"⟩, 11), (⟨"UnguessedRound$Thieves", "sort", "(II)V"⟩, 11), (⟨"UnguessedRound$Thieves", "meetAboveBoth", "()Z"⟩, 11), (⟨"UnguessedRound$Thieves", "leastMean", "(II)LUnguessedRound$Fraction;"⟩, 11), (⟨"UnguessedRound$Thieves", "learnBy", "(III)V"⟩, 11)]
theorem lw_r3 : ∀ q ∈ lw_privs_3, lw_okq q := List.forall_mem_cons.mpr ⟨lw_p32, List.forall_mem_cons.mpr ⟨lw_p33, List.forall_mem_cons.mpr ⟨lw_p34, List.forall_mem_cons.mpr ⟨lw_p35, List.forall_mem_cons.mpr ⟨lw_p36, List.forall_mem_cons.mpr ⟨lw_p37, List.forall_mem_cons.mpr ⟨lw_p38, List.forall_mem_cons.mpr ⟨lw_p39, List.forall_mem_cons.mpr ⟨lw_p40, List.forall_mem_cons.mpr ⟨lw_p41, List.forall_mem_cons.mpr ⟨lw_p42, List.forall_mem_cons.mpr ⟨lw_p43, List.forall_mem_cons.mpr ⟨lw_p44, List.forall_mem_cons.mpr ⟨lw_p45, List.forall_mem_cons.mpr ⟨lw_p46, List.forall_mem_cons.mpr ⟨lw_p47, fun _ h => absurd h List.not_mem_nil⟩⟩⟩⟩⟩⟩⟩⟩⟩⟩⟩⟩⟩⟩⟩⟩
theorem lw_p48 : lw_okq (⟨"UnguessedRound$Dice", "alike", "(I)I"⟩, 2) := ⟨⟨by decide +kernel, by decide +kernel⟩, List.mem_of_getElem? (i := 171) (by decide +kernel), List.mem_of_getElem? (i := 561) (by decide +kernel), List.mem_of_getElem? (i := 562) (by decide +kernel)⟩
theorem lw_p49 : lw_okq (⟨"UnguessedRound$Nights", "same", "(II)Z"⟩, 8) := ⟨⟨by decide +kernel, by decide +kernel⟩, List.mem_of_getElem? (i := 46) (by decide +kernel), List.mem_of_getElem? (i := 565) (by decide +kernel), List.mem_of_getElem? (i := 566) (by decide +kernel)⟩
theorem lw_p50 : lw_okq (⟨"UnguessedRound$Dice", "chance", "(II)LUnguessedRound$Fraction;"⟩, 2) := ⟨⟨by decide +kernel, by decide +kernel⟩, List.mem_of_getElem? (i := 171) (by decide +kernel), List.mem_of_getElem? (i := 570) (by decide +kernel), List.mem_of_getElem? (i := 571) (by decide +kernel)⟩
theorem lw_p51 : lw_okq (⟨"UnguessedRound$Dice", "fittingSeeds", "()I"⟩, 2) := ⟨⟨by decide +kernel, by decide +kernel⟩, List.mem_of_getElem? (i := 171) (by decide +kernel), List.mem_of_getElem? (i := 582) (by decide +kernel), List.mem_of_getElem? (i := 583) (by decide +kernel)⟩
theorem lw_p52 : lw_okq (⟨"UnguessedRound$Dice", "fits", "(I)Z"⟩, 2) := ⟨⟨by decide +kernel, by decide +kernel⟩, List.mem_of_getElem? (i := 171) (by decide +kernel), List.mem_of_getElem? (i := 586) (by decide +kernel), List.mem_of_getElem? (i := 587) (by decide +kernel)⟩
theorem lw_p53 : lw_okq (⟨"UnguessedRound$Dice", "leastSeed", "()I"⟩, 2) := ⟨⟨by decide +kernel, by decide +kernel⟩, List.mem_of_getElem? (i := 171) (by decide +kernel), List.mem_of_getElem? (i := 591) (by decide +kernel), List.mem_of_getElem? (i := 592) (by decide +kernel)⟩
theorem lw_p54 : lw_okq (⟨"UnguessedRound$Sheets", "make", "(III)V"⟩, 5) := ⟨⟨by decide +kernel, by decide +kernel⟩, List.mem_of_getElem? (i := 186) (by decide +kernel), List.mem_of_getElem? (i := 602) (by decide +kernel), List.mem_of_getElem? (i := 603) (by decide +kernel)⟩
theorem lw_p55 : lw_okq (⟨"UnguessedRound$Sheets", "change", "(III)V"⟩, 5) := ⟨⟨by decide +kernel, by decide +kernel⟩, List.mem_of_getElem? (i := 186) (by decide +kernel), List.mem_of_getElem? (i := 607) (by decide +kernel), List.mem_of_getElem? (i := 608) (by decide +kernel)⟩
theorem lw_p56 : lw_okq (⟨"UnguessedRound$Sheets", "drop", "(I)I"⟩, 5) := ⟨⟨by decide +kernel, by decide +kernel⟩, List.mem_of_getElem? (i := 186) (by decide +kernel), List.mem_of_getElem? (i := 618) (by decide +kernel), List.mem_of_getElem? (i := 619) (by decide +kernel)⟩
theorem lw_p57 : lw_okq (⟨"UnguessedRound$Sheets", "hindrance", "(III)I"⟩, 5) := ⟨⟨by decide +kernel, by decide +kernel⟩, List.mem_of_getElem? (i := 186) (by decide +kernel), List.mem_of_getElem? (i := 627) (by decide +kernel), List.mem_of_getElem? (i := 628) (by decide +kernel)⟩
theorem lw_p58 : lw_okq (⟨"UnguessedRound$Sheets", "hasItems", "(III)Z"⟩, 5) := ⟨⟨by decide +kernel, by decide +kernel⟩, List.mem_of_getElem? (i := 186) (by decide +kernel), List.mem_of_getElem? (i := 644) (by decide +kernel), List.mem_of_getElem? (i := 645) (by decide +kernel)⟩
theorem lw_p59 : lw_okq (⟨"UnguessedRound$Sheets", "move", "(IIIII)V"⟩, 5) := ⟨⟨by decide +kernel, by decide +kernel⟩, List.mem_of_getElem? (i := 186) (by decide +kernel), List.mem_of_getElem? (i := 648) (by decide +kernel), List.mem_of_getElem? (i := 649) (by decide +kernel)⟩
theorem lw_p60 : lw_okq (⟨"UnguessedRound$Harbour", "allWorths", "()I"⟩, 4) := ⟨⟨by decide +kernel, by decide +kernel⟩, List.mem_of_getElem? (i := 21) (by decide +kernel), List.mem_of_getElem? (i := 661) (by decide +kernel), List.mem_of_getElem? (i := 662) (by decide +kernel)⟩
theorem lw_p61 : lw_okq (⟨"UnguessedRound$Harbour", "allWays", "()I"⟩, 4) := ⟨⟨by decide +kernel, by decide +kernel⟩, List.mem_of_getElem? (i := 21) (by decide +kernel), List.mem_of_getElem? (i := 665) (by decide +kernel), List.mem_of_getElem? (i := 666) (by decide +kernel)⟩
theorem lw_p62 : lw_okq (⟨"UnguessedRound$Book", "unlikeSteps", "()I"⟩, 4) := ⟨⟨by decide +kernel, by decide +kernel⟩, List.mem_of_getElem? (i := 95) (by decide +kernel), List.mem_of_getElem? (i := 669) (by decide +kernel), List.mem_of_getElem? (i := 670) (by decide +kernel)⟩
theorem lw_p63 : lw_okq (⟨"UnguessedRound$Book", "allSteps", "()I"⟩, 4) := ⟨⟨by decide +kernel, by decide +kernel⟩, List.mem_of_getElem? (i := 95) (by decide +kernel), List.mem_of_getElem? (i := 673) (by decide +kernel), List.mem_of_getElem? (i := 674) (by decide +kernel)⟩
def lw_privs_4 : List (MethodName × Nat) := [(⟨"UnguessedRound$Dice", "alike", "(I)I"⟩, 2), (⟨"UnguessedRound$Nights", "same", "(II)Z"⟩, 8), (⟨"UnguessedRound$Dice", "chance", "(II)LUnguessedRound$Fraction;"⟩, 2), (⟨"UnguessedRound$Dice", "fittingSeeds", "()I"⟩, 2), (⟨"UnguessedRound$Dice", "fits", "(I)Z"⟩, 2), (⟨"UnguessedRound$Dice", "leastSeed", "()I"⟩, 2), (⟨"UnguessedRound$Sheets", "make", "(III)V"⟩, 5), (⟨"UnguessedRound$Sheets", "change", "(III)V"⟩, 5), (⟨"UnguessedRound$Sheets", "drop", "(I)I"⟩, 5), (⟨"UnguessedRound$Sheets", "hindrance", "(III)I"⟩, 5), (⟨"UnguessedRound$Sheets", "hasItems", "(III)Z"⟩, 5), (⟨"UnguessedRound$Sheets", "move", "(IIIII)V"⟩, 5), (⟨"UnguessedRound$Harbour", "allWorths", "()I"⟩, 4), (⟨"UnguessedRound$Harbour", "allWays", "()I"⟩, 4), (⟨"UnguessedRound$Book", "unlikeSteps", "()I"⟩, 4), (⟨"UnguessedRound$Book", "allSteps", "()I"⟩, 4)]
theorem lw_r4 : ∀ q ∈ lw_privs_4, lw_okq q := List.forall_mem_cons.mpr ⟨lw_p48, List.forall_mem_cons.mpr ⟨lw_p49, List.forall_mem_cons.mpr ⟨lw_p50, List.forall_mem_cons.mpr ⟨lw_p51, List.forall_mem_cons.mpr ⟨lw_p52, List.forall_mem_cons.mpr ⟨lw_p53, List.forall_mem_cons.mpr ⟨lw_p54, List.forall_mem_cons.mpr ⟨lw_p55, List.forall_mem_cons.mpr ⟨lw_p56, List.forall_mem_cons.mpr ⟨lw_p57, List.forall_mem_cons.mpr ⟨lw_p58, List.forall_mem_cons.mpr ⟨lw_p59, List.forall_mem_cons.mpr ⟨lw_p60, List.forall_mem_cons.mpr ⟨lw_p61, List.forall_mem_cons.mpr ⟨lw_p62, List.forall_mem_cons.mpr ⟨lw_p63, fun _ h => absurd h List.not_mem_nil⟩⟩⟩⟩⟩⟩⟩⟩⟩⟩⟩⟩⟩⟩⟩⟩
theorem lw_p64 : lw_okq (⟨"UnguessedRound", "joinNight", "(JI)J"⟩, 7) := ⟨⟨by decide +kernel, by decide +kernel⟩, List.mem_of_getElem? (i := 13) (by decide +kernel), List.mem_of_getElem? (i := 688) (by decide +kernel), List.mem_of_getElem? (i := 689) (by decide +kernel)⟩
theorem lw_p65 : lw_okq (⟨"UnguessedRound", "joinBook", "(J)J"⟩, 7) := ⟨⟨by decide +kernel, by decide +kernel⟩, List.mem_of_getElem? (i := 13) (by decide +kernel), List.mem_of_getElem? (i := 699) (by decide +kernel), List.mem_of_getElem? (i := 700) (by decide +kernel)⟩
theorem lw_p66 : lw_okq (⟨"UnguessedRound", "joinLots", "(J)J"⟩, 7) := ⟨⟨by decide +kernel, by decide +kernel⟩, List.mem_of_getElem? (i := 13) (by decide +kernel), List.mem_of_getElem? (i := 705) (by decide +kernel), List.mem_of_getElem? (i := 706) (by decide +kernel)⟩
theorem lw_p67 : lw_okq (⟨"UnguessedRoundModel", "faultNow", "()I"⟩, 18) := ⟨⟨by decide +kernel, by decide +kernel⟩, List.mem_of_getElem? (i := 715) (by decide +kernel), List.mem_of_getElem? (i := 792) (by decide +kernel), List.mem_of_getElem? (i := 793) (by decide +kernel)⟩
theorem lw_p68 : lw_okq (⟨"UnguessedRoundModel", "shedAt", "(I)I"⟩, 18) := ⟨⟨by decide +kernel, by decide +kernel⟩, List.mem_of_getElem? (i := 715) (by decide +kernel), List.mem_of_getElem? (i := 796) (by decide +kernel), List.mem_of_getElem? (i := 797) (by decide +kernel)⟩
theorem lw_p69 : lw_okq (⟨"UnguessedRoundModel", "meets", "(I)I"⟩, 18) := ⟨⟨by decide +kernel, by decide +kernel⟩, List.mem_of_getElem? (i := 715) (by decide +kernel), List.mem_of_getElem? (i := 822) (by decide +kernel), List.mem_of_getElem? (i := 823) (by decide +kernel)⟩
theorem lw_p70 : lw_okq (⟨"UnguessedRoundModel", "isNight", "(I)Z"⟩, 18) := ⟨⟨by decide +kernel, by decide +kernel⟩, List.mem_of_getElem? (i := 715) (by decide +kernel), List.mem_of_getElem? (i := 830) (by decide +kernel), List.mem_of_getElem? (i := 831) (by decide +kernel)⟩
theorem lw_p71 : lw_okq (⟨"UnguessedRoundModel", "nightOf", "(II)I"⟩, 18) := ⟨⟨by decide +kernel, by decide +kernel⟩, List.mem_of_getElem? (i := 715) (by decide +kernel), List.mem_of_getElem? (i := 834) (by decide +kernel), List.mem_of_getElem? (i := 835) (by decide +kernel)⟩
theorem lw_p72 : lw_okq (⟨"UnguessedRoundModel", "atOf", "(II)I"⟩, 18) := ⟨⟨by decide +kernel, by decide +kernel⟩, List.mem_of_getElem? (i := 715) (by decide +kernel), List.mem_of_getElem? (i := 842) (by decide +kernel), List.mem_of_getElem? (i := 843) (by decide +kernel)⟩
theorem lw_p73 : lw_okq (⟨"UnguessedRoundModel", "whenOf", "(II)I"⟩, 18) := ⟨⟨by decide +kernel, by decide +kernel⟩, List.mem_of_getElem? (i := 715) (by decide +kernel), List.mem_of_getElem? (i := 850) (by decide +kernel), List.mem_of_getElem? (i := 851) (by decide +kernel)⟩
theorem lw_p74 : lw_okq (⟨"UnguessedRoundModel", "aloneOf", "(III)I"⟩, 18) := ⟨⟨by decide +kernel, by decide +kernel⟩, List.mem_of_getElem? (i := 715) (by decide +kernel), List.mem_of_getElem? (i := 858) (by decide +kernel), List.mem_of_getElem? (i := 859) (by decide +kernel)⟩
theorem lw_p75 : lw_okq (⟨"UnguessedRoundModel", "stealsOf", "(III)I"⟩, 18) := ⟨⟨by decide +kernel, by decide +kernel⟩, List.mem_of_getElem? (i := 715) (by decide +kernel), List.mem_of_getElem? (i := 866) (by decide +kernel), List.mem_of_getElem? (i := 867) (by decide +kernel)⟩
theorem lw_p76 : lw_okq (⟨"UnguessedRoundModel", "nextOf", "(IIII)J"⟩, 18) := ⟨⟨by decide +kernel, by decide +kernel⟩, List.mem_of_getElem? (i := 715) (by decide +kernel), List.mem_of_getElem? (i := 874) (by decide +kernel), List.mem_of_getElem? (i := 875) (by decide +kernel)⟩
theorem lw_p77 : lw_okq (⟨"UnguessedRoundModel", "goneIn", "(III)I"⟩, 18) := ⟨⟨by decide +kernel, by decide +kernel⟩, List.mem_of_getElem? (i := 715) (by decide +kernel), List.mem_of_getElem? (i := 878) (by decide +kernel), List.mem_of_getElem? (i := 879) (by decide +kernel)⟩
theorem lw_p78 : lw_okq (⟨"UnguessedRoundModel", "likelyOf", "(II)J"⟩, 18) := ⟨⟨by decide +kernel, by decide +kernel⟩, List.mem_of_getElem? (i := 715) (by decide +kernel), List.mem_of_getElem? (i := 895) (by decide +kernel), List.mem_of_getElem? (i := 896) (by decide +kernel)⟩
theorem lw_p79 : lw_okq (⟨"UnguessedRoundModel", "freshOf", "(I)I"⟩, 18) := ⟨⟨by decide +kernel, by decide +kernel⟩, List.mem_of_getElem? (i := 715) (by decide +kernel), List.mem_of_getElem? (i := 903) (by decide +kernel), List.mem_of_getElem? (i := 904) (by decide +kernel)⟩
def lw_privs_5 : List (MethodName × Nat) := [(⟨"UnguessedRound", "joinNight", "(JI)J"⟩, 7), (⟨"UnguessedRound", "joinBook", "(J)J"⟩, 7), (⟨"UnguessedRound", "joinLots", "(J)J"⟩, 7), (⟨"UnguessedRoundModel", "faultNow", "()I"⟩, 18), (⟨"UnguessedRoundModel", "shedAt", "(I)I"⟩, 18), (⟨"UnguessedRoundModel", "meets", "(I)I"⟩, 18), (⟨"UnguessedRoundModel", "isNight", "(I)Z"⟩, 18), (⟨"UnguessedRoundModel", "nightOf", "(II)I"⟩, 18), (⟨"UnguessedRoundModel", "atOf", "(II)I"⟩, 18), (⟨"UnguessedRoundModel", "whenOf", "(II)I"⟩, 18), (⟨"UnguessedRoundModel", "aloneOf", "(III)I"⟩, 18), (⟨"UnguessedRoundModel", "stealsOf", "(III)I"⟩, 18), (⟨"UnguessedRoundModel", "nextOf", "(IIII)J"⟩, 18), (⟨"UnguessedRoundModel", "goneIn", "(III)I"⟩, 18), (⟨"UnguessedRoundModel", "likelyOf", "(II)J"⟩, 18), (⟨"UnguessedRoundModel", "freshOf", "(I)I"⟩, 18)]
theorem lw_r5 : ∀ q ∈ lw_privs_5, lw_okq q := List.forall_mem_cons.mpr ⟨lw_p64, List.forall_mem_cons.mpr ⟨lw_p65, List.forall_mem_cons.mpr ⟨lw_p66, List.forall_mem_cons.mpr ⟨lw_p67, List.forall_mem_cons.mpr ⟨lw_p68, List.forall_mem_cons.mpr ⟨lw_p69, List.forall_mem_cons.mpr ⟨lw_p70, List.forall_mem_cons.mpr ⟨lw_p71, List.forall_mem_cons.mpr ⟨lw_p72, List.forall_mem_cons.mpr ⟨lw_p73, List.forall_mem_cons.mpr ⟨lw_p74, List.forall_mem_cons.mpr ⟨lw_p75, List.forall_mem_cons.mpr ⟨lw_p76, List.forall_mem_cons.mpr ⟨lw_p77, List.forall_mem_cons.mpr ⟨lw_p78, List.forall_mem_cons.mpr ⟨lw_p79, fun _ h => absurd h List.not_mem_nil⟩⟩⟩⟩⟩⟩⟩⟩⟩⟩⟩⟩⟩⟩⟩⟩
theorem lw_p80 : lw_okq (⟨"UnguessedRoundModel", "isFresh", "(I)Z"⟩, 18) := ⟨⟨by decide +kernel, by decide +kernel⟩, List.mem_of_getElem? (i := 715) (by decide +kernel), List.mem_of_getElem? (i := 908) (by decide +kernel), List.mem_of_getElem? (i := 909) (by decide +kernel)⟩
theorem lw_p81 : lw_okq (⟨"UnguessedRoundModel", "areNights", "(II)Z"⟩, 18) := ⟨⟨by decide +kernel, by decide +kernel⟩, List.mem_of_getElem? (i := 715) (by decide +kernel), List.mem_of_getElem? (i := 916) (by decide +kernel), List.mem_of_getElem? (i := 917) (by decide +kernel)⟩
theorem lw_p82 : lw_okq (⟨"UnguessedRoundModel", "breaksOf", "(IIII)I"⟩, 18) := ⟨⟨by decide +kernel, by decide +kernel⟩, List.mem_of_getElem? (i := 715) (by decide +kernel), List.mem_of_getElem? (i := 920) (by decide +kernel), List.mem_of_getElem? (i := 921) (by decide +kernel)⟩
theorem lw_p83 : lw_okq (⟨"UnguessedRoundModel", "lays", "(II)V"⟩, 18) := ⟨⟨by decide +kernel, by decide +kernel⟩, List.mem_of_getElem? (i := 715) (by decide +kernel), List.mem_of_getElem? (i := 924) (by decide +kernel), List.mem_of_getElem? (i := 925) (by decide +kernel)⟩
theorem lw_p84 : lw_okq (⟨"UnguessedRoundModel", "most", "(IIII)I"⟩, 18) := ⟨⟨by decide +kernel, by decide +kernel⟩, List.mem_of_getElem? (i := 715) (by decide +kernel), List.mem_of_getElem? (i := 928) (by decide +kernel), List.mem_of_getElem? (i := 929) (by decide +kernel)⟩
theorem lw_p85 : lw_okq (⟨"UnguessedRoundModel", "seenOf", "(IIIII)I"⟩, 18) := ⟨⟨by decide +kernel, by decide +kernel⟩, List.mem_of_getElem? (i := 715) (by decide +kernel), List.mem_of_getElem? (i := 936) (by decide +kernel), List.mem_of_getElem? (i := 937) (by decide +kernel)⟩
theorem lw_p86 : lw_okq (⟨"UnguessedRoundModel", "leastOf", "(III)J"⟩, 18) := ⟨⟨by decide +kernel, by decide +kernel⟩, List.mem_of_getElem? (i := 715) (by decide +kernel), List.mem_of_getElem? (i := 944) (by decide +kernel), List.mem_of_getElem? (i := 945) (by decide +kernel)⟩
theorem lw_p87 : lw_okq (⟨"UnguessedRoundModel", "lampOf", "(IIII)I"⟩, 18) := ⟨⟨by decide +kernel, by decide +kernel⟩, List.mem_of_getElem? (i := 715) (by decide +kernel), List.mem_of_getElem? (i := 952) (by decide +kernel), List.mem_of_getElem? (i := 953) (by decide +kernel)⟩
theorem lw_p88 : lw_okq (⟨"UnguessedRoundModel", "learnOf", "(IIII)I"⟩, 18) := ⟨⟨by decide +kernel, by decide +kernel⟩, List.mem_of_getElem? (i := 715) (by decide +kernel), List.mem_of_getElem? (i := 960) (by decide +kernel), List.mem_of_getElem? (i := 961) (by decide +kernel)⟩
theorem lw_p89 : lw_okq (⟨"UnguessedRoundModel", "diceOf", "(III)J"⟩, 18) := ⟨⟨by decide +kernel, by decide +kernel⟩, List.mem_of_getElem? (i := 715) (by decide +kernel), List.mem_of_getElem? (i := 968) (by decide +kernel), List.mem_of_getElem? (i := 969) (by decide +kernel)⟩
theorem lw_p90 : lw_okq (⟨"UnguessedRoundModel", "areAlike", "(II)Z"⟩, 18) := ⟨⟨by decide +kernel, by decide +kernel⟩, List.mem_of_getElem? (i := 715) (by decide +kernel), List.mem_of_getElem? (i := 972) (by decide +kernel), List.mem_of_getElem? (i := 973) (by decide +kernel)⟩
theorem lw_p91 : lw_okq (⟨"UnguessedRoundModel", "seedsOf", "(I)I"⟩, 18) := ⟨⟨by decide +kernel, by decide +kernel⟩, List.mem_of_getElem? (i := 715) (by decide +kernel), List.mem_of_getElem? (i := 981) (by decide +kernel), List.mem_of_getElem? (i := 982) (by decide +kernel)⟩
theorem lw_p92 : lw_okq (⟨"UnguessedRoundModel", "lacks", "(III)I"⟩, 18) := ⟨⟨by decide +kernel, by decide +kernel⟩, List.mem_of_getElem? (i := 715) (by decide +kernel), List.mem_of_getElem? (i := 998) (by decide +kernel), List.mem_of_getElem? (i := 999) (by decide +kernel)⟩
theorem lw_p93 : lw_okq (⟨"UnguessedRoundModel", "keep", "(III)V"⟩, 18) := ⟨⟨by decide +kernel, by decide +kernel⟩, List.mem_of_getElem? (i := 715) (by decide +kernel), List.mem_of_getElem? (i := 1002) (by decide +kernel), List.mem_of_getElem? (i := 1003) (by decide +kernel)⟩
theorem lw_p94 : lw_okq (⟨"UnguessedRoundModel", "sumOf", "(I)I"⟩, 18) := ⟨⟨by decide +kernel, by decide +kernel⟩, List.mem_of_getElem? (i := 715) (by decide +kernel), List.mem_of_getElem? (i := 1023) (by decide +kernel), List.mem_of_getElem? (i := 1024) (by decide +kernel)⟩
def lw_privs_6 : List (MethodName × Nat) := [(⟨"UnguessedRoundModel", "isFresh", "(I)Z"⟩, 18), (⟨"UnguessedRoundModel", "areNights", "(II)Z"⟩, 18), (⟨"UnguessedRoundModel", "breaksOf", "(IIII)I"⟩, 18), (⟨"UnguessedRoundModel", "lays", "(II)V"⟩, 18), (⟨"UnguessedRoundModel", "most", "(IIII)I"⟩, 18), (⟨"UnguessedRoundModel", "seenOf", "(IIIII)I"⟩, 18), (⟨"UnguessedRoundModel", "leastOf", "(III)J"⟩, 18), (⟨"UnguessedRoundModel", "lampOf", "(IIII)I"⟩, 18), (⟨"UnguessedRoundModel", "learnOf", "(IIII)I"⟩, 18), (⟨"UnguessedRoundModel", "diceOf", "(III)J"⟩, 18), (⟨"UnguessedRoundModel", "areAlike", "(II)Z"⟩, 18), (⟨"UnguessedRoundModel", "seedsOf", "(I)I"⟩, 18), (⟨"UnguessedRoundModel", "lacks", "(III)I"⟩, 18), (⟨"UnguessedRoundModel", "keep", "(III)V"⟩, 18), (⟨"UnguessedRoundModel", "sumOf", "(I)I"⟩, 18)]
theorem lw_r6 : ∀ q ∈ lw_privs_6, lw_okq q := List.forall_mem_cons.mpr ⟨lw_p80, List.forall_mem_cons.mpr ⟨lw_p81, List.forall_mem_cons.mpr ⟨lw_p82, List.forall_mem_cons.mpr ⟨lw_p83, List.forall_mem_cons.mpr ⟨lw_p84, List.forall_mem_cons.mpr ⟨lw_p85, List.forall_mem_cons.mpr ⟨lw_p86, List.forall_mem_cons.mpr ⟨lw_p87, List.forall_mem_cons.mpr ⟨lw_p88, List.forall_mem_cons.mpr ⟨lw_p89, List.forall_mem_cons.mpr ⟨lw_p90, List.forall_mem_cons.mpr ⟨lw_p91, List.forall_mem_cons.mpr ⟨lw_p92, List.forall_mem_cons.mpr ⟨lw_p93, List.forall_mem_cons.mpr ⟨lw_p94, fun _ h => absurd h List.not_mem_nil⟩⟩⟩⟩⟩⟩⟩⟩⟩⟩⟩⟩⟩⟩⟩
def lw_privs : List (MethodName × Nat) := lw_privs_1 ++ (lw_privs_2 ++ (lw_privs_3 ++ (lw_privs_4 ++ (lw_privs_5 ++ (lw_privs_6)))))
def lw_tbl : List Cond := k2_sels lw_privs ++ tables_1
theorem lw_privs_ok : ∀ q ∈ lw_privs, lw_okq q := by
  show ∀ q ∈ lw_privs_1 ++ (lw_privs_2 ++ (lw_privs_3 ++ (lw_privs_4 ++ (lw_privs_5 ++ (lw_privs_6))))), lw_okq q
  exact List.forall_mem_append.mpr ⟨lw_r1, List.forall_mem_append.mpr ⟨lw_r2, List.forall_mem_append.mpr ⟨lw_r3, List.forall_mem_append.mpr ⟨lw_r4, List.forall_mem_append.mpr ⟨lw_r5, lw_r6⟩⟩⟩⟩⟩
-- ===== end of PART A; then your names; then what follows =====
end
section
def RX0 : String := "UnguessedRound$Book"
def TX0 : u_T := fun k => match k with
  | 0 => ("UnguessedRound$Book", "nights", "LUnguessedRound$Nights;", true)
  | 1 => ("UnguessedRound$Book", "steps", "[I", true)
  | 2 => ("UnguessedRound$Book", "endings", "[I", true)
  | _ => ("UnguessedRound$Book", "fraction", "LUnguessedRound$Fraction;", true)
def tyX0 : Nat → FieldType := fun k => match k with
  | 0 => .object "UnguessedRound$Nights"
  | 1 => .array .int
  | 2 => .array .int
  | _ => .object "UnguessedRound$Fraction"
abbrev wsX00 : List Cond := u_ws RX0 TX0 4
theorem nmX0 : ∀ a, a < 4 → ∀ b, b < 4 → a ≠ b → (TX0 a).2.1 ≠ (TX0 b).2.1 := by decide +kernel
theorem tyX0_ok : ∀ k, k < 4 → parseFieldDescriptor (TX0 k).2.2.1 = some (tyX0 k) := by decide +kernel
abbrev cX0_init : ByteArray := prog_2_method_1_code
def yX0_init : MethodName := ⟨RX0, "<init>", "(LUnguessedRound$Nights;)V"⟩
abbrev cX0_tell : ByteArray := prog_2_method_2_code
def yX0_tell : MethodName := ⟨RX0, "tell", "(I)V"⟩
abbrev cX0_go : ByteArray := prog_2_method_3_code
def yX0_go : MethodName := ⟨RX0, "go", "(II)V"⟩
abbrev cX0_gone : ByteArray := prog_2_method_4_code
def yX0_gone : MethodName := ⟨RX0, "gone", "(II)I"⟩
abbrev cX0_above : ByteArray := prog_2_method_5_code
def yX0_above : MethodName := ⟨RX0, "above", "(II)I"⟩
abbrev cX0_below : ByteArray := prog_2_method_6_code
def yX0_below : MethodName := ⟨RX0, "below", "(I)I"⟩
abbrev cX0_nextBehind : ByteArray := prog_2_method_7_code
def yX0_nextBehind : MethodName := ⟨RX0, "nextBehind", "(III)LUnguessedRound$Fraction;"⟩
abbrev cX0_likelihood : ByteArray := prog_2_method_8_code
def yX0_likelihood : MethodName := ⟨RX0, "likelihood", "(I)LUnguessedRound$Fraction;"⟩
abbrev cX0_unlikeSteps : ByteArray := prog_2_method_9_code
def yX0_unlikeSteps : MethodName := ⟨RX0, "unlikeSteps", "()I"⟩
abbrev cX0_allSteps : ByteArray := prog_2_method_10_code
def yX0_allSteps : MethodName := ⟨RX0, "allSteps", "()I"⟩
abbrev cX0_leastNewRow : ByteArray := prog_2_method_11_code
def yX0_leastNewRow : MethodName := ⟨RX0, "leastNewRow", "(I)I"⟩
abbrev cX0_findEndings : ByteArray := prog_2_method_12_code
def yX0_findEndings : MethodName := ⟨RX0, "findEndings", "()V"⟩
abbrev cX0_endingsBehind : ByteArray := prog_2_method_13_code
def yX0_endingsBehind : MethodName := ⟨RX0, "endingsBehind", "(II)I"⟩
abbrev cX0_endingsBy : ByteArray := prog_2_method_14_code
def yX0_endingsBy : MethodName := ⟨RX0, "endingsBy", "(III)I"⟩
abbrev cX0_leastOn : ByteArray := prog_2_method_15_code
def yX0_leastOn : MethodName := ⟨RX0, "leastOn", "(II)I"⟩
def RX1 : String := "UnguessedRound$Dice"
def TX1 : u_T := fun k => match k with
  | 0 => ("UnguessedRound$Dice", "nights", "LUnguessedRound$Nights;", true)
  | _ => ("UnguessedRound$Dice", "fraction", "LUnguessedRound$Fraction;", true)
def tyX1 : Nat → FieldType := fun k => match k with
  | 0 => .object "UnguessedRound$Nights"
  | _ => .object "UnguessedRound$Fraction"
abbrev wsX10 : List Cond := u_ws RX1 TX1 2
theorem nmX1 : ∀ a, a < 2 → ∀ b, b < 2 → a ≠ b → (TX1 a).2.1 ≠ (TX1 b).2.1 := by decide +kernel
theorem tyX1_ok : ∀ k, k < 2 → parseFieldDescriptor (TX1 k).2.2.1 = some (tyX1 k) := by decide +kernel
abbrev cX1_init : ByteArray := prog_3_method_1_code
def yX1_init : MethodName := ⟨RX1, "<init>", "(LUnguessedRound$Nights;)V"⟩
abbrev cX1_alike : ByteArray := prog_3_method_2_code
def yX1_alike : MethodName := ⟨RX1, "alike", "(I)I"⟩
abbrev cX1_chance : ByteArray := prog_3_method_3_code
def yX1_chance : MethodName := ⟨RX1, "chance", "(II)LUnguessedRound$Fraction;"⟩
abbrev cX1_fittingSeeds : ByteArray := prog_3_method_4_code
def yX1_fittingSeeds : MethodName := ⟨RX1, "fittingSeeds", "()I"⟩
abbrev cX1_leastSeed : ByteArray := prog_3_method_5_code
def yX1_leastSeed : MethodName := ⟨RX1, "leastSeed", "()I"⟩
abbrev cX1_fits : ByteArray := prog_3_method_6_code
def yX1_fits : MethodName := ⟨RX1, "fits", "(I)Z"⟩
def RX2 : String := "UnguessedRound$Fraction"
def TX2 : u_T := fun k => match k with
  | 0 => ("UnguessedRound$Fraction", "above", "J", false)
  | _ => ("UnguessedRound$Fraction", "below", "J", false)
def tyX2 : Nat → FieldType := fun k => match k with
  | 0 => .long
  | _ => .long
abbrev wsX20 : List Cond := u_ws RX2 TX2 2
theorem nmX2 : ∀ a, a < 2 → ∀ b, b < 2 → a ≠ b → (TX2 a).2.1 ≠ (TX2 b).2.1 := by decide +kernel
theorem tyX2_ok : ∀ k, k < 2 → parseFieldDescriptor (TX2 k).2.2.1 = some (tyX2 k) := by decide +kernel
abbrev cX2_init : ByteArray := prog_4_method_1_code
def yX2_init : MethodName := ⟨RX2, "<init>", "()V"⟩
abbrev cX2_become : ByteArray := prog_4_method_2_code
def yX2_become : MethodName := ⟨RX2, "become", "(JJ)LUnguessedRound$Fraction;"⟩
abbrev cX2_multiply : ByteArray := prog_4_method_3_code
def yX2_multiply : MethodName := ⟨RX2, "multiply", "(JJ)V"⟩
abbrev cX2_part : ByteArray := prog_4_method_4_code
def yX2_part : MethodName := ⟨RX2, "part", "(I)J"⟩
abbrev cX2_commonDivisor : ByteArray := prog_4_method_5_code
def yX2_commonDivisor : MethodName := ⟨RX2, "commonDivisor", "(JJ)J"⟩
def RX3 : String := "UnguessedRound$Harbour"
def TX3 : u_T := fun k => match k with
  | 0 => ("UnguessedRound$Harbour", "worths", "[I", true)
  | 1 => ("UnguessedRound$Harbour", "ways", "[I", true)
  | 2 => ("UnguessedRound$Harbour", "look", "I", false)
  | _ => ("UnguessedRound$Harbour", "need", "I", false)
def tyX3 : Nat → FieldType := fun k => match k with
  | 0 => .array .int
  | 1 => .array .int
  | 2 => .int
  | _ => .int
abbrev wsX30 : List Cond := u_ws RX3 TX3 4
theorem nmX3 : ∀ a, a < 4 → ∀ b, b < 4 → a ≠ b → (TX3 a).2.1 ≠ (TX3 b).2.1 := by decide +kernel
theorem tyX3_ok : ∀ k, k < 4 → parseFieldDescriptor (TX3 k).2.2.1 = some (tyX3 k) := by decide +kernel
abbrev cX3_init : ByteArray := prog_5_method_1_code
def yX3_init : MethodName := ⟨RX3, "<init>", "()V"⟩
abbrev cX3_worthOf : ByteArray := prog_5_method_2_code
def yX3_worthOf : MethodName := ⟨RX3, "worthOf", "(I)I"⟩
abbrev cX3_changeWorth : ByteArray := prog_5_method_3_code
def yX3_changeWorth : MethodName := ⟨RX3, "changeWorth", "(II)I"⟩
abbrev cX3_wayOf : ByteArray := prog_5_method_4_code
def yX3_wayOf : MethodName := ⟨RX3, "wayOf", "(II)I"⟩
abbrev cX3_changeWay : ByteArray := prog_5_method_5_code
def yX3_changeWay : MethodName := ⟨RX3, "changeWay", "(III)I"⟩
abbrev cX3_changeLook : ByteArray := prog_5_method_6_code
def yX3_changeLook : MethodName := ⟨RX3, "changeLook", "(I)I"⟩
abbrev cX3_changeNeed : ByteArray := prog_5_method_7_code
def yX3_changeNeed : MethodName := ⟨RX3, "changeNeed", "(I)I"⟩
abbrev cX3_allWorths : ByteArray := prog_5_method_8_code
def yX3_allWorths : MethodName := ⟨RX3, "allWorths", "()I"⟩
abbrev cX3_allWays : ByteArray := prog_5_method_9_code
def yX3_allWays : MethodName := ⟨RX3, "allWays", "()I"⟩
def RX4 : String := "UnguessedRound$Nights"
def TX4 : u_T := fun k => match k with
  | 0 => ("UnguessedRound$Nights", "bytes", "[I", true)
  | 1 => ("UnguessedRound$Nights", "sheds", "[I", true)
  | 2 => ("UnguessedRound$Nights", "lengths", "[I", true)
  | 3 => ("UnguessedRound$Nights", "size", "I", false)
  | 4 => ("UnguessedRound$Nights", "told", "I", false)
  | 5 => ("UnguessedRound$Nights", "faultAt", "I", false)
  | 6 => ("UnguessedRound$Nights", "open", "I", false)
  | _ => ("UnguessedRound$Nights", "taken", "I", false)
def tyX4 : Nat → FieldType := fun k => match k with
  | 0 => .array .int
  | 1 => .array .int
  | 2 => .array .int
  | 3 => .int
  | 4 => .int
  | 5 => .int
  | 6 => .int
  | _ => .int
abbrev wsX40 : List Cond := u_ws RX4 TX4 8
theorem nmX4 : ∀ a, a < 8 → ∀ b, b < 8 → a ≠ b → (TX4 a).2.1 ≠ (TX4 b).2.1 := by decide +kernel
theorem tyX4_ok : ∀ k, k < 8 → parseFieldDescriptor (TX4 k).2.2.1 = some (tyX4 k) := by decide +kernel
abbrev cX4_init : ByteArray := prog_6_method_1_code
def yX4_init : MethodName := ⟨RX4, "<init>", "()V"⟩
abbrev cX4_add : ByteArray := prog_6_method_2_code
def yX4_add : MethodName := ⟨RX4, "add", "(I)Z"⟩
abbrev cX4_empty : ByteArray := prog_6_method_3_code
def yX4_empty : MethodName := ⟨RX4, "empty", "()I"⟩
abbrev cX4_reread : ByteArray := prog_6_method_4_code
def yX4_reread : MethodName := ⟨RX4, "reread", "()V"⟩
abbrev cX4_goesOnWith : ByteArray := prog_6_method_5_code
def yX4_goesOnWith : MethodName := ⟨RX4, "goesOnWith", "(I)Z"⟩
abbrev cX4_isTold : ByteArray := prog_6_method_6_code
def yX4_isTold : MethodName := ⟨RX4, "isTold", "(I)Z"⟩
abbrev cX4_lengthOf : ByteArray := prog_6_method_7_code
def yX4_lengthOf : MethodName := ⟨RX4, "lengthOf", "(I)I"⟩
abbrev cX4_shedOf : ByteArray := prog_6_method_8_code
def yX4_shedOf : MethodName := ⟨RX4, "shedOf", "(II)I"⟩
abbrev cX4_same : ByteArray := prog_6_method_9_code
def yX4_same : MethodName := ⟨RX4, "same", "(II)Z"⟩
def RX5 : String := "UnguessedRound$Sheets"
def TX5 : u_T := fun k => match k with
  | 0 => ("UnguessedRound$Sheets", "forms", "[I", true)
  | 1 => ("UnguessedRound$Sheets", "sizes", "[I", true)
  | 2 => ("UnguessedRound$Sheets", "items", "[I", true)
  | 3 => ("UnguessedRound$Sheets", "moved", "[I", true)
  | _ => ("UnguessedRound$Sheets", "latest", "I", false)
def tyX5 : Nat → FieldType := fun k => match k with
  | 0 => .array .int
  | 1 => .array .int
  | 2 => .array .int
  | 3 => .array .int
  | _ => .int
abbrev wsX50 : List Cond := u_ws RX5 TX5 5
theorem nmX5 : ∀ a, a < 5 → ∀ b, b < 5 → a ≠ b → (TX5 a).2.1 ≠ (TX5 b).2.1 := by decide +kernel
theorem tyX5_ok : ∀ k, k < 5 → parseFieldDescriptor (TX5 k).2.2.1 = some (tyX5 k) := by decide +kernel
abbrev cX5_init : ByteArray := prog_7_method_1_code
def yX5_init : MethodName := ⟨RX5, "<init>", "()V"⟩
abbrev cX5_found : ByteArray := prog_7_method_2_code
def yX5_found : MethodName := ⟨RX5, "found", "(I)I"⟩
abbrev cX5_isLost : ByteArray := prog_7_method_3_code
def yX5_isLost : MethodName := ⟨RX5, "isLost", "(I)Z"⟩
abbrev cX5_formOf : ByteArray := prog_7_method_4_code
def yX5_formOf : MethodName := ⟨RX5, "formOf", "(I)I"⟩
abbrev cX5_sizeOf : ByteArray := prog_7_method_5_code
def yX5_sizeOf : MethodName := ⟨RX5, "sizeOf", "(I)I"⟩
abbrev cX5_itemOf : ByteArray := prog_7_method_6_code
def yX5_itemOf : MethodName := ⟨RX5, "itemOf", "(II)I"⟩
abbrev cX5_change : ByteArray := prog_7_method_7_code
def yX5_change : MethodName := ⟨RX5, "change", "(III)V"⟩
abbrev cX5_narrow : ByteArray := prog_7_method_8_code
def yX5_narrow : MethodName := ⟨RX5, "narrow", "(II)I"⟩
abbrev cX5_make : ByteArray := prog_7_method_9_code
def yX5_make : MethodName := ⟨RX5, "make", "(III)V"⟩
abbrev cX5_drop : ByteArray := prog_7_method_10_code
def yX5_drop : MethodName := ⟨RX5, "drop", "(I)I"⟩
abbrev cX5_hindrance : ByteArray := prog_7_method_11_code
def yX5_hindrance : MethodName := ⟨RX5, "hindrance", "(III)I"⟩
abbrev cX5_hasItems : ByteArray := prog_7_method_12_code
def yX5_hasItems : MethodName := ⟨RX5, "hasItems", "(III)Z"⟩
abbrev cX5_move : ByteArray := prog_7_method_13_code
def yX5_move : MethodName := ⟨RX5, "move", "(IIIII)V"⟩
def RX6 : String := "UnguessedRound$Thieves"
def TX6 : u_T := fun k => match k with
  | 0 => ("UnguessedRound$Thieves", "harbour", "LUnguessedRound$Harbour;", true)
  | 1 => ("UnguessedRound$Thieves", "watch", "LUnguessedRound$Watch;", true)
  | 2 => ("UnguessedRound$Thieves", "fraction", "LUnguessedRound$Fraction;", true)
  | 3 => ("UnguessedRound$Thieves", "shed", "I", false)
  | 4 => ("UnguessedRound$Thieves", "minute", "I", false)
  | 5 => ("UnguessedRound$Thieves", "most", "I", false)
  | 6 => ("UnguessedRound$Thieves", "ofBoth", "I", false)
  | 7 => ("UnguessedRound$Thieves", "ofFirst", "I", false)
  | 8 => ("UnguessedRound$Thieves", "ofSecond", "I", false)
  | 9 => ("UnguessedRound$Thieves", "gone", "I", false)
  | _ => ("UnguessedRound$Thieves", "had", "I", false)
def tyX6 : Nat → FieldType := fun k => match k with
  | 0 => .object "UnguessedRound$Harbour"
  | 1 => .object "UnguessedRound$Watch"
  | 2 => .object "UnguessedRound$Fraction"
  | 3 => .int
  | 4 => .int
  | 5 => .int
  | 6 => .int
  | 7 => .int
  | 8 => .int
  | 9 => .int
  | _ => .int
abbrev wsX60 : List Cond := u_ws RX6 TX6 11
theorem nmX6 : ∀ a, a < 11 → ∀ b, b < 11 → a ≠ b → (TX6 a).2.1 ≠ (TX6 b).2.1 := by decide +kernel
theorem tyX6_ok : ∀ k, k < 11 → parseFieldDescriptor (TX6 k).2.2.1 = some (tyX6 k) := by decide +kernel
abbrev cX6_init : ByteArray := prog_8_method_1_code
def yX6_init : MethodName := ⟨RX6, "<init>", "(LUnguessedRound$Harbour;LUnguessedRound$Watch;)V"⟩
abbrev cX6_haul : ByteArray := prog_8_method_2_code
def yX6_haul : MethodName := ⟨RX6, "haul", "(III)I"⟩
abbrev cX6_seek : ByteArray := prog_8_method_3_code
def yX6_seek : MethodName := ⟨RX6, "seek", "(IIIIII)V"⟩
abbrev cX6_take : ByteArray := prog_8_method_4_code
def yX6_take : MethodName := ⟨RX6, "take", "(III)V"⟩
abbrev cX6_part : ByteArray := prog_8_method_5_code
def yX6_part : MethodName := ⟨RX6, "part", "(I)I"⟩
abbrev cX6_weigh : ByteArray := prog_8_method_6_code
def yX6_weigh : MethodName := ⟨RX6, "weigh", "(II)V"⟩
abbrev cX6_sort : ByteArray := prog_8_method_7_code
def yX6_sort : MethodName := ⟨RX6, "sort", "(II)V"⟩
abbrev cX6_meetAboveBoth : ByteArray := prog_8_method_8_code
def yX6_meetAboveBoth : MethodName := ⟨RX6, "meetAboveBoth", "()Z"⟩
abbrev cX6_leastLot : ByteArray := prog_8_method_9_code
def yX6_leastLot : MethodName := ⟨RX6, "leastLot", "(II)LUnguessedRound$Fraction;"⟩
abbrev cX6_leastMean : ByteArray := prog_8_method_10_code
def yX6_leastMean : MethodName := ⟨RX6, "leastMean", "(II)LUnguessedRound$Fraction;"⟩
abbrev cX6_learnBy : ByteArray := prog_8_method_11_code
def yX6_learnBy : MethodName := ⟨RX6, "learnBy", "(III)V"⟩
def RX7 : String := "UnguessedRound$Watch"
def TX7 : u_T := fun k => match k with
  | 0 => ("UnguessedRound$Watch", "harbour", "LUnguessedRound$Harbour;", true)
  | _ => ("UnguessedRound$Watch", "nights", "LUnguessedRound$Nights;", true)
def tyX7 : Nat → FieldType := fun k => match k with
  | 0 => .object "UnguessedRound$Harbour"
  | _ => .object "UnguessedRound$Nights"
abbrev wsX70 : List Cond := u_ws RX7 TX7 2
theorem nmX7 : ∀ a, a < 2 → ∀ b, b < 2 → a ≠ b → (TX7 a).2.1 ≠ (TX7 b).2.1 := by decide +kernel
theorem tyX7_ok : ∀ k, k < 2 → parseFieldDescriptor (TX7 k).2.2.1 = some (tyX7 k) := by decide +kernel
abbrev cX7_init : ByteArray := prog_9_method_1_code
def yX7_init : MethodName := ⟨RX7, "<init>", "(LUnguessedRound$Harbour;LUnguessedRound$Nights;)V"⟩
abbrev cX7_shedIn : ByteArray := prog_9_method_2_code
def yX7_shedIn : MethodName := ⟨RX7, "shedIn", "(II)I"⟩
abbrev cX7_comesTo : ByteArray := prog_9_method_3_code
def yX7_comesTo : MethodName := ⟨RX7, "comesTo", "(II)I"⟩
abbrev cX7_aloneFor : ByteArray := prog_9_method_4_code
def yX7_aloneFor : MethodName := ⟨RX7, "aloneFor", "(II)I"⟩
abbrev cX7_aloneFrom : ByteArray := prog_9_method_5_code
def yX7_aloneFrom : MethodName := ⟨RX7, "aloneFrom", "(II)I"⟩
def RX8 : String := "UnguessedRound"
def TX8 : u_T := fun k => match k with
  | 0 => ("UnguessedRound", "harbour", "LUnguessedRound$Harbour;", true)
  | 1 => ("UnguessedRound", "nights", "LUnguessedRound$Nights;", true)
  | 2 => ("UnguessedRound", "watch", "LUnguessedRound$Watch;", true)
  | 3 => ("UnguessedRound", "book", "LUnguessedRound$Book;", true)
  | 4 => ("UnguessedRound", "thieves", "LUnguessedRound$Thieves;", true)
  | 5 => ("UnguessedRound", "dice", "LUnguessedRound$Dice;", true)
  | _ => ("UnguessedRound", "sheets", "LUnguessedRound$Sheets;", true)
def tyX8 : Nat → FieldType := fun k => match k with
  | 0 => .object "UnguessedRound$Harbour"
  | 1 => .object "UnguessedRound$Nights"
  | 2 => .object "UnguessedRound$Watch"
  | 3 => .object "UnguessedRound$Book"
  | 4 => .object "UnguessedRound$Thieves"
  | 5 => .object "UnguessedRound$Dice"
  | _ => .object "UnguessedRound$Sheets"
abbrev wsX80 : List Cond := u_ws RX8 TX8 7
theorem nmX8 : ∀ a, a < 7 → ∀ b, b < 7 → a ≠ b → (TX8 a).2.1 ≠ (TX8 b).2.1 := by decide +kernel
theorem tyX8_ok : ∀ k, k < 7 → parseFieldDescriptor (TX8 k).2.2.1 = some (tyX8 k) := by decide +kernel
abbrev cX8_init : ByteArray := prog_1_method_1_code
def yX8_init : MethodName := ⟨RX8, "<init>", "()V"⟩
abbrev cX8_type : ByteArray := prog_1_method_2_code
def yX8_type : MethodName := ⟨RX8, "type", "(I)I"⟩
abbrev cX8_wipe : ByteArray := prog_1_method_3_code
def yX8_wipe : MethodName := ⟨RX8, "wipe", "()I"⟩
abbrev cX8_fault : ByteArray := prog_1_method_4_code
def yX8_fault : MethodName := ⟨RX8, "fault", "()I"⟩
abbrev cX8_worth : ByteArray := prog_1_method_5_code
def yX8_worth : MethodName := ⟨RX8, "worth", "(II)I"⟩
abbrev cX8_way : ByteArray := prog_1_method_6_code
def yX8_way : MethodName := ⟨RX8, "way", "(III)I"⟩
abbrev cX8_set : ByteArray := prog_1_method_7_code
def yX8_set : MethodName := ⟨RX8, "set", "(II)I"⟩
abbrev cX8_read : ByteArray := prog_1_method_8_code
def yX8_read : MethodName := ⟨RX8, "read", "(I)I"⟩
abbrev cX8_night : ByteArray := prog_1_method_9_code
def yX8_night : MethodName := ⟨RX8, "night", "(II)I"⟩
abbrev cX8_at : ByteArray := prog_1_method_10_code
def yX8_at : MethodName := ⟨RX8, "at", "(II)I"⟩
abbrev cX8_when : ByteArray := prog_1_method_11_code
def yX8_when : MethodName := ⟨RX8, "when", "(II)I"⟩
abbrev cX8_alone : ByteArray := prog_1_method_12_code
def yX8_alone : MethodName := ⟨RX8, "alone", "(III)I"⟩
abbrev cX8_steals : ByteArray := prog_1_method_13_code
def yX8_steals : MethodName := ⟨RX8, "steals", "(III)I"⟩
abbrev cX8_next : ByteArray := prog_1_method_14_code
def yX8_next : MethodName := ⟨RX8, "next", "(IIII)J"⟩
abbrev cX8_likely : ByteArray := prog_1_method_15_code
def yX8_likely : MethodName := ⟨RX8, "likely", "(II)J"⟩
abbrev cX8_fresh : ByteArray := prog_1_method_16_code
def yX8_fresh : MethodName := ⟨RX8, "fresh", "(I)I"⟩
abbrev cX8_breaks : ByteArray := prog_1_method_17_code
def yX8_breaks : MethodName := ⟨RX8, "breaks", "(IIII)I"⟩
abbrev cX8_seen : ByteArray := prog_1_method_18_code
def yX8_seen : MethodName := ⟨RX8, "seen", "(IIIII)I"⟩
abbrev cX8_least : ByteArray := prog_1_method_19_code
def yX8_least : MethodName := ⟨RX8, "least", "(III)J"⟩
abbrev cX8_lamp : ByteArray := prog_1_method_20_code
def yX8_lamp : MethodName := ⟨RX8, "lamp", "(IIII)I"⟩
abbrev cX8_learn : ByteArray := prog_1_method_21_code
def yX8_learn : MethodName := ⟨RX8, "learn", "(IIII)I"⟩
abbrev cX8_dice : ByteArray := prog_1_method_22_code
def yX8_dice : MethodName := ⟨RX8, "dice", "(III)J"⟩
abbrev cX8_seeds : ByteArray := prog_1_method_23_code
def yX8_seeds : MethodName := ⟨RX8, "seeds", "(I)I"⟩
abbrev cX8_sheet : ByteArray := prog_1_method_24_code
def yX8_sheet : MethodName := ⟨RX8, "sheet", "(III)I"⟩
abbrev cX8_lose : ByteArray := prog_1_method_25_code
def yX8_lose : MethodName := ⟨RX8, "lose", "(I)I"⟩
abbrev cX8_put : ByteArray := prog_1_method_26_code
def yX8_put : MethodName := ⟨RX8, "put", "(IIII)I"⟩
abbrev cX8_get : ByteArray := prog_1_method_27_code
def yX8_get : MethodName := ⟨RX8, "get", "(III)I"⟩
abbrev cX8_copy : ByteArray := prog_1_method_28_code
def yX8_copy : MethodName := ⟨RX8, "copy", "(IIIII)I"⟩
abbrev cX8_write : ByteArray := prog_1_method_29_code
def yX8_write : MethodName := ⟨RX8, "write", "(II)I"⟩
abbrev cX8_count : ByteArray := prog_1_method_30_code
def yX8_count : MethodName := ⟨RX8, "count", "(I)I"⟩
abbrev cX8_digest : ByteArray := prog_1_method_31_code
def yX8_digest : MethodName := ⟨RX8, "digest", "()J"⟩
abbrev cX8_joinNight : ByteArray := prog_1_method_32_code
def yX8_joinNight : MethodName := ⟨RX8, "joinNight", "(JI)J"⟩
abbrev cX8_joinBook : ByteArray := prog_1_method_33_code
def yX8_joinBook : MethodName := ⟨RX8, "joinBook", "(J)J"⟩
abbrev cX8_joinLots : ByteArray := prog_1_method_34_code
def yX8_joinLots : MethodName := ⟨RX8, "joinLots", "(J)J"⟩
abbrev cX8_join : ByteArray := prog_1_method_35_code
def yX8_join : MethodName := ⟨RX8, "join", "(JJ)J"⟩
abbrev cX8_refusal : ByteArray := prog_1_method_36_code
def yX8_refusal : MethodName := ⟨RX8, "refusal", "(I)J"⟩
abbrev cX8_isLot : ByteArray := prog_1_method_37_code
def yX8_isLot : MethodName := ⟨RX8, "isLot", "(III)Z"⟩
abbrev cX8_isSixteenths : ByteArray := prog_1_method_38_code
def yX8_isSixteenths : MethodName := ⟨RX8, "isSixteenths", "(I)Z"⟩
abbrev cX8_isShed : ByteArray := prog_1_method_39_code
def yX8_isShed : MethodName := ⟨RX8, "isShed", "(I)Z"⟩
abbrev cX8_isWorth : ByteArray := prog_1_method_40_code
def yX8_isWorth : MethodName := ⟨RX8, "isWorth", "(I)Z"⟩
abbrev cX8_isSheet : ByteArray := prog_1_method_41_code
def yX8_isSheet : MethodName := ⟨RX8, "isSheet", "(I)Z"⟩
abbrev cX8_isForm : ByteArray := prog_1_method_42_code
def yX8_isForm : MethodName := ⟨RX8, "isForm", "(I)Z"⟩
abbrev cX8_within : ByteArray := prog_1_method_43_code
def yX8_within : MethodName := ⟨RX8, "within", "(III)Z"⟩
abbrev cX8_item : ByteArray := prog_1_method_44_code
def yX8_item : MethodName := ⟨RX8, "item", "([II)I"⟩
abbrev cX8_keep : ByteArray := prog_1_method_45_code
def yX8_keep : MethodName := ⟨RX8, "keep", "([III)V"⟩
abbrev cX8_fill : ByteArray := prog_1_method_46_code
def yX8_fill : MethodName := ⟨RX8, "fill", "([II)V"⟩
def RX9 : String := "UnguessedRoundModel"
def TX9 : u_T := fun k => match k with
  | 0 => ("UnguessedRoundModel", "text", "[I", true)
  | 1 => ("UnguessedRoundModel", "typed", "I", false)
  | 2 => ("UnguessedRoundModel", "nights", "I", false)
  | 3 => ("UnguessedRoundModel", "rows", "[I", true)
  | 4 => ("UnguessedRoundModel", "lengths", "[I", true)
  | 5 => ("UnguessedRoundModel", "worths", "[I", true)
  | 6 => ("UnguessedRoundModel", "ways", "[I", true)
  | 7 => ("UnguessedRoundModel", "look", "I", false)
  | 8 => ("UnguessedRoundModel", "need", "I", false)
  | 9 => ("UnguessedRoundModel", "byA", "[I", true)
  | 10 => ("UnguessedRoundModel", "byB", "[I", true)
  | 11 => ("UnguessedRoundModel", "bestAt", "I", false)
  | 12 => ("UnguessedRoundModel", "isThere", "[Z", true)
  | 13 => ("UnguessedRoundModel", "forms", "[I", true)
  | 14 => ("UnguessedRoundModel", "sizes", "[I", true)
  | 15 => ("UnguessedRoundModel", "items", "[I", true)
  | 16 => ("UnguessedRoundModel", "moved", "[I", true)
  | _ => ("UnguessedRoundModel", "finding", "I", false)
def tyX9 : Nat → FieldType := fun k => match k with
  | 0 => .array .int
  | 1 => .int
  | 2 => .int
  | 3 => .array .int
  | 4 => .array .int
  | 5 => .array .int
  | 6 => .array .int
  | 7 => .int
  | 8 => .int
  | 9 => .array .int
  | 10 => .array .int
  | 11 => .int
  | 12 => .array .boolean
  | 13 => .array .int
  | 14 => .array .int
  | 15 => .array .int
  | 16 => .array .int
  | _ => .int
abbrev wsX90 : List Cond := u_ws RX9 TX9 18
theorem nmX9 : ∀ a, a < 18 → ∀ b, b < 18 → a ≠ b → (TX9 a).2.1 ≠ (TX9 b).2.1 := by decide +kernel
theorem tyX9_ok : ∀ k, k < 18 → parseFieldDescriptor (TX9 k).2.2.1 = some (tyX9 k) := by decide +kernel
abbrev cX9_init : ByteArray := prog_11_method_1_code
def yX9_init : MethodName := ⟨RX9, "<init>", "()V"⟩
abbrev cX9_in : ByteArray := prog_11_method_3_code
def yX9_in : MethodName := ⟨RX9, "in", "(III)Z"⟩
abbrev cX9_no : ByteArray := prog_11_method_4_code
def yX9_no : MethodName := ⟨RX9, "no", "(I)J"⟩
abbrev cX9_lowest : ByteArray := prog_11_method_5_code
def yX9_lowest : MethodName := ⟨RX9, "lowest", "(JJI)J"⟩
abbrev cX9_type : ByteArray := prog_11_method_6_code
def yX9_type : MethodName := ⟨RX9, "type", "(I)I"⟩
abbrev cX9_wipe : ByteArray := prog_11_method_7_code
def yX9_wipe : MethodName := ⟨RX9, "wipe", "()I"⟩
abbrev cX9_shedAt : ByteArray := prog_11_method_8_code
def yX9_shedAt : MethodName := ⟨RX9, "shedAt", "(I)I"⟩
abbrev cX9_faultNow : ByteArray := prog_11_method_9_code
def yX9_faultNow : MethodName := ⟨RX9, "faultNow", "()I"⟩
abbrev cX9_fault : ByteArray := prog_11_method_10_code
def yX9_fault : MethodName := ⟨RX9, "fault", "()I"⟩
abbrev cX9_isNight : ByteArray := prog_11_method_11_code
def yX9_isNight : MethodName := ⟨RX9, "isNight", "(I)Z"⟩
abbrev cX9_isShed : ByteArray := prog_11_method_12_code
def yX9_isShed : MethodName := ⟨RX9, "isShed", "(I)Z"⟩
abbrev cX9_worth : ByteArray := prog_11_method_13_code
def yX9_worth : MethodName := ⟨RX9, "worth", "(II)I"⟩
abbrev cX9_way : ByteArray := prog_11_method_14_code
def yX9_way : MethodName := ⟨RX9, "way", "(III)I"⟩
abbrev cX9_set : ByteArray := prog_11_method_15_code
def yX9_set : MethodName := ⟨RX9, "set", "(II)I"⟩
abbrev cX9_read : ByteArray := prog_11_method_16_code
def yX9_read : MethodName := ⟨RX9, "read", "(I)I"⟩
abbrev cX9_nightOf : ByteArray := prog_11_method_17_code
def yX9_nightOf : MethodName := ⟨RX9, "nightOf", "(II)I"⟩
abbrev cX9_night : ByteArray := prog_11_method_18_code
def yX9_night : MethodName := ⟨RX9, "night", "(II)I"⟩
abbrev cX9_atOf : ByteArray := prog_11_method_19_code
def yX9_atOf : MethodName := ⟨RX9, "atOf", "(II)I"⟩
abbrev cX9_at : ByteArray := prog_11_method_20_code
def yX9_at : MethodName := ⟨RX9, "at", "(II)I"⟩
abbrev cX9_whenOf : ByteArray := prog_11_method_21_code
def yX9_whenOf : MethodName := ⟨RX9, "whenOf", "(II)I"⟩
abbrev cX9_when : ByteArray := prog_11_method_22_code
def yX9_when : MethodName := ⟨RX9, "when", "(II)I"⟩
abbrev cX9_aloneOf : ByteArray := prog_11_method_23_code
def yX9_aloneOf : MethodName := ⟨RX9, "aloneOf", "(III)I"⟩
abbrev cX9_alone : ByteArray := prog_11_method_24_code
def yX9_alone : MethodName := ⟨RX9, "alone", "(III)I"⟩
abbrev cX9_stealsOf : ByteArray := prog_11_method_25_code
def yX9_stealsOf : MethodName := ⟨RX9, "stealsOf", "(III)I"⟩
abbrev cX9_steals : ByteArray := prog_11_method_26_code
def yX9_steals : MethodName := ⟨RX9, "steals", "(III)I"⟩
abbrev cX9_goneIn : ByteArray := prog_11_method_27_code
def yX9_goneIn : MethodName := ⟨RX9, "goneIn", "(III)I"⟩
abbrev cX9_nextOf : ByteArray := prog_11_method_28_code
def yX9_nextOf : MethodName := ⟨RX9, "nextOf", "(IIII)J"⟩
abbrev cX9_next : ByteArray := prog_11_method_29_code
def yX9_next : MethodName := ⟨RX9, "next", "(IIII)J"⟩
abbrev cX9_likelyOf : ByteArray := prog_11_method_30_code
def yX9_likelyOf : MethodName := ⟨RX9, "likelyOf", "(II)J"⟩
abbrev cX9_likely : ByteArray := prog_11_method_31_code
def yX9_likely : MethodName := ⟨RX9, "likely", "(II)J"⟩
abbrev cX9_freshOf : ByteArray := prog_11_method_32_code
def yX9_freshOf : MethodName := ⟨RX9, "freshOf", "(I)I"⟩
abbrev cX9_isFresh : ByteArray := prog_11_method_33_code
def yX9_isFresh : MethodName := ⟨RX9, "isFresh", "(I)Z"⟩
abbrev cX9_fresh : ByteArray := prog_11_method_34_code
def yX9_fresh : MethodName := ⟨RX9, "fresh", "(I)I"⟩
abbrev cX9_lays : ByteArray := prog_11_method_35_code
def yX9_lays : MethodName := ⟨RX9, "lays", "(II)V"⟩
abbrev cX9_most : ByteArray := prog_11_method_36_code
def yX9_most : MethodName := ⟨RX9, "most", "(IIII)I"⟩
abbrev cX9_areNights : ByteArray := prog_11_method_37_code
def yX9_areNights : MethodName := ⟨RX9, "areNights", "(II)Z"⟩
abbrev cX9_breaksOf : ByteArray := prog_11_method_38_code
def yX9_breaksOf : MethodName := ⟨RX9, "breaksOf", "(IIII)I"⟩
abbrev cX9_breaks : ByteArray := prog_11_method_39_code
def yX9_breaks : MethodName := ⟨RX9, "breaks", "(IIII)I"⟩
abbrev cX9_seenOf : ByteArray := prog_11_method_40_code
def yX9_seenOf : MethodName := ⟨RX9, "seenOf", "(IIIII)I"⟩
abbrev cX9_seen : ByteArray := prog_11_method_41_code
def yX9_seen : MethodName := ⟨RX9, "seen", "(IIIII)I"⟩
abbrev cX9_leastOf : ByteArray := prog_11_method_42_code
def yX9_leastOf : MethodName := ⟨RX9, "leastOf", "(III)J"⟩
abbrev cX9_least : ByteArray := prog_11_method_43_code
def yX9_least : MethodName := ⟨RX9, "least", "(III)J"⟩
abbrev cX9_lampOf : ByteArray := prog_11_method_44_code
def yX9_lampOf : MethodName := ⟨RX9, "lampOf", "(IIII)I"⟩
abbrev cX9_lamp : ByteArray := prog_11_method_45_code
def yX9_lamp : MethodName := ⟨RX9, "lamp", "(IIII)I"⟩
abbrev cX9_learnOf : ByteArray := prog_11_method_46_code
def yX9_learnOf : MethodName := ⟨RX9, "learnOf", "(IIII)I"⟩
abbrev cX9_learn : ByteArray := prog_11_method_47_code
def yX9_learn : MethodName := ⟨RX9, "learn", "(IIII)I"⟩
abbrev cX9_areAlike : ByteArray := prog_11_method_48_code
def yX9_areAlike : MethodName := ⟨RX9, "areAlike", "(II)Z"⟩
abbrev cX9_diceOf : ByteArray := prog_11_method_49_code
def yX9_diceOf : MethodName := ⟨RX9, "diceOf", "(III)J"⟩
abbrev cX9_dice : ByteArray := prog_11_method_50_code
def yX9_dice : MethodName := ⟨RX9, "dice", "(III)J"⟩
abbrev cX9_seedsOf : ByteArray := prog_11_method_51_code
def yX9_seedsOf : MethodName := ⟨RX9, "seedsOf", "(I)I"⟩
abbrev cX9_seeds : ByteArray := prog_11_method_52_code
def yX9_seeds : MethodName := ⟨RX9, "seeds", "(I)I"⟩
abbrev cX9_meets : ByteArray := prog_11_method_53_code
def yX9_meets : MethodName := ⟨RX9, "meets", "(I)I"⟩
abbrev cX9_isSheet : ByteArray := prog_11_method_54_code
def yX9_isSheet : MethodName := ⟨RX9, "isSheet", "(I)Z"⟩
abbrev cX9_sheet : ByteArray := prog_11_method_55_code
def yX9_sheet : MethodName := ⟨RX9, "sheet", "(III)I"⟩
abbrev cX9_lose : ByteArray := prog_11_method_56_code
def yX9_lose : MethodName := ⟨RX9, "lose", "(I)I"⟩
abbrev cX9_lacks : ByteArray := prog_11_method_57_code
def yX9_lacks : MethodName := ⟨RX9, "lacks", "(III)I"⟩
abbrev cX9_keep : ByteArray := prog_11_method_58_code
def yX9_keep : MethodName := ⟨RX9, "keep", "(III)V"⟩
abbrev cX9_put : ByteArray := prog_11_method_59_code
def yX9_put : MethodName := ⟨RX9, "put", "(IIII)I"⟩
abbrev cX9_get : ByteArray := prog_11_method_60_code
def yX9_get : MethodName := ⟨RX9, "get", "(III)I"⟩
abbrev cX9_copy : ByteArray := prog_11_method_61_code
def yX9_copy : MethodName := ⟨RX9, "copy", "(IIIII)I"⟩
abbrev cX9_write : ByteArray := prog_11_method_62_code
def yX9_write : MethodName := ⟨RX9, "write", "(II)I"⟩
abbrev cX9_sumOf : ByteArray := prog_11_method_63_code
def yX9_sumOf : MethodName := ⟨RX9, "sumOf", "(I)I"⟩
abbrev cX9_count : ByteArray := prog_11_method_64_code
def yX9_count : MethodName := ⟨RX9, "count", "(I)I"⟩
abbrev cX9_digest : ByteArray := prog_11_method_65_code
def yX9_digest : MethodName := ⟨RX9, "digest", "()J"⟩
def RJ9 : String := "java/lang/Math"
def TJ9 : u_T := fun k => match k with
  | _ => ("", "", "", false)
def tyJ9 : Nat → FieldType := fun k => match k with
  | _ => .int
abbrev wsJ90 : List Cond := u_ws RJ9 TJ9 0
theorem nmJ9 : ∀ a, a < 0 → ∀ b, b < 0 → a ≠ b → (TJ9 a).2.1 ≠ (TJ9 b).2.1 := by decide +kernel
theorem tyJ9_ok : ∀ k, k < 0 → parseFieldDescriptor (TJ9 k).2.2.1 = some (tyJ9 k) := by decide +kernel
abbrev cJ9_max_7cf53 : ByteArray := prog_12_method_65_code
def yJ9_max_7cf53 : MethodName := ⟨RJ9, "max", "(II)I"⟩
def RL : String := "UnguessedRoundLaw"
abbrev cL_law : ByteArray := code
abbrev vwCl : List vw_C := [(RX0, TX0, 4), (RX1, TX1, 2), (RX2, TX2, 2), (RX3, TX3, 4), (RX4, TX4, 8), (RX5, TX5, 5), (RX6, TX6, 11), (RX7, TX7, 2), (RX8, TX8, 7), (RX9, TX9, 18)]
end
section
/-! the virtual world: the objects by their numbers, ints and longs as functions of object and place -/
abbrev Gm : Type := Launch × (Nat × (va_G × (ClassId × ClassId)))
abbrev AS : Type := (Nat → Nat → Int32) × (Nat → Nat → Int64)
abbrev Rho : Type := Nat → Nat → Option Nat
abbrev MT : Type := (MethodName × ByteArray) × ((Nat × Option FieldType) × ((String × Nat) × (Nat × Nat)))
abbrev mY (M : MT) : MethodName := M.1.1
abbrev mC (M : MT) : ByteArray := M.1.2
abbrev mL (M : MT) : Nat := M.2.1.1
abbrev mR (M : MT) : Option FieldType := M.2.1.2
abbrev mO (M : MT) : String := M.2.2.1.1
abbrev mK (M : MT) : Nat := M.2.2.1.2
abbrev mF (M : MT) : Nat := M.2.2.2.1
abbrev mLo (M : MT) : Nat := M.2.2.2.2
abbrev gB (G : Gm) : Nat := G.2.1
abbrev gD (G : Gm) : va_G := G.2.2.1
def okd : Nat → Nat ⊕ (Bool × Nat) := fun k => match k with
  | 0 => .inl 8 | 1 => .inl 3 | 2 => .inr (false, 6) | 3 => .inr (false, 36) | 4 => .inl 4 | 5 => .inr (false, 60) | 6 => .inr (false, 48) | 7 => .inr (false, 8)
  | 8 => .inl 7 | 9 => .inl 0 | 10 => .inr (false, 42) | 11 => .inr (false, 384) | 12 => .inl 2 | 13 => .inl 6 | 14 => .inl 2 | 15 => .inl 1 | 16 => .inl 2
  | 17 => .inl 5 | 18 => .inr (false, 4) | 19 => .inr (false, 4) | 20 => .inr (false, 192) | 21 => .inr (false, 48)
  | 22 => .inl 9 | 23 => .inr (false, 60) | 24 => .inr (false, 54) | 25 => .inr (false, 9) | 26 => .inr (false, 6) | 27 => .inr (false, 36) | 28 => .inr (false, 360) | 29 => .inr (false, 360)
  | 30 => .inr (true, 4) | 31 => .inr (false, 4) | 32 => .inr (false, 4) | 33 => .inr (false, 192) | _ => .inr (false, 48)
def nfl : Nat → Nat := fun c => match c with
  | 0 => 4 | 1 => 2 | 2 => 2 | 3 => 4 | 4 => 8 | 5 => 5 | 6 => 11 | 7 => 2 | 8 => 7 | _ => 18
def CC : Nat → String := fun c => match c with
  | 0 => RX0 | 1 => RX1 | 2 => RX2 | 3 => RX3 | 4 => RX4 | 5 => RX5 | 6 => RX6 | 7 => RX7 | 8 => RX8 | _ => RX9
def TT : Nat → u_T := fun c => match c with
  | 0 => TX0 | 1 => TX1 | 2 => TX2 | 3 => TX3 | 4 => TX4 | 5 => TX5 | 6 => TX6 | 7 => TX7 | 8 => TX8 | _ => TX9
def tyy : Nat → Nat → FieldType := fun c => match c with
  | 0 => tyX0 | 1 => tyX1 | 2 => tyX2 | 3 => tyX3 | 4 => tyX4 | 5 => tyX5 | 6 => tyX6 | 7 => tyX7 | 8 => tyX8 | _ => tyX9
/-- 0: an int, 1: a long, 2: a reference -/
def fkd (c j : Nat) : Nat := match tyy c j with
  | .int => 0
  | .long => 1
  | _ => 2
def szk (k : Nat) : Nat := match okd k with
  | .inl c => nfl c
  | .inr q => q.2
def SZ : Nat → Nat
  | 0 => 0
  | n + 1 => SZ n + szk n
theorem SZ_mono {a b : Nat} (h : a ≤ b) : SZ a ≤ SZ b := by
  induction b with
  | zero => rw [Nat.le_zero.mp h]; exact Nat.le_refl _
  | succ n ih =>
    rcases Nat.lt_or_ge n a with q | q
    · have : a = n + 1 := by omega
      rw [this]; exact Nat.le_refl _
    · exact Nat.le_trans (ih q) (Nat.le_add_right _ _)
def rf (B : Nat) (r : Option Nat) : Value := match r with
  | none => .null
  | some k => .ref (B + k)
def fvl (B : Nat) (ρ : Rho) (S : AS) (k c j : Nat) : Value := match fkd c j with
  | 0 => .int (S.1 k j)
  | 1 => .long (S.2 k j)
  | _ => rf B (ρ k j)
def ent (G : Gm) (ρ : Rho) (S : AS) (k : Nat) : va_E := match okd k with
  | .inl c => .inr (c, (List.range (nfl c)).map (fvl (gB G) ρ S k c))
  | .inr q => .inl ((if q.1 = true then G.2.2.2.2 else G.2.2.2.1), (q.2, .inl (S.1 k)))
def Pic (G : Gm) (n : Nat) (ρ : Rho) (S : AS) (H : Heap) : Prop := H.size = gB G + n ∧ ∀ k, k < n → va_at (gD G) vwCl (gB G + k, ent G ρ S k) H
def tysG (G : Gm) : List (ClassId × FieldType) := [(G.2.2.2.1, .int), (G.2.2.2.2, .boolean)]
def nestWord : Cond → Bool
  | .fieldLinkNest .. => true
  | .methodLinkNest .. => true
  | _ => false
def okW (w : Cond) : Bool := goodWord w || nestWord w
def KW (s : State) : Prop := ∀ w ∈ lw_tbl, okW w = true → ∀ a : Array Value, w.before a s = true
theorem KW_moved {s U : State} (hW : s.WarmedH U.vm) (h : KW s) : KW U := by
  intro w hw hok a
  by_cases hg : goodWord w = true
  · exact word_at hW (good_of_word hg) (h w hw hok #[])
  · have hn : nestWord w = true := by
      rcases Bool.or_eq_true_iff.mp hok with q | q
      · exact absurd q hg
      · exact q
    cases w <;> first
      | (simp [nestWord] at hn; done)
      | exact va_Nw.use rfl (va_Nw.warmF hW (va_Nw.of rfl (h _ hw hok #[])))
      | exact va_Nw.use rfl (va_Nw.warmM hW (va_Nw.of rfl (h _ hw hok #[])))
theorem KW_start {s : State} {a0 : Array Value} (h : ∀ w ∈ lw_tbl, w.before a0 s = true) : KW s := by
  intro w hw hok a
  by_cases hg : goodWord w = true
  · exact word_at (State.WarmedH.refl s) (good_of_word hg) (h w hw)
  · have hn : nestWord w = true := by
      rcases Bool.or_eq_true_iff.mp hok with q | q
      · exact absurd q hg
      · exact q
    cases w <;> first
      | (simp [nestWord] at hn; done)
      | exact va_Nw.use rfl (va_Nw.of rfl (h _ hw))
theorem clW : ∀ c, c < 10 → ∀ w ∈ u_ws (CC c) (TT c) (nfl c), w ∈ lw_tbl ∧ okW w = true := by decide +kernel
theorem clC : ∀ c, c < 10 → vwCl[c]? = some (CC c, TT c, nfl c) := by
  intro c h
  match c, h with
  | 0, _ => rfl
  | 1, _ => rfl
  | 2, _ => rfl
  | 3, _ => rfl
  | 4, _ => rfl
  | 5, _ => rfl
  | 6, _ => rfl
  | 7, _ => rfl
  | 8, _ => rfl
  | 9, _ => rfl
theorem clT : ∀ c, c < 10 → ∀ k, k < nfl c → parseFieldDescriptor (TT c k).2.2.1 = some (tyy c k) := by decide +kernel
theorem clN : ∀ c, c < 10 → ∀ a, a < nfl c → ∀ b, b < nfl c → a ≠ b → (TT c a).2.1 ≠ (TT c b).2.1 := by decide +kernel
theorem clO : ∀ c, c < 10 → ∀ a, a < nfl c → (TT c a).1 = CC c := by decide +kernel
theorem okd_lt (k : Nat) (c : Nat) (h : okd k = .inl c) : c < 10 := by
  unfold okd at h
  split at h <;> first | (cases h; decide) | cases h
/-- the facts of a frame's entry -/
def EF (G : Gm) (M : MT) (n0 : Nat) (Z2 : State → Array Value → Prop) (p : Program) (s : State) (m : MethodId) (args : Array Value) (meth : Method) (c : Code) : Prop :=
  p.tables.exec = Jvm.exec ∧ c.code = mC M ∧ c.maxLocals = mL M ∧ meth.sig.returnType = mR M ∧ meth.locks = false ∧ s.vm.findClass (mO M) = some m.cls ∧ meth.name = (mY M).name ∧ KW s ∧ va_K (gD G) vwCl (tysG G) s ∧ s.heap.size = gB G + n0 ∧ Z2 s args
def lva : Nat → List (Option Value) → List (Nat × Value)
  | _, [] => []
  | i, none :: t => lva (i + 1) t
  | i, some v :: t => (i, v) :: lva (i + 1) t
theorem lva_mem : ∀ (L : List (Option Value)) (i : Nat) (q : Nat × Value), q ∈ lva i L ↔ i ≤ q.1 ∧ L[q.1 - i]? = some (some q.2)
  | [], i, q => by simp [lva]
  | none :: t, i, q => by
    rw [lva, lva_mem t (i + 1) q]
    constructor
    · rintro ⟨h1, h2⟩
      refine ⟨by omega, ?_⟩
      rw [show q.1 - i = (q.1 - (i + 1)) + 1 from by omega, List.getElem?_cons_succ]
      exact h2
    · rintro ⟨h1, h2⟩
      by_cases he : q.1 = i
      · rw [he, Nat.sub_self, List.getElem?_cons_zero] at h2
        cases h2
      · refine ⟨by omega, ?_⟩
        rw [show q.1 - i = (q.1 - (i + 1)) + 1 from by omega, List.getElem?_cons_succ] at h2
        exact h2
  | some v :: t, i, q => by
    rw [lva, List.mem_cons, lva_mem t (i + 1) q]
    constructor
    · rintro (rfl | ⟨h1, h2⟩)
      · exact ⟨Nat.le_refl _, by rw [Nat.sub_self]; rfl⟩
      · refine ⟨by omega, ?_⟩
        rw [show q.1 - i = (q.1 - (i + 1)) + 1 from by omega, List.getElem?_cons_succ]
        exact h2
    · rintro ⟨h1, h2⟩
      by_cases he : q.1 = i
      · rw [he, Nat.sub_self, List.getElem?_cons_zero] at h2
        left
        cases q
        cases he
        cases h2
        rfl
      · right
        refine ⟨by omega, ?_⟩
        rw [show q.1 - i = (q.1 - (i + 1)) + 1 from by omega, List.getElem?_cons_succ] at h2
        exact h2
def lvh (ls : Array Slot) (nL : Nat) (L : List (Option Value)) : Prop := lv_has ls nL (lva 0 L) ∧ L.length ≤ nL
theorem lvh_at {ls : Array Slot} {nL : Nat} {L : List (Option Value)} (h : lvh ls nL L) {i : Nat} {v : Value} (hi : L[i]? = some (some v)) : ls[i]? = some (.val v) :=
  h.1.2.2 (i, v) ((lva_mem L 0 (i, v)).mpr ⟨Nat.zero_le _, hi⟩)
def nl2 (q : Option Value) : Bool := match q with
  | some (.long _) => false
  | some (.double _) => false
  | _ => true
theorem nl2_cat {v : Value} (h : nl2 (some v) = true) : v.category ≠ 2 := by
  cases v <;> simp [nl2, Value.category] at h ⊢
/-- the place ahead of i is no long -/
def okst (L : List (Option Value)) (i : Nat) : Bool := match i with
  | 0 => true
  | j + 1 => match L[j]? with
    | some q => nl2 q
    | none => true
theorem lvh_filter {L : List (Option Value)} {i : Nat} {v : Value} (hc : okst L i = true) (q : Nat × Value) (hq : q ∈ lva 0 (L.set i (some v))) : q ∈ (i, v) :: (lva 0 L).filter (fun q => !(q.1 == i) && !(q.1 + 1 == i && q.2.category == 2)) := by
  rw [lva_mem] at hq
  obtain ⟨-, h2⟩ := hq
  rw [Nat.sub_zero] at h2
  by_cases he : q.1 = i
  · rw [he] at h2
    have hlt : i < L.length := by
      have := (List.getElem?_eq_some_iff.mp h2).1
      rw [List.length_set] at this
      exact this
    rw [List.getElem?_set_self hlt] at h2
    cases q
    cases he
    cases h2
    exact List.mem_cons_self
  · rw [List.getElem?_set_ne (Ne.symm he)] at h2
    refine List.mem_cons_of_mem _ (List.mem_filter.mpr ⟨(lva_mem L 0 q).mpr ⟨Nat.zero_le _, by rw [Nat.sub_zero]; exact h2⟩, ?_⟩)
    rw [Bool.and_eq_true]
    refine ⟨by simpa using he, ?_⟩
    by_cases h3 : q.1 + 1 = i
    · subst h3
      have hc1 : (match L[q.1]? with | some q => nl2 q | none => true) = true := hc
      rw [h2] at hc1
      have := nl2_cat hc1
      simp [this]
    · simp [h3]
theorem lvh_set1 {ls' : Array Slot} {nL : Nat} {L : List (Option Value)} {i : Nat} {v : Value} (hlen : L.length ≤ nL) (hc : okst L i = true) (h : lv_has ls' nL ((i, v) :: (lva 0 L).filter (fun q => !(q.1 == i) && !(q.1 + 1 == i && q.2.category == 2)))) : lvh ls' nL (L.set i (some v)) :=
  ⟨⟨h.1, h.2.1, fun q hq => h.2.2 q (lvh_filter hc q hq)⟩, by rw [List.length_set]; exact hlen⟩
theorem lvh_filter2 {L : List (Option Value)} {i : Nat} {v : Value} (hc : okst L i = true) (q : Nat × Value) (hq : q ∈ lva 0 ((L.set i (some v)).set (i + 1) none)) : q ∈ (i, v) :: (lva 0 L).filter (fun q => !(q.1 == i) && (!(q.1 == i + 1) && !(q.1 + 1 == i && q.2.category == 2))) := by
  rw [lva_mem] at hq
  obtain ⟨-, h2⟩ := hq
  rw [Nat.sub_zero] at h2
  by_cases hs : q.1 = i + 1
  · rw [hs] at h2
    have hlt := (List.getElem?_eq_some_iff.mp h2).1
    rw [List.length_set] at hlt
    rw [List.getElem?_set_self hlt] at h2
    cases h2
  · rw [List.getElem?_set_ne (Ne.symm hs)] at h2
    have h3 := lvh_filter (q := q) hc ((lva_mem _ 0 q).mpr ⟨Nat.zero_le _, by rw [Nat.sub_zero]; exact h2⟩)
    rcases List.mem_cons.mp h3 with h3 | h3
    · rw [h3]; exact List.mem_cons_self
    · refine List.mem_cons_of_mem _ ?_
      rw [List.mem_filter] at h3 ⊢
      refine ⟨h3.1, ?_⟩
      have h4 := h3.2
      rw [Bool.and_eq_true] at h4 ⊢
      refine ⟨h4.1, ?_⟩
      rw [Bool.and_eq_true]
      exact ⟨by simpa using hs, h4.2⟩
theorem lvh_set2 {ls' : Array Slot} {nL : Nat} {L : List (Option Value)} {i : Nat} {v : Value} (hlen : L.length ≤ nL) (hc : okst L i = true) (h : lv_has ls' nL ((i, v) :: (lva 0 L).filter (fun q => !(q.1 == i) && (!(q.1 == i + 1) && !(q.1 + 1 == i && q.2.category == 2))))) : lvh ls' nL ((L.set i (some v)).set (i + 1) none) :=
  ⟨⟨h.1, h.2.1, fun q hq => h.2.2 q (lvh_filter2 hc q hq)⟩, by rw [List.length_set, List.length_set]; exact hlen⟩
abbrev ZT : Type := (List Frame → Array Value → State → State → Prop) × (State → Array Value → Prop)
abbrev rmM (M : MT) (mc ms : Nat) : Room := { frames := mF M, cells := mc, slots := ms, locals := mLo M }
/-- the machine in a frame of M, at pc, with the locals L and the stack st, in the world (n, ρ, S), comes to Z -/
def V (G : Gm) (M : MT) (n0 nE : Nat) (Z : ZT) (n : Nat) (ρ : Rho) (pc : Nat) (L : List (Option Value)) (st : List Value) (S : AS) : Prop :=
  ∀ (p : Program) (e : Env) (s : State) (m : MethodId) (args : Array Value) (below : List Frame) (meth : Method) (c : Code), EF G M n0 Z.2 p s m args meth c →
    ∀ (H : Heap) (locs : List Loc) (ls : Array Slot), Pic G n ρ S H → va_S (fun q => gB G ≤ q) s.heap H locs → lvh ls (mL M) L →
      W p G.1 e (rmM M (nE - n0) (SZ nE - SZ n0)) s m args below meth c H locs (n - n0) (SZ n - SZ n0) (Z.1 below args s) (F0 m pc ls st)
def Dc (M : MT) (pc : Nat) (i : Instr) (len pc' : Nat) : Prop := decode (mC M) pc = .ok (i, len) ∧ pc + len = pc'

section VR
variable {G : Gm} {M : MT} {n0 nE : Nat} {Z : ZT} {n : Nat} {ρ : Rho} {pc pc' : Nat} {L : List (Option Value)} {st : List Value} {S : AS}

theorem V_iconst {i : Int} {v : Int32} (h : Dc M pc (.iconst i) 1 pc') (hv : Int32.ofInt i = v) (k : V G M n0 nE Z n ρ pc' L (.int v :: st) S) : V G M n0 nE Z n ρ pc L (st) S := fun p e s m args below meth c E H locs ls hP hS hl => by
  obtain ⟨hd, rfl⟩ := h
  exact lv_iconst E.1 E.2.1 hd hv (k p e s m args below meth c E H locs ls hP hS hl)

theorem V_bipush {i : Int} {v : Int32} (h : Dc M pc (.bipush i) 2 pc') (hv : (Int8.ofInt i).toInt32 = v) (k : V G M n0 nE Z n ρ pc' L (.int v :: st) S) : V G M n0 nE Z n ρ pc L (st) S := fun p e s m args below meth c E H locs ls hP hS hl => by
  obtain ⟨hd, rfl⟩ := h
  exact lv_bipush E.1 E.2.1 hd hv (k p e s m args below meth c E H locs ls hP hS hl)

theorem V_sipush {i : Int} {v : Int32} (h : Dc M pc (.sipush i) 3 pc') (hv : (Int16.ofInt i).toInt32 = v) (k : V G M n0 nE Z n ρ pc' L (.int v :: st) S) : V G M n0 nE Z n ρ pc L (st) S := fun p e s m args below meth c E H locs ls hP hS hl => by
  obtain ⟨hd, rfl⟩ := h
  exact lv_sipush E.1 E.2.1 hd hv (k p e s m args below meth c E H locs ls hP hS hl)

theorem V_lconst {i : Fin 2} {v : Int64} (h : Dc M pc (.lconst i) 1 pc') (hv : Int64.ofNat (i : Nat) = v) (k : V G M n0 nE Z n ρ pc' L (.long v :: st) S) : V G M n0 nE Z n ρ pc L (st) S := fun p e s m args below meth c E H locs ls hP hS hl => by
  obtain ⟨hd, rfl⟩ := h
  exact lv_lconst E.1 E.2.1 hd hv (k p e s m args below meth c E H locs ls hP hS hl)

theorem V_iadd {x y : Int32} (h : Dc M pc (.iadd) 1 pc')  (k : V G M n0 nE Z n ρ pc' L (.int (x + y) :: st) S) : V G M n0 nE Z n ρ pc L (.int y :: .int x :: st) S := fun p e s m args below meth c E H locs ls hP hS hl => by
  obtain ⟨hd, rfl⟩ := h
  exact lv_iadd E.1 E.2.1 hd (k p e s m args below meth c E H locs ls hP hS hl)

theorem V_isub {x y : Int32} (h : Dc M pc (.isub) 1 pc')  (k : V G M n0 nE Z n ρ pc' L (.int (x - y) :: st) S) : V G M n0 nE Z n ρ pc L (.int y :: .int x :: st) S := fun p e s m args below meth c E H locs ls hP hS hl => by
  obtain ⟨hd, rfl⟩ := h
  exact lv_isub E.1 E.2.1 hd (k p e s m args below meth c E H locs ls hP hS hl)

theorem V_imul {x y : Int32} (h : Dc M pc (.imul) 1 pc')  (k : V G M n0 nE Z n ρ pc' L (.int (x * y) :: st) S) : V G M n0 nE Z n ρ pc L (.int y :: .int x :: st) S := fun p e s m args below meth c E H locs ls hP hS hl => by
  obtain ⟨hd, rfl⟩ := h
  exact lv_imul E.1 E.2.1 hd (k p e s m args below meth c E H locs ls hP hS hl)

theorem V_iand {x y : Int32} (h : Dc M pc (.iand) 1 pc')  (k : V G M n0 nE Z n ρ pc' L (.int (x &&& y) :: st) S) : V G M n0 nE Z n ρ pc L (.int y :: .int x :: st) S := fun p e s m args below meth c E H locs ls hP hS hl => by
  obtain ⟨hd, rfl⟩ := h
  exact lv_iand E.1 E.2.1 hd (k p e s m args below meth c E H locs ls hP hS hl)

theorem V_ior {x y : Int32} (h : Dc M pc (.ior) 1 pc')  (k : V G M n0 nE Z n ρ pc' L (.int (x ||| y) :: st) S) : V G M n0 nE Z n ρ pc L (.int y :: .int x :: st) S := fun p e s m args below meth c E H locs ls hP hS hl => by
  obtain ⟨hd, rfl⟩ := h
  exact lv_ior E.1 E.2.1 hd (k p e s m args below meth c E H locs ls hP hS hl)

theorem V_ishl {x y : Int32} (h : Dc M pc (.ishl) 1 pc')  (k : V G M n0 nE Z n ρ pc' L (.int (x <<< (y &&& 31)) :: st) S) : V G M n0 nE Z n ρ pc L (.int y :: .int x :: st) S := fun p e s m args below meth c E H locs ls hP hS hl => by
  obtain ⟨hd, rfl⟩ := h
  exact lv_ishl E.1 E.2.1 hd (k p e s m args below meth c E H locs ls hP hS hl)

theorem V_ishr {x y : Int32} (h : Dc M pc (.ishr) 1 pc')  (k : V G M n0 nE Z n ρ pc' L (.int (x >>> (y &&& 31)) :: st) S) : V G M n0 nE Z n ρ pc L (.int y :: .int x :: st) S := fun p e s m args below meth c E H locs ls hP hS hl => by
  obtain ⟨hd, rfl⟩ := h
  exact lv_ishr E.1 E.2.1 hd (k p e s m args below meth c E H locs ls hP hS hl)

theorem V_iushr {x y v : Int32} (h : Dc M pc (.iushr) 1 pc') (hv : (x.toUInt32 >>> (y.toUInt32 &&& Int32.toUInt32 31)).toInt32 = v) (k : V G M n0 nE Z n ρ pc' L (.int v :: st) S) : V G M n0 nE Z n ρ pc L (.int y :: .int x :: st) S := fun p e s m args below meth c E H locs ls hP hS hl => by
  obtain ⟨hd, rfl⟩ := h
  exact lv_iushr E.1 E.2.1 hd hv (k p e s m args below meth c E H locs ls hP hS hl)

theorem V_idiv {x y : Int32} (h : Dc M pc (.idiv) 1 pc') (hne : ¬ y = 0) (k : V G M n0 nE Z n ρ pc' L (.int (x / y) :: st) S) : V G M n0 nE Z n ρ pc L (.int y :: .int x :: st) S := fun p e s m args below meth c E H locs ls hP hS hl => by
  obtain ⟨hd, rfl⟩ := h
  exact lv_idiv E.1 E.2.1 hd hne (k p e s m args below meth c E H locs ls hP hS hl)

theorem V_irem {x y : Int32} (h : Dc M pc (.irem) 1 pc') (hne : ¬ y = 0) (k : V G M n0 nE Z n ρ pc' L (.int (x - x / y * y) :: st) S) : V G M n0 nE Z n ρ pc L (.int y :: .int x :: st) S := fun p e s m args below meth c E H locs ls hP hS hl => by
  obtain ⟨hd, rfl⟩ := h
  exact lv_irem E.1 E.2.1 hd hne (k p e s m args below meth c E H locs ls hP hS hl)

theorem V_ladd {x y : Int64} (h : Dc M pc (.ladd) 1 pc')  (k : V G M n0 nE Z n ρ pc' L (.long (x + y) :: st) S) : V G M n0 nE Z n ρ pc L (.long y :: .long x :: st) S := fun p e s m args below meth c E H locs ls hP hS hl => by
  obtain ⟨hd, rfl⟩ := h
  exact lv_ladd E.1 E.2.1 hd (k p e s m args below meth c E H locs ls hP hS hl)

theorem V_lsub {x y : Int64} (h : Dc M pc (.lsub) 1 pc')  (k : V G M n0 nE Z n ρ pc' L (.long (x - y) :: st) S) : V G M n0 nE Z n ρ pc L (.long y :: .long x :: st) S := fun p e s m args below meth c E H locs ls hP hS hl => by
  obtain ⟨hd, rfl⟩ := h
  exact lv_lsub E.1 E.2.1 hd (k p e s m args below meth c E H locs ls hP hS hl)

theorem V_lmul {x y : Int64} (h : Dc M pc (.lmul) 1 pc')  (k : V G M n0 nE Z n ρ pc' L (.long (x * y) :: st) S) : V G M n0 nE Z n ρ pc L (.long y :: .long x :: st) S := fun p e s m args below meth c E H locs ls hP hS hl => by
  obtain ⟨hd, rfl⟩ := h
  exact lv_lmul E.1 E.2.1 hd (k p e s m args below meth c E H locs ls hP hS hl)

theorem V_ldiv {x y : Int64} (h : Dc M pc (.ldiv) 1 pc') (hne : ¬ y = 0) (k : V G M n0 nE Z n ρ pc' L (.long (x / y) :: st) S) : V G M n0 nE Z n ρ pc L (.long y :: .long x :: st) S := fun p e s m args below meth c E H locs ls hP hS hl => by
  obtain ⟨hd, rfl⟩ := h
  exact lv_ldiv E.1 E.2.1 hd hne (k p e s m args below meth c E H locs ls hP hS hl)

theorem V_lrem {x y : Int64} (h : Dc M pc (.lrem) 1 pc') (hne : ¬ y = 0) (k : V G M n0 nE Z n ρ pc' L (.long (x - x / y * y) :: st) S) : V G M n0 nE Z n ρ pc L (.long y :: .long x :: st) S := fun p e s m args below meth c E H locs ls hP hS hl => by
  obtain ⟨hd, rfl⟩ := h
  exact lv_lrem E.1 E.2.1 hd hne (k p e s m args below meth c E H locs ls hP hS hl)

theorem V_lcmp {x y : Int64} (h : Dc M pc (.lcmp) 1 pc')  (k : V G M n0 nE Z n ρ pc' L (.int (lg_cmp x y) :: st) S) : V G M n0 nE Z n ρ pc L (.long y :: .long x :: st) S := fun p e s m args below meth c E H locs ls hP hS hl => by
  obtain ⟨hd, rfl⟩ := h
  exact W.lcmp E.1 E.2.1 hd (k p e s m args below meth c E H locs ls hP hS hl)

theorem V_i2l {x : Int32} {v : Int64} (h : Dc M pc (.i2l) 1 pc') (hv : x.toInt64 = v) (k : V G M n0 nE Z n ρ pc' L (.long v :: st) S) : V G M n0 nE Z n ρ pc L (.int x :: st) S := fun p e s m args below meth c E H locs ls hP hS hl => by
  obtain ⟨hd, rfl⟩ := h
  exact lv_i2l E.1 E.2.1 hd hv (k p e s m args below meth c E H locs ls hP hS hl)

theorem V_i2b {x : Int32} (h : Dc M pc (.i2b) 1 pc')  (k : V G M n0 nE Z n ρ pc' L (.int x.toInt8.toInt32 :: st) S) : V G M n0 nE Z n ρ pc L (.int x :: st) S := fun p e s m args below meth c E H locs ls hP hS hl => by
  obtain ⟨hd, rfl⟩ := h
  exact lv_i2b E.1 E.2.1 hd rfl (k p e s m args below meth c E H locs ls hP hS hl)

theorem V_i2s {x : Int32} (h : Dc M pc (.i2s) 1 pc')  (k : V G M n0 nE Z n ρ pc' L (.int x.toInt16.toInt32 :: st) S) : V G M n0 nE Z n ρ pc L (.int x :: st) S := fun p e s m args below meth c E H locs ls hP hS hl => by
  obtain ⟨hd, rfl⟩ := h
  exact lv_i2s E.1 E.2.1 hd rfl (k p e s m args below meth c E H locs ls hP hS hl)

theorem V_dup {v : Value} (h : Dc M pc (.dup) 1 pc') (hv : v.category = 1) (k : V G M n0 nE Z n ρ pc' L (v :: v :: st) S) : V G M n0 nE Z n ρ pc L (v :: st) S := fun p e s m args below meth c E H locs ls hP hS hl => by
  obtain ⟨hd, rfl⟩ := h
  exact lv_dup E.1 E.2.1 hd hv (k p e s m args below meth c E H locs ls hP hS hl)

theorem V_pop {v : Value} (h : Dc M pc (.pop) 1 pc') (hv : v.category = 1) (k : V G M n0 nE Z n ρ pc' L (st) S) : V G M n0 nE Z n ρ pc L (v :: st) S := fun p e s m args below meth c E H locs ls hP hS hl => by
  obtain ⟨hd, rfl⟩ := h
  exact lv_pop E.1 E.2.1 hd hv (k p e s m args below meth c E H locs ls hP hS hl)

theorem V_iaddN {x y : Nat} (h : Dc M pc .iadd 1 pc') (k : V G M n0 nE Z n ρ pc' L (.int (nI (x + y)) :: st) S) : V G M n0 nE Z n ρ pc L (.int (nI y) :: .int (nI x) :: st) S := V_iadd h (by rw [nI_add]; exact k)
theorem V_imulN {x y : Nat} (h : Dc M pc .imul 1 pc') (k : V G M n0 nE Z n ρ pc' L (.int (nI (x * y)) :: st) S) : V G M n0 nE Z n ρ pc L (.int (nI y) :: .int (nI x) :: st) S := V_imul h (by rw [pk_mul]; exact k)
theorem V_isubN {x y : Nat} (h : Dc M pc .isub 1 pc') (hxy : y ≤ x) (k : V G M n0 nE Z n ρ pc' L (.int (nI (x - y)) :: st) S) : V G M n0 nE Z n ρ pc L (.int (nI y) :: .int (nI x) :: st) S := V_isub h (by rw [pk_sub hxy]; exact k)
theorem V_laddN {x y : Nat} (h : Dc M pc .ladd 1 pc') (k : V G M n0 nE Z n ρ pc' L (.long (lN (x + y)) :: st) S) : V G M n0 nE Z n ρ pc L (.long (lN y) :: .long (lN x) :: st) S := V_ladd h (by rw [lN_add]; exact k)
theorem V_lmulN {x y : Nat} (h : Dc M pc .lmul 1 pc') (k : V G M n0 nE Z n ρ pc' L (.long (lN (x * y)) :: st) S) : V G M n0 nE Z n ρ pc L (.long (lN y) :: .long (lN x) :: st) S := V_lmul h (by rw [lN_mul]; exact k)
theorem V_i2lN {x : Nat} (h : Dc M pc .i2l 1 pc') (hx : x < 2 ^ 31) (k : V G M n0 nE Z n ρ pc' L (.long (lN x) :: st) S) : V G M n0 nE Z n ρ pc L (.int (nI x) :: st) S := V_i2l h (nI_l hx) k
/-- another name for the value on top -/
theorem V_top {v w : Value} (hv : v = w) (k : V G M n0 nE Z n ρ pc L (w :: st) S) : V G M n0 nE Z n ρ pc L (v :: st) S := by rw [hv]; exact k
theorem V_topi {x y : Int32} (hv : x = y) (k : V G M n0 nE Z n ρ pc L (.int y :: st) S) : V G M n0 nE Z n ρ pc L (.int x :: st) S := by rw [hv]; exact k
theorem V_topl {x y : Int64} (hv : x = y) (k : V G M n0 nE Z n ρ pc L (.long y :: st) S) : V G M n0 nE Z n ρ pc L (.long x :: st) S := by rw [hv]; exact k
theorem V_st {S1 : AS} (hv : S = S1) (k : V G M n0 nE Z n ρ pc L st S1) : V G M n0 nE Z n ρ pc L st S := by rw [hv]; exact k

theorem V_iload_n {j : Fin 4} {x : Int32} (h : Dc M pc (.iload_n j) 1 pc') (hl0 : L[(j : Nat)]? = some (some (.int x))) (k : V G M n0 nE Z n ρ pc' L (.int x :: st) S) : V G M n0 nE Z n ρ pc L st S := fun p e s m args below meth c E H locs ls hP hS hl => by
  obtain ⟨hd, rfl⟩ := h
  exact lv_iload_n E.1 E.2.1 hd rfl (lvh_at hl hl0) (k p e s m args below meth c E H locs ls hP hS hl)

theorem V_iload {j : Nat} {x : Int32} (h : Dc M pc (.iload j) 2 pc') (hl0 : L[j]? = some (some (.int x))) (k : V G M n0 nE Z n ρ pc' L (.int x :: st) S) : V G M n0 nE Z n ρ pc L st S := fun p e s m args below meth c E H locs ls hP hS hl => by
  obtain ⟨hd, rfl⟩ := h
  exact lv_iload E.1 E.2.1 hd (lvh_at hl hl0) (k p e s m args below meth c E H locs ls hP hS hl)

theorem V_aload_n {j : Fin 4} {x : Nat} (h : Dc M pc (.aload_n j) 1 pc') (hl0 : L[(j : Nat)]? = some (some (.ref x))) (k : V G M n0 nE Z n ρ pc' L (.ref x :: st) S) : V G M n0 nE Z n ρ pc L st S := fun p e s m args below meth c E H locs ls hP hS hl => by
  obtain ⟨hd, rfl⟩ := h
  exact lv_aload_n E.1 E.2.1 hd rfl (lvh_at hl hl0) (k p e s m args below meth c E H locs ls hP hS hl)

theorem V_aload {j : Nat} {x : Nat} (h : Dc M pc (.aload j) 2 pc') (hl0 : L[j]? = some (some (.ref x))) (k : V G M n0 nE Z n ρ pc' L (.ref x :: st) S) : V G M n0 nE Z n ρ pc L st S := fun p e s m args below meth c E H locs ls hP hS hl => by
  obtain ⟨hd, rfl⟩ := h
  exact lv_aload E.1 E.2.1 hd (lvh_at hl hl0) (k p e s m args below meth c E H locs ls hP hS hl)

theorem V_lload_n {j : Fin 4} {x : Int64} (h : Dc M pc (.lload_n j) 1 pc') (hl0 : L[(j : Nat)]? = some (some (.long x))) (k : V G M n0 nE Z n ρ pc' L (.long x :: st) S) : V G M n0 nE Z n ρ pc L st S := fun p e s m args below meth c E H locs ls hP hS hl => by
  obtain ⟨hd, rfl⟩ := h
  exact lv_lload_n E.1 E.2.1 hd rfl (lvh_at hl hl0) (k p e s m args below meth c E H locs ls hP hS hl)

theorem V_lload {j : Nat} {x : Int64} (h : Dc M pc (.lload j) 2 pc') (hl0 : L[j]? = some (some (.long x))) (k : V G M n0 nE Z n ρ pc' L (.long x :: st) S) : V G M n0 nE Z n ρ pc L st S := fun p e s m args below meth c E H locs ls hP hS hl => by
  obtain ⟨hd, rfl⟩ := h
  exact lv_lload E.1 E.2.1 hd (lvh_at hl hl0) (k p e s m args below meth c E H locs ls hP hS hl)

theorem V_istore_n {j : Fin 4} {x : Int32} (h : Dc M pc (.istore_n j) 1 pc') (hj : (j : Nat) < L.length) (hc : okst L (j : Nat) = true) (k : V G M n0 nE Z n ρ pc' (L.set (j : Nat) (some (.int x))) st S) : V G M n0 nE Z n ρ pc L (.int x :: st) S := fun p e s m args below meth c E H locs ls hP hS hl => by
  obtain ⟨hd, rfl⟩ := h
  exact lv_istore_n E.1 E.2.1 hd rfl hl.1 (Nat.lt_of_lt_of_le hj hl.2) rfl (fun ls' hl' => k p e s m args below meth c E H locs ls' hP hS (lvh_set1 hl.2 hc hl'))

theorem V_istore {j : Nat} {x : Int32} (h : Dc M pc (.istore j) 2 pc') (hj : j < L.length) (hc : okst L j = true) (k : V G M n0 nE Z n ρ pc' (L.set j (some (.int x))) st S) : V G M n0 nE Z n ρ pc L (.int x :: st) S := fun p e s m args below meth c E H locs ls hP hS hl => by
  obtain ⟨hd, rfl⟩ := h
  exact lv_istore E.1 E.2.1 hd hl.1 (Nat.lt_of_lt_of_le hj hl.2) rfl (fun ls' hl' => k p e s m args below meth c E H locs ls' hP hS (lvh_set1 hl.2 hc hl'))

theorem V_astore_n {j : Fin 4} {x : Nat} (h : Dc M pc (.astore_n j) 1 pc') (hj : (j : Nat) < L.length) (hc : okst L (j : Nat) = true) (k : V G M n0 nE Z n ρ pc' (L.set (j : Nat) (some (.ref x))) st S) : V G M n0 nE Z n ρ pc L (.ref x :: st) S := fun p e s m args below meth c E H locs ls hP hS hl => by
  obtain ⟨hd, rfl⟩ := h
  exact lv_astore_n E.1 E.2.1 hd rfl hl.1 (Nat.lt_of_lt_of_le hj hl.2) rfl (fun ls' hl' => k p e s m args below meth c E H locs ls' hP hS (lvh_set1 hl.2 hc hl'))

theorem V_lstore_n {j : Fin 4} {x : Int64} (h : Dc M pc (.lstore_n j) 1 pc') (hj : (j : Nat) + 1 < L.length) (hc : okst L (j : Nat) = true) (k : V G M n0 nE Z n ρ pc' ((L.set (j : Nat) (some (.long x))).set ((j : Nat) + 1) none) st S) : V G M n0 nE Z n ρ pc L (.long x :: st) S := fun p e s m args below meth c E H locs ls hP hS hl => by
  obtain ⟨hd, rfl⟩ := h
  exact lv_lstore_n E.1 E.2.1 hd rfl hl.1 (Nat.lt_of_lt_of_le hj hl.2) rfl (fun ls' hl' => k p e s m args below meth c E H locs ls' hP hS (lvh_set2 hl.2 hc hl'))

theorem V_lstore {j : Nat} {x : Int64} (h : Dc M pc (.lstore j) 2 pc') (hj : j + 1 < L.length) (hc : okst L j = true) (k : V G M n0 nE Z n ρ pc' ((L.set j (some (.long x))).set (j + 1) none) st S) : V G M n0 nE Z n ρ pc L (.long x :: st) S := fun p e s m args below meth c E H locs ls hP hS hl => by
  obtain ⟨hd, rfl⟩ := h
  exact lv_lstore E.1 E.2.1 hd hl.1 (Nat.lt_of_lt_of_le hj hl.2) rfl (fun ls' hl' => k p e s m args below meth c E H locs ls' hP hS (lvh_set2 hl.2 hc hl'))

theorem V_iinc {j : Nat} {i : Int} {x v : Int32} (h : Dc M pc (.iinc j i) 3 pc') (hl0 : L[j]? = some (some (.int x))) (hc : okst L j = true) (hv : x + Int32.ofInt i = v) (k : V G M n0 nE Z n ρ pc' (L.set j (some (.int v))) st S) : V G M n0 nE Z n ρ pc L st S := fun p e s m args below meth c E H locs ls hP hS hl => by
  obtain ⟨hd, rfl⟩ := h
  obtain ⟨q, hq⟩ := List.getElem?_of_mem ((lva_mem L 0 (j, .int x)).mpr ⟨Nat.zero_le _, hl0⟩)
  exact lv_iinc E.1 E.2.1 hd hl.1 hq hv (Nat.lt_of_lt_of_le (List.getElem?_eq_some_iff.mp hl0).1 hl.2) rfl (fun ls' hl' => k p e s m args below meth c E H locs ls' hP hS (lvh_set1 hl.2 hc hl'))

theorem V_il0 {t : List (Option Value)} {x : Int32} (h : Dc M pc (.iload_n 0) 1 pc') (k : V G M n0 nE Z n ρ pc' (some (.int x) :: t) (.int x :: st) S) : V G M n0 nE Z n ρ pc (some (.int x) :: t) st S := V_iload_n h rfl k

theorem V_al0 {t : List (Option Value)} {x : Nat} (h : Dc M pc (.aload_n 0) 1 pc') (k : V G M n0 nE Z n ρ pc' (some (.ref x) :: t) (.ref x :: st) S) : V G M n0 nE Z n ρ pc (some (.ref x) :: t) st S := V_aload_n h rfl k

theorem V_ll0 {t : List (Option Value)} {x : Int64} (h : Dc M pc (.lload_n 0) 1 pc') (k : V G M n0 nE Z n ρ pc' (some (.long x) :: t) (.long x :: st) S) : V G M n0 nE Z n ρ pc (some (.long x) :: t) st S := V_lload_n h rfl k

theorem V_is0 {b : Option Value} {t : List (Option Value)} {x : Int32} (h : Dc M pc (.istore_n 0) 1 pc') (k : V G M n0 nE Z n ρ pc' (some (.int x) :: t) st S) : V G M n0 nE Z n ρ pc (b :: t) (.int x :: st) S := V_istore_n h (Nat.le_add_left 1 t.length) rfl k

theorem V_as0 {b : Option Value} {t : List (Option Value)} {x : Nat} (h : Dc M pc (.astore_n 0) 1 pc') (k : V G M n0 nE Z n ρ pc' (some (.ref x) :: t) st S) : V G M n0 nE Z n ρ pc (b :: t) (.ref x :: st) S := V_astore_n h (Nat.le_add_left 1 t.length) rfl k

theorem V_ls0 {b b2 : Option Value} {t : List (Option Value)} {x : Int64} (h : Dc M pc (.lstore_n 0) 1 pc') (k : V G M n0 nE Z n ρ pc' (some (.long x) :: none :: t) st S) : V G M n0 nE Z n ρ pc (b :: b2 :: t) (.long x :: st) S := V_lstore_n h (Nat.le_add_left 2 t.length) rfl k

theorem V_ic0 {t : List (Option Value)} {q : Int} {x v : Int32} (h : Dc M pc (.iinc 0 q) 3 pc') (hv : x + Int32.ofInt q = v) (k : V G M n0 nE Z n ρ pc' (some (.int v) :: t) st S) : V G M n0 nE Z n ρ pc (some (.int x) :: t) st S := V_iinc h rfl rfl hv k

theorem V_icN0 {t : List (Option Value)} {x : Nat} (h : Dc M pc (.iinc 0 1) 3 pc') (k : V G M n0 nE Z n ρ pc' (some (.int (nI (x + 1))) :: t) st S) : V G M n0 nE Z n ρ pc (some (.int (nI x)) :: t) st S := V_iinc h rfl rfl (nI_1 x) k

theorem V_icM0 {t : List (Option Value)} {x : Nat} (h : Dc M pc (.iinc 0 (-1)) 3 pc') (k : V G M n0 nE Z n ρ pc' (some (.int (nI x)) :: t) st S) : V G M n0 nE Z n ρ pc (some (.int (nI (x + 1))) :: t) st S := V_iinc h rfl rfl (pk_m1 x) k

theorem V_il1 {a0 : Option Value} {t : List (Option Value)} {x : Int32} (h : Dc M pc (.iload_n 1) 1 pc') (k : V G M n0 nE Z n ρ pc' (a0 :: some (.int x) :: t) (.int x :: st) S) : V G M n0 nE Z n ρ pc (a0 :: some (.int x) :: t) st S := V_iload_n h rfl k

theorem V_al1 {a0 : Option Value} {t : List (Option Value)} {x : Nat} (h : Dc M pc (.aload_n 1) 1 pc') (k : V G M n0 nE Z n ρ pc' (a0 :: some (.ref x) :: t) (.ref x :: st) S) : V G M n0 nE Z n ρ pc (a0 :: some (.ref x) :: t) st S := V_aload_n h rfl k

theorem V_ll1 {a0 : Option Value} {t : List (Option Value)} {x : Int64} (h : Dc M pc (.lload_n 1) 1 pc') (k : V G M n0 nE Z n ρ pc' (a0 :: some (.long x) :: t) (.long x :: st) S) : V G M n0 nE Z n ρ pc (a0 :: some (.long x) :: t) st S := V_lload_n h rfl k

theorem V_is1 {a0 : Option Value} {b : Option Value} {t : List (Option Value)} {x : Int32} (h : Dc M pc (.istore_n 1) 1 pc') (hc : nl2 a0 = true) (k : V G M n0 nE Z n ρ pc' (a0 :: some (.int x) :: t) st S) : V G M n0 nE Z n ρ pc (a0 :: b :: t) (.int x :: st) S := V_istore_n h (Nat.le_add_left 2 t.length) hc k

theorem V_as1 {a0 : Option Value} {b : Option Value} {t : List (Option Value)} {x : Nat} (h : Dc M pc (.astore_n 1) 1 pc') (hc : nl2 a0 = true) (k : V G M n0 nE Z n ρ pc' (a0 :: some (.ref x) :: t) st S) : V G M n0 nE Z n ρ pc (a0 :: b :: t) (.ref x :: st) S := V_astore_n h (Nat.le_add_left 2 t.length) hc k

theorem V_ls1 {a0 : Option Value} {b b2 : Option Value} {t : List (Option Value)} {x : Int64} (h : Dc M pc (.lstore_n 1) 1 pc') (hc : nl2 a0 = true) (k : V G M n0 nE Z n ρ pc' (a0 :: some (.long x) :: none :: t) st S) : V G M n0 nE Z n ρ pc (a0 :: b :: b2 :: t) (.long x :: st) S := V_lstore_n h (Nat.le_add_left 3 t.length) hc k

theorem V_ic1 {a0 : Option Value} {t : List (Option Value)} {q : Int} {x v : Int32} (h : Dc M pc (.iinc 1 q) 3 pc') (hc : nl2 a0 = true) (hv : x + Int32.ofInt q = v) (k : V G M n0 nE Z n ρ pc' (a0 :: some (.int v) :: t) st S) : V G M n0 nE Z n ρ pc (a0 :: some (.int x) :: t) st S := V_iinc h rfl hc hv k

theorem V_icN1 {a0 : Option Value} {t : List (Option Value)} {x : Nat} (h : Dc M pc (.iinc 1 1) 3 pc') (hc : nl2 a0 = true) (k : V G M n0 nE Z n ρ pc' (a0 :: some (.int (nI (x + 1))) :: t) st S) : V G M n0 nE Z n ρ pc (a0 :: some (.int (nI x)) :: t) st S := V_iinc h rfl hc (nI_1 x) k

theorem V_icM1 {a0 : Option Value} {t : List (Option Value)} {x : Nat} (h : Dc M pc (.iinc 1 (-1)) 3 pc') (hc : nl2 a0 = true) (k : V G M n0 nE Z n ρ pc' (a0 :: some (.int (nI x)) :: t) st S) : V G M n0 nE Z n ρ pc (a0 :: some (.int (nI (x + 1))) :: t) st S := V_iinc h rfl hc (pk_m1 x) k

theorem V_il2 {a0 a1 : Option Value} {t : List (Option Value)} {x : Int32} (h : Dc M pc (.iload_n 2) 1 pc') (k : V G M n0 nE Z n ρ pc' (a0 :: a1 :: some (.int x) :: t) (.int x :: st) S) : V G M n0 nE Z n ρ pc (a0 :: a1 :: some (.int x) :: t) st S := V_iload_n h rfl k

theorem V_al2 {a0 a1 : Option Value} {t : List (Option Value)} {x : Nat} (h : Dc M pc (.aload_n 2) 1 pc') (k : V G M n0 nE Z n ρ pc' (a0 :: a1 :: some (.ref x) :: t) (.ref x :: st) S) : V G M n0 nE Z n ρ pc (a0 :: a1 :: some (.ref x) :: t) st S := V_aload_n h rfl k

theorem V_ll2 {a0 a1 : Option Value} {t : List (Option Value)} {x : Int64} (h : Dc M pc (.lload_n 2) 1 pc') (k : V G M n0 nE Z n ρ pc' (a0 :: a1 :: some (.long x) :: t) (.long x :: st) S) : V G M n0 nE Z n ρ pc (a0 :: a1 :: some (.long x) :: t) st S := V_lload_n h rfl k

theorem V_is2 {a0 a1 : Option Value} {b : Option Value} {t : List (Option Value)} {x : Int32} (h : Dc M pc (.istore_n 2) 1 pc') (hc : nl2 a1 = true) (k : V G M n0 nE Z n ρ pc' (a0 :: a1 :: some (.int x) :: t) st S) : V G M n0 nE Z n ρ pc (a0 :: a1 :: b :: t) (.int x :: st) S := V_istore_n h (Nat.le_add_left 3 t.length) hc k

theorem V_as2 {a0 a1 : Option Value} {b : Option Value} {t : List (Option Value)} {x : Nat} (h : Dc M pc (.astore_n 2) 1 pc') (hc : nl2 a1 = true) (k : V G M n0 nE Z n ρ pc' (a0 :: a1 :: some (.ref x) :: t) st S) : V G M n0 nE Z n ρ pc (a0 :: a1 :: b :: t) (.ref x :: st) S := V_astore_n h (Nat.le_add_left 3 t.length) hc k

theorem V_ls2 {a0 a1 : Option Value} {b b2 : Option Value} {t : List (Option Value)} {x : Int64} (h : Dc M pc (.lstore_n 2) 1 pc') (hc : nl2 a1 = true) (k : V G M n0 nE Z n ρ pc' (a0 :: a1 :: some (.long x) :: none :: t) st S) : V G M n0 nE Z n ρ pc (a0 :: a1 :: b :: b2 :: t) (.long x :: st) S := V_lstore_n h (Nat.le_add_left 4 t.length) hc k

theorem V_ic2 {a0 a1 : Option Value} {t : List (Option Value)} {q : Int} {x v : Int32} (h : Dc M pc (.iinc 2 q) 3 pc') (hc : nl2 a1 = true) (hv : x + Int32.ofInt q = v) (k : V G M n0 nE Z n ρ pc' (a0 :: a1 :: some (.int v) :: t) st S) : V G M n0 nE Z n ρ pc (a0 :: a1 :: some (.int x) :: t) st S := V_iinc h rfl hc hv k

theorem V_icN2 {a0 a1 : Option Value} {t : List (Option Value)} {x : Nat} (h : Dc M pc (.iinc 2 1) 3 pc') (hc : nl2 a1 = true) (k : V G M n0 nE Z n ρ pc' (a0 :: a1 :: some (.int (nI (x + 1))) :: t) st S) : V G M n0 nE Z n ρ pc (a0 :: a1 :: some (.int (nI x)) :: t) st S := V_iinc h rfl hc (nI_1 x) k

theorem V_icM2 {a0 a1 : Option Value} {t : List (Option Value)} {x : Nat} (h : Dc M pc (.iinc 2 (-1)) 3 pc') (hc : nl2 a1 = true) (k : V G M n0 nE Z n ρ pc' (a0 :: a1 :: some (.int (nI x)) :: t) st S) : V G M n0 nE Z n ρ pc (a0 :: a1 :: some (.int (nI (x + 1))) :: t) st S := V_iinc h rfl hc (pk_m1 x) k

theorem V_il3 {a0 a1 a2 : Option Value} {t : List (Option Value)} {x : Int32} (h : Dc M pc (.iload_n 3) 1 pc') (k : V G M n0 nE Z n ρ pc' (a0 :: a1 :: a2 :: some (.int x) :: t) (.int x :: st) S) : V G M n0 nE Z n ρ pc (a0 :: a1 :: a2 :: some (.int x) :: t) st S := V_iload_n h rfl k

theorem V_al3 {a0 a1 a2 : Option Value} {t : List (Option Value)} {x : Nat} (h : Dc M pc (.aload_n 3) 1 pc') (k : V G M n0 nE Z n ρ pc' (a0 :: a1 :: a2 :: some (.ref x) :: t) (.ref x :: st) S) : V G M n0 nE Z n ρ pc (a0 :: a1 :: a2 :: some (.ref x) :: t) st S := V_aload_n h rfl k

theorem V_ll3 {a0 a1 a2 : Option Value} {t : List (Option Value)} {x : Int64} (h : Dc M pc (.lload_n 3) 1 pc') (k : V G M n0 nE Z n ρ pc' (a0 :: a1 :: a2 :: some (.long x) :: t) (.long x :: st) S) : V G M n0 nE Z n ρ pc (a0 :: a1 :: a2 :: some (.long x) :: t) st S := V_lload_n h rfl k

theorem V_is3 {a0 a1 a2 : Option Value} {b : Option Value} {t : List (Option Value)} {x : Int32} (h : Dc M pc (.istore_n 3) 1 pc') (hc : nl2 a2 = true) (k : V G M n0 nE Z n ρ pc' (a0 :: a1 :: a2 :: some (.int x) :: t) st S) : V G M n0 nE Z n ρ pc (a0 :: a1 :: a2 :: b :: t) (.int x :: st) S := V_istore_n h (Nat.le_add_left 4 t.length) hc k

theorem V_as3 {a0 a1 a2 : Option Value} {b : Option Value} {t : List (Option Value)} {x : Nat} (h : Dc M pc (.astore_n 3) 1 pc') (hc : nl2 a2 = true) (k : V G M n0 nE Z n ρ pc' (a0 :: a1 :: a2 :: some (.ref x) :: t) st S) : V G M n0 nE Z n ρ pc (a0 :: a1 :: a2 :: b :: t) (.ref x :: st) S := V_astore_n h (Nat.le_add_left 4 t.length) hc k

theorem V_ls3 {a0 a1 a2 : Option Value} {b b2 : Option Value} {t : List (Option Value)} {x : Int64} (h : Dc M pc (.lstore_n 3) 1 pc') (hc : nl2 a2 = true) (k : V G M n0 nE Z n ρ pc' (a0 :: a1 :: a2 :: some (.long x) :: none :: t) st S) : V G M n0 nE Z n ρ pc (a0 :: a1 :: a2 :: b :: b2 :: t) (.long x :: st) S := V_lstore_n h (Nat.le_add_left 5 t.length) hc k

theorem V_ic3 {a0 a1 a2 : Option Value} {t : List (Option Value)} {q : Int} {x v : Int32} (h : Dc M pc (.iinc 3 q) 3 pc') (hc : nl2 a2 = true) (hv : x + Int32.ofInt q = v) (k : V G M n0 nE Z n ρ pc' (a0 :: a1 :: a2 :: some (.int v) :: t) st S) : V G M n0 nE Z n ρ pc (a0 :: a1 :: a2 :: some (.int x) :: t) st S := V_iinc h rfl hc hv k

theorem V_icN3 {a0 a1 a2 : Option Value} {t : List (Option Value)} {x : Nat} (h : Dc M pc (.iinc 3 1) 3 pc') (hc : nl2 a2 = true) (k : V G M n0 nE Z n ρ pc' (a0 :: a1 :: a2 :: some (.int (nI (x + 1))) :: t) st S) : V G M n0 nE Z n ρ pc (a0 :: a1 :: a2 :: some (.int (nI x)) :: t) st S := V_iinc h rfl hc (nI_1 x) k

theorem V_icM3 {a0 a1 a2 : Option Value} {t : List (Option Value)} {x : Nat} (h : Dc M pc (.iinc 3 (-1)) 3 pc') (hc : nl2 a2 = true) (k : V G M n0 nE Z n ρ pc' (a0 :: a1 :: a2 :: some (.int (nI x)) :: t) st S) : V G M n0 nE Z n ρ pc (a0 :: a1 :: a2 :: some (.int (nI (x + 1))) :: t) st S := V_iinc h rfl hc (pk_m1 x) k

theorem V_il4 {a0 a1 a2 a3 : Option Value} {t : List (Option Value)} {x : Int32} (h : Dc M pc (.iload 4) 2 pc') (k : V G M n0 nE Z n ρ pc' (a0 :: a1 :: a2 :: a3 :: some (.int x) :: t) (.int x :: st) S) : V G M n0 nE Z n ρ pc (a0 :: a1 :: a2 :: a3 :: some (.int x) :: t) st S := V_iload h rfl k

theorem V_al4 {a0 a1 a2 a3 : Option Value} {t : List (Option Value)} {x : Nat} (h : Dc M pc (.aload 4) 2 pc') (k : V G M n0 nE Z n ρ pc' (a0 :: a1 :: a2 :: a3 :: some (.ref x) :: t) (.ref x :: st) S) : V G M n0 nE Z n ρ pc (a0 :: a1 :: a2 :: a3 :: some (.ref x) :: t) st S := V_aload h rfl k

theorem V_ll4 {a0 a1 a2 a3 : Option Value} {t : List (Option Value)} {x : Int64} (h : Dc M pc (.lload 4) 2 pc') (k : V G M n0 nE Z n ρ pc' (a0 :: a1 :: a2 :: a3 :: some (.long x) :: t) (.long x :: st) S) : V G M n0 nE Z n ρ pc (a0 :: a1 :: a2 :: a3 :: some (.long x) :: t) st S := V_lload h rfl k

theorem V_is4 {a0 a1 a2 a3 : Option Value} {b : Option Value} {t : List (Option Value)} {x : Int32} (h : Dc M pc (.istore 4) 2 pc') (hc : nl2 a3 = true) (k : V G M n0 nE Z n ρ pc' (a0 :: a1 :: a2 :: a3 :: some (.int x) :: t) st S) : V G M n0 nE Z n ρ pc (a0 :: a1 :: a2 :: a3 :: b :: t) (.int x :: st) S := V_istore h (Nat.le_add_left 5 t.length) hc k

theorem V_ls4 {a0 a1 a2 a3 : Option Value} {b b2 : Option Value} {t : List (Option Value)} {x : Int64} (h : Dc M pc (.lstore 4) 2 pc') (hc : nl2 a3 = true) (k : V G M n0 nE Z n ρ pc' (a0 :: a1 :: a2 :: a3 :: some (.long x) :: none :: t) st S) : V G M n0 nE Z n ρ pc (a0 :: a1 :: a2 :: a3 :: b :: b2 :: t) (.long x :: st) S := V_lstore h (Nat.le_add_left 6 t.length) hc k

theorem V_ic4 {a0 a1 a2 a3 : Option Value} {t : List (Option Value)} {q : Int} {x v : Int32} (h : Dc M pc (.iinc 4 q) 3 pc') (hc : nl2 a3 = true) (hv : x + Int32.ofInt q = v) (k : V G M n0 nE Z n ρ pc' (a0 :: a1 :: a2 :: a3 :: some (.int v) :: t) st S) : V G M n0 nE Z n ρ pc (a0 :: a1 :: a2 :: a3 :: some (.int x) :: t) st S := V_iinc h rfl hc hv k

theorem V_icN4 {a0 a1 a2 a3 : Option Value} {t : List (Option Value)} {x : Nat} (h : Dc M pc (.iinc 4 1) 3 pc') (hc : nl2 a3 = true) (k : V G M n0 nE Z n ρ pc' (a0 :: a1 :: a2 :: a3 :: some (.int (nI (x + 1))) :: t) st S) : V G M n0 nE Z n ρ pc (a0 :: a1 :: a2 :: a3 :: some (.int (nI x)) :: t) st S := V_iinc h rfl hc (nI_1 x) k

theorem V_icM4 {a0 a1 a2 a3 : Option Value} {t : List (Option Value)} {x : Nat} (h : Dc M pc (.iinc 4 (-1)) 3 pc') (hc : nl2 a3 = true) (k : V G M n0 nE Z n ρ pc' (a0 :: a1 :: a2 :: a3 :: some (.int (nI x)) :: t) st S) : V G M n0 nE Z n ρ pc (a0 :: a1 :: a2 :: a3 :: some (.int (nI (x + 1))) :: t) st S := V_iinc h rfl hc (pk_m1 x) k

theorem V_il5 {a0 a1 a2 a3 a4 : Option Value} {t : List (Option Value)} {x : Int32} (h : Dc M pc (.iload 5) 2 pc') (k : V G M n0 nE Z n ρ pc' (a0 :: a1 :: a2 :: a3 :: a4 :: some (.int x) :: t) (.int x :: st) S) : V G M n0 nE Z n ρ pc (a0 :: a1 :: a2 :: a3 :: a4 :: some (.int x) :: t) st S := V_iload h rfl k

theorem V_al5 {a0 a1 a2 a3 a4 : Option Value} {t : List (Option Value)} {x : Nat} (h : Dc M pc (.aload 5) 2 pc') (k : V G M n0 nE Z n ρ pc' (a0 :: a1 :: a2 :: a3 :: a4 :: some (.ref x) :: t) (.ref x :: st) S) : V G M n0 nE Z n ρ pc (a0 :: a1 :: a2 :: a3 :: a4 :: some (.ref x) :: t) st S := V_aload h rfl k

theorem V_ll5 {a0 a1 a2 a3 a4 : Option Value} {t : List (Option Value)} {x : Int64} (h : Dc M pc (.lload 5) 2 pc') (k : V G M n0 nE Z n ρ pc' (a0 :: a1 :: a2 :: a3 :: a4 :: some (.long x) :: t) (.long x :: st) S) : V G M n0 nE Z n ρ pc (a0 :: a1 :: a2 :: a3 :: a4 :: some (.long x) :: t) st S := V_lload h rfl k

theorem V_is5 {a0 a1 a2 a3 a4 : Option Value} {b : Option Value} {t : List (Option Value)} {x : Int32} (h : Dc M pc (.istore 5) 2 pc') (hc : nl2 a4 = true) (k : V G M n0 nE Z n ρ pc' (a0 :: a1 :: a2 :: a3 :: a4 :: some (.int x) :: t) st S) : V G M n0 nE Z n ρ pc (a0 :: a1 :: a2 :: a3 :: a4 :: b :: t) (.int x :: st) S := V_istore h (Nat.le_add_left 6 t.length) hc k

theorem V_ls5 {a0 a1 a2 a3 a4 : Option Value} {b b2 : Option Value} {t : List (Option Value)} {x : Int64} (h : Dc M pc (.lstore 5) 2 pc') (hc : nl2 a4 = true) (k : V G M n0 nE Z n ρ pc' (a0 :: a1 :: a2 :: a3 :: a4 :: some (.long x) :: none :: t) st S) : V G M n0 nE Z n ρ pc (a0 :: a1 :: a2 :: a3 :: a4 :: b :: b2 :: t) (.long x :: st) S := V_lstore h (Nat.le_add_left 7 t.length) hc k

theorem V_ic5 {a0 a1 a2 a3 a4 : Option Value} {t : List (Option Value)} {q : Int} {x v : Int32} (h : Dc M pc (.iinc 5 q) 3 pc') (hc : nl2 a4 = true) (hv : x + Int32.ofInt q = v) (k : V G M n0 nE Z n ρ pc' (a0 :: a1 :: a2 :: a3 :: a4 :: some (.int v) :: t) st S) : V G M n0 nE Z n ρ pc (a0 :: a1 :: a2 :: a3 :: a4 :: some (.int x) :: t) st S := V_iinc h rfl hc hv k

theorem V_icN5 {a0 a1 a2 a3 a4 : Option Value} {t : List (Option Value)} {x : Nat} (h : Dc M pc (.iinc 5 1) 3 pc') (hc : nl2 a4 = true) (k : V G M n0 nE Z n ρ pc' (a0 :: a1 :: a2 :: a3 :: a4 :: some (.int (nI (x + 1))) :: t) st S) : V G M n0 nE Z n ρ pc (a0 :: a1 :: a2 :: a3 :: a4 :: some (.int (nI x)) :: t) st S := V_iinc h rfl hc (nI_1 x) k

theorem V_icM5 {a0 a1 a2 a3 a4 : Option Value} {t : List (Option Value)} {x : Nat} (h : Dc M pc (.iinc 5 (-1)) 3 pc') (hc : nl2 a4 = true) (k : V G M n0 nE Z n ρ pc' (a0 :: a1 :: a2 :: a3 :: a4 :: some (.int (nI x)) :: t) st S) : V G M n0 nE Z n ρ pc (a0 :: a1 :: a2 :: a3 :: a4 :: some (.int (nI (x + 1))) :: t) st S := V_iinc h rfl hc (pk_m1 x) k

theorem V_il6 {a0 a1 a2 a3 a4 a5 : Option Value} {t : List (Option Value)} {x : Int32} (h : Dc M pc (.iload 6) 2 pc') (k : V G M n0 nE Z n ρ pc' (a0 :: a1 :: a2 :: a3 :: a4 :: a5 :: some (.int x) :: t) (.int x :: st) S) : V G M n0 nE Z n ρ pc (a0 :: a1 :: a2 :: a3 :: a4 :: a5 :: some (.int x) :: t) st S := V_iload h rfl k

theorem V_al6 {a0 a1 a2 a3 a4 a5 : Option Value} {t : List (Option Value)} {x : Nat} (h : Dc M pc (.aload 6) 2 pc') (k : V G M n0 nE Z n ρ pc' (a0 :: a1 :: a2 :: a3 :: a4 :: a5 :: some (.ref x) :: t) (.ref x :: st) S) : V G M n0 nE Z n ρ pc (a0 :: a1 :: a2 :: a3 :: a4 :: a5 :: some (.ref x) :: t) st S := V_aload h rfl k

theorem V_ll6 {a0 a1 a2 a3 a4 a5 : Option Value} {t : List (Option Value)} {x : Int64} (h : Dc M pc (.lload 6) 2 pc') (k : V G M n0 nE Z n ρ pc' (a0 :: a1 :: a2 :: a3 :: a4 :: a5 :: some (.long x) :: t) (.long x :: st) S) : V G M n0 nE Z n ρ pc (a0 :: a1 :: a2 :: a3 :: a4 :: a5 :: some (.long x) :: t) st S := V_lload h rfl k

theorem V_is6 {a0 a1 a2 a3 a4 a5 : Option Value} {b : Option Value} {t : List (Option Value)} {x : Int32} (h : Dc M pc (.istore 6) 2 pc') (hc : nl2 a5 = true) (k : V G M n0 nE Z n ρ pc' (a0 :: a1 :: a2 :: a3 :: a4 :: a5 :: some (.int x) :: t) st S) : V G M n0 nE Z n ρ pc (a0 :: a1 :: a2 :: a3 :: a4 :: a5 :: b :: t) (.int x :: st) S := V_istore h (Nat.le_add_left 7 t.length) hc k

theorem V_ls6 {a0 a1 a2 a3 a4 a5 : Option Value} {b b2 : Option Value} {t : List (Option Value)} {x : Int64} (h : Dc M pc (.lstore 6) 2 pc') (hc : nl2 a5 = true) (k : V G M n0 nE Z n ρ pc' (a0 :: a1 :: a2 :: a3 :: a4 :: a5 :: some (.long x) :: none :: t) st S) : V G M n0 nE Z n ρ pc (a0 :: a1 :: a2 :: a3 :: a4 :: a5 :: b :: b2 :: t) (.long x :: st) S := V_lstore h (Nat.le_add_left 8 t.length) hc k

theorem V_ic6 {a0 a1 a2 a3 a4 a5 : Option Value} {t : List (Option Value)} {q : Int} {x v : Int32} (h : Dc M pc (.iinc 6 q) 3 pc') (hc : nl2 a5 = true) (hv : x + Int32.ofInt q = v) (k : V G M n0 nE Z n ρ pc' (a0 :: a1 :: a2 :: a3 :: a4 :: a5 :: some (.int v) :: t) st S) : V G M n0 nE Z n ρ pc (a0 :: a1 :: a2 :: a3 :: a4 :: a5 :: some (.int x) :: t) st S := V_iinc h rfl hc hv k

theorem V_icN6 {a0 a1 a2 a3 a4 a5 : Option Value} {t : List (Option Value)} {x : Nat} (h : Dc M pc (.iinc 6 1) 3 pc') (hc : nl2 a5 = true) (k : V G M n0 nE Z n ρ pc' (a0 :: a1 :: a2 :: a3 :: a4 :: a5 :: some (.int (nI (x + 1))) :: t) st S) : V G M n0 nE Z n ρ pc (a0 :: a1 :: a2 :: a3 :: a4 :: a5 :: some (.int (nI x)) :: t) st S := V_iinc h rfl hc (nI_1 x) k

theorem V_icM6 {a0 a1 a2 a3 a4 a5 : Option Value} {t : List (Option Value)} {x : Nat} (h : Dc M pc (.iinc 6 (-1)) 3 pc') (hc : nl2 a5 = true) (k : V G M n0 nE Z n ρ pc' (a0 :: a1 :: a2 :: a3 :: a4 :: a5 :: some (.int (nI x)) :: t) st S) : V G M n0 nE Z n ρ pc (a0 :: a1 :: a2 :: a3 :: a4 :: a5 :: some (.int (nI (x + 1))) :: t) st S := V_iinc h rfl hc (pk_m1 x) k

theorem V_il7 {a0 a1 a2 a3 a4 a5 a6 : Option Value} {t : List (Option Value)} {x : Int32} (h : Dc M pc (.iload 7) 2 pc') (k : V G M n0 nE Z n ρ pc' (a0 :: a1 :: a2 :: a3 :: a4 :: a5 :: a6 :: some (.int x) :: t) (.int x :: st) S) : V G M n0 nE Z n ρ pc (a0 :: a1 :: a2 :: a3 :: a4 :: a5 :: a6 :: some (.int x) :: t) st S := V_iload h rfl k

theorem V_al7 {a0 a1 a2 a3 a4 a5 a6 : Option Value} {t : List (Option Value)} {x : Nat} (h : Dc M pc (.aload 7) 2 pc') (k : V G M n0 nE Z n ρ pc' (a0 :: a1 :: a2 :: a3 :: a4 :: a5 :: a6 :: some (.ref x) :: t) (.ref x :: st) S) : V G M n0 nE Z n ρ pc (a0 :: a1 :: a2 :: a3 :: a4 :: a5 :: a6 :: some (.ref x) :: t) st S := V_aload h rfl k

theorem V_ll7 {a0 a1 a2 a3 a4 a5 a6 : Option Value} {t : List (Option Value)} {x : Int64} (h : Dc M pc (.lload 7) 2 pc') (k : V G M n0 nE Z n ρ pc' (a0 :: a1 :: a2 :: a3 :: a4 :: a5 :: a6 :: some (.long x) :: t) (.long x :: st) S) : V G M n0 nE Z n ρ pc (a0 :: a1 :: a2 :: a3 :: a4 :: a5 :: a6 :: some (.long x) :: t) st S := V_lload h rfl k

theorem V_is7 {a0 a1 a2 a3 a4 a5 a6 : Option Value} {b : Option Value} {t : List (Option Value)} {x : Int32} (h : Dc M pc (.istore 7) 2 pc') (hc : nl2 a6 = true) (k : V G M n0 nE Z n ρ pc' (a0 :: a1 :: a2 :: a3 :: a4 :: a5 :: a6 :: some (.int x) :: t) st S) : V G M n0 nE Z n ρ pc (a0 :: a1 :: a2 :: a3 :: a4 :: a5 :: a6 :: b :: t) (.int x :: st) S := V_istore h (Nat.le_add_left 8 t.length) hc k

theorem V_ls7 {a0 a1 a2 a3 a4 a5 a6 : Option Value} {b b2 : Option Value} {t : List (Option Value)} {x : Int64} (h : Dc M pc (.lstore 7) 2 pc') (hc : nl2 a6 = true) (k : V G M n0 nE Z n ρ pc' (a0 :: a1 :: a2 :: a3 :: a4 :: a5 :: a6 :: some (.long x) :: none :: t) st S) : V G M n0 nE Z n ρ pc (a0 :: a1 :: a2 :: a3 :: a4 :: a5 :: a6 :: b :: b2 :: t) (.long x :: st) S := V_lstore h (Nat.le_add_left 9 t.length) hc k

theorem V_ic7 {a0 a1 a2 a3 a4 a5 a6 : Option Value} {t : List (Option Value)} {q : Int} {x v : Int32} (h : Dc M pc (.iinc 7 q) 3 pc') (hc : nl2 a6 = true) (hv : x + Int32.ofInt q = v) (k : V G M n0 nE Z n ρ pc' (a0 :: a1 :: a2 :: a3 :: a4 :: a5 :: a6 :: some (.int v) :: t) st S) : V G M n0 nE Z n ρ pc (a0 :: a1 :: a2 :: a3 :: a4 :: a5 :: a6 :: some (.int x) :: t) st S := V_iinc h rfl hc hv k

theorem V_icN7 {a0 a1 a2 a3 a4 a5 a6 : Option Value} {t : List (Option Value)} {x : Nat} (h : Dc M pc (.iinc 7 1) 3 pc') (hc : nl2 a6 = true) (k : V G M n0 nE Z n ρ pc' (a0 :: a1 :: a2 :: a3 :: a4 :: a5 :: a6 :: some (.int (nI (x + 1))) :: t) st S) : V G M n0 nE Z n ρ pc (a0 :: a1 :: a2 :: a3 :: a4 :: a5 :: a6 :: some (.int (nI x)) :: t) st S := V_iinc h rfl hc (nI_1 x) k

theorem V_icM7 {a0 a1 a2 a3 a4 a5 a6 : Option Value} {t : List (Option Value)} {x : Nat} (h : Dc M pc (.iinc 7 (-1)) 3 pc') (hc : nl2 a6 = true) (k : V G M n0 nE Z n ρ pc' (a0 :: a1 :: a2 :: a3 :: a4 :: a5 :: a6 :: some (.int (nI x)) :: t) st S) : V G M n0 nE Z n ρ pc (a0 :: a1 :: a2 :: a3 :: a4 :: a5 :: a6 :: some (.int (nI (x + 1))) :: t) st S := V_iinc h rfl hc (pk_m1 x) k

theorem V_il8 {a0 a1 a2 a3 a4 a5 a6 a7 : Option Value} {t : List (Option Value)} {x : Int32} (h : Dc M pc (.iload 8) 2 pc') (k : V G M n0 nE Z n ρ pc' (a0 :: a1 :: a2 :: a3 :: a4 :: a5 :: a6 :: a7 :: some (.int x) :: t) (.int x :: st) S) : V G M n0 nE Z n ρ pc (a0 :: a1 :: a2 :: a3 :: a4 :: a5 :: a6 :: a7 :: some (.int x) :: t) st S := V_iload h rfl k

theorem V_al8 {a0 a1 a2 a3 a4 a5 a6 a7 : Option Value} {t : List (Option Value)} {x : Nat} (h : Dc M pc (.aload 8) 2 pc') (k : V G M n0 nE Z n ρ pc' (a0 :: a1 :: a2 :: a3 :: a4 :: a5 :: a6 :: a7 :: some (.ref x) :: t) (.ref x :: st) S) : V G M n0 nE Z n ρ pc (a0 :: a1 :: a2 :: a3 :: a4 :: a5 :: a6 :: a7 :: some (.ref x) :: t) st S := V_aload h rfl k

theorem V_ll8 {a0 a1 a2 a3 a4 a5 a6 a7 : Option Value} {t : List (Option Value)} {x : Int64} (h : Dc M pc (.lload 8) 2 pc') (k : V G M n0 nE Z n ρ pc' (a0 :: a1 :: a2 :: a3 :: a4 :: a5 :: a6 :: a7 :: some (.long x) :: t) (.long x :: st) S) : V G M n0 nE Z n ρ pc (a0 :: a1 :: a2 :: a3 :: a4 :: a5 :: a6 :: a7 :: some (.long x) :: t) st S := V_lload h rfl k

theorem V_is8 {a0 a1 a2 a3 a4 a5 a6 a7 : Option Value} {b : Option Value} {t : List (Option Value)} {x : Int32} (h : Dc M pc (.istore 8) 2 pc') (hc : nl2 a7 = true) (k : V G M n0 nE Z n ρ pc' (a0 :: a1 :: a2 :: a3 :: a4 :: a5 :: a6 :: a7 :: some (.int x) :: t) st S) : V G M n0 nE Z n ρ pc (a0 :: a1 :: a2 :: a3 :: a4 :: a5 :: a6 :: a7 :: b :: t) (.int x :: st) S := V_istore h (Nat.le_add_left 9 t.length) hc k

theorem V_ls8 {a0 a1 a2 a3 a4 a5 a6 a7 : Option Value} {b b2 : Option Value} {t : List (Option Value)} {x : Int64} (h : Dc M pc (.lstore 8) 2 pc') (hc : nl2 a7 = true) (k : V G M n0 nE Z n ρ pc' (a0 :: a1 :: a2 :: a3 :: a4 :: a5 :: a6 :: a7 :: some (.long x) :: none :: t) st S) : V G M n0 nE Z n ρ pc (a0 :: a1 :: a2 :: a3 :: a4 :: a5 :: a6 :: a7 :: b :: b2 :: t) (.long x :: st) S := V_lstore h (Nat.le_add_left 10 t.length) hc k

theorem V_ic8 {a0 a1 a2 a3 a4 a5 a6 a7 : Option Value} {t : List (Option Value)} {q : Int} {x v : Int32} (h : Dc M pc (.iinc 8 q) 3 pc') (hc : nl2 a7 = true) (hv : x + Int32.ofInt q = v) (k : V G M n0 nE Z n ρ pc' (a0 :: a1 :: a2 :: a3 :: a4 :: a5 :: a6 :: a7 :: some (.int v) :: t) st S) : V G M n0 nE Z n ρ pc (a0 :: a1 :: a2 :: a3 :: a4 :: a5 :: a6 :: a7 :: some (.int x) :: t) st S := V_iinc h rfl hc hv k

theorem V_icN8 {a0 a1 a2 a3 a4 a5 a6 a7 : Option Value} {t : List (Option Value)} {x : Nat} (h : Dc M pc (.iinc 8 1) 3 pc') (hc : nl2 a7 = true) (k : V G M n0 nE Z n ρ pc' (a0 :: a1 :: a2 :: a3 :: a4 :: a5 :: a6 :: a7 :: some (.int (nI (x + 1))) :: t) st S) : V G M n0 nE Z n ρ pc (a0 :: a1 :: a2 :: a3 :: a4 :: a5 :: a6 :: a7 :: some (.int (nI x)) :: t) st S := V_iinc h rfl hc (nI_1 x) k

theorem V_icM8 {a0 a1 a2 a3 a4 a5 a6 a7 : Option Value} {t : List (Option Value)} {x : Nat} (h : Dc M pc (.iinc 8 (-1)) 3 pc') (hc : nl2 a7 = true) (k : V G M n0 nE Z n ρ pc' (a0 :: a1 :: a2 :: a3 :: a4 :: a5 :: a6 :: a7 :: some (.int (nI x)) :: t) st S) : V G M n0 nE Z n ρ pc (a0 :: a1 :: a2 :: a3 :: a4 :: a5 :: a6 :: a7 :: some (.int (nI (x + 1))) :: t) st S := V_iinc h rfl hc (pk_m1 x) k

theorem V_il9 {a0 a1 a2 a3 a4 a5 a6 a7 a8 : Option Value} {t : List (Option Value)} {x : Int32} (h : Dc M pc (.iload 9) 2 pc') (k : V G M n0 nE Z n ρ pc' (a0 :: a1 :: a2 :: a3 :: a4 :: a5 :: a6 :: a7 :: a8 :: some (.int x) :: t) (.int x :: st) S) : V G M n0 nE Z n ρ pc (a0 :: a1 :: a2 :: a3 :: a4 :: a5 :: a6 :: a7 :: a8 :: some (.int x) :: t) st S := V_iload h rfl k

theorem V_al9 {a0 a1 a2 a3 a4 a5 a6 a7 a8 : Option Value} {t : List (Option Value)} {x : Nat} (h : Dc M pc (.aload 9) 2 pc') (k : V G M n0 nE Z n ρ pc' (a0 :: a1 :: a2 :: a3 :: a4 :: a5 :: a6 :: a7 :: a8 :: some (.ref x) :: t) (.ref x :: st) S) : V G M n0 nE Z n ρ pc (a0 :: a1 :: a2 :: a3 :: a4 :: a5 :: a6 :: a7 :: a8 :: some (.ref x) :: t) st S := V_aload h rfl k

theorem V_ll9 {a0 a1 a2 a3 a4 a5 a6 a7 a8 : Option Value} {t : List (Option Value)} {x : Int64} (h : Dc M pc (.lload 9) 2 pc') (k : V G M n0 nE Z n ρ pc' (a0 :: a1 :: a2 :: a3 :: a4 :: a5 :: a6 :: a7 :: a8 :: some (.long x) :: t) (.long x :: st) S) : V G M n0 nE Z n ρ pc (a0 :: a1 :: a2 :: a3 :: a4 :: a5 :: a6 :: a7 :: a8 :: some (.long x) :: t) st S := V_lload h rfl k

theorem V_is9 {a0 a1 a2 a3 a4 a5 a6 a7 a8 : Option Value} {b : Option Value} {t : List (Option Value)} {x : Int32} (h : Dc M pc (.istore 9) 2 pc') (hc : nl2 a8 = true) (k : V G M n0 nE Z n ρ pc' (a0 :: a1 :: a2 :: a3 :: a4 :: a5 :: a6 :: a7 :: a8 :: some (.int x) :: t) st S) : V G M n0 nE Z n ρ pc (a0 :: a1 :: a2 :: a3 :: a4 :: a5 :: a6 :: a7 :: a8 :: b :: t) (.int x :: st) S := V_istore h (Nat.le_add_left 10 t.length) hc k

theorem V_ls9 {a0 a1 a2 a3 a4 a5 a6 a7 a8 : Option Value} {b b2 : Option Value} {t : List (Option Value)} {x : Int64} (h : Dc M pc (.lstore 9) 2 pc') (hc : nl2 a8 = true) (k : V G M n0 nE Z n ρ pc' (a0 :: a1 :: a2 :: a3 :: a4 :: a5 :: a6 :: a7 :: a8 :: some (.long x) :: none :: t) st S) : V G M n0 nE Z n ρ pc (a0 :: a1 :: a2 :: a3 :: a4 :: a5 :: a6 :: a7 :: a8 :: b :: b2 :: t) (.long x :: st) S := V_lstore h (Nat.le_add_left 11 t.length) hc k

theorem V_ic9 {a0 a1 a2 a3 a4 a5 a6 a7 a8 : Option Value} {t : List (Option Value)} {q : Int} {x v : Int32} (h : Dc M pc (.iinc 9 q) 3 pc') (hc : nl2 a8 = true) (hv : x + Int32.ofInt q = v) (k : V G M n0 nE Z n ρ pc' (a0 :: a1 :: a2 :: a3 :: a4 :: a5 :: a6 :: a7 :: a8 :: some (.int v) :: t) st S) : V G M n0 nE Z n ρ pc (a0 :: a1 :: a2 :: a3 :: a4 :: a5 :: a6 :: a7 :: a8 :: some (.int x) :: t) st S := V_iinc h rfl hc hv k

theorem V_icN9 {a0 a1 a2 a3 a4 a5 a6 a7 a8 : Option Value} {t : List (Option Value)} {x : Nat} (h : Dc M pc (.iinc 9 1) 3 pc') (hc : nl2 a8 = true) (k : V G M n0 nE Z n ρ pc' (a0 :: a1 :: a2 :: a3 :: a4 :: a5 :: a6 :: a7 :: a8 :: some (.int (nI (x + 1))) :: t) st S) : V G M n0 nE Z n ρ pc (a0 :: a1 :: a2 :: a3 :: a4 :: a5 :: a6 :: a7 :: a8 :: some (.int (nI x)) :: t) st S := V_iinc h rfl hc (nI_1 x) k

theorem V_icM9 {a0 a1 a2 a3 a4 a5 a6 a7 a8 : Option Value} {t : List (Option Value)} {x : Nat} (h : Dc M pc (.iinc 9 (-1)) 3 pc') (hc : nl2 a8 = true) (k : V G M n0 nE Z n ρ pc' (a0 :: a1 :: a2 :: a3 :: a4 :: a5 :: a6 :: a7 :: a8 :: some (.int (nI x)) :: t) st S) : V G M n0 nE Z n ρ pc (a0 :: a1 :: a2 :: a3 :: a4 :: a5 :: a6 :: a7 :: a8 :: some (.int (nI (x + 1))) :: t) st S := V_iinc h rfl hc (pk_m1 x) k

theorem V_il10 {a0 a1 a2 a3 a4 a5 a6 a7 a8 a9 : Option Value} {t : List (Option Value)} {x : Int32} (h : Dc M pc (.iload 10) 2 pc') (k : V G M n0 nE Z n ρ pc' (a0 :: a1 :: a2 :: a3 :: a4 :: a5 :: a6 :: a7 :: a8 :: a9 :: some (.int x) :: t) (.int x :: st) S) : V G M n0 nE Z n ρ pc (a0 :: a1 :: a2 :: a3 :: a4 :: a5 :: a6 :: a7 :: a8 :: a9 :: some (.int x) :: t) st S := V_iload h rfl k

theorem V_al10 {a0 a1 a2 a3 a4 a5 a6 a7 a8 a9 : Option Value} {t : List (Option Value)} {x : Nat} (h : Dc M pc (.aload 10) 2 pc') (k : V G M n0 nE Z n ρ pc' (a0 :: a1 :: a2 :: a3 :: a4 :: a5 :: a6 :: a7 :: a8 :: a9 :: some (.ref x) :: t) (.ref x :: st) S) : V G M n0 nE Z n ρ pc (a0 :: a1 :: a2 :: a3 :: a4 :: a5 :: a6 :: a7 :: a8 :: a9 :: some (.ref x) :: t) st S := V_aload h rfl k

theorem V_ll10 {a0 a1 a2 a3 a4 a5 a6 a7 a8 a9 : Option Value} {t : List (Option Value)} {x : Int64} (h : Dc M pc (.lload 10) 2 pc') (k : V G M n0 nE Z n ρ pc' (a0 :: a1 :: a2 :: a3 :: a4 :: a5 :: a6 :: a7 :: a8 :: a9 :: some (.long x) :: t) (.long x :: st) S) : V G M n0 nE Z n ρ pc (a0 :: a1 :: a2 :: a3 :: a4 :: a5 :: a6 :: a7 :: a8 :: a9 :: some (.long x) :: t) st S := V_lload h rfl k

theorem V_is10 {a0 a1 a2 a3 a4 a5 a6 a7 a8 a9 : Option Value} {b : Option Value} {t : List (Option Value)} {x : Int32} (h : Dc M pc (.istore 10) 2 pc') (hc : nl2 a9 = true) (k : V G M n0 nE Z n ρ pc' (a0 :: a1 :: a2 :: a3 :: a4 :: a5 :: a6 :: a7 :: a8 :: a9 :: some (.int x) :: t) st S) : V G M n0 nE Z n ρ pc (a0 :: a1 :: a2 :: a3 :: a4 :: a5 :: a6 :: a7 :: a8 :: a9 :: b :: t) (.int x :: st) S := V_istore h (Nat.le_add_left 11 t.length) hc k

theorem V_ls10 {a0 a1 a2 a3 a4 a5 a6 a7 a8 a9 : Option Value} {b b2 : Option Value} {t : List (Option Value)} {x : Int64} (h : Dc M pc (.lstore 10) 2 pc') (hc : nl2 a9 = true) (k : V G M n0 nE Z n ρ pc' (a0 :: a1 :: a2 :: a3 :: a4 :: a5 :: a6 :: a7 :: a8 :: a9 :: some (.long x) :: none :: t) st S) : V G M n0 nE Z n ρ pc (a0 :: a1 :: a2 :: a3 :: a4 :: a5 :: a6 :: a7 :: a8 :: a9 :: b :: b2 :: t) (.long x :: st) S := V_lstore h (Nat.le_add_left 12 t.length) hc k

theorem V_ic10 {a0 a1 a2 a3 a4 a5 a6 a7 a8 a9 : Option Value} {t : List (Option Value)} {q : Int} {x v : Int32} (h : Dc M pc (.iinc 10 q) 3 pc') (hc : nl2 a9 = true) (hv : x + Int32.ofInt q = v) (k : V G M n0 nE Z n ρ pc' (a0 :: a1 :: a2 :: a3 :: a4 :: a5 :: a6 :: a7 :: a8 :: a9 :: some (.int v) :: t) st S) : V G M n0 nE Z n ρ pc (a0 :: a1 :: a2 :: a3 :: a4 :: a5 :: a6 :: a7 :: a8 :: a9 :: some (.int x) :: t) st S := V_iinc h rfl hc hv k

theorem V_icN10 {a0 a1 a2 a3 a4 a5 a6 a7 a8 a9 : Option Value} {t : List (Option Value)} {x : Nat} (h : Dc M pc (.iinc 10 1) 3 pc') (hc : nl2 a9 = true) (k : V G M n0 nE Z n ρ pc' (a0 :: a1 :: a2 :: a3 :: a4 :: a5 :: a6 :: a7 :: a8 :: a9 :: some (.int (nI (x + 1))) :: t) st S) : V G M n0 nE Z n ρ pc (a0 :: a1 :: a2 :: a3 :: a4 :: a5 :: a6 :: a7 :: a8 :: a9 :: some (.int (nI x)) :: t) st S := V_iinc h rfl hc (nI_1 x) k

theorem V_icM10 {a0 a1 a2 a3 a4 a5 a6 a7 a8 a9 : Option Value} {t : List (Option Value)} {x : Nat} (h : Dc M pc (.iinc 10 (-1)) 3 pc') (hc : nl2 a9 = true) (k : V G M n0 nE Z n ρ pc' (a0 :: a1 :: a2 :: a3 :: a4 :: a5 :: a6 :: a7 :: a8 :: a9 :: some (.int (nI x)) :: t) st S) : V G M n0 nE Z n ρ pc (a0 :: a1 :: a2 :: a3 :: a4 :: a5 :: a6 :: a7 :: a8 :: a9 :: some (.int (nI (x + 1))) :: t) st S := V_iinc h rfl hc (pk_m1 x) k

theorem V_il11 {a0 a1 a2 a3 a4 a5 a6 a7 a8 a9 a10 : Option Value} {t : List (Option Value)} {x : Int32} (h : Dc M pc (.iload 11) 2 pc') (k : V G M n0 nE Z n ρ pc' (a0 :: a1 :: a2 :: a3 :: a4 :: a5 :: a6 :: a7 :: a8 :: a9 :: a10 :: some (.int x) :: t) (.int x :: st) S) : V G M n0 nE Z n ρ pc (a0 :: a1 :: a2 :: a3 :: a4 :: a5 :: a6 :: a7 :: a8 :: a9 :: a10 :: some (.int x) :: t) st S := V_iload h rfl k

theorem V_al11 {a0 a1 a2 a3 a4 a5 a6 a7 a8 a9 a10 : Option Value} {t : List (Option Value)} {x : Nat} (h : Dc M pc (.aload 11) 2 pc') (k : V G M n0 nE Z n ρ pc' (a0 :: a1 :: a2 :: a3 :: a4 :: a5 :: a6 :: a7 :: a8 :: a9 :: a10 :: some (.ref x) :: t) (.ref x :: st) S) : V G M n0 nE Z n ρ pc (a0 :: a1 :: a2 :: a3 :: a4 :: a5 :: a6 :: a7 :: a8 :: a9 :: a10 :: some (.ref x) :: t) st S := V_aload h rfl k

theorem V_ll11 {a0 a1 a2 a3 a4 a5 a6 a7 a8 a9 a10 : Option Value} {t : List (Option Value)} {x : Int64} (h : Dc M pc (.lload 11) 2 pc') (k : V G M n0 nE Z n ρ pc' (a0 :: a1 :: a2 :: a3 :: a4 :: a5 :: a6 :: a7 :: a8 :: a9 :: a10 :: some (.long x) :: t) (.long x :: st) S) : V G M n0 nE Z n ρ pc (a0 :: a1 :: a2 :: a3 :: a4 :: a5 :: a6 :: a7 :: a8 :: a9 :: a10 :: some (.long x) :: t) st S := V_lload h rfl k

theorem V_is11 {a0 a1 a2 a3 a4 a5 a6 a7 a8 a9 a10 : Option Value} {b : Option Value} {t : List (Option Value)} {x : Int32} (h : Dc M pc (.istore 11) 2 pc') (hc : nl2 a10 = true) (k : V G M n0 nE Z n ρ pc' (a0 :: a1 :: a2 :: a3 :: a4 :: a5 :: a6 :: a7 :: a8 :: a9 :: a10 :: some (.int x) :: t) st S) : V G M n0 nE Z n ρ pc (a0 :: a1 :: a2 :: a3 :: a4 :: a5 :: a6 :: a7 :: a8 :: a9 :: a10 :: b :: t) (.int x :: st) S := V_istore h (Nat.le_add_left 12 t.length) hc k

theorem V_ls11 {a0 a1 a2 a3 a4 a5 a6 a7 a8 a9 a10 : Option Value} {b b2 : Option Value} {t : List (Option Value)} {x : Int64} (h : Dc M pc (.lstore 11) 2 pc') (hc : nl2 a10 = true) (k : V G M n0 nE Z n ρ pc' (a0 :: a1 :: a2 :: a3 :: a4 :: a5 :: a6 :: a7 :: a8 :: a9 :: a10 :: some (.long x) :: none :: t) st S) : V G M n0 nE Z n ρ pc (a0 :: a1 :: a2 :: a3 :: a4 :: a5 :: a6 :: a7 :: a8 :: a9 :: a10 :: b :: b2 :: t) (.long x :: st) S := V_lstore h (Nat.le_add_left 13 t.length) hc k

theorem V_ic11 {a0 a1 a2 a3 a4 a5 a6 a7 a8 a9 a10 : Option Value} {t : List (Option Value)} {q : Int} {x v : Int32} (h : Dc M pc (.iinc 11 q) 3 pc') (hc : nl2 a10 = true) (hv : x + Int32.ofInt q = v) (k : V G M n0 nE Z n ρ pc' (a0 :: a1 :: a2 :: a3 :: a4 :: a5 :: a6 :: a7 :: a8 :: a9 :: a10 :: some (.int v) :: t) st S) : V G M n0 nE Z n ρ pc (a0 :: a1 :: a2 :: a3 :: a4 :: a5 :: a6 :: a7 :: a8 :: a9 :: a10 :: some (.int x) :: t) st S := V_iinc h rfl hc hv k

theorem V_icN11 {a0 a1 a2 a3 a4 a5 a6 a7 a8 a9 a10 : Option Value} {t : List (Option Value)} {x : Nat} (h : Dc M pc (.iinc 11 1) 3 pc') (hc : nl2 a10 = true) (k : V G M n0 nE Z n ρ pc' (a0 :: a1 :: a2 :: a3 :: a4 :: a5 :: a6 :: a7 :: a8 :: a9 :: a10 :: some (.int (nI (x + 1))) :: t) st S) : V G M n0 nE Z n ρ pc (a0 :: a1 :: a2 :: a3 :: a4 :: a5 :: a6 :: a7 :: a8 :: a9 :: a10 :: some (.int (nI x)) :: t) st S := V_iinc h rfl hc (nI_1 x) k

theorem V_icM11 {a0 a1 a2 a3 a4 a5 a6 a7 a8 a9 a10 : Option Value} {t : List (Option Value)} {x : Nat} (h : Dc M pc (.iinc 11 (-1)) 3 pc') (hc : nl2 a10 = true) (k : V G M n0 nE Z n ρ pc' (a0 :: a1 :: a2 :: a3 :: a4 :: a5 :: a6 :: a7 :: a8 :: a9 :: a10 :: some (.int (nI x)) :: t) st S) : V G M n0 nE Z n ρ pc (a0 :: a1 :: a2 :: a3 :: a4 :: a5 :: a6 :: a7 :: a8 :: a9 :: a10 :: some (.int (nI (x + 1))) :: t) st S := V_iinc h rfl hc (pk_m1 x) k

def Db (M : MT) (pc : Nat) (q : Jvm.ClassFile.Cond) (tgt pc' : Nat) : Prop := ∃ off : Int, decode (mC M) pc = .ok (.ifCond q off, 3) ∧ (pc : Int) + off = (tgt : Int) ∧ pc + 3 = pc'
def Di (M : MT) (pc : Nat) (q : Jvm.ClassFile.Cond) (tgt pc' : Nat) : Prop := ∃ off : Int, decode (mC M) pc = .ok (.if_icmp q off, 3) ∧ (pc : Int) + off = (tgt : Int) ∧ pc + 3 = pc'
def Dg (M : MT) (pc tgt : Nat) : Prop := ∃ off : Int, decode (mC M) pc = .ok (.goto off, 3) ∧ (pc : Int) + off = (tgt : Int)

theorem V_if_eq {tgt : Nat} {x : Int32} (h : Db M pc .eq tgt pc') (kt : x = 0 → V G M n0 nE Z n ρ tgt L st S) (kf : ¬ x = 0 → V G M n0 nE Z n ρ pc' L st S) : V G M n0 nE Z n ρ pc L (.int x :: st) S := fun p e s m args below meth c E H locs ls hP hS hl => by
  obtain ⟨off, hd, ht, rfl⟩ := h
  exact lv_if_eq E.1 E.2.1 hd ht (fun q => kt q p e s m args below meth c E H locs ls hP hS hl) (fun q => kf q p e s m args below meth c E H locs ls hP hS hl)
theorem V_ic_eq {tgt : Nat} {x y : Int32} (h : Di M pc .eq tgt pc') (kt : x = y → V G M n0 nE Z n ρ tgt L st S) (kf : ¬ x = y → V G M n0 nE Z n ρ pc' L st S) : V G M n0 nE Z n ρ pc L (.int y :: .int x :: st) S := fun p e s m args below meth c E H locs ls hP hS hl => by
  obtain ⟨off, hd, ht, rfl⟩ := h
  exact lv_icmp_eq E.1 E.2.1 hd ht (fun q => kt q p e s m args below meth c E H locs ls hP hS hl) (fun q => kf q p e s m args below meth c E H locs ls hP hS hl)

theorem V_if_ne {tgt : Nat} {x : Int32} (h : Db M pc .ne tgt pc') (kt : ¬ x = 0 → V G M n0 nE Z n ρ tgt L st S) (kf : x = 0 → V G M n0 nE Z n ρ pc' L st S) : V G M n0 nE Z n ρ pc L (.int x :: st) S := fun p e s m args below meth c E H locs ls hP hS hl => by
  obtain ⟨off, hd, ht, rfl⟩ := h
  exact lv_if_ne E.1 E.2.1 hd ht (fun q => kt q p e s m args below meth c E H locs ls hP hS hl) (fun q => kf q p e s m args below meth c E H locs ls hP hS hl)
theorem V_ic_ne {tgt : Nat} {x y : Int32} (h : Di M pc .ne tgt pc') (kt : ¬ x = y → V G M n0 nE Z n ρ tgt L st S) (kf : x = y → V G M n0 nE Z n ρ pc' L st S) : V G M n0 nE Z n ρ pc L (.int y :: .int x :: st) S := fun p e s m args below meth c E H locs ls hP hS hl => by
  obtain ⟨off, hd, ht, rfl⟩ := h
  exact lv_icmp_ne E.1 E.2.1 hd ht (fun q => kt q p e s m args below meth c E H locs ls hP hS hl) (fun q => kf q p e s m args below meth c E H locs ls hP hS hl)

theorem V_if_lt {tgt : Nat} {x : Int32} (h : Db M pc .lt tgt pc') (kt : x < 0 → V G M n0 nE Z n ρ tgt L st S) (kf : ¬ x < 0 → V G M n0 nE Z n ρ pc' L st S) : V G M n0 nE Z n ρ pc L (.int x :: st) S := fun p e s m args below meth c E H locs ls hP hS hl => by
  obtain ⟨off, hd, ht, rfl⟩ := h
  exact lv_if_lt E.1 E.2.1 hd ht (fun q => kt q p e s m args below meth c E H locs ls hP hS hl) (fun q => kf q p e s m args below meth c E H locs ls hP hS hl)
theorem V_ic_lt {tgt : Nat} {x y : Int32} (h : Di M pc .lt tgt pc') (kt : x < y → V G M n0 nE Z n ρ tgt L st S) (kf : ¬ x < y → V G M n0 nE Z n ρ pc' L st S) : V G M n0 nE Z n ρ pc L (.int y :: .int x :: st) S := fun p e s m args below meth c E H locs ls hP hS hl => by
  obtain ⟨off, hd, ht, rfl⟩ := h
  exact lv_icmp_lt E.1 E.2.1 hd ht (fun q => kt q p e s m args below meth c E H locs ls hP hS hl) (fun q => kf q p e s m args below meth c E H locs ls hP hS hl)

theorem V_if_ge {tgt : Nat} {x : Int32} (h : Db M pc .ge tgt pc') (kt : 0 ≤ x → V G M n0 nE Z n ρ tgt L st S) (kf : ¬ 0 ≤ x → V G M n0 nE Z n ρ pc' L st S) : V G M n0 nE Z n ρ pc L (.int x :: st) S := fun p e s m args below meth c E H locs ls hP hS hl => by
  obtain ⟨off, hd, ht, rfl⟩ := h
  exact lv_if_ge E.1 E.2.1 hd ht (fun q => kt q p e s m args below meth c E H locs ls hP hS hl) (fun q => kf q p e s m args below meth c E H locs ls hP hS hl)
theorem V_ic_ge {tgt : Nat} {x y : Int32} (h : Di M pc .ge tgt pc') (kt : y ≤ x → V G M n0 nE Z n ρ tgt L st S) (kf : ¬ y ≤ x → V G M n0 nE Z n ρ pc' L st S) : V G M n0 nE Z n ρ pc L (.int y :: .int x :: st) S := fun p e s m args below meth c E H locs ls hP hS hl => by
  obtain ⟨off, hd, ht, rfl⟩ := h
  exact lv_icmp_ge E.1 E.2.1 hd ht (fun q => kt q p e s m args below meth c E H locs ls hP hS hl) (fun q => kf q p e s m args below meth c E H locs ls hP hS hl)

theorem V_if_gt {tgt : Nat} {x : Int32} (h : Db M pc .gt tgt pc') (kt : 0 < x → V G M n0 nE Z n ρ tgt L st S) (kf : ¬ 0 < x → V G M n0 nE Z n ρ pc' L st S) : V G M n0 nE Z n ρ pc L (.int x :: st) S := fun p e s m args below meth c E H locs ls hP hS hl => by
  obtain ⟨off, hd, ht, rfl⟩ := h
  exact lv_if_gt E.1 E.2.1 hd ht (fun q => kt q p e s m args below meth c E H locs ls hP hS hl) (fun q => kf q p e s m args below meth c E H locs ls hP hS hl)
theorem V_ic_gt {tgt : Nat} {x y : Int32} (h : Di M pc .gt tgt pc') (kt : y < x → V G M n0 nE Z n ρ tgt L st S) (kf : ¬ y < x → V G M n0 nE Z n ρ pc' L st S) : V G M n0 nE Z n ρ pc L (.int y :: .int x :: st) S := fun p e s m args below meth c E H locs ls hP hS hl => by
  obtain ⟨off, hd, ht, rfl⟩ := h
  exact lv_icmp_gt E.1 E.2.1 hd ht (fun q => kt q p e s m args below meth c E H locs ls hP hS hl) (fun q => kf q p e s m args below meth c E H locs ls hP hS hl)

theorem V_if_le {tgt : Nat} {x : Int32} (h : Db M pc .le tgt pc') (kt : x ≤ 0 → V G M n0 nE Z n ρ tgt L st S) (kf : ¬ x ≤ 0 → V G M n0 nE Z n ρ pc' L st S) : V G M n0 nE Z n ρ pc L (.int x :: st) S := fun p e s m args below meth c E H locs ls hP hS hl => by
  obtain ⟨off, hd, ht, rfl⟩ := h
  exact lv_if_le E.1 E.2.1 hd ht (fun q => kt q p e s m args below meth c E H locs ls hP hS hl) (fun q => kf q p e s m args below meth c E H locs ls hP hS hl)
theorem V_ic_le {tgt : Nat} {x y : Int32} (h : Di M pc .le tgt pc') (kt : x ≤ y → V G M n0 nE Z n ρ tgt L st S) (kf : ¬ x ≤ y → V G M n0 nE Z n ρ pc' L st S) : V G M n0 nE Z n ρ pc L (.int y :: .int x :: st) S := fun p e s m args below meth c E H locs ls hP hS hl => by
  obtain ⟨off, hd, ht, rfl⟩ := h
  exact lv_icmp_le E.1 E.2.1 hd ht (fun q => kt q p e s m args below meth c E H locs ls hP hS hl) (fun q => kf q p e s m args below meth c E H locs ls hP hS hl)

theorem V_goto {tgt : Nat} (h : Dg M pc tgt) (k : V G M n0 nE Z n ρ tgt L st S) : V G M n0 nE Z n ρ pc L st S := fun p e s m args below meth c E H locs ls hP hS hl => by
  obtain ⟨off, hd, ht⟩ := h
  exact lv_goto E.1 E.2.1 hd ht (k p e s m args below meth c E H locs ls hP hS hl)

end VR
end
section
/-! the world changed at one place -/
def sI (S : AS) (k j : Nat) (v : Int32) : AS := (fun a b => if a = k ∧ b = j then v else S.1 a b, S.2)
def sL (S : AS) (k j : Nat) (v : Int64) : AS := (S.1, fun a b => if a = k ∧ b = j then v else S.2 a b)
def rS (ρ : Rho) (k j : Nat) (r : Option Nat) : Rho := fun a b => if a = k ∧ b = j then r else ρ a b
theorem sI_1 (S : AS) (k j : Nat) (v : Int32) (a b : Nat) : (sI S k j v).1 a b = if a = k ∧ b = j then v else S.1 a b := rfl
theorem sI_2 (S : AS) (k j : Nat) (v : Int32) : (sI S k j v).2 = S.2 := rfl
theorem sL_1 (S : AS) (k j : Nat) (v : Int64) : (sL S k j v).1 = S.1 := rfl
theorem sL_2 (S : AS) (k j : Nat) (v : Int64) (a b : Nat) : (sL S k j v).2 a b = if a = k ∧ b = j then v else S.2 a b := rfl
theorem ent_congr {G : Gm} {ρ ρ' : Rho} {S S' : AS} {k : Nat} (h1 : ∀ j, S'.1 k j = S.1 k j) (h2 : ∀ j, S'.2 k j = S.2 k j) (h3 : ∀ j, ρ' k j = ρ k j) : ent G ρ' S' k = ent G ρ S k := by
  have hf : ∀ c, fvl (gB G) ρ' S' k c = fvl (gB G) ρ S k c := fun c => funext fun j => by simp only [fvl, h1, h2, h3]
  have hg : S'.1 k = S.1 k := funext h1
  unfold ent
  split
  · rw [hf]
  · rw [hg]
theorem ent_obj {G : Gm} {ρ : Rho} {S : AS} {k c : Nat} (h : okd k = .inl c) : ent G ρ S k = .inr (c, (List.range (nfl c)).map (fvl (gB G) ρ S k c)) := by
  unfold ent; rw [h]
theorem ent_arr {G : Gm} {ρ : Rho} {S : AS} {k len : Nat} (h : okd k = .inr (false, len)) : ent G ρ S k = .inl (G.2.2.2.1, (len, .inl (S.1 k))) := by
  unfold ent; rw [h]; rfl
theorem ent_arz {G : Gm} {ρ : Rho} {S : AS} {k len : Nat} (h : okd k = .inr (true, len)) : ent G ρ S k = .inl (G.2.2.2.2, (len, .inl (S.1 k))) := by
  unfold ent; rw [h]; rfl
theorem Pic.put {G : Gm} {n : Nat} {ρ ρ' : Rho} {S S' : AS} {H H1 : Heap} {k : Nat} (h : Pic G n ρ S H) (z : H1.size = H.size) (o : ∀ q : Nat, q ≠ gB G + k → H1[q]? = H[q]?) (hk : va_at (gD G) vwCl (gB G + k, ent G ρ' S' k) H1) (he : ∀ j, j ≠ k → ent G ρ' S' j = ent G ρ S j) : Pic G n ρ' S' H1 := by
  refine ⟨z.trans h.1, fun j hj => ?_⟩
  by_cases hjk : j = k
  · rw [hjk]; exact hk
  · rw [he j hjk]
    exact (h.2 j hj).kept (o (gB G + j) (by omega))
theorem Pic.push {G : Gm} {n : Nat} {ρ : Rho} {S : AS} {H H1 : Heap} (h : Pic G n ρ S H) (z : H1.size = H.size + 1) (o : ∀ q : Nat, q < H.size → H1[q]? = H[q]?) (hk : va_at (gD G) vwCl (gB G + n, ent G ρ S n) H1) : Pic G (n + 1) ρ S H1 := by
  refine ⟨by rw [z, h.1]; omega, fun j hj => ?_⟩
  by_cases hjk : j = n
  · rw [hjk]; exact hk
  · exact (h.2 j (by omega)).kept (o (gB G + j) (by rw [h.1]; omega))
theorem fvl_at {B : Nat} {ρ : Rho} {S : AS} {k c j : Nat} (hj : j < nfl c) : ((List.range (nfl c)).map (fvl B ρ S k c))[j]? = some (fvl B ρ S k c j) := by simp [hj]
theorem fvl_V {B : Nat} {ρ : Rho} {S : AS} {k c j : Nat} (hj : j < nfl c) : vp_V ((List.range (nfl c)).map (fvl B ρ S k c)) j = fvl B ρ S k c j := by simp [vp_V, hj]
theorem fkd_0 {c j : Nat} (h : fkd c j = 0) : tyy c j = .int := by
  unfold fkd at h
  split at h
  · assumption
  · cases h
  · cases h
theorem fkd_1 {c j : Nat} (h : fkd c j = 1) : tyy c j = .long := by
  unfold fkd at h
  split at h
  · cases h
  · assumption
  · cases h
theorem fvl_I {B : Nat} {ρ : Rho} {S : AS} {k c j : Nat} (h : fkd c j = 0) : fvl B ρ S k c j = .int (S.1 k j) := by unfold fvl; rw [h]; rfl
theorem fvl_L {B : Nat} {ρ : Rho} {S : AS} {k c j : Nat} (h : fkd c j = 1) : fvl B ρ S k c j = .long (S.2 k j) := by unfold fvl; rw [h]; rfl
theorem fvl_R {B : Nat} {ρ : Rho} {S : AS} {k c j : Nat} (h : fkd c j = 2) : fvl B ρ S k c j = rf B (ρ k j) := by unfold fvl; rw [h]; rfl
theorem fvl_ne {B : Nat} {ρ ρ' : Rho} {S S' : AS} {k c j i : Nat} (h1 : ∀ j, j ≠ i → S'.1 k j = S.1 k j) (h2 : ∀ j, j ≠ i → S'.2 k j = S.2 k j) (h3 : ∀ j, j ≠ i → ρ' k j = ρ k j) (hj : j ≠ i) : fvl B ρ' S' k c j = fvl B ρ S k c j := by
  simp only [fvl, h1 j hj, h2 j hj, h3 j hj]
/-- the field that an instruction of a class names -/
def FL (own : String) (idx c j : Nat) : Prop := (c < 10 ∧ j < nfl c) ∧ (Cond.fieldLink own idx (CC c) (TT c j).2.1 (TT c j).2.2.1 ∈ lw_tbl ∨ Cond.fieldLinkNest own idx (CC c) (TT c j).2.1 (TT c j).2.2.1 RX8 ∈ lw_tbl)
def GF (M : MT) (pc c j pc' : Nat) : Prop := ∃ idx, Dc M pc (.getfield idx) 3 pc' ∧ FL (mO M) idx c j
def PF (M : MT) (pc c j pc' : Nat) : Prop := ∃ idx, Dc M pc (.putfield idx) 3 pc' ∧ (c < 10 ∧ j < nfl c) ∧ Cond.fieldLink (mO M) idx (CC c) (TT c j).2.1 (TT c j).2.2.1 ∈ lw_tbl
theorem EF_ts {G : Gm} {M : MT} {n0 : Nat} {Z2 : State → Array Value → Prop} {p : Program} {s : State} {m : MethodId} {args : Array Value} {meth : Method} {c : Code} (E : EF G M n0 Z2 p s m args meth c) {k : Nat} (hk : k < 10) : ∀ w ∈ u_ws (CC k) (TT k) (nfl k), w.before args s = true :=
  fun w hw => E.2.2.2.2.2.2.2.1 w (clW k hk w hw).1 (clW k hk w hw).2 args
section VH
variable {G : Gm} {M : MT} {n0 nE : Nat} {Z : ZT} {n : Nat} {ρ : Rho} {pc pc' : Nat} {L : List (Option Value)} {st : List Value} {S : AS}
theorem V_getf {c0 j k : Nat} {v : Value} (h : GF M pc c0 j pc') (hk : okd k = .inl c0) (hn : k < n) (hv : fvl (gB G) ρ S k c0 j = v) (kk : V G M n0 nE Z n ρ pc' L (v :: st) S) : V G M n0 nE Z n ρ pc L (.ref (gB G + k) :: st) S :=
  fun p e s m args below meth c E H locs ls hP hS hl => by
    obtain ⟨idx, ⟨hd, rfl⟩, ⟨hc, hj⟩, hlk⟩ := h
    have hat := hP.2 k hn
    rw [ent_obj hk] at hat
    have hPl : va_P (gD G) vwCl [(gB G + k, .inr (c0, (List.range (nfl c0)).map (fvl (gB G) ρ S k c0)))] H := by
      intro i q hq
      cases i with
      | zero => cases hq; exact hat
      | succ i => simp at hq
    have kk' := kk p e s m args below meth c E H locs ls hP hS hl
    have hO := clO c0 hc j hj
    have hs : ∀ x, s.fieldFound? (TT c0 j).1 (TT c0 j).2.1 (TT c0 j).2.2.1 = some x → s.fieldFound? (CC c0) (TT c0 j).2.1 (TT c0 j).2.2.1 = some x := by rw [hO]; exact fun _ h => h
    rcases hlk with hlk | hlk
    · exact va_get E.1 E.2.1 (EF_ts E hc) (fun _ h => h) E.2.2.2.2.2.1 E.2.2.2.2.2.2.2.2.1 hPl 0 rfl (clC c0 hc) j hj (E.2.2.2.2.2.2.2.1 _ hlk rfl args) hs (by rw [fvl_at hj, hv]) hd kk'
    · exact va_getN E.1 E.2.1 (EF_ts E hc) (fun _ h => h) E.2.2.2.2.2.1 E.2.2.2.2.2.2.2.2.1 hPl 0 rfl (clC c0 hc) j hj (E.2.2.2.2.2.2.2.1 _ hlk rfl args) hs (by rw [fvl_at hj, hv]) hd kk'
theorem V_getI {c0 j k : Nat} (h : GF M pc c0 j pc') (hk : okd k = .inl c0) (hf : fkd c0 j = 0) (hn : k < n) (kk : V G M n0 nE Z n ρ pc' L (.int (S.1 k j) :: st) S) : V G M n0 nE Z n ρ pc L (.ref (gB G + k) :: st) S := V_getf h hk hn (fvl_I hf) kk
theorem V_getIe {c0 j k : Nat} {x : Int32} (h : GF M pc c0 j pc') (hk : okd k = .inl c0) (hf : fkd c0 j = 0) (hn : k < n) (hx : S.1 k j = x) (kk : V G M n0 nE Z n ρ pc' L (.int x :: st) S) : V G M n0 nE Z n ρ pc L (.ref (gB G + k) :: st) S := V_getf h hk hn (by rw [fvl_I hf, hx]) kk
theorem V_getL {c0 j k : Nat} (h : GF M pc c0 j pc') (hk : okd k = .inl c0) (hf : fkd c0 j = 1) (hn : k < n) (kk : V G M n0 nE Z n ρ pc' L (.long (S.2 k j) :: st) S) : V G M n0 nE Z n ρ pc L (.ref (gB G + k) :: st) S := V_getf h hk hn (fvl_L hf) kk
theorem V_getR {c0 j k r : Nat} (h : GF M pc c0 j pc') (hk : okd k = .inl c0) (hf : fkd c0 j = 2) (hn : k < n) (hr : ρ k j = some r) (kk : V G M n0 nE Z n ρ pc' L (.ref (gB G + r) :: st) S) : V G M n0 nE Z n ρ pc L (.ref (gB G + k) :: st) S := V_getf h hk hn (by rw [fvl_R hf, hr]; rfl) kk
theorem V_putg {c0 j k : Nat} {v : Value} {ρ' : Rho} {S' : AS} (h : PF M pc c0 j pc') (hk : okd k = .inl c0) (hn : k < n) (hfin : (TT c0 j).2.2.2 = false ∨ ((TT c0 j).2.2.2 = true ∧ (mY M).name = "<init>" ∧ mO M = CC c0))
    (hnr : narrow (tyy c0 j) v = v) (hfit : fits (tyy c0 j) v = true) (hv : fvl (gB G) ρ' S' k c0 j = v) (hs : ∀ i, i ≠ j → fvl (gB G) ρ' S' k c0 i = fvl (gB G) ρ S k c0 i) (ho : ∀ i, i ≠ k → ent G ρ' S' i = ent G ρ S i)
    (kk : V G M n0 nE Z n ρ' pc' L st S') : V G M n0 nE Z n ρ pc L (v :: .ref (gB G + k) :: st) S :=
  fun p e s m args below meth c E H locs ls hP hS hl => by
    obtain ⟨idx, ⟨hd, rfl⟩, ⟨hc, hj⟩, hlk⟩ := h
    have hat := hP.2 k hn
    rw [ent_obj hk] at hat
    have hts := EF_ts E hc
    have hK : va_K (gD G) vwCl (tysG G) s := E.2.2.2.2.2.2.2.2.1
    have hown : s.vm.findClass (mO M) = some m.cls := E.2.2.2.2.2.1
    have hlink := E.2.2.2.2.2.2.2.1 _ hlk rfl args
    have hO := clO c0 hc j hj
    have hsame : ∀ x, s.fieldFound? (TT c0 j).1 (TT c0 j).2.1 (TT c0 j).2.2.1 = some x → s.fieldFound? (CC c0) (TT c0 j).2.1 (TT c0 j).2.2.1 = some x := by rw [hO]; exact fun _ h => h
    have hap := va_apart (own := mO M) hts (fun _ h => h) (tyy c0) (clT c0 hc) (clN c0 hc) hK (clC c0 hc)
    obtain ⟨r, h1, cell, q1, q2, q3, q4⟩ := hat
    have hr : r = (CC c0, TT c0, nfl c0) := Option.some.inj (h1.symm.trans (clC c0 hc))
    subst hr
    obtain ⟨hSl, hfc, kC, hkC, hkind⟩ := hK.1 c0 _ (clC c0 hc)
    obtain ⟨cf, kf, fi, f, hi, hsl⟩ := hSl j hj
    have hlay := hts _ (u_in_lay hj)
    have hst := (u_facts hfc hkC (u_lays hts (fun _ h => h) hj) hi).1
    have hA : gB G ≤ gB G + k := Nat.le_add_right _ _
    have last : ∀ H' : Heap, H'[gB G + k]? = some (cell.setSlot f.slot v) → H'.size = H.size → (∀ q, q ≠ gB G + k → H'[q]? = H[q]?) → W p G.1 e (rmM M (nE - n0) (SZ nE - SZ n0)) s m args below meth c H' (locs ++ [⟨gB G + k, f.slot⟩]) (n - n0) (SZ n - SZ n0) (Z.1 below args s) (F0 m (pc + 3) ls st) := by
      intro H' e1 e2 e3
      rw [hsl] at e1 ⊢
      refine kk p e s m args below meth c E H' _ ls (hP.put e2 e3 ?_ ho) (hS.put e2 e3 hA) hl
      rw [ent_obj hk]
      refine ⟨_, clC c0 hc, t_OB.to (V := updV (vp_V ((List.range (nfl c0)).map (fvl (gB G) ρ S k c0))) j v) ⟨_, e1, q2, q3, t_set q4 hap hj v⟩ (fun i hin => ?_)⟩
      rw [fvl_V hin]
      unfold updV
      by_cases hij : i = j
      · rw [if_pos hij, hij, hv]
      · rw [if_neg hij, fvl_V hin, hs i hij]
    rcases hfin with hfin | ⟨hfin, hin2, hdecl⟩
    · unfold u_lay at hlay
      rw [if_neg (by rw [hfin]; decide)] at hlay
      have h6 := u_store hfc hkC hkind hlay hi (clT c0 hc j hj) hnr hfit
      exact W.putK E.1 E.2.1 (f := f) ⟨hown, hlink, ⟨_, _, _, hsame _ hi⟩, hst⟩ (by rw [q2]; exact h6) q1 q3 (by rw [hsl]; exact k2_hasslot (q4 j hj)) rfl rfl hd last
    · unfold u_lay at hlay
      rw [if_pos hfin] at hlay
      have hcf : m.cls = cf := by
        obtain ⟨_, _, c', _, _, _, -, -, hf', -, -, -, hown2, -⟩ := Cond.laysFinal_spec hlay
        have e1 : c' = cf := by have := hi.symm.trans hf'; simp at this; exact this.1.symm
        rw [hO, ← hdecl] at hown2
        rw [← e1]; exact Option.some.inj (hown.symm.trans hown2)
      have h6 := u_fits hfc hkC hkind (Or.inr hlay) hi (clT c0 hc j hj) hnr hfit
      exact W.putFinK E.1 E.2.1 hown hlink (hsame _ hi) hst hcf (E.2.2.2.2.2.2.1.trans hin2) (by rw [q2]; exact h6) q1 q3 (by rw [hsl]; exact k2_hasslot (q4 j hj)) rfl rfl hd last
theorem V_putI {c0 j k : Nat} {v : Int32} (h : PF M pc c0 j pc') (hk : okd k = .inl c0) (hf : fkd c0 j = 0) (hn : k < n) (hfin : (TT c0 j).2.2.2 = false) (kk : V G M n0 nE Z n ρ pc' L st (sI S k j v)) : V G M n0 nE Z n ρ pc L (.int v :: .ref (gB G + k) :: st) S := by
  refine V_putg (ρ' := ρ) (S' := sI S k j v) h hk hn (Or.inl hfin) (by rw [fkd_0 hf]; rfl) (by rw [fkd_0 hf]; rfl) (by rw [fvl_I hf, sI_1, if_pos ⟨rfl, rfl⟩]) (fun i hi => fvl_ne (i := j) (fun a ha => ?_) (fun a _ => rfl) (fun a _ => rfl) hi) (fun i hi => ent_congr (fun a => ?_) (fun a => rfl) (fun a => rfl)) kk
  · rw [sI_1, if_neg (fun q => ha q.2)]
  · rw [sI_1, if_neg (fun q => hi q.1)]
theorem V_putL {c0 j k : Nat} {v : Int64} (h : PF M pc c0 j pc') (hk : okd k = .inl c0) (hf : fkd c0 j = 1) (hn : k < n) (hfin : (TT c0 j).2.2.2 = false) (kk : V G M n0 nE Z n ρ pc' L st (sL S k j v)) : V G M n0 nE Z n ρ pc L (.long v :: .ref (gB G + k) :: st) S := by
  refine V_putg (ρ' := ρ) (S' := sL S k j v) h hk hn (Or.inl hfin) (by rw [fkd_1 hf]; rfl) (by rw [fkd_1 hf]; rfl) (by rw [fvl_L hf, sL_2, if_pos ⟨rfl, rfl⟩]) (fun i hi => fvl_ne (i := j) (fun a _ => rfl) (fun a ha => ?_) (fun a _ => rfl) hi) (fun i hi => ent_congr (fun a => rfl) (fun a => ?_) (fun a => rfl)) kk
  · rw [sL_2, if_neg (fun q => ha q.2)]
  · rw [sL_2, if_neg (fun q => hi q.1)]
/-- a final reference, in its own constructor -/
theorem V_putR {c0 j k r : Nat} (h : PF M pc c0 j pc') (hk : okd k = .inl c0) (hf : fkd c0 j = 2) (hn : k < n) (hfin : (TT c0 j).2.2.2 = true ∧ (mY M).name = "<init>" ∧ mO M = CC c0) (hnr : narrow (tyy c0 j) (.ref (gB G + r)) = .ref (gB G + r)) (hfit : fits (tyy c0 j) (.ref (gB G + r)) = true) (kk : V G M n0 nE Z n (rS ρ k j (some r)) pc' L st S) : V G M n0 nE Z n ρ pc L (.ref (gB G + r) :: .ref (gB G + k) :: st) S := by
  refine V_putg (ρ' := rS ρ k j (some r)) (S' := S) h hk hn (Or.inr hfin) hnr hfit (by rw [fvl_R hf, rS, if_pos ⟨rfl, rfl⟩]; rfl) (fun i hi => fvl_ne (i := j) (fun a _ => rfl) (fun a _ => rfl) (fun a ha => ?_) hi) (fun i hi => ent_congr (fun a => rfl) (fun a => rfl) (fun a => ?_)) kk
  · rw [rS, if_neg (fun q => ha q.2)]
  · rw [rS, if_neg (fun q => hi q.1)]
theorem Pic_arr {H : Heap} {k len : Nat} (hP : Pic G n ρ S H) (hk : okd k = .inr (false, len)) (hn : k < n) : va_P (gD G) vwCl [(gB G + k, .inl (G.2.2.2.1, (len, .inl (S.1 k))))] H := by
  have hat := hP.2 k hn
  rw [ent_arr hk] at hat
  intro i q hq
  cases i with
  | zero => cases hq; exact hat
  | succ i => simp at hq
theorem Pic_arz {H : Heap} {k len : Nat} (hP : Pic G n ρ S H) (hk : okd k = .inr (true, len)) (hn : k < n) : va_P (gD G) vwCl [(gB G + k, .inl (G.2.2.2.2, (len, .inl (S.1 k))))] H := by
  have hat := hP.2 k hn
  rw [ent_arz hk] at hat
  intro i q hq
  cases i with
  | zero => cases hq; exact hat
  | succ i => simp at hq
/-- an element's place: i, or its Nat j -/
theorem V_iald {k len : Nat} {i : Int32} (h : Dc M pc .iaload 1 pc') (hk : okd k = .inr (false, len)) (hn : k < n) (hi : vp_in i len) (kk : V G M n0 nE Z n ρ pc' L (.int (S.1 k i.toNatClampNeg) :: st) S) : V G M n0 nE Z n ρ pc L (.int i :: .ref (gB G + k) :: st) S :=
  fun p e s m args below meth c E H locs ls hP hS hl => by
    obtain ⟨hd, rfl⟩ := h
    exact va_iald E.1 E.2.1 E.2.2.2.2.2.2.2.2.1 (Pic_arr hP hk hn) 0 0 rfl rfl hi hd (kk p e s m args below meth c E H locs ls hP hS hl)
theorem okd_len {k len : Nat} {b : Bool} (h : okd k = .inr (b, len)) : len ≤ 384 := by
  unfold okd at h
  split at h <;> first | (cases h; decide) | cases h
theorem V_ialdN {k len j : Nat} (h : Dc M pc .iaload 1 pc') (hk : okd k = .inr (false, len)) (hn : k < n) (hi : j < len) (kk : V G M n0 nE Z n ρ pc' L (.int (S.1 k j) :: st) S) : V G M n0 nE Z n ρ pc L (.int (nI j) :: .ref (gB G + k) :: st) S := by
  have hl := okd_len hk
  refine V_iald h hk hn (vp_in_nI hi (by omega)) ?_
  rw [nI_clamp (by omega)]
  exact kk
theorem V_ialdE {k len j : Nat} {i x : Int32} (h : Dc M pc .iaload 1 pc') (hk : okd k = .inr (false, len)) (hn : k < n) (hij : i = nI j) (hi : j < len) (hx : S.1 k j = x) (kk : V G M n0 nE Z n ρ pc' L (.int x :: st) S) : V G M n0 nE Z n ρ pc L (.int i :: .ref (gB G + k) :: st) S := by
  subst hij; subst hx
  exact V_ialdN h hk hn hi kk
theorem V_zald {k len j : Nat} {i : Int32} (h : Dc M pc .baload 1 pc') (hk : okd k = .inr (true, len)) (hn : k < n) (hij : i = nI j) (hi : j < len) (kk : V G M n0 nE Z n ρ pc' L (.int (S.1 k j) :: st) S) : V G M n0 nE Z n ρ pc L (.int i :: .ref (gB G + k) :: st) S :=
  fun p e s m args below meth c E H locs ls hP hS hl => by
    obtain ⟨hd, rfl⟩ := h
    subst hij
    have hl0 := okd_len hk
    have hc : (nI j).toNatClampNeg = j := nI_clamp (by omega)
    refine va_zald E.1 E.2.1 E.2.2.2.2.2.2.2.2.1 (Pic_arz hP hk hn) 0 1 rfl rfl (vp_in_nI hi (by omega)) hd ?_
    rw [hc]
    exact kk p e s m args below meth c E H locs ls hP hS hl
theorem V_alen {k len : Nat} (h : Dc M pc .arraylength 1 pc') (hk : okd k = .inr (false, len)) (hn : k < n) (kk : V G M n0 nE Z n ρ pc' L (.int (nI len) :: st) S) : V G M n0 nE Z n ρ pc L (.ref (gB G + k) :: st) S :=
  fun p e s m args below meth c E H locs ls hP hS hl => by
    obtain ⟨hd, rfl⟩ := h
    exact va_alen E.1 E.2.1 E.2.2.2.2.2.2.2.2.1 (Pic_arr hP hk hn) 0 0 rfl (ty := .int) rfl rfl hd (kk p e s m args below meth c E H locs ls hP hS hl)
theorem V_iast {k len j : Nat} {i x : Int32} (h : Dc M pc .iastore 1 pc') (hk : okd k = .inr (false, len)) (hn : k < n) (hij : i = nI j) (hi : j < len) (kk : V G M n0 nE Z n ρ pc' L st (sI S k j x)) : V G M n0 nE Z n ρ pc L (.int x :: .int i :: .ref (gB G + k) :: st) S :=
  fun p e s m args below meth c E H locs ls hP hS hl => by
    obtain ⟨hd, rfl⟩ := h
    subst hij
    have hl0 := okd_len hk
    have hc : (nI j).toNatClampNeg = j := nI_clamp (by omega)
    have hP0 := Pic_arr hP hk hn
    have hin : vp_in (nI j) len := vp_in_nI hi (by omega)
    have hK : va_K (gD G) vwCl (tysG G) s := E.2.2.2.2.2.2.2.2.1
    refine W.iast E.1 E.2.1 (hP0 0 _ rfl) ((hK.2 0 _ rfl).1 len (fun j => .int (S.1 k j))) (fun q => by cases q) (by show ¬ (nI j < 0 ∨ (arrV _ _ _).slots.size ≤ _); rw [arrV_size]; exact hin) rfl rfl hd fun H1 e1 z oq => ?_
    refine kk p e s m args below meth c E H1 _ ls (hP.put z oq ?_ (fun a ha => ent_congr (fun b => ?_) (fun b => rfl) (fun b => rfl))) (hS.put z oq (Nat.le_add_right _ _)) hl
    · rw [ent_arr hk]
      show H1[gB G + k]? = some (vp_cell _ _)
      rw [e1, hc, vp_cell_i, vp_cell_i, arrV_store]
      congr 2
      funext q
      by_cases hq : q = j
      · subst hq
        simp [updV, sI_1]
      · simp [updV, sI_1, hq]
    · rw [sI_1, if_neg (fun q => ha q.1)]
theorem V_zast {k len j : Nat} {i x : Int32} (h : Dc M pc .bastore 1 pc') (hk : okd k = .inr (true, len)) (hn : k < n) (hij : i = nI j) (hi : j < len) (hx : vp_nar .boolean x = x) (kk : V G M n0 nE Z n ρ pc' L st (sI S k j x)) : V G M n0 nE Z n ρ pc L (.int x :: .int i :: .ref (gB G + k) :: st) S :=
  fun p e s m args below meth c E H locs ls hP hS hl => by
    obtain ⟨hd, rfl⟩ := h
    subst hij
    have hl0 := okd_len hk
    have hc : (nI j).toNatClampNeg = j := nI_clamp (by omega)
    have hP0 := Pic_arz hP hk hn
    have hin : vp_in (nI j) len := vp_in_nI hi (by omega)
    have hK : va_K (gD G) vwCl (tysG G) s := E.2.2.2.2.2.2.2.2.1
    refine W.zast E.1 E.2.1 (hP0 0 _ rfl) ((hK.2 1 _ rfl).1 len (fun j => .int (S.1 k j))) (fun q => by cases q) (by show ¬ (nI j < 0 ∨ (arrV _ _ _).slots.size ≤ _); rw [arrV_size]; exact hin) rfl rfl hd fun H1 e1 z oq => ?_
    refine kk p e s m args below meth c E H1 _ ls (hP.put z oq ?_ (fun a ha => ent_congr (fun b => ?_) (fun b => rfl) (fun b => rfl))) (hS.put z oq (Nat.le_add_right _ _)) hl
    · rw [ent_arz hk]
      show H1[gB G + k]? = some (vp_cell _ _)
      rw [e1, hc, vp_cell_i, vp_cell_i, arrV_store]
      congr 2
      funext q
      by_cases hq : q = j
      · subst hq
        have : narrow .boolean (.int x) = .int x := by
          have h2 : narrow .boolean (.int x) = .int (vp_nar .boolean x) := rfl
          rw [h2, hx]
        simp [updV, sI_1, this]
      · simp [updV, sI_1, hq]
    · rw [sI_1, if_neg (fun q => ha q.1)]
/-- making an array: the next object of the world -/
theorem V_newa {b : Bool} {len : Nat} {i : Int32} (h : Dc M pc (.newarray (if b then .boolean else .int)) 2 pc') (hk : okd n = .inr (b, len)) (hi : i = nI len) (hz : ∀ j, S.1 n j = 0) (hE : n + 1 ≤ nE) (h0 : n0 ≤ n) (kk : V G M n0 nE Z (n + 1) ρ pc' L (.ref (gB G + n) :: st) S) : V G M n0 nE Z n ρ pc L (.int i :: st) S :=
  fun p e s m args below meth c E H locs ls hP hS hl => by
    obtain ⟨hd, rfl⟩ := h
    subst hi
    have hl0 := okd_len hk
    have hc : (nI len).toNatClampNeg = len := nI_clamp (by omega)
    have hK : va_K (gD G) vwCl (tysG G) s := E.2.2.2.2.2.2.2.2.1
    have hsz : SZ (n + 1) = SZ n + len := by show SZ n + szk n = _; unfold szk; rw [hk]
    have m1 := SZ_mono h0
    have m2 := SZ_mono hE
    have hw : Cond.arrayClass (newarray.typeOf (if b then .boolean else .int)) ∈ lw_tbl := by
      cases b
      · exact List.mem_append_right _ (List.mem_of_getElem? (i := 44) (by decide +kernel))
      · exact List.mem_append_right _ (List.mem_of_getElem? (i := 775) (by decide +kernel))
    refine va_newaK E.1 E.2.1 (atype := if b then .boolean else .int) (E.2.2.2.2.2.2.2.1 _ hw (by cases b <;> rfl) args) (g := F0 m pc ls (.int (nI len) :: st)) rfl hd (n := nI len) (N := len) (rest := st) rfl (nI_pos (by omega)) hc (by cases b <;> (show len * _ ≤ _; simp [componentBytes, newarray.typeOf]; omega)) (by show n - n0 + 1 ≤ nE - n0; omega) (by show SZ n - SZ n0 + len ≤ SZ nE - SZ n0; omega) (h := gB G + n) hP.1 fun H1 cA e1 z1 o1 hAr hNm => ?_
    rw [show n - n0 + 1 = (n + 1) - n0 by omega, show SZ n - SZ n0 + len = SZ (n + 1) - SZ n0 by omega]
    refine kk p e s m args below meth c E H1 locs ls (hP.push (by rw [z1, hP.1]) (fun q hq => o1 q (by rw [← hP.1]; exact hq)) ?_) ⟨Nat.le_trans hS.1 (by rw [z1, hP.1]; omega), fun x h1 h2 => (o1 x (by have := hS.1; rw [hP.1] at this; omega)).trans (hS.2.1 x h1 h2), hS.2.2⟩ hl
    have hz0 : S.1 n = fun _ => 0 := funext hz
    cases b
    · rw [ent_arr hk]
      have hcA : cA = G.2.2.2.1 := Option.some.inj (hNm.symm.trans (hK.2 0 _ rfl).2)
      show H1[gB G + n]? = some (vp_cell _ _)
      rw [e1, hcA, vp_cell_i, hz0]
      rfl
    · rw [ent_arz hk]
      have hcA : cA = G.2.2.2.2 := Option.some.inj (hNm.symm.trans (hK.2 1 _ rfl).2)
      show H1[gB G + n]? = some (vp_cell _ _)
      rw [e1, hcA, vp_cell_i, hz0]
      rfl
def NW (M : MT) (pc c pc' : Nat) : Prop := ∃ idx, Dc M pc (.new idx) 3 pc' ∧ c < 10 ∧ Cond.classLink (mO M) idx (CC c) ∈ lw_tbl ∧ Cond.instantiable (CC c) (nfl c) ∈ lw_tbl ∧ Cond.initialized (CC c) ∈ lw_tbl
theorem tyy_dflt {B : Nat} {ρ : Rho} {S : AS} {k c j : Nat} (hr : (∃ C, tyy c j = .object C) ∨ (∃ t, tyy c j = .array t) ∨ tyy c j = .int ∨ tyy c j = .long) (h1 : S.1 k j = 0) (h2 : S.2 k j = 0) (h3 : ρ k j = none) : defaultValue (tyy c j) = fvl B ρ S k c j := by
  rcases hr with ⟨C, h⟩ | ⟨t, h⟩ | h | h
  · have : fkd c j = 2 := by unfold fkd; rw [h]
    rw [fvl_R this, h3, h]; rfl
  · have : fkd c j = 2 := by unfold fkd; rw [h]
    rw [fvl_R this, h3, h]; rfl
  · have : fkd c j = 0 := by unfold fkd; rw [h]
    rw [fvl_I this, h1, h]; rfl
  · have : fkd c j = 1 := by unfold fkd; rw [h]
    rw [fvl_L this, h2, h]; rfl
def tyB (t : FieldType) : Bool := match t with
  | .object _ => true
  | .array _ => true
  | .int => true
  | .long => true
  | _ => false
theorem tyB_or {t : FieldType} (h : tyB t = true) : (∃ C, t = .object C) ∨ (∃ u, t = .array u) ∨ t = .int ∨ t = .long := by
  cases t <;> simp [tyB] at h ⊢
theorem clB : ∀ c, c < 10 → ∀ k, k < nfl c → tyB (tyy c k) = true := by decide +kernel
theorem V_new {c0 : Nat} (h : NW M pc c0 pc') (hk : okd n = .inl c0) (hz1 : ∀ j, S.1 n j = 0) (hz2 : ∀ j, S.2 n j = 0) (hz3 : ∀ j, ρ n j = none) (hE : n + 1 ≤ nE) (h0 : n0 ≤ n) (kk : V G M n0 nE Z (n + 1) ρ pc' L (.ref (gB G + n) :: st) S) : V G M n0 nE Z n ρ pc L st S :=
  fun p e s m args below meth c E H locs ls hP hS hl => by
    obtain ⟨idx, ⟨hd, rfl⟩, hc, w1, w2, w3⟩ := h
    have hts := EF_ts E hc
    have hK : va_K (gD G) vwCl (tysG G) s := E.2.2.2.2.2.2.2.2.1
    have hKn := hK.1 c0 _ (clC c0 hc)
    have hsz : SZ (n + 1) = SZ n + nfl c0 := by show SZ n + szk n = _; unfold szk; rw [hk]
    have m1 := SZ_mono h0
    have m2 := SZ_mono hE
    refine W.newcK E.1 E.2.1 E.2.2.2.2.2.1 (E.2.2.2.2.2.2.2.1 _ w1 rfl args) (E.2.2.2.2.2.2.2.1 _ w2 rfl args) (E.2.2.2.2.2.2.2.1 _ w3 rfl args) (g := F0 m pc ls st) rfl hd (by show n - n0 + 1 ≤ nE - n0; omega) (by show SZ n - SZ n0 + nfl c0 ≤ SZ nE - SZ n0; omega) hKn.2.1 (h := gB G + n) hP.1 fun H1 kC hkC e1 z1 o1 => ?_
    rw [show n - n0 + 1 = (n + 1) - n0 by omega, show SZ n - SZ n0 + nfl c0 = SZ (n + 1) - SZ n0 by omega]
    refine kk p e s m args below meth c E H1 locs ls (hP.push (by rw [z1, hP.1]) (fun q hq => o1 q (by rw [← hP.1]; exact hq)) ?_) ⟨Nat.le_trans hS.1 (by rw [z1, hP.1]; omega), fun x h1 h2 => (o1 x (by have := hS.1; rw [hP.1] at this; omega)).trans (hS.2.1 x h1 h2), hS.2.2⟩ hl
    rw [ent_obj hk]
    refine ⟨_, clC c0 hc, (u_born (tyy c0) hts (fun _ h => h) hKn hkC e1 (clT c0 hc)).to (fun j hj => ?_)⟩
    rw [fvl_V hj]
    exact tyy_dflt (tyB_or (clB c0 hc j hj)) (hz1 j) (hz2 j) (hz3 j)
def OI (M : MT) (pc pc' : Nat) : Prop := ∃ idx, Dc M pc (.invokespecial idx) 3 pc' ∧ Cond.methodLink (mO M) idx Lib.objectInit ∈ lw_tbl
theorem V_obj {a : Nat} (h : OI M pc pc') (hf : 1 ≤ mF M) (hlo : (st.map fun v => v.category).sum + 12 ≤ mLo M) (kk : V G M n0 nE Z n ρ pc' L st S) : V G M n0 nE Z n ρ pc L (.ref a :: st) S :=
  fun p e s m args below meth c E H locs ls hP hS hl => by
    obtain ⟨idx, ⟨hd, rfl⟩, w1⟩ := h
    have i1 : Cond.instanceMethod Lib.objectInit ∈ lw_tbl := List.mem_append_right _ (List.mem_of_getElem? (i := 18) (by decide +kernel))
    have i2 : Cond.code Lib.objectInit ⟨#[0xb1]⟩ 1 none ∈ lw_tbl := List.mem_append_right _ (List.mem_of_getElem? (i := 19) (by decide +kernel))
    refine W.objInit E.1 E.2.1 E.2.2.2.2.2.1 (E.2.2.2.2.2.2.2.1 _ w1 rfl args) (E.2.2.2.2.2.2.2.1 _ i1 rfl args) (E.2.2.2.2.2.2.2.1 _ i2 rfl args) (g := F0 m pc ls (.ref a :: st)) rfl ?_ (rest := st) rfl hd hf (by show 2 * 0 + _ + 12 ≤ mLo M; omega) (kk p e s m args below meth c E H locs ls hP hS hl)
    show ls.size = c.maxLocals
    rw [E.2.2.1]; exact hl.1.1
def LI (M : MT) (pc : Nat) (v : Int32) (pc' : Nat) : Prop := ∃ idx, Dc M pc (.ldc idx) 2 pc' ∧ Cond.constant (mO M) idx v ∈ lw_tbl
def LL (M : MT) (pc : Nat) (v : Int64) (pc' : Nat) : Prop := ∃ idx, Dc M pc (.ldc2_w idx) 3 pc' ∧ Cond.constantLong (mO M) idx v ∈ lw_tbl
theorem V_ldc {v : Int32} (h : LI M pc v pc') (kk : V G M n0 nE Z n ρ pc' L (.int v :: st) S) : V G M n0 nE Z n ρ pc L st S :=
  fun p e s m args below meth c E H locs ls hP hS hl => by
    obtain ⟨idx, ⟨hd, rfl⟩, w1⟩ := h
    exact lv_ldc E.1 E.2.1 E.2.2.2.2.2.1 (E.2.2.2.2.2.2.2.1 _ w1 rfl args) hd (kk p e s m args below meth c E H locs ls hP hS hl)
theorem V_ldc2 {v : Int64} (h : LL M pc v pc') (kk : V G M n0 nE Z n ρ pc' L (.long v :: st) S) : V G M n0 nE Z n ρ pc L st S :=
  fun p e s m args below meth c E H locs ls hP hS hl => by
    obtain ⟨idx, ⟨hd, rfl⟩, w1⟩ := h
    exact lv_ldc2 E.1 E.2.1 E.2.2.2.2.2.1 (E.2.2.2.2.2.2.2.1 _ w1 rfl args) hd (kk p e s m args below meth c E H locs ls hP hS hl)
def MX (M : MT) (pc pc' : Nat) : Prop := ∃ idx, Dc M pc (.invokestatic idx) 3 pc' ∧ Cond.methodLink (mO M) idx Lib.Math.max.name ∈ lw_tbl
theorem V_max {x y : Int32} (h : MX M pc pc') (hf : 1 ≤ mF M) (hlo : (st.map fun v => v.category).sum + 13 ≤ mLo M) (hc1 : n ≤ nE) (kk : V G M n0 nE Z n ρ pc' L (.int (if x < y then y else x) :: st) S) : V G M n0 nE Z n ρ pc L (.int y :: .int x :: st) S :=
  fun p e s m args below meth c E H locs ls hP hS hl => by
    obtain ⟨idx, ⟨hd, rfl⟩, w1⟩ := h
    have i1 : Cond.static Lib.Math.max.name ∈ lw_tbl := List.mem_append_right _ (List.mem_of_getElem? (i := 387) (by decide +kernel))
    have i2 : Cond.code Lib.Math.max.name Lib.Math.max.code 2 (some .int) ∈ lw_tbl := List.mem_append_right _ (List.mem_of_getElem? (i := 388) (by decide +kernel))
    have i3 : Cond.initialized "java/lang/Math" ∈ lw_tbl := List.mem_append_right _ (List.mem_of_getElem? (i := 11) (by decide +kernel))
    have m2 := SZ_mono hc1
    exact va_mmax E.1 E.2.1 (by rw [E.2.2.1]; exact hl.1.1.symm) E.2.2.2.2.2.1 (E.2.2.2.2.2.2.2.1 _ w1 rfl args) (E.2.2.2.2.2.2.2.1 _ i1 rfl args) (E.2.2.2.2.2.2.2.1 _ i3 rfl args) (E.2.2.2.2.2.2.2.1 _ i2 rfl args) hf hlo (by show n - n0 ≤ nE - n0; omega) (by show SZ n - SZ n0 ≤ SZ nE - SZ n0; omega) hd (kk p e s m args below meth c E H locs ls hP hS hl)
end VH
end
section
/-- a call of M with args in the world (n, ρ, S): it returns r, and the world is (n', ρ', S') -/
def Qe (G : Gm) (r : Option Value) (nE : Nat) (ρE : Rho) (SE : AS) : Array Value → State → Outcome → State → Prop := fun _ st o t => o = .returned r ∧ Pic G nE ρE SE t.heap ∧ va_F (fun q => gB G ≤ q) st t
def Zm (G : Gm) (r : Option Value) (n0 nE : Nat) (ρE : Rho) (SE : AS) : ZT := (fun below args s => MQ below (Qe G r nE ρE SE) args s (nE - n0) (SZ nE - SZ n0) (fun q => gB G ≤ q), fun _ _ => True)
def PcM (G : Gm) (n : Nat) (ρ : Rho) (S : AS) (args : List Value) : Array Value → State → Prop := va_Pc args (fun U => Pic G n ρ S U.heap ∧ KW U ∧ va_K (gD G) vwCl (tysG G) U)
def Rn (G : Gm) (M : MT) (args : List Value) (n : Nat) (ρ : Rho) (S : AS) (r : Option Value) (nE : Nat) (ρE : Rho) (SE : AS) : Prop :=
  Met G.1 (mY M) [Cond.code (mY M) (mC M) (mL M) (mR M)] (rmM M (nE - n) (SZ nE - SZ n)) (PcM G n ρ S args) (Qe G r nE ρE SE) (nE - n) (SZ nE - SZ n) (fun q => gB G ≤ q)
def MFv (M : MT) (cnt : Nat) : Prop := Cond.code (mY M) (mC M) (mL M) (mR M) ∈ lw_tbl ∧ Cond.initialized (mY M).cls ∈ lw_tbl ∧ ((mY M).cls ≠ "java/lang/invoke/MethodHandle" ∧ (mY M).cls ≠ "java/lang/invoke/VarHandle") ∧ (parseMethodDescriptor (mY M).desc).map (fun d => d.parameters.length) = some cnt
def LK (own : String) (idx : Nat) (Mc : MT) : Prop := Cond.methodLink own idx (mY Mc) ∈ lw_tbl ∨ Cond.methodLinkNest own idx (mY Mc) RX8 ∈ lw_tbl
def MFi (M : MT) : Prop := Cond.instanceMethod (mY M) ∈ lw_tbl ∧ Cond.selects (mY M).cls (mY M) (mY M) ∈ lw_tbl ∧ CC (mK M) = (mY M).cls ∧ mK M < 10
def RM (Mc M : MT) : Prop := mF Mc + 1 ≤ mF M ∧ 8 + (mL Mc + 11) + mLo Mc ≤ mLo M
def CV (M : MT) (pc : Nat) (Mc : MT) (cnt pc' : Nat) : Prop := ∃ idx, Dc M pc (.invokevirtual idx) 3 pc' ∧ LK (mO M) idx Mc ∧ MFv Mc cnt ∧ MFi Mc ∧ RM Mc M
def CS (M : MT) (pc : Nat) (Mc : MT) (cnt pc' : Nat) : Prop := ∃ idx, Dc M pc (.invokestatic idx) 3 pc' ∧ LK (mO M) idx Mc ∧ MFv Mc cnt ∧ Cond.static (mY Mc) ∈ lw_tbl ∧ RM Mc M
def CI (M : MT) (pc : Nat) (Mc : MT) (cnt pc' : Nat) : Prop := ∃ idx, Dc M pc (.invokespecial idx) 3 pc' ∧ LK (mO M) idx Mc ∧ MFv Mc cnt ∧ Cond.instanceMethod (mY Mc) ∈ lw_tbl ∧ (mY Mc).name = "<init>" ∧ mR Mc = none ∧ RM Mc M
theorem Pc_blind (G : Gm) (n : Nat) (ρ : Rho) (S : AS) (as : List Value) : FrameBlind (PcM G n ρ S as) := by
  intro a U g mk q
  obtain ⟨q0, q1, q2, q3⟩ := q
  exact ⟨q0, q1, KW_moved (s := U) (U := U.calling g mk a) (State.WarmedH.refl U) q2, va_K.moved (u := U) (U := U.calling g mk a) (Vm.Alike.refl U.vm) q3⟩
theorem Pc_now {G : Gm} {M : MT} {n0 : Nat} {Z2 : State → Array Value → Prop} {p : Program} {s : State} {m : MethodId} {args : Array Value} {meth : Method} {c : Code} (E : EF G M n0 Z2 p s m args meth c) {n : Nat} {ρ : Rho} {S : AS} {H : Heap} (hP : Pic G n ρ S H) (as : List Value) : ∀ U : State, U.heap = H → s.WarmedH U.vm → (PcM G n ρ S as) as.toArray U := by
  intro U hU hW
  exact ⟨rfl, by rw [hU]; exact hP, KW_moved hW E.2.2.2.2.2.2.2.1, va_K.moved hW.alike E.2.2.2.2.2.2.2.2.1⟩
theorem ws_code {Mc : MT} {s : State} (hK : KW s) (h : Cond.code (mY Mc) (mC Mc) (mL Mc) (mR Mc) ∈ lw_tbl) : ∀ w ∈ [Cond.code (mY Mc) (mC Mc) (mL Mc) (mR Mc)], ∀ (a' : Array Value) (U : State), s.WarmedH U.vm → w.before a' U = true := by
  intro w hw a' U hW
  rw [List.mem_singleton.mp hw]
  exact word_at hW (Or.inl rfl) (hK _ h rfl #[])
section VC
variable {G : Gm} {M : MT} {n0 nE : Nat} {Z : ZT} {n : Nat} {ρ : Rho} {pc pc' : Nat} {L : List (Option Value)} {st : List Value} {S : AS}
theorem V_run {p : Program} {e : Env} {s : State} {m : MethodId} {args : Array Value} {below : List Frame} {meth : Method} {c : Code} (E : EF G M n0 Z.2 p s m args meth c) {H : Heap} {locs : List Loc} {ls : Array Slot} (hS : va_S (fun q => gB G ≤ q) s.heap H locs) (hl : lvh ls (mL M) L)
    {n' : Nat} {ρ' : Rho} {S' : AS} {r : Option Value} {a : Array Value} {rest : List Value} (h0 : n0 ≤ n) (h1 : n ≤ n') (hr : va_Run p G.1 e (rmM M (nE - n0) (SZ nE - SZ n0)) s m args below meth c H locs (n - n0) (SZ n - SZ n0) (n' - n) (SZ n' - SZ n) (F0 m pc ls st) rest (Qe G r n' ρ' S' a) (fun q => gB G ≤ q))
    (kk : V G M n0 nE Z n' ρ' (pc + 3) L (r.toList ++ rest) S') : W p G.1 e (rmM M (nE - n0) (SZ nE - SZ n0)) s m args below meth c H locs (n - n0) (SZ n - SZ n0) (Z.1 below args s) (F0 m pc ls st) := by
  intro T hT X
  obtain ⟨v, st₀, t, T', Lc, e0, X', hL, e1, e2, ⟨ho, hP', hF⟩, hst⟩ := hr T hT X
  cases ho
  have m1 := SZ_mono h0
  have m2 := SZ_mono h1
  rw [show n - n0 + (n' - n) = n' - n0 by omega, show SZ n - SZ n0 + (SZ n' - SZ n) = SZ n' - SZ n0 by omega] at X'
  obtain ⟨hz, hk⟩ := hF
  rw [e0] at hz hk
  obtain ⟨t2, a1, b1⟩ := kk p e s m args below meth c E T'.heap (locs ++ Lc) ls (by rw [e1]; exact hP') ⟨Nat.le_trans hS.1 (by rw [e1]; exact hz), fun q q1 q2 => by rw [e1, hk q (Nat.lt_of_lt_of_le q1 hS.1) q2]; exact hS.2.1 q q1 q2, fun q hq => by
      rcases List.mem_append.mp hq with h | h
      · exact hS.2.2 q h
      · exact hL q h⟩ hl T' rfl X'
  exact ⟨t2, hst t2 a1, b1⟩
theorem parse_len {y : MethodName} {cnt : Nat} (h : (parseMethodDescriptor y.desc).map (fun d => d.parameters.length) = some cnt) : ∀ sig, parseMethodDescriptor y.desc = some sig → cnt = sig.parameters.length := by
  intro sig hs
  rw [hs] at h
  exact (Option.some.inj h).symm
theorem V_cv {Mc : MT} {cnt k n' : Nat} {As rest : List Value} {r : Option Value} {ρ' : Rho} {S' : AS} (h : CV M pc Mc cnt pc') (hk : okd k = .inl (mK Mc)) (hn : k < n) (hst : st = As.reverse ++ .ref (gB G + k) :: rest) (hc : As.length = cnt) (hW : (rest.map fun v => v.category).sum ≤ 8)
    (hr : Rn G Mc (.ref (gB G + k) :: As) n ρ S r n' ρ' S') (h0 : n0 ≤ n) (h1 : n ≤ n') (h2 : n' ≤ nE) (kk : V G M n0 nE Z n' ρ' pc' L (r.toList ++ rest) S') : V G M n0 nE Z n ρ pc L st S :=
  fun p e s m args below meth c E H locs ls hP hS hl => by
    obtain ⟨idx, ⟨hd, rfl⟩, hlk, ⟨w1, w2, w3, w4⟩, ⟨w5, w6, w7, w8⟩, w9, w10⟩ := h
    have hK : va_K (gD G) vwCl (tysG G) s := E.2.2.2.2.2.2.2.2.1
    have hKW : KW s := E.2.2.2.2.2.2.2.1
    have m1 := SZ_mono h0
    have m2 := SZ_mono h1
    have m3 := SZ_mono h2
    have hat := hP.2 k hn
    rw [ent_obj hk] at hat
    have hPl : va_P (gD G) vwCl [(gB G + k, .inr (mK Mc, (List.range (nfl (mK Mc))).map (fvl (gB G) ρ S k (mK Mc))))] H := by
      intro i q hq
      cases i with
      | zero => cases hq; exact hat
      | succ i => simp at hq
    have hrec := va_recv hK hPl (clC (mK Mc) w8) (q0 := 0) rfl
    have hpre : PreV s H (mY Mc).cls (gB G + k) (PcM G n ρ S (.ref (gB G + k) :: As)) As := ⟨Pc_blind G n ρ S _, by rw [← w7]; exact hrec, Pc_now E hP (.ref (gB G + k) :: As)⟩
    have hls : ls.size = mL M := hl.1.1
    refine V_run E hS hl h0 h1 (r := r) (ρ' := ρ') (S' := S') (rest := rest) (a := (Value.ref (gB G + k) :: As).toArray) ?_ kk
    rcases hlk with hlk | hlk
    · exact va_runV (Ts := []) (own := mO M) (C := (mY Mc).cls) (b := gB G + k) (As := As) (rest := rest) ⟨E.1, E.2.1, E.2.2.1, E.2.2.2.2.2.1, fun w hw => absurd hw List.not_mem_nil⟩ hr ⟨⟨rfl, rfl, w9, w10, ws_code hKW w1, List.mem_singleton.mpr rfl, hKW _ w1 rfl args, hKW _ w2 rfl args, w3, parse_len w4, hKW _ hlk rfl args⟩, hKW _ w5 rfl args, hKW _ w6 rfl args⟩ hpre rfl hc hls hst (lv_room hW) hd ⟨by show n - n0 + (n' - n) ≤ nE - n0; omega, by show SZ n - SZ n0 + (SZ n' - SZ n) ≤ SZ nE - SZ n0; omega⟩
    · exact va_runVN (Ts := []) (own := mO M) (host := RX8) (C := (mY Mc).cls) (b := gB G + k) (As := As) (rest := rest) ⟨E.1, E.2.1, E.2.2.1, E.2.2.2.2.2.1, fun w hw => absurd hw List.not_mem_nil⟩ hr ⟨⟨⟨rfl, rfl, w9, w10, ws_code hKW w1, List.mem_singleton.mpr rfl⟩, hKW _ w1 rfl args, hKW _ w2 rfl args, w3, parse_len w4, hKW _ hlk rfl args⟩, hKW _ w5 rfl args, hKW _ w6 rfl args⟩ hpre rfl hc hls hst (lv_room hW) hd ⟨by show n - n0 + (n' - n) ≤ nE - n0; omega, by show SZ n - SZ n0 + (SZ n' - SZ n) ≤ SZ nE - SZ n0; omega⟩
theorem V_cs {Mc : MT} {cnt n' : Nat} {As rest : List Value} {r : Option Value} {ρ' : Rho} {S' : AS} (h : CS M pc Mc cnt pc') (hst : st = As.reverse ++ rest) (hc : As.length = cnt) (hW : (rest.map fun v => v.category).sum ≤ 8)
    (hr : Rn G Mc As n ρ S r n' ρ' S') (h0 : n0 ≤ n) (h1 : n ≤ n') (h2 : n' ≤ nE) (kk : V G M n0 nE Z n' ρ' pc' L (r.toList ++ rest) S') : V G M n0 nE Z n ρ pc L st S :=
  fun p e s m args below meth c E H locs ls hP hS hl => by
    obtain ⟨idx, ⟨hd, rfl⟩, hlk, ⟨w1, w2, w3, w4⟩, w5, w9, w10⟩ := h
    have hKW : KW s := E.2.2.2.2.2.2.2.1
    have m1 := SZ_mono h0
    have m2 := SZ_mono h1
    have m3 := SZ_mono h2
    have hpre : PreS s H (PcM G n ρ S As) As := ⟨Pc_blind G n ρ S _, Pc_now E hP As⟩
    have hls : ls.size = mL M := hl.1.1
    refine V_run E hS hl h0 h1 (r := r) (ρ' := ρ') (S' := S') (rest := rest) (a := As.toArray) ?_ kk
    rcases hlk with hlk | hlk
    · exact va_runS (Ts := []) (own := mO M) (As := As) (rest := rest) ⟨E.1, E.2.1, E.2.2.1, E.2.2.2.2.2.1, fun w hw => absurd hw List.not_mem_nil⟩ hr ⟨⟨rfl, rfl, w9, w10, ws_code hKW w1, List.mem_singleton.mpr rfl, hKW _ w1 rfl args, hKW _ w2 rfl args, w3, parse_len w4, hKW _ hlk rfl args⟩, hKW _ w5 rfl args⟩ hpre rfl hc hls hst (lv_room hW) hd ⟨by show n - n0 + (n' - n) ≤ nE - n0; omega, by show SZ n - SZ n0 + (SZ n' - SZ n) ≤ SZ nE - SZ n0; omega⟩
    · exact va_runSN (Ts := []) (own := mO M) (host := RX8) (As := As) (rest := rest) ⟨E.1, E.2.1, E.2.2.1, E.2.2.2.2.2.1, fun w hw => absurd hw List.not_mem_nil⟩ hr ⟨⟨⟨rfl, rfl, w9, w10, ws_code hKW w1, List.mem_singleton.mpr rfl⟩, hKW _ w1 rfl args, hKW _ w2 rfl args, w3, parse_len w4, hKW _ hlk rfl args⟩, hKW _ w5 rfl args, trivial⟩ hpre rfl hc hls hst (lv_room hW) hd ⟨by show n - n0 + (n' - n) ≤ nE - n0; omega, by show SZ n - SZ n0 + (SZ n' - SZ n) ≤ SZ nE - SZ n0; omega⟩
theorem V_ci {Mc : MT} {cnt b n' : Nat} {As rest : List Value} {ρ' : Rho} {S' : AS} (h : CI M pc Mc cnt pc') (hst : st = As.reverse ++ .ref b :: rest) (hc : As.length = cnt) (hW : (rest.map fun v => v.category).sum ≤ 8)
    (hr : Rn G Mc (.ref b :: As) n ρ S none n' ρ' S') (h0 : n0 ≤ n) (h1 : n ≤ n') (h2 : n' ≤ nE) (kk : V G M n0 nE Z n' ρ' pc' L rest S') : V G M n0 nE Z n ρ pc L st S :=
  fun p e s m args below meth c E H locs ls hP hS hl => by
    obtain ⟨idx, ⟨hd, rfl⟩, hlk, ⟨w1, w2, w3, w4⟩, w5, w6, w7, w9, w10⟩ := h
    have hKW : KW s := E.2.2.2.2.2.2.2.1
    have m1 := SZ_mono h0
    have m2 := SZ_mono h1
    have m3 := SZ_mono h2
    have hpre : PreS s H (PcM G n ρ S (.ref b :: As)) (.ref b :: As) := ⟨Pc_blind G n ρ S _, Pc_now E hP (.ref b :: As)⟩
    have hls : ls.size = mL M := hl.1.1
    refine V_run E hS hl h0 h1 (r := none) (ρ' := ρ') (S' := S') (rest := rest) (a := (Value.ref b :: As).toArray) ?_ kk
    have hr' : Met G.1 (mY Mc) [Cond.code (mY Mc) (mC Mc) (mL Mc) none] (rmM Mc (n' - n) (SZ n' - SZ n)) (PcM G n ρ S (.ref b :: As)) (Qe G none n' ρ' S') (n' - n) (SZ n' - SZ n) (fun q => gB G ≤ q) := by rw [← w7]; exact hr
    have hw1 := ws_code hKW w1
    rw [w7] at hw1 w1
    rcases hlk with hlk | hlk
    · exact va_runI (Ts := []) (own := mO M) (b := b) (As := As) (rest := rest) ⟨E.1, E.2.1, E.2.2.1, E.2.2.2.2.2.1, fun w hw => absurd hw List.not_mem_nil⟩ hr' ⟨⟨rfl, rfl, w9, w10, hw1, List.mem_singleton.mpr rfl, hKW _ w1 rfl args, hKW _ w2 rfl args, w3, parse_len w4, hKW _ hlk rfl args⟩, w6, hKW _ w5 rfl args⟩ hpre rfl hc hls hst (lv_room hW) hd ⟨by show n - n0 + (n' - n) ≤ nE - n0; omega, by show SZ n - SZ n0 + (SZ n' - SZ n) ≤ SZ nE - SZ n0; omega⟩
    · exact va_runIN (Ts := []) (own := mO M) (host := RX8) (b := b) (As := As) (rest := rest) ⟨E.1, E.2.1, E.2.2.1, E.2.2.2.2.2.1, fun w hw => absurd hw List.not_mem_nil⟩ hr' ⟨⟨⟨rfl, rfl, w9, w10, hw1, List.mem_singleton.mpr rfl⟩, hKW _ w1 rfl args, hKW _ w2 rfl args, w3, parse_len w4, hKW _ hlk rfl args⟩, w6, hKW _ w5 rfl args⟩ hpre rfl hc hls hst (lv_room hW) hd ⟨by show n - n0 + (n' - n) ≤ nE - n0; omega, by show SZ n - SZ n0 + (SZ n' - SZ n) ≤ SZ nE - SZ n0; omega⟩
/-- a method's contract out of its walk -/
theorem Rn_of {args : List Value} {r : Option Value} {ρE : Rho} {SE : AS} (hp : plainName (mY M).cls = true ∧ (mY M).cls = mO M) (L : List (Option Value)) (hL : lva 0 L = lv_args 0 args) (hlen : L.length ≤ mL M) (hsl : (lg_sl args).length ≤ mL M) (k : V G M n nE (Zm G r n nE ρE SE) n ρ 0 L [] S) : Rn G M args n ρ S r nE ρE SE := by
  refine Met.ofW (cc := mC M) (maxL := mL M) (ret := mR M) hp.1 rfl ?_
  intro p e s m args' below meth c s₁ B hml hv
  obtain ⟨rfl, hP, hKW, hK⟩ := hv
  rw [lg_entry_eq]
  have E : EF G M n (fun _ _ => True) p s m args.toArray meth c := ⟨B.exec, B.bytes, hml, B.returns, B.notSynchronized, by rw [← hp.2]; exact findClass_of_methodNamed B.named, (name_of_methodNamed B.named B.method).1, hKW, hK, hP.1, trivial⟩
  have h := k p e s m args.toArray below meth c E s.heap [] _ hP va_S.rf ⟨by rw [hL]; exact lv_entry args hsl, hlen⟩
  rw [Nat.sub_self, Nat.sub_self] at h
  exact h
variable {r : Option Value} {SE : AS}
theorem V_iret {v : Int32} (h : Dc M pc .ireturn 1 pc') (hR : mR M = some .int) (hr : some (.int v) = r) (hS0 : S = SE) : V G M n0 n (Zm G r n0 n ρ SE) n ρ pc L [.int v] S :=
  fun p e s m args below meth c E H locs ls hP hS hl => by
    obtain ⟨hd, -⟩ := h
    subst hr; subst hS0
    exact W.iret E.1 E.2.1 (E.2.2.2.1.trans hR) (fun t ht hW => ⟨rfl, by rw [ht]; exact hP, hS.F ht⟩) hS.2.2 hd E.2.2.2.2.1
theorem V_zret {v : Int32} (h : Dc M pc .ireturn 1 pc') (hR : mR M = some .boolean) (hv : narrow .boolean (.int v) = .int v) (hr : some (.int v) = r) (hS0 : S = SE) : V G M n0 n (Zm G r n0 n ρ SE) n ρ pc L [.int v] S :=
  fun p e s m args below meth c E H locs ls hP hS hl => by
    obtain ⟨hd, -⟩ := h
    subst hr; subst hS0
    exact W.zret E.1 E.2.1 (E.2.2.2.1.trans hR) hv (fun t ht hW => ⟨rfl, by rw [ht]; exact hP, hS.F ht⟩) hS.2.2 hd E.2.2.2.2.1
theorem V_lret {v : Int64} (h : Dc M pc .lreturn 1 pc') (hR : mR M = some .long) (hr : some (.long v) = r) (hS0 : S = SE) : V G M n0 n (Zm G r n0 n ρ SE) n ρ pc L [.long v] S :=
  fun p e s m args below meth c E H locs ls hP hS hl => by
    obtain ⟨hd, -⟩ := h
    subst hr; subst hS0
    exact W.lret E.1 E.2.1 (E.2.2.2.1.trans hR) (fun t ht hW => ⟨rfl, by rw [ht]; exact hP, hS.F ht⟩) hS.2.2 hd E.2.2.2.2.1
theorem V_aret {a : Nat} {C : String} (h : Dc M pc .areturn 1 pc') (hR : mR M = some (.object C)) (hr : some (.ref a) = r) (hS0 : S = SE) : V G M n0 n (Zm G r n0 n ρ SE) n ρ pc L [.ref a] S :=
  fun p e s m args below meth c E H locs ls hP hS hl => by
    obtain ⟨hd, -⟩ := h
    subst hr; subst hS0
    exact W.aret E.1 E.2.1 (E.2.2.2.1.trans hR) (Or.inl ⟨_, rfl⟩) (Or.inr ⟨_, rfl⟩) (fun t ht hW => ⟨rfl, by rw [ht]; exact hP, hS.F ht⟩) hS.2.2 hd E.2.2.2.2.1
theorem V_vret (h : Dc M pc .return_ 1 pc') (hR : mR M = none) (hr : none = r) (hS0 : S = SE) : V G M n0 n (Zm G r n0 n ρ SE) n ρ pc L [] S :=
  fun p e s m args below meth c E H locs ls hP hS hl => by
    obtain ⟨hd, -⟩ := h
    subst hr; subst hS0
    exact W.vret E.1 E.2.1 (E.2.2.2.1.trans hR) (fun t ht hW => ⟨rfl, by rw [ht]; exact hP, hS.F ht⟩) hS.2.2 hd E.2.2.2.2.1
/-- a truth value as an int -/
def bI (b : Bool) : Int32 := if b = true then nI 1 else nI 0
theorem bI_t {b : Bool} (h : b = true) : bI b = nI 1 := by rw [h]; rfl
theorem bI_f {b : Bool} (h : b = false) : bI b = nI 0 := by rw [h]; rfl
theorem bI_nar (b : Bool) : narrow .boolean (.int (bI b)) = .int (bI b) := by cases b <;> rfl
theorem bI_0 {b : Bool} : bI b = 0 ↔ b = false := by cases b <;> simp [bI, nI]
theorem V_neB {tgt : Nat} {b : Bool} (h : Db M pc .ne tgt pc') (kt : b = true → V G M n0 nE Z n ρ tgt L st S) (kf : b = false → V G M n0 nE Z n ρ pc' L st S) : V G M n0 nE Z n ρ pc L (.int (bI b) :: st) S :=
  V_if_ne h (fun q => kt (by cases b <;> first | rfl | exact absurd (bI_0.mpr rfl) q)) (fun q => kf (bI_0.mp q))
theorem V_eqB {tgt : Nat} {b : Bool} (h : Db M pc .eq tgt pc') (kt : b = false → V G M n0 nE Z n ρ tgt L st S) (kf : b = true → V G M n0 nE Z n ρ pc' L st S) : V G M n0 nE Z n ρ pc L (.int (bI b) :: st) S :=
  V_if_eq h (fun q => kt (bI_0.mp q)) (fun q => kf (by cases b <;> first | rfl | exact absurd (bI_0.mpr rfl) q))
def Dt (M : MT) (pc : Nat) (lo hi : Int) (offs : Array Int) (dt : Nat) : Prop := ∃ (dflt : Int) (len : Nat), decode (mC M) pc = .ok (.tableswitch dflt lo hi offs, len) ∧ (pc : Int) + dflt = (dt : Int)
theorem V_tabO {lo hi : Int} {offs : Array Int} {dt : Nat} {x : Int32} (h : Dt M pc lo hi offs dt) (hx : x.toInt < lo ∨ hi < x.toInt) (k : V G M n0 nE Z n ρ dt L st S) : V G M n0 nE Z n ρ pc L (.int x :: st) S :=
  fun p e s m args below meth c E H locs ls hP hS hl => by
    obtain ⟨dflt, len, hd, ht⟩ := h
    exact lv_tableOut E.1 E.2.1 hd hx ht (k p e s m args below meth c E H locs ls hP hS hl)
theorem V_tabI {lo hi : Int} {offs : Array Int} {dt tgt : Nat} {off : Int} {x : Int32} (h : Dt M pc lo hi offs dt) (h1 : ¬ x.toInt < lo) (h2 : ¬ hi < x.toInt) (ho : offs[(x.toInt - lo).toNat]? = some off) (ht : (pc : Int) + off = (tgt : Int)) (k : V G M n0 nE Z n ρ tgt L st S) : V G M n0 nE Z n ρ pc L (.int x :: st) S :=
  fun p e s m args below meth c E H locs ls hP hS hl => by
    obtain ⟨dflt, len, hd, -⟩ := h
    exact lv_tableIn E.1 E.2.1 hd h1 h2 ho ht (k p e s m args below meth c E H locs ls hP hS hl)

theorem V_cv0 {Mc : MT} {k n' : Nat} {rest : List Value} {r : Value} {ρ' : Rho} {S' : AS} (h : CV M pc Mc 0 pc') (hr : Rn G Mc [.ref (gB G + k)] n ρ S (some r) n' ρ' S') (hk : okd k = .inl (mK Mc)) (hb : k < n ∧ (rest.map fun v => v.category).sum ≤ 8 ∧ n0 ≤ n ∧ n ≤ n' ∧ n' ≤ nE) (kk : V G M n0 nE Z n' ρ' pc' L (r :: rest) S') : V G M n0 nE Z n ρ pc L (.ref (gB G + k) :: rest) S := V_cv (As := []) h hk hb.1 rfl rfl hb.2.1 hr hb.2.2.1 hb.2.2.2.1 hb.2.2.2.2 kk
theorem V_cv0v {Mc : MT} {k n' : Nat} {rest : List Value} {ρ' : Rho} {S' : AS} (h : CV M pc Mc 0 pc') (hr : Rn G Mc [.ref (gB G + k)] n ρ S none n' ρ' S') (hk : okd k = .inl (mK Mc)) (hb : k < n ∧ (rest.map fun v => v.category).sum ≤ 8 ∧ n0 ≤ n ∧ n ≤ n' ∧ n' ≤ nE) (kk : V G M n0 nE Z n' ρ' pc' L rest S') : V G M n0 nE Z n ρ pc L (.ref (gB G + k) :: rest) S := V_cv (As := []) h hk hb.1 rfl rfl hb.2.1 hr hb.2.2.1 hb.2.2.2.1 hb.2.2.2.2 kk
theorem V_cs0 {Mc : MT} {n' : Nat} {rest : List Value} {r : Value} {ρ' : Rho} {S' : AS} (h : CS M pc Mc 0 pc') (hr : Rn G Mc [] n ρ S (some r) n' ρ' S') (hb : (rest.map fun v => v.category).sum ≤ 8 ∧ n0 ≤ n ∧ n ≤ n' ∧ n' ≤ nE) (kk : V G M n0 nE Z n' ρ' pc' L (r :: rest) S') : V G M n0 nE Z n ρ pc L (rest) S := V_cs (As := []) h rfl rfl hb.1 hr hb.2.1 hb.2.2.1 hb.2.2.2 kk
theorem V_cs0v {Mc : MT} {n' : Nat} {rest : List Value} {ρ' : Rho} {S' : AS} (h : CS M pc Mc 0 pc') (hr : Rn G Mc [] n ρ S none n' ρ' S') (hb : (rest.map fun v => v.category).sum ≤ 8 ∧ n0 ≤ n ∧ n ≤ n' ∧ n' ≤ nE) (kk : V G M n0 nE Z n' ρ' pc' L rest S') : V G M n0 nE Z n ρ pc L (rest) S := V_cs (As := []) h rfl rfl hb.1 hr hb.2.1 hb.2.2.1 hb.2.2.2 kk
theorem V_ci0 {Mc : MT} {b n' : Nat} {rest : List Value} {ρ' : Rho} {S' : AS} (h : CI M pc Mc 0 pc') (hr : Rn G Mc [.ref b] n ρ S none n' ρ' S') (hb : (rest.map fun v => v.category).sum ≤ 8 ∧ n0 ≤ n ∧ n ≤ n' ∧ n' ≤ nE) (kk : V G M n0 nE Z n' ρ' pc' L rest S') : V G M n0 nE Z n ρ pc L (.ref b :: rest) S := V_ci (As := []) h rfl rfl hb.1 hr hb.2.1 hb.2.2.1 hb.2.2.2 kk
theorem V_cv1 {Mc : MT} {k n' : Nat} {x0 : Value} {rest : List Value} {r : Value} {ρ' : Rho} {S' : AS} (h : CV M pc Mc 1 pc') (hr : Rn G Mc [.ref (gB G + k), x0] n ρ S (some r) n' ρ' S') (hk : okd k = .inl (mK Mc)) (hb : k < n ∧ (rest.map fun v => v.category).sum ≤ 8 ∧ n0 ≤ n ∧ n ≤ n' ∧ n' ≤ nE) (kk : V G M n0 nE Z n' ρ' pc' L (r :: rest) S') : V G M n0 nE Z n ρ pc L (x0 :: .ref (gB G + k) :: rest) S := V_cv (As := [x0]) h hk hb.1 rfl rfl hb.2.1 hr hb.2.2.1 hb.2.2.2.1 hb.2.2.2.2 kk
theorem V_cv1v {Mc : MT} {k n' : Nat} {x0 : Value} {rest : List Value} {ρ' : Rho} {S' : AS} (h : CV M pc Mc 1 pc') (hr : Rn G Mc [.ref (gB G + k), x0] n ρ S none n' ρ' S') (hk : okd k = .inl (mK Mc)) (hb : k < n ∧ (rest.map fun v => v.category).sum ≤ 8 ∧ n0 ≤ n ∧ n ≤ n' ∧ n' ≤ nE) (kk : V G M n0 nE Z n' ρ' pc' L rest S') : V G M n0 nE Z n ρ pc L (x0 :: .ref (gB G + k) :: rest) S := V_cv (As := [x0]) h hk hb.1 rfl rfl hb.2.1 hr hb.2.2.1 hb.2.2.2.1 hb.2.2.2.2 kk
theorem V_cs1 {Mc : MT} {n' : Nat} {x0 : Value} {rest : List Value} {r : Value} {ρ' : Rho} {S' : AS} (h : CS M pc Mc 1 pc') (hr : Rn G Mc [x0] n ρ S (some r) n' ρ' S') (hb : (rest.map fun v => v.category).sum ≤ 8 ∧ n0 ≤ n ∧ n ≤ n' ∧ n' ≤ nE) (kk : V G M n0 nE Z n' ρ' pc' L (r :: rest) S') : V G M n0 nE Z n ρ pc L (x0 :: rest) S := V_cs (As := [x0]) h rfl rfl hb.1 hr hb.2.1 hb.2.2.1 hb.2.2.2 kk
theorem V_cs1v {Mc : MT} {n' : Nat} {x0 : Value} {rest : List Value} {ρ' : Rho} {S' : AS} (h : CS M pc Mc 1 pc') (hr : Rn G Mc [x0] n ρ S none n' ρ' S') (hb : (rest.map fun v => v.category).sum ≤ 8 ∧ n0 ≤ n ∧ n ≤ n' ∧ n' ≤ nE) (kk : V G M n0 nE Z n' ρ' pc' L rest S') : V G M n0 nE Z n ρ pc L (x0 :: rest) S := V_cs (As := [x0]) h rfl rfl hb.1 hr hb.2.1 hb.2.2.1 hb.2.2.2 kk
theorem V_ci1 {Mc : MT} {b n' : Nat} {x0 : Value} {rest : List Value} {ρ' : Rho} {S' : AS} (h : CI M pc Mc 1 pc') (hr : Rn G Mc [.ref b, x0] n ρ S none n' ρ' S') (hb : (rest.map fun v => v.category).sum ≤ 8 ∧ n0 ≤ n ∧ n ≤ n' ∧ n' ≤ nE) (kk : V G M n0 nE Z n' ρ' pc' L rest S') : V G M n0 nE Z n ρ pc L (x0 :: .ref b :: rest) S := V_ci (As := [x0]) h rfl rfl hb.1 hr hb.2.1 hb.2.2.1 hb.2.2.2 kk
theorem V_cv2 {Mc : MT} {k n' : Nat} {x0 x1 : Value} {rest : List Value} {r : Value} {ρ' : Rho} {S' : AS} (h : CV M pc Mc 2 pc') (hr : Rn G Mc [.ref (gB G + k), x0, x1] n ρ S (some r) n' ρ' S') (hk : okd k = .inl (mK Mc)) (hb : k < n ∧ (rest.map fun v => v.category).sum ≤ 8 ∧ n0 ≤ n ∧ n ≤ n' ∧ n' ≤ nE) (kk : V G M n0 nE Z n' ρ' pc' L (r :: rest) S') : V G M n0 nE Z n ρ pc L (x1 :: x0 :: .ref (gB G + k) :: rest) S := V_cv (As := [x0, x1]) h hk hb.1 rfl rfl hb.2.1 hr hb.2.2.1 hb.2.2.2.1 hb.2.2.2.2 kk
theorem V_cv2v {Mc : MT} {k n' : Nat} {x0 x1 : Value} {rest : List Value} {ρ' : Rho} {S' : AS} (h : CV M pc Mc 2 pc') (hr : Rn G Mc [.ref (gB G + k), x0, x1] n ρ S none n' ρ' S') (hk : okd k = .inl (mK Mc)) (hb : k < n ∧ (rest.map fun v => v.category).sum ≤ 8 ∧ n0 ≤ n ∧ n ≤ n' ∧ n' ≤ nE) (kk : V G M n0 nE Z n' ρ' pc' L rest S') : V G M n0 nE Z n ρ pc L (x1 :: x0 :: .ref (gB G + k) :: rest) S := V_cv (As := [x0, x1]) h hk hb.1 rfl rfl hb.2.1 hr hb.2.2.1 hb.2.2.2.1 hb.2.2.2.2 kk
theorem V_cs2 {Mc : MT} {n' : Nat} {x0 x1 : Value} {rest : List Value} {r : Value} {ρ' : Rho} {S' : AS} (h : CS M pc Mc 2 pc') (hr : Rn G Mc [x0, x1] n ρ S (some r) n' ρ' S') (hb : (rest.map fun v => v.category).sum ≤ 8 ∧ n0 ≤ n ∧ n ≤ n' ∧ n' ≤ nE) (kk : V G M n0 nE Z n' ρ' pc' L (r :: rest) S') : V G M n0 nE Z n ρ pc L (x1 :: x0 :: rest) S := V_cs (As := [x0, x1]) h rfl rfl hb.1 hr hb.2.1 hb.2.2.1 hb.2.2.2 kk
theorem V_cs2v {Mc : MT} {n' : Nat} {x0 x1 : Value} {rest : List Value} {ρ' : Rho} {S' : AS} (h : CS M pc Mc 2 pc') (hr : Rn G Mc [x0, x1] n ρ S none n' ρ' S') (hb : (rest.map fun v => v.category).sum ≤ 8 ∧ n0 ≤ n ∧ n ≤ n' ∧ n' ≤ nE) (kk : V G M n0 nE Z n' ρ' pc' L rest S') : V G M n0 nE Z n ρ pc L (x1 :: x0 :: rest) S := V_cs (As := [x0, x1]) h rfl rfl hb.1 hr hb.2.1 hb.2.2.1 hb.2.2.2 kk
theorem V_ci2 {Mc : MT} {b n' : Nat} {x0 x1 : Value} {rest : List Value} {ρ' : Rho} {S' : AS} (h : CI M pc Mc 2 pc') (hr : Rn G Mc [.ref b, x0, x1] n ρ S none n' ρ' S') (hb : (rest.map fun v => v.category).sum ≤ 8 ∧ n0 ≤ n ∧ n ≤ n' ∧ n' ≤ nE) (kk : V G M n0 nE Z n' ρ' pc' L rest S') : V G M n0 nE Z n ρ pc L (x1 :: x0 :: .ref b :: rest) S := V_ci (As := [x0, x1]) h rfl rfl hb.1 hr hb.2.1 hb.2.2.1 hb.2.2.2 kk
theorem V_cv3 {Mc : MT} {k n' : Nat} {x0 x1 x2 : Value} {rest : List Value} {r : Value} {ρ' : Rho} {S' : AS} (h : CV M pc Mc 3 pc') (hr : Rn G Mc [.ref (gB G + k), x0, x1, x2] n ρ S (some r) n' ρ' S') (hk : okd k = .inl (mK Mc)) (hb : k < n ∧ (rest.map fun v => v.category).sum ≤ 8 ∧ n0 ≤ n ∧ n ≤ n' ∧ n' ≤ nE) (kk : V G M n0 nE Z n' ρ' pc' L (r :: rest) S') : V G M n0 nE Z n ρ pc L (x2 :: x1 :: x0 :: .ref (gB G + k) :: rest) S := V_cv (As := [x0, x1, x2]) h hk hb.1 rfl rfl hb.2.1 hr hb.2.2.1 hb.2.2.2.1 hb.2.2.2.2 kk
theorem V_cv3v {Mc : MT} {k n' : Nat} {x0 x1 x2 : Value} {rest : List Value} {ρ' : Rho} {S' : AS} (h : CV M pc Mc 3 pc') (hr : Rn G Mc [.ref (gB G + k), x0, x1, x2] n ρ S none n' ρ' S') (hk : okd k = .inl (mK Mc)) (hb : k < n ∧ (rest.map fun v => v.category).sum ≤ 8 ∧ n0 ≤ n ∧ n ≤ n' ∧ n' ≤ nE) (kk : V G M n0 nE Z n' ρ' pc' L rest S') : V G M n0 nE Z n ρ pc L (x2 :: x1 :: x0 :: .ref (gB G + k) :: rest) S := V_cv (As := [x0, x1, x2]) h hk hb.1 rfl rfl hb.2.1 hr hb.2.2.1 hb.2.2.2.1 hb.2.2.2.2 kk
theorem V_cs3 {Mc : MT} {n' : Nat} {x0 x1 x2 : Value} {rest : List Value} {r : Value} {ρ' : Rho} {S' : AS} (h : CS M pc Mc 3 pc') (hr : Rn G Mc [x0, x1, x2] n ρ S (some r) n' ρ' S') (hb : (rest.map fun v => v.category).sum ≤ 8 ∧ n0 ≤ n ∧ n ≤ n' ∧ n' ≤ nE) (kk : V G M n0 nE Z n' ρ' pc' L (r :: rest) S') : V G M n0 nE Z n ρ pc L (x2 :: x1 :: x0 :: rest) S := V_cs (As := [x0, x1, x2]) h rfl rfl hb.1 hr hb.2.1 hb.2.2.1 hb.2.2.2 kk
theorem V_cs3v {Mc : MT} {n' : Nat} {x0 x1 x2 : Value} {rest : List Value} {ρ' : Rho} {S' : AS} (h : CS M pc Mc 3 pc') (hr : Rn G Mc [x0, x1, x2] n ρ S none n' ρ' S') (hb : (rest.map fun v => v.category).sum ≤ 8 ∧ n0 ≤ n ∧ n ≤ n' ∧ n' ≤ nE) (kk : V G M n0 nE Z n' ρ' pc' L rest S') : V G M n0 nE Z n ρ pc L (x2 :: x1 :: x0 :: rest) S := V_cs (As := [x0, x1, x2]) h rfl rfl hb.1 hr hb.2.1 hb.2.2.1 hb.2.2.2 kk
theorem V_ci3 {Mc : MT} {b n' : Nat} {x0 x1 x2 : Value} {rest : List Value} {ρ' : Rho} {S' : AS} (h : CI M pc Mc 3 pc') (hr : Rn G Mc [.ref b, x0, x1, x2] n ρ S none n' ρ' S') (hb : (rest.map fun v => v.category).sum ≤ 8 ∧ n0 ≤ n ∧ n ≤ n' ∧ n' ≤ nE) (kk : V G M n0 nE Z n' ρ' pc' L rest S') : V G M n0 nE Z n ρ pc L (x2 :: x1 :: x0 :: .ref b :: rest) S := V_ci (As := [x0, x1, x2]) h rfl rfl hb.1 hr hb.2.1 hb.2.2.1 hb.2.2.2 kk
theorem V_cv4 {Mc : MT} {k n' : Nat} {x0 x1 x2 x3 : Value} {rest : List Value} {r : Value} {ρ' : Rho} {S' : AS} (h : CV M pc Mc 4 pc') (hr : Rn G Mc [.ref (gB G + k), x0, x1, x2, x3] n ρ S (some r) n' ρ' S') (hk : okd k = .inl (mK Mc)) (hb : k < n ∧ (rest.map fun v => v.category).sum ≤ 8 ∧ n0 ≤ n ∧ n ≤ n' ∧ n' ≤ nE) (kk : V G M n0 nE Z n' ρ' pc' L (r :: rest) S') : V G M n0 nE Z n ρ pc L (x3 :: x2 :: x1 :: x0 :: .ref (gB G + k) :: rest) S := V_cv (As := [x0, x1, x2, x3]) h hk hb.1 rfl rfl hb.2.1 hr hb.2.2.1 hb.2.2.2.1 hb.2.2.2.2 kk
theorem V_cv4v {Mc : MT} {k n' : Nat} {x0 x1 x2 x3 : Value} {rest : List Value} {ρ' : Rho} {S' : AS} (h : CV M pc Mc 4 pc') (hr : Rn G Mc [.ref (gB G + k), x0, x1, x2, x3] n ρ S none n' ρ' S') (hk : okd k = .inl (mK Mc)) (hb : k < n ∧ (rest.map fun v => v.category).sum ≤ 8 ∧ n0 ≤ n ∧ n ≤ n' ∧ n' ≤ nE) (kk : V G M n0 nE Z n' ρ' pc' L rest S') : V G M n0 nE Z n ρ pc L (x3 :: x2 :: x1 :: x0 :: .ref (gB G + k) :: rest) S := V_cv (As := [x0, x1, x2, x3]) h hk hb.1 rfl rfl hb.2.1 hr hb.2.2.1 hb.2.2.2.1 hb.2.2.2.2 kk
theorem V_cs4 {Mc : MT} {n' : Nat} {x0 x1 x2 x3 : Value} {rest : List Value} {r : Value} {ρ' : Rho} {S' : AS} (h : CS M pc Mc 4 pc') (hr : Rn G Mc [x0, x1, x2, x3] n ρ S (some r) n' ρ' S') (hb : (rest.map fun v => v.category).sum ≤ 8 ∧ n0 ≤ n ∧ n ≤ n' ∧ n' ≤ nE) (kk : V G M n0 nE Z n' ρ' pc' L (r :: rest) S') : V G M n0 nE Z n ρ pc L (x3 :: x2 :: x1 :: x0 :: rest) S := V_cs (As := [x0, x1, x2, x3]) h rfl rfl hb.1 hr hb.2.1 hb.2.2.1 hb.2.2.2 kk
theorem V_cs4v {Mc : MT} {n' : Nat} {x0 x1 x2 x3 : Value} {rest : List Value} {ρ' : Rho} {S' : AS} (h : CS M pc Mc 4 pc') (hr : Rn G Mc [x0, x1, x2, x3] n ρ S none n' ρ' S') (hb : (rest.map fun v => v.category).sum ≤ 8 ∧ n0 ≤ n ∧ n ≤ n' ∧ n' ≤ nE) (kk : V G M n0 nE Z n' ρ' pc' L rest S') : V G M n0 nE Z n ρ pc L (x3 :: x2 :: x1 :: x0 :: rest) S := V_cs (As := [x0, x1, x2, x3]) h rfl rfl hb.1 hr hb.2.1 hb.2.2.1 hb.2.2.2 kk
theorem V_ci4 {Mc : MT} {b n' : Nat} {x0 x1 x2 x3 : Value} {rest : List Value} {ρ' : Rho} {S' : AS} (h : CI M pc Mc 4 pc') (hr : Rn G Mc [.ref b, x0, x1, x2, x3] n ρ S none n' ρ' S') (hb : (rest.map fun v => v.category).sum ≤ 8 ∧ n0 ≤ n ∧ n ≤ n' ∧ n' ≤ nE) (kk : V G M n0 nE Z n' ρ' pc' L rest S') : V G M n0 nE Z n ρ pc L (x3 :: x2 :: x1 :: x0 :: .ref b :: rest) S := V_ci (As := [x0, x1, x2, x3]) h rfl rfl hb.1 hr hb.2.1 hb.2.2.1 hb.2.2.2 kk
theorem V_cv5 {Mc : MT} {k n' : Nat} {x0 x1 x2 x3 x4 : Value} {rest : List Value} {r : Value} {ρ' : Rho} {S' : AS} (h : CV M pc Mc 5 pc') (hr : Rn G Mc [.ref (gB G + k), x0, x1, x2, x3, x4] n ρ S (some r) n' ρ' S') (hk : okd k = .inl (mK Mc)) (hb : k < n ∧ (rest.map fun v => v.category).sum ≤ 8 ∧ n0 ≤ n ∧ n ≤ n' ∧ n' ≤ nE) (kk : V G M n0 nE Z n' ρ' pc' L (r :: rest) S') : V G M n0 nE Z n ρ pc L (x4 :: x3 :: x2 :: x1 :: x0 :: .ref (gB G + k) :: rest) S := V_cv (As := [x0, x1, x2, x3, x4]) h hk hb.1 rfl rfl hb.2.1 hr hb.2.2.1 hb.2.2.2.1 hb.2.2.2.2 kk
theorem V_cv5v {Mc : MT} {k n' : Nat} {x0 x1 x2 x3 x4 : Value} {rest : List Value} {ρ' : Rho} {S' : AS} (h : CV M pc Mc 5 pc') (hr : Rn G Mc [.ref (gB G + k), x0, x1, x2, x3, x4] n ρ S none n' ρ' S') (hk : okd k = .inl (mK Mc)) (hb : k < n ∧ (rest.map fun v => v.category).sum ≤ 8 ∧ n0 ≤ n ∧ n ≤ n' ∧ n' ≤ nE) (kk : V G M n0 nE Z n' ρ' pc' L rest S') : V G M n0 nE Z n ρ pc L (x4 :: x3 :: x2 :: x1 :: x0 :: .ref (gB G + k) :: rest) S := V_cv (As := [x0, x1, x2, x3, x4]) h hk hb.1 rfl rfl hb.2.1 hr hb.2.2.1 hb.2.2.2.1 hb.2.2.2.2 kk
theorem V_cs5 {Mc : MT} {n' : Nat} {x0 x1 x2 x3 x4 : Value} {rest : List Value} {r : Value} {ρ' : Rho} {S' : AS} (h : CS M pc Mc 5 pc') (hr : Rn G Mc [x0, x1, x2, x3, x4] n ρ S (some r) n' ρ' S') (hb : (rest.map fun v => v.category).sum ≤ 8 ∧ n0 ≤ n ∧ n ≤ n' ∧ n' ≤ nE) (kk : V G M n0 nE Z n' ρ' pc' L (r :: rest) S') : V G M n0 nE Z n ρ pc L (x4 :: x3 :: x2 :: x1 :: x0 :: rest) S := V_cs (As := [x0, x1, x2, x3, x4]) h rfl rfl hb.1 hr hb.2.1 hb.2.2.1 hb.2.2.2 kk
theorem V_cs5v {Mc : MT} {n' : Nat} {x0 x1 x2 x3 x4 : Value} {rest : List Value} {ρ' : Rho} {S' : AS} (h : CS M pc Mc 5 pc') (hr : Rn G Mc [x0, x1, x2, x3, x4] n ρ S none n' ρ' S') (hb : (rest.map fun v => v.category).sum ≤ 8 ∧ n0 ≤ n ∧ n ≤ n' ∧ n' ≤ nE) (kk : V G M n0 nE Z n' ρ' pc' L rest S') : V G M n0 nE Z n ρ pc L (x4 :: x3 :: x2 :: x1 :: x0 :: rest) S := V_cs (As := [x0, x1, x2, x3, x4]) h rfl rfl hb.1 hr hb.2.1 hb.2.2.1 hb.2.2.2 kk
theorem V_ci5 {Mc : MT} {b n' : Nat} {x0 x1 x2 x3 x4 : Value} {rest : List Value} {ρ' : Rho} {S' : AS} (h : CI M pc Mc 5 pc') (hr : Rn G Mc [.ref b, x0, x1, x2, x3, x4] n ρ S none n' ρ' S') (hb : (rest.map fun v => v.category).sum ≤ 8 ∧ n0 ≤ n ∧ n ≤ n' ∧ n' ≤ nE) (kk : V G M n0 nE Z n' ρ' pc' L rest S') : V G M n0 nE Z n ρ pc L (x4 :: x3 :: x2 :: x1 :: x0 :: .ref b :: rest) S := V_ci (As := [x0, x1, x2, x3, x4]) h rfl rfl hb.1 hr hb.2.1 hb.2.2.1 hb.2.2.2 kk
theorem V_cv6 {Mc : MT} {k n' : Nat} {x0 x1 x2 x3 x4 x5 : Value} {rest : List Value} {r : Value} {ρ' : Rho} {S' : AS} (h : CV M pc Mc 6 pc') (hr : Rn G Mc [.ref (gB G + k), x0, x1, x2, x3, x4, x5] n ρ S (some r) n' ρ' S') (hk : okd k = .inl (mK Mc)) (hb : k < n ∧ (rest.map fun v => v.category).sum ≤ 8 ∧ n0 ≤ n ∧ n ≤ n' ∧ n' ≤ nE) (kk : V G M n0 nE Z n' ρ' pc' L (r :: rest) S') : V G M n0 nE Z n ρ pc L (x5 :: x4 :: x3 :: x2 :: x1 :: x0 :: .ref (gB G + k) :: rest) S := V_cv (As := [x0, x1, x2, x3, x4, x5]) h hk hb.1 rfl rfl hb.2.1 hr hb.2.2.1 hb.2.2.2.1 hb.2.2.2.2 kk
theorem V_cv6v {Mc : MT} {k n' : Nat} {x0 x1 x2 x3 x4 x5 : Value} {rest : List Value} {ρ' : Rho} {S' : AS} (h : CV M pc Mc 6 pc') (hr : Rn G Mc [.ref (gB G + k), x0, x1, x2, x3, x4, x5] n ρ S none n' ρ' S') (hk : okd k = .inl (mK Mc)) (hb : k < n ∧ (rest.map fun v => v.category).sum ≤ 8 ∧ n0 ≤ n ∧ n ≤ n' ∧ n' ≤ nE) (kk : V G M n0 nE Z n' ρ' pc' L rest S') : V G M n0 nE Z n ρ pc L (x5 :: x4 :: x3 :: x2 :: x1 :: x0 :: .ref (gB G + k) :: rest) S := V_cv (As := [x0, x1, x2, x3, x4, x5]) h hk hb.1 rfl rfl hb.2.1 hr hb.2.2.1 hb.2.2.2.1 hb.2.2.2.2 kk
theorem V_cs6 {Mc : MT} {n' : Nat} {x0 x1 x2 x3 x4 x5 : Value} {rest : List Value} {r : Value} {ρ' : Rho} {S' : AS} (h : CS M pc Mc 6 pc') (hr : Rn G Mc [x0, x1, x2, x3, x4, x5] n ρ S (some r) n' ρ' S') (hb : (rest.map fun v => v.category).sum ≤ 8 ∧ n0 ≤ n ∧ n ≤ n' ∧ n' ≤ nE) (kk : V G M n0 nE Z n' ρ' pc' L (r :: rest) S') : V G M n0 nE Z n ρ pc L (x5 :: x4 :: x3 :: x2 :: x1 :: x0 :: rest) S := V_cs (As := [x0, x1, x2, x3, x4, x5]) h rfl rfl hb.1 hr hb.2.1 hb.2.2.1 hb.2.2.2 kk
theorem V_cs6v {Mc : MT} {n' : Nat} {x0 x1 x2 x3 x4 x5 : Value} {rest : List Value} {ρ' : Rho} {S' : AS} (h : CS M pc Mc 6 pc') (hr : Rn G Mc [x0, x1, x2, x3, x4, x5] n ρ S none n' ρ' S') (hb : (rest.map fun v => v.category).sum ≤ 8 ∧ n0 ≤ n ∧ n ≤ n' ∧ n' ≤ nE) (kk : V G M n0 nE Z n' ρ' pc' L rest S') : V G M n0 nE Z n ρ pc L (x5 :: x4 :: x3 :: x2 :: x1 :: x0 :: rest) S := V_cs (As := [x0, x1, x2, x3, x4, x5]) h rfl rfl hb.1 hr hb.2.1 hb.2.2.1 hb.2.2.2 kk
theorem V_ci6 {Mc : MT} {b n' : Nat} {x0 x1 x2 x3 x4 x5 : Value} {rest : List Value} {ρ' : Rho} {S' : AS} (h : CI M pc Mc 6 pc') (hr : Rn G Mc [.ref b, x0, x1, x2, x3, x4, x5] n ρ S none n' ρ' S') (hb : (rest.map fun v => v.category).sum ≤ 8 ∧ n0 ≤ n ∧ n ≤ n' ∧ n' ≤ nE) (kk : V G M n0 nE Z n' ρ' pc' L rest S') : V G M n0 nE Z n ρ pc L (x5 :: x4 :: x3 :: x2 :: x1 :: x0 :: .ref b :: rest) S := V_ci (As := [x0, x1, x2, x3, x4, x5]) h rfl rfl hb.1 hr hb.2.1 hb.2.2.1 hb.2.2.2 kk
end VC
end
