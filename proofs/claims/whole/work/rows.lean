section
-- ===== PART A: goes FIRST, ahead of the names: the tables' words, and 'selects' of the private methods out of them =====
/-- a private method of a class that the tables say can be made, by its rows of tables_1 -/
def lw_okq (q : MethodName × Nat) : Prop := (q.1.cls ≠ "java/lang/invoke/MethodHandle" ∧ q.1.cls ≠ "java/lang/invoke/VarHandle") ∧ Cond.instantiable q.1.cls q.2 ∈ tables_1 ∧ Cond.privateMethod q.1 ∈ tables_1 ∧ Cond.instanceMethod q.1 ∈ tables_1
theorem lw_p0 : lw_okq (⟨"BarrowNights$Sheets", "faultOfRow", "(II)I"⟩, 3) := ⟨⟨by decide +kernel, by decide +kernel⟩, List.mem_of_getElem? (i := 22) (by decide +kernel), List.mem_of_getElem? (i := 272) (by decide +kernel), List.mem_of_getElem? (i := 273) (by decide +kernel)⟩
theorem lw_p1 : lw_okq (⟨"BarrowNights$Sheets", "hasNothing", "(I)Z"⟩, 3) := ⟨⟨by decide +kernel, by decide +kernel⟩, List.mem_of_getElem? (i := 22) (by decide +kernel), List.mem_of_getElem? (i := 276) (by decide +kernel), List.mem_of_getElem? (i := 277) (by decide +kernel)⟩
theorem lw_p2 : lw_okq (⟨"BarrowNights$Sheets", "faultOfCells", "(III)I"⟩, 3) := ⟨⟨by decide +kernel, by decide +kernel⟩, List.mem_of_getElem? (i := 22) (by decide +kernel), List.mem_of_getElem? (i := 281) (by decide +kernel), List.mem_of_getElem? (i := 282) (by decide +kernel)⟩
theorem lw_p3 : lw_okq (⟨"BarrowNights$Text", "load", "(LBarrowNights$Sheets;III)V"⟩, 4) := ⟨⟨by decide +kernel, by decide +kernel⟩, List.mem_of_getElem? (i := 39) (by decide +kernel), List.mem_of_getElem? (i := 285) (by decide +kernel), List.mem_of_getElem? (i := 286) (by decide +kernel)⟩
theorem lw_p4 : lw_okq (⟨"BarrowNights$Sheets", "valueAt", "(II)I"⟩, 3) := ⟨⟨by decide +kernel, by decide +kernel⟩, List.mem_of_getElem? (i := 22) (by decide +kernel), List.mem_of_getElem? (i := 295) (by decide +kernel), List.mem_of_getElem? (i := 296) (by decide +kernel)⟩
theorem lw_p5 : lw_okq (⟨"BarrowNights$Sheets", "faultOfCell", "(II)I"⟩, 3) := ⟨⟨by decide +kernel, by decide +kernel⟩, List.mem_of_getElem? (i := 22) (by decide +kernel), List.mem_of_getElem? (i := 299) (by decide +kernel), List.mem_of_getElem? (i := 300) (by decide +kernel)⟩
theorem lw_p6 : lw_okq (⟨"BarrowNights$Text", "firstFault", "()I"⟩, 4) := ⟨⟨by decide +kernel, by decide +kernel⟩, List.mem_of_getElem? (i := 39) (by decide +kernel), List.mem_of_getElem? (i := 303) (by decide +kernel), List.mem_of_getElem? (i := 304) (by decide +kernel)⟩
theorem lw_p7 : lw_okq (⟨"BarrowNights$Text", "codeAt", "(I)I"⟩, 4) := ⟨⟨by decide +kernel, by decide +kernel⟩, List.mem_of_getElem? (i := 39) (by decide +kernel), List.mem_of_getElem? (i := 307) (by decide +kernel), List.mem_of_getElem? (i := 308) (by decide +kernel)⟩
theorem lw_p8 : lw_okq (⟨"BarrowNights$Text", "stopInBarrow", "(I)I"⟩, 4) := ⟨⟨by decide +kernel, by decide +kernel⟩, List.mem_of_getElem? (i := 39) (by decide +kernel), List.mem_of_getElem? (i := 311) (by decide +kernel), List.mem_of_getElem? (i := 312) (by decide +kernel)⟩
theorem lw_p9 : lw_okq (⟨"BarrowNights$Text", "kindAt", "(I)I"⟩, 4) := ⟨⟨by decide +kernel, by decide +kernel⟩, List.mem_of_getElem? (i := 39) (by decide +kernel), List.mem_of_getElem? (i := 315) (by decide +kernel), List.mem_of_getElem? (i := 316) (by decide +kernel)⟩
theorem lw_p10 : lw_okq (⟨"BarrowNights$Text", "isDigit", "(ICC)Z"⟩, 4) := ⟨⟨by decide +kernel, by decide +kernel⟩, List.mem_of_getElem? (i := 39) (by decide +kernel), List.mem_of_getElem? (i := 319) (by decide +kernel), List.mem_of_getElem? (i := 320) (by decide +kernel)⟩
theorem lw_p11 : lw_okq (⟨"BarrowNights$Text", "stopInWalker", "(I)I"⟩, 4) := ⟨⟨by decide +kernel, by decide +kernel⟩, List.mem_of_getElem? (i := 39) (by decide +kernel), List.mem_of_getElem? (i := 323) (by decide +kernel), List.mem_of_getElem? (i := 324) (by decide +kernel)⟩
theorem lw_p12 : lw_okq (⟨"BarrowNights$Text", "makeAnew", "(LBarrowNights$Down;)V"⟩, 4) := ⟨⟨by decide +kernel, by decide +kernel⟩, List.mem_of_getElem? (i := 39) (by decide +kernel), List.mem_of_getElem? (i := 327) (by decide +kernel), List.mem_of_getElem? (i := 328) (by decide +kernel)⟩
theorem lw_p13 : lw_okq (⟨"BarrowNights$Text", "digitAt", "(I)I"⟩, 4) := ⟨⟨by decide +kernel, by decide +kernel⟩, List.mem_of_getElem? (i := 39) (by decide +kernel), List.mem_of_getElem? (i := 331) (by decide +kernel), List.mem_of_getElem? (i := 332) (by decide +kernel)⟩
theorem lw_p14 : lw_okq (⟨"BarrowNights$Down", "hasBarrow", "(I)Z"⟩, 12) := ⟨⟨by decide +kernel, by decide +kernel⟩, List.mem_of_getElem? (i := 58) (by decide +kernel), List.mem_of_getElem? (i := 339) (by decide +kernel), List.mem_of_getElem? (i := 340) (by decide +kernel)⟩
theorem lw_p15 : lw_okq (⟨"BarrowNights$Down", "holdsOf", "(I)I"⟩, 12) := ⟨⟨by decide +kernel, by decide +kernel⟩, List.mem_of_getElem? (i := 58) (by decide +kernel), List.mem_of_getElem? (i := 343) (by decide +kernel), List.mem_of_getElem? (i := 344) (by decide +kernel)⟩
def lw_privs_1 : List (MethodName × Nat) := [(⟨"BarrowNights$Sheets", "faultOfRow", "(II)I"⟩, 3), (⟨"BarrowNights$Sheets", "hasNothing", "(I)Z"⟩, 3), (⟨"BarrowNights$Sheets", "faultOfCells", "(III)I"⟩, 3), (⟨"BarrowNights$Text", "load", "(LBarrowNights$Sheets;III)V"⟩, 4), (⟨"BarrowNights$Sheets", "valueAt", "(II)I"⟩, 3), (⟨"BarrowNights$Sheets", "faultOfCell", "(II)I"⟩, 3), (⟨"BarrowNights$Text", "firstFault", "()I"⟩, 4), (⟨"BarrowNights$Text", "codeAt", "(I)I"⟩, 4), (⟨"BarrowNights$Text", "stopInBarrow", "(I)I"⟩, 4), (⟨"BarrowNights$Text", "kindAt", "(I)I"⟩, 4), (⟨"BarrowNights$Text", "isDigit", "(ICC)Z"⟩, 4), (⟨"BarrowNights$Text", "stopInWalker", "(I)I"⟩, 4), (⟨"BarrowNights$Text", "makeAnew", "(LBarrowNights$Down;)V"⟩, 4), (⟨"BarrowNights$Text", "digitAt", "(I)I"⟩, 4), (⟨"BarrowNights$Down", "hasBarrow", "(I)Z"⟩, 12), (⟨"BarrowNights$Down", "holdsOf", "(I)I"⟩, 12)]
theorem lw_r1 : ∀ q ∈ lw_privs_1, lw_okq q := List.forall_mem_cons.mpr ⟨lw_p0, List.forall_mem_cons.mpr ⟨lw_p1, List.forall_mem_cons.mpr ⟨lw_p2, List.forall_mem_cons.mpr ⟨lw_p3, List.forall_mem_cons.mpr ⟨lw_p4, List.forall_mem_cons.mpr ⟨lw_p5, List.forall_mem_cons.mpr ⟨lw_p6, List.forall_mem_cons.mpr ⟨lw_p7, List.forall_mem_cons.mpr ⟨lw_p8, List.forall_mem_cons.mpr ⟨lw_p9, List.forall_mem_cons.mpr ⟨lw_p10, List.forall_mem_cons.mpr ⟨lw_p11, List.forall_mem_cons.mpr ⟨lw_p12, List.forall_mem_cons.mpr ⟨lw_p13, List.forall_mem_cons.mpr ⟨lw_p14, List.forall_mem_cons.mpr ⟨lw_p15, fun _ h => absurd h List.not_mem_nil⟩⟩⟩⟩⟩⟩⟩⟩⟩⟩⟩⟩⟩⟩⟩⟩
theorem lw_p16 : lw_okq (⟨"BarrowNights$Down", "lodgersOf", "(I)I"⟩, 12) := ⟨⟨by decide +kernel, by decide +kernel⟩, List.mem_of_getElem? (i := 58) (by decide +kernel), List.mem_of_getElem? (i := 351) (by decide +kernel), List.mem_of_getElem? (i := 352) (by decide +kernel)⟩
theorem lw_p17 : lw_okq (⟨"BarrowNights$Down", "hasWalker", "(I)Z"⟩, 12) := ⟨⟨by decide +kernel, by decide +kernel⟩, List.mem_of_getElem? (i := 58) (by decide +kernel), List.mem_of_getElem? (i := 359) (by decide +kernel), List.mem_of_getElem? (i := 360) (by decide +kernel)⟩
theorem lw_p18 : lw_okq (⟨"BarrowNights$Down", "dreamOf", "(I)I"⟩, 12) := ⟨⟨by decide +kernel, by decide +kernel⟩, List.mem_of_getElem? (i := 58) (by decide +kernel), List.mem_of_getElem? (i := 363) (by decide +kernel), List.mem_of_getElem? (i := 364) (by decide +kernel)⟩
theorem lw_p19 : lw_okq (⟨"BarrowNights$Down", "enter", "(II)Z"⟩, 12) := ⟨⟨by decide +kernel, by decide +kernel⟩, List.mem_of_getElem? (i := 58) (by decide +kernel), List.mem_of_getElem? (i := 380) (by decide +kernel), List.mem_of_getElem? (i := 381) (by decide +kernel)⟩
theorem lw_p20 : lw_okq (⟨"BarrowNights$Down", "suits", "(II)Z"⟩, 12) := ⟨⟨by decide +kernel, by decide +kernel⟩, List.mem_of_getElem? (i := 58) (by decide +kernel), List.mem_of_getElem? (i := 384) (by decide +kernel), List.mem_of_getElem? (i := 385) (by decide +kernel)⟩
theorem lw_p21 : lw_okq (⟨"BarrowNights$Down", "goOut", "(I)Z"⟩, 12) := ⟨⟨by decide +kernel, by decide +kernel⟩, List.mem_of_getElem? (i := 58) (by decide +kernel), List.mem_of_getElem? (i := 407) (by decide +kernel), List.mem_of_getElem? (i := 408) (by decide +kernel)⟩
theorem lw_p22 : lw_okq (⟨"BarrowNights$Down", "isThere", "()Z"⟩, 12) := ⟨⟨by decide +kernel, by decide +kernel⟩, List.mem_of_getElem? (i := 58) (by decide +kernel), List.mem_of_getElem? (i := 415) (by decide +kernel), List.mem_of_getElem? (i := 416) (by decide +kernel)⟩
theorem lw_p23 : lw_okq (⟨"BarrowNights$Down", "passNights", "(I)I"⟩, 12) := ⟨⟨by decide +kernel, by decide +kernel⟩, List.mem_of_getElem? (i := 58) (by decide +kernel), List.mem_of_getElem? (i := 419) (by decide +kernel), List.mem_of_getElem? (i := 420) (by decide +kernel)⟩
theorem lw_p24 : lw_okq (⟨"BarrowNights$Down", "paysOrGoes", "(I)Z"⟩, 12) := ⟨⟨by decide +kernel, by decide +kernel⟩, List.mem_of_getElem? (i := 58) (by decide +kernel), List.mem_of_getElem? (i := 423) (by decide +kernel), List.mem_of_getElem? (i := 424) (by decide +kernel)⟩
theorem lw_p25 : lw_okq (⟨"BarrowNights$Season", "load", "(LBarrowNights$Down;LBarrowNights$Sheets;III)I"⟩, 6) := ⟨⟨by decide +kernel, by decide +kernel⟩, List.mem_of_getElem? (i := 132) (by decide +kernel), List.mem_of_getElem? (i := 434) (by decide +kernel), List.mem_of_getElem? (i := 435) (by decide +kernel)⟩
theorem lw_p26 : lw_okq (⟨"BarrowNights$Down", "become", "(LBarrowNights$Down;)V"⟩, 12) := ⟨⟨by decide +kernel, by decide +kernel⟩, List.mem_of_getElem? (i := 58) (by decide +kernel), List.mem_of_getElem? (i := 438) (by decide +kernel), List.mem_of_getElem? (i := 439) (by decide +kernel)⟩
theorem lw_p27 : lw_okq (⟨"BarrowNights$Season", "refusalOf", "(II)I"⟩, 6) := ⟨⟨by decide +kernel, by decide +kernel⟩, List.mem_of_getElem? (i := 132) (by decide +kernel), List.mem_of_getElem? (i := 445) (by decide +kernel), List.mem_of_getElem? (i := 446) (by decide +kernel)⟩
theorem lw_p28 : lw_okq (⟨"BarrowNights$Season", "play", "()V"⟩, 6) := ⟨⟨by decide +kernel, by decide +kernel⟩, List.mem_of_getElem? (i := 132) (by decide +kernel), List.mem_of_getElem? (i := 451) (by decide +kernel), List.mem_of_getElem? (i := 452) (by decide +kernel)⟩
theorem lw_p29 : lw_okq (⟨"BarrowNights$Season", "canDo", "(II)Z"⟩, 6) := ⟨⟨by decide +kernel, by decide +kernel⟩, List.mem_of_getElem? (i := 132) (by decide +kernel), List.mem_of_getElem? (i := 455) (by decide +kernel), List.mem_of_getElem? (i := 456) (by decide +kernel)⟩
theorem lw_p30 : lw_okq (⟨"BarrowNights$Season", "answerTo", "(I)I"⟩, 6) := ⟨⟨by decide +kernel, by decide +kernel⟩, List.mem_of_getElem? (i := 132) (by decide +kernel), List.mem_of_getElem? (i := 462) (by decide +kernel), List.mem_of_getElem? (i := 463) (by decide +kernel)⟩
theorem lw_p31 : lw_okq (⟨"BarrowNights$Down", "allLodgers", "()I"⟩, 12) := ⟨⟨by decide +kernel, by decide +kernel⟩, List.mem_of_getElem? (i := 58) (by decide +kernel), List.mem_of_getElem? (i := 466) (by decide +kernel), List.mem_of_getElem? (i := 467) (by decide +kernel)⟩
def lw_privs_2 : List (MethodName × Nat) := [(⟨"BarrowNights$Down", "lodgersOf", "(I)I"⟩, 12), (⟨"BarrowNights$Down", "hasWalker", "(I)Z"⟩, 12), (⟨"BarrowNights$Down", "dreamOf", "(I)I"⟩, 12), (⟨"BarrowNights$Down", "enter", "(II)Z"⟩, 12), (⟨"BarrowNights$Down", "suits", "(II)Z"⟩, 12), (⟨"BarrowNights$Down", "goOut", "(I)Z"⟩, 12), (⟨"BarrowNights$Down", "isThere", "()Z"⟩, 12), (⟨"BarrowNights$Down", "passNights", "(I)I"⟩, 12), (⟨"BarrowNights$Down", "paysOrGoes", "(I)Z"⟩, 12), (⟨"BarrowNights$Season", "load", "(LBarrowNights$Down;LBarrowNights$Sheets;III)I"⟩, 6), (⟨"BarrowNights$Down", "become", "(LBarrowNights$Down;)V"⟩, 12), (⟨"BarrowNights$Season", "refusalOf", "(II)I"⟩, 6), (⟨"BarrowNights$Season", "play", "()V"⟩, 6), (⟨"BarrowNights$Season", "canDo", "(II)Z"⟩, 6), (⟨"BarrowNights$Season", "answerTo", "(I)I"⟩, 6), (⟨"BarrowNights$Down", "allLodgers", "()I"⟩, 12)]
theorem lw_r2 : ∀ q ∈ lw_privs_2, lw_okq q := List.forall_mem_cons.mpr ⟨lw_p16, List.forall_mem_cons.mpr ⟨lw_p17, List.forall_mem_cons.mpr ⟨lw_p18, List.forall_mem_cons.mpr ⟨lw_p19, List.forall_mem_cons.mpr ⟨lw_p20, List.forall_mem_cons.mpr ⟨lw_p21, List.forall_mem_cons.mpr ⟨lw_p22, List.forall_mem_cons.mpr ⟨lw_p23, List.forall_mem_cons.mpr ⟨lw_p24, List.forall_mem_cons.mpr ⟨lw_p25, List.forall_mem_cons.mpr ⟨lw_p26, List.forall_mem_cons.mpr ⟨lw_p27, List.forall_mem_cons.mpr ⟨lw_p28, List.forall_mem_cons.mpr ⟨lw_p29, List.forall_mem_cons.mpr ⟨lw_p30, List.forall_mem_cons.mpr ⟨lw_p31, fun _ h => absurd h List.not_mem_nil⟩⟩⟩⟩⟩⟩⟩⟩⟩⟩⟩⟩⟩⟩⟩⟩
theorem lw_p32 : lw_okq (⟨"BarrowNights$Down", "meansOfAll", "()I"⟩, 12) := ⟨⟨by decide +kernel, by decide +kernel⟩, List.mem_of_getElem? (i := 58) (by decide +kernel), List.mem_of_getElem? (i := 470) (by decide +kernel), List.mem_of_getElem? (i := 471) (by decide +kernel)⟩
theorem lw_p33 : lw_okq (⟨"BarrowNights$Housing", "search", "(LBarrowNights$Down;I)V"⟩, 5) := ⟨⟨by decide +kernel, by decide +kernel⟩, List.mem_of_getElem? (i := 159) (by decide +kernel), List.mem_of_getElem? (i := 478) (by decide +kernel), List.mem_of_getElem? (i := 479) (by decide +kernel)⟩
theorem lw_p34 : lw_okq (⟨"BarrowNights$Housing", "place", "(LBarrowNights$Down;III)V"⟩, 5) := ⟨⟨by decide +kernel, by decide +kernel⟩, List.mem_of_getElem? (i := 159) (by decide +kernel), List.mem_of_getElem? (i := 483) (by decide +kernel), List.mem_of_getElem? (i := 484) (by decide +kernel)⟩
theorem lw_p35 : lw_okq (⟨"BarrowNights$Housing", "keep", "(III)V"⟩, 5) := ⟨⟨by decide +kernel, by decide +kernel⟩, List.mem_of_getElem? (i := 159) (by decide +kernel), List.mem_of_getElem? (i := 488) (by decide +kernel), List.mem_of_getElem? (i := 489) (by decide +kernel)⟩
theorem lw_p36 : lw_okq (⟨"BarrowNights$Down", "fewestTo", "(II)I"⟩, 12) := ⟨⟨by decide +kernel, by decide +kernel⟩, List.mem_of_getElem? (i := 58) (by decide +kernel), List.mem_of_getElem? (i := 501) (by decide +kernel), List.mem_of_getElem? (i := 502) (by decide +kernel)⟩
theorem lw_p37 : lw_okq (⟨"BarrowNights$Down", "sitesNear", "(II)I"⟩, 12) := ⟨⟨by decide +kernel, by decide +kernel⟩, List.mem_of_getElem? (i := 58) (by decide +kernel), List.mem_of_getElem? (i := 508) (by decide +kernel), List.mem_of_getElem? (i := 509) (by decide +kernel)⟩
theorem lw_p38 : lw_okq (⟨"BarrowNights$Lying", "load", "(LBarrowNights$Sheets;III)V"⟩, 7) := ⟨⟨by decide +kernel, by decide +kernel⟩, List.mem_of_getElem? (i := 184) (by decide +kernel), List.mem_of_getElem? (i := 516) (by decide +kernel), List.mem_of_getElem? (i := 517) (by decide +kernel)⟩
theorem lw_p39 : lw_okq (⟨"BarrowNights$Lying", "search", "(LBarrowNights$Down;Z)V"⟩, 7) := ⟨⟨by decide +kernel, by decide +kernel⟩, List.mem_of_getElem? (i := 184) (by decide +kernel), List.mem_of_getElem? (i := 521) (by decide +kernel), List.mem_of_getElem? (i := 522) (by decide +kernel)⟩
theorem lw_p40 : lw_okq (⟨"BarrowNights$Lying", "lay", "(LBarrowNights$Down;I)V"⟩, 7) := ⟨⟨by decide +kernel, by decide +kernel⟩, List.mem_of_getElem? (i := 184) (by decide +kernel), List.mem_of_getElem? (i := 526) (by decide +kernel), List.mem_of_getElem? (i := 527) (by decide +kernel)⟩
theorem lw_p41 : lw_okq (⟨"BarrowNights$Lying", "keep", "(I)V"⟩, 7) := ⟨⟨by decide +kernel, by decide +kernel⟩, List.mem_of_getElem? (i := 184) (by decide +kernel), List.mem_of_getElem? (i := 531) (by decide +kernel), List.mem_of_getElem? (i := 532) (by decide +kernel)⟩
theorem lw_p42 : lw_okq (⟨"BarrowNights$Lying", "isTold", "(II)Z"⟩, 7) := ⟨⟨by decide +kernel, by decide +kernel⟩, List.mem_of_getElem? (i := 184) (by decide +kernel), List.mem_of_getElem? (i := 535) (by decide +kernel), List.mem_of_getElem? (i := 536) (by decide +kernel)⟩
theorem lw_p43 : lw_okq (⟨"BarrowNights$Lying", "layIn", "(LBarrowNights$Down;II)V"⟩, 7) := ⟨⟨by decide +kernel, by decide +kernel⟩, List.mem_of_getElem? (i := 184) (by decide +kernel), List.mem_of_getElem? (i := 539) (by decide +kernel), List.mem_of_getElem? (i := 540) (by decide +kernel)⟩
theorem lw_p44 : lw_okq (⟨"BarrowNights$Readings", "hasRoom", "()Z"⟩, 4) := ⟨⟨by decide +kernel, by decide +kernel⟩, List.mem_of_getElem? (i := 214) (by decide +kernel), List.mem_of_getElem? (i := 547) (by decide +kernel), List.mem_of_getElem? (i := 548) (by decide +kernel)⟩
theorem lw_p45 : lw_okq (⟨"BarrowNights$Readings", "note", "(III)I"⟩, 4) := ⟨⟨by decide +kernel, by decide +kernel⟩, List.mem_of_getElem? (i := 214) (by decide +kernel), List.mem_of_getElem? (i := 551) (by decide +kernel), List.mem_of_getElem? (i := 552) (by decide +kernel)⟩
theorem lw_p46 : lw_okq (⟨"BarrowNights$Readings", "areSo", "(LBarrowNights$Down;II)Z"⟩, 4) := ⟨⟨by decide +kernel, by decide +kernel⟩, List.mem_of_getElem? (i := 214) (by decide +kernel), List.mem_of_getElem? (i := 565) (by decide +kernel), List.mem_of_getElem? (i := 566) (by decide +kernel)⟩
theorem lw_p47 : lw_okq (⟨"BarrowNights$Down", "waysToFill", "(I)J"⟩, 12) := ⟨⟨by decide +kernel, by decide +kernel⟩, List.mem_of_getElem? (i := 58) (by decide +kernel), List.mem_of_getElem? (i := 579) (by decide +kernel), List.mem_of_getElem? (i := 580) (by decide +kernel)⟩
def lw_privs_3 : List (MethodName × Nat) := [(⟨"BarrowNights$Down", "meansOfAll", "()I"⟩, 12), (⟨"BarrowNights$Housing", "search", "(LBarrowNights$Down;I)V"⟩, 5), (⟨"BarrowNights$Housing", "place", "(LBarrowNights$Down;III)V"⟩, 5), (⟨"BarrowNights$Housing", "keep", "(III)V"⟩, 5), (⟨"BarrowNights$Down", "fewestTo", "(II)I"⟩, 12), (⟨"BarrowNights$Down", "sitesNear", "(II)I"⟩, 12), (⟨"BarrowNights$Lying", "load", "(LBarrowNights$Sheets;III)V"⟩, 7), (⟨"BarrowNights$Lying", "search", "(LBarrowNights$Down;Z)V"⟩, 7), (⟨"BarrowNights$Lying", "lay", "(LBarrowNights$Down;I)V"⟩, 7), (⟨"BarrowNights$Lying", "keep", "(I)V"⟩, 7), (⟨"BarrowNights$Lying", "isTold", "(II)Z"⟩, 7), (⟨"BarrowNights$Lying", "layIn", "(LBarrowNights$Down;II)V"⟩, 7), (⟨"BarrowNights$Readings", "hasRoom", "()Z"⟩, 4), (⟨"BarrowNights$Readings", "note", "(III)I"⟩, 4), (⟨"BarrowNights$Readings", "areSo", "(LBarrowNights$Down;II)Z"⟩, 4), (⟨"BarrowNights$Down", "waysToFill", "(I)J"⟩, 12)]
theorem lw_r3 : ∀ q ∈ lw_privs_3, lw_okq q := List.forall_mem_cons.mpr ⟨lw_p32, List.forall_mem_cons.mpr ⟨lw_p33, List.forall_mem_cons.mpr ⟨lw_p34, List.forall_mem_cons.mpr ⟨lw_p35, List.forall_mem_cons.mpr ⟨lw_p36, List.forall_mem_cons.mpr ⟨lw_p37, List.forall_mem_cons.mpr ⟨lw_p38, List.forall_mem_cons.mpr ⟨lw_p39, List.forall_mem_cons.mpr ⟨lw_p40, List.forall_mem_cons.mpr ⟨lw_p41, List.forall_mem_cons.mpr ⟨lw_p42, List.forall_mem_cons.mpr ⟨lw_p43, List.forall_mem_cons.mpr ⟨lw_p44, List.forall_mem_cons.mpr ⟨lw_p45, List.forall_mem_cons.mpr ⟨lw_p46, List.forall_mem_cons.mpr ⟨lw_p47, fun _ h => absurd h List.not_mem_nil⟩⟩⟩⟩⟩⟩⟩⟩⟩⟩⟩⟩⟩⟩⟩⟩
theorem lw_p48 : lw_okq (⟨"BarrowNights$Sheets", "renew", "(III)V"⟩, 3) := ⟨⟨by decide +kernel, by decide +kernel⟩, List.mem_of_getElem? (i := 22) (by decide +kernel), List.mem_of_getElem? (i := 597) (by decide +kernel), List.mem_of_getElem? (i := 598) (by decide +kernel)⟩
theorem lw_p49 : lw_okq (⟨"BarrowNights$Sheets", "empty", "(I)V"⟩, 3) := ⟨⟨by decide +kernel, by decide +kernel⟩, List.mem_of_getElem? (i := 22) (by decide +kernel), List.mem_of_getElem? (i := 606) (by decide +kernel), List.mem_of_getElem? (i := 607) (by decide +kernel)⟩
theorem lw_p50 : lw_okq (⟨"BarrowNights$Sheets", "setAt", "(III)V"⟩, 3) := ⟨⟨by decide +kernel, by decide +kernel⟩, List.mem_of_getElem? (i := 22) (by decide +kernel), List.mem_of_getElem? (i := 615) (by decide +kernel), List.mem_of_getElem? (i := 616) (by decide +kernel)⟩
theorem lw_p51 : lw_okq (⟨"BarrowNights$Sheets", "faultOfPair", "(II)I"⟩, 3) := ⟨⟨by decide +kernel, by decide +kernel⟩, List.mem_of_getElem? (i := 22) (by decide +kernel), List.mem_of_getElem? (i := 631) (by decide +kernel), List.mem_of_getElem? (i := 632) (by decide +kernel)⟩
theorem lw_p52 : lw_okq (⟨"BarrowNights$Sheets", "move", "(IIIII)V"⟩, 3) := ⟨⟨by decide +kernel, by decide +kernel⟩, List.mem_of_getElem? (i := 22) (by decide +kernel), List.mem_of_getElem? (i := 635) (by decide +kernel), List.mem_of_getElem? (i := 636) (by decide +kernel)⟩
theorem lw_p53 : lw_okq (⟨"BarrowNights", "ringBody", "(I)I"⟩, 9) := ⟨⟨by decide +kernel, by decide +kernel⟩, List.mem_of_getElem? (i := 14) (by decide +kernel), List.mem_of_getElem? (i := 647) (by decide +kernel), List.mem_of_getElem? (i := 648) (by decide +kernel)⟩
theorem lw_p54 : lw_okq (⟨"BarrowNights", "begin", "(I)V"⟩, 9) := ⟨⟨by decide +kernel, by decide +kernel⟩, List.mem_of_getElem? (i := 14) (by decide +kernel), List.mem_of_getElem? (i := 651) (by decide +kernel), List.mem_of_getElem? (i := 652) (by decide +kernel)⟩
theorem lw_p55 : lw_okq (⟨"BarrowNights", "longBody", "(I)I"⟩, 9) := ⟨⟨by decide +kernel, by decide +kernel⟩, List.mem_of_getElem? (i := 14) (by decide +kernel), List.mem_of_getElem? (i := 655) (by decide +kernel), List.mem_of_getElem? (i := 656) (by decide +kernel)⟩
theorem lw_p56 : lw_okq (⟨"BarrowNights", "roundBody", "(I)I"⟩, 9) := ⟨⟨by decide +kernel, by decide +kernel⟩, List.mem_of_getElem? (i := 14) (by decide +kernel), List.mem_of_getElem? (i := 659) (by decide +kernel), List.mem_of_getElem? (i := 660) (by decide +kernel)⟩
theorem lw_p57 : lw_okq (⟨"BarrowNights", "ringHaunt", "()I"⟩, 9) := ⟨⟨by decide +kernel, by decide +kernel⟩, List.mem_of_getElem? (i := 14) (by decide +kernel), List.mem_of_getElem? (i := 667) (by decide +kernel), List.mem_of_getElem? (i := 668) (by decide +kernel)⟩
theorem lw_p58 : lw_okq (⟨"BarrowNights", "lentHaunt", "(I)I"⟩, 9) := ⟨⟨by decide +kernel, by decide +kernel⟩, List.mem_of_getElem? (i := 14) (by decide +kernel), List.mem_of_getElem? (i := 671) (by decide +kernel), List.mem_of_getElem? (i := 672) (by decide +kernel)⟩
theorem lw_p59 : lw_okq (⟨"BarrowNightsModel", "against", "(IIII)I"⟩, 36) := ⟨⟨by decide +kernel, by decide +kernel⟩, List.mem_of_getElem? (i := 692) (by decide +kernel), List.mem_of_getElem? (i := 820) (by decide +kernel), List.mem_of_getElem? (i := 821) (by decide +kernel)⟩
theorem lw_p60 : lw_okq (⟨"BarrowNightsModel", "fails", "(I)I"⟩, 36) := ⟨⟨by decide +kernel, by decide +kernel⟩, List.mem_of_getElem? (i := 692) (by decide +kernel), List.mem_of_getElem? (i := 824) (by decide +kernel), List.mem_of_getElem? (i := 825) (by decide +kernel)⟩
theorem lw_p61 : lw_okq (⟨"BarrowNightsModel", "readDown", "(I)Z"⟩, 36) := ⟨⟨by decide +kernel, by decide +kernel⟩, List.mem_of_getElem? (i := 692) (by decide +kernel), List.mem_of_getElem? (i := 828) (by decide +kernel), List.mem_of_getElem? (i := 829) (by decide +kernel)⟩
theorem lw_p62 : lw_okq (⟨"BarrowNightsModel", "isSign", "(II)Z"⟩, 36) := ⟨⟨by decide +kernel, by decide +kernel⟩, List.mem_of_getElem? (i := 692) (by decide +kernel), List.mem_of_getElem? (i := 832) (by decide +kernel), List.mem_of_getElem? (i := 833) (by decide +kernel)⟩
theorem lw_p63 : lw_okq (⟨"BarrowNightsModel", "readBarrow", "(I)Z"⟩, 36) := ⟨⟨by decide +kernel, by decide +kernel⟩, List.mem_of_getElem? (i := 692) (by decide +kernel), List.mem_of_getElem? (i := 836) (by decide +kernel), List.mem_of_getElem? (i := 837) (by decide +kernel)⟩
def lw_privs_4 : List (MethodName × Nat) := [(⟨"BarrowNights$Sheets", "renew", "(III)V"⟩, 3), (⟨"BarrowNights$Sheets", "empty", "(I)V"⟩, 3), (⟨"BarrowNights$Sheets", "setAt", "(III)V"⟩, 3), (⟨"BarrowNights$Sheets", "faultOfPair", "(II)I"⟩, 3), (⟨"BarrowNights$Sheets", "move", "(IIIII)V"⟩, 3), (⟨"BarrowNights", "ringBody", "(I)I"⟩, 9), (⟨"BarrowNights", "begin", "(I)V"⟩, 9), (⟨"BarrowNights", "longBody", "(I)I"⟩, 9), (⟨"BarrowNights", "roundBody", "(I)I"⟩, 9), (⟨"BarrowNights", "ringHaunt", "()I"⟩, 9), (⟨"BarrowNights", "lentHaunt", "(I)I"⟩, 9), (⟨"BarrowNightsModel", "against", "(IIII)I"⟩, 36), (⟨"BarrowNightsModel", "fails", "(I)I"⟩, 36), (⟨"BarrowNightsModel", "readDown", "(I)Z"⟩, 36), (⟨"BarrowNightsModel", "isSign", "(II)Z"⟩, 36), (⟨"BarrowNightsModel", "readBarrow", "(I)Z"⟩, 36)]
theorem lw_r4 : ∀ q ∈ lw_privs_4, lw_okq q := List.forall_mem_cons.mpr ⟨lw_p48, List.forall_mem_cons.mpr ⟨lw_p49, List.forall_mem_cons.mpr ⟨lw_p50, List.forall_mem_cons.mpr ⟨lw_p51, List.forall_mem_cons.mpr ⟨lw_p52, List.forall_mem_cons.mpr ⟨lw_p53, List.forall_mem_cons.mpr ⟨lw_p54, List.forall_mem_cons.mpr ⟨lw_p55, List.forall_mem_cons.mpr ⟨lw_p56, List.forall_mem_cons.mpr ⟨lw_p57, List.forall_mem_cons.mpr ⟨lw_p58, List.forall_mem_cons.mpr ⟨lw_p59, List.forall_mem_cons.mpr ⟨lw_p60, List.forall_mem_cons.mpr ⟨lw_p61, List.forall_mem_cons.mpr ⟨lw_p62, List.forall_mem_cons.mpr ⟨lw_p63, fun _ h => absurd h List.not_mem_nil⟩⟩⟩⟩⟩⟩⟩⟩⟩⟩⟩⟩⟩⟩⟩⟩
theorem lw_p64 : lw_okq (⟨"BarrowNightsModel", "digit", "(III)I"⟩, 36) := ⟨⟨by decide +kernel, by decide +kernel⟩, List.mem_of_getElem? (i := 692) (by decide +kernel), List.mem_of_getElem? (i := 840) (by decide +kernel), List.mem_of_getElem? (i := 841) (by decide +kernel)⟩
theorem lw_p65 : lw_okq (⟨"BarrowNightsModel", "readWalker", "(I)Z"⟩, 36) := ⟨⟨by decide +kernel, by decide +kernel⟩, List.mem_of_getElem? (i := 692) (by decide +kernel), List.mem_of_getElem? (i := 844) (by decide +kernel), List.mem_of_getElem? (i := 845) (by decide +kernel)⟩
theorem lw_p66 : lw_okq (⟨"BarrowNightsModel", "takeDown", "()V"⟩, 36) := ⟨⟨by decide +kernel, by decide +kernel⟩, List.mem_of_getElem? (i := 692) (by decide +kernel), List.mem_of_getElem? (i := 848) (by decide +kernel), List.mem_of_getElem? (i := 849) (by decide +kernel)⟩
theorem lw_p67 : lw_okq (⟨"BarrowNightsModel", "isBarrow", "(I)Z"⟩, 36) := ⟨⟨by decide +kernel, by decide +kernel⟩, List.mem_of_getElem? (i := 692) (by decide +kernel), List.mem_of_getElem? (i := 856) (by decide +kernel), List.mem_of_getElem? (i := 857) (by decide +kernel)⟩
theorem lw_p68 : lw_okq (⟨"BarrowNightsModel", "holdsOf", "(I)I"⟩, 36) := ⟨⟨by decide +kernel, by decide +kernel⟩, List.mem_of_getElem? (i := 692) (by decide +kernel), List.mem_of_getElem? (i := 860) (by decide +kernel), List.mem_of_getElem? (i := 861) (by decide +kernel)⟩
theorem lw_p69 : lw_okq (⟨"BarrowNightsModel", "lodgersOf", "(I)I"⟩, 36) := ⟨⟨by decide +kernel, by decide +kernel⟩, List.mem_of_getElem? (i := 692) (by decide +kernel), List.mem_of_getElem? (i := 867) (by decide +kernel), List.mem_of_getElem? (i := 868) (by decide +kernel)⟩
theorem lw_p70 : lw_okq (⟨"BarrowNightsModel", "isWalker", "(I)Z"⟩, 36) := ⟨⟨by decide +kernel, by decide +kernel⟩, List.mem_of_getElem? (i := 692) (by decide +kernel), List.mem_of_getElem? (i := 875) (by decide +kernel), List.mem_of_getElem? (i := 876) (by decide +kernel)⟩
theorem lw_p71 : lw_okq (⟨"BarrowNightsModel", "doLodge", "(II)Z"⟩, 36) := ⟨⟨by decide +kernel, by decide +kernel⟩, List.mem_of_getElem? (i := 692) (by decide +kernel), List.mem_of_getElem? (i := 894) (by decide +kernel), List.mem_of_getElem? (i := 895) (by decide +kernel)⟩
theorem lw_p72 : lw_okq (⟨"BarrowNightsModel", "mayGo", "(II)Z"⟩, 36) := ⟨⟨by decide +kernel, by decide +kernel⟩, List.mem_of_getElem? (i := 692) (by decide +kernel), List.mem_of_getElem? (i := 898) (by decide +kernel), List.mem_of_getElem? (i := 899) (by decide +kernel)⟩
theorem lw_p73 : lw_okq (⟨"BarrowNightsModel", "goNight", "()I"⟩, 36) := ⟨⟨by decide +kernel, by decide +kernel⟩, List.mem_of_getElem? (i := 692) (by decide +kernel), List.mem_of_getElem? (i := 916) (by decide +kernel), List.mem_of_getElem? (i := 917) (by decide +kernel)⟩
theorem lw_p74 : lw_okq (⟨"BarrowNightsModel", "refusesPair", "(II)I"⟩, 36) := ⟨⟨by decide +kernel, by decide +kernel⟩, List.mem_of_getElem? (i := 692) (by decide +kernel), List.mem_of_getElem? (i := 924) (by decide +kernel), List.mem_of_getElem? (i := 925) (by decide +kernel)⟩
theorem lw_p75 : lw_okq (⟨"BarrowNightsModel", "keep", "()V"⟩, 36) := ⟨⟨by decide +kernel, by decide +kernel⟩, List.mem_of_getElem? (i := 692) (by decide +kernel), List.mem_of_getElem? (i := 928) (by decide +kernel), List.mem_of_getElem? (i := 929) (by decide +kernel)⟩
theorem lw_p76 : lw_okq (⟨"BarrowNightsModel", "goSeason", "(II)I"⟩, 36) := ⟨⟨by decide +kernel, by decide +kernel⟩, List.mem_of_getElem? (i := 692) (by decide +kernel), List.mem_of_getElem? (i := 932) (by decide +kernel), List.mem_of_getElem? (i := 933) (by decide +kernel)⟩
theorem lw_p77 : lw_okq (⟨"BarrowNightsModel", "does", "(II)Z"⟩, 36) := ⟨⟨by decide +kernel, by decide +kernel⟩, List.mem_of_getElem? (i := 692) (by decide +kernel), List.mem_of_getElem? (i := 936) (by decide +kernel), List.mem_of_getElem? (i := 937) (by decide +kernel)⟩
theorem lw_p78 : lw_okq (⟨"BarrowNightsModel", "tellSeason", "(I)I"⟩, 36) := ⟨⟨by decide +kernel, by decide +kernel⟩, List.mem_of_getElem? (i := 692) (by decide +kernel), List.mem_of_getElem? (i := 940) (by decide +kernel), List.mem_of_getElem? (i := 941) (by decide +kernel)⟩
theorem lw_p79 : lw_okq (⟨"BarrowNightsModel", "whoLodges", "()I"⟩, 36) := ⟨⟨by decide +kernel, by decide +kernel⟩, List.mem_of_getElem? (i := 692) (by decide +kernel), List.mem_of_getElem? (i := 944) (by decide +kernel), List.mem_of_getElem? (i := 945) (by decide +kernel)⟩
def lw_privs_5 : List (MethodName × Nat) := [(⟨"BarrowNightsModel", "digit", "(III)I"⟩, 36), (⟨"BarrowNightsModel", "readWalker", "(I)Z"⟩, 36), (⟨"BarrowNightsModel", "takeDown", "()V"⟩, 36), (⟨"BarrowNightsModel", "isBarrow", "(I)Z"⟩, 36), (⟨"BarrowNightsModel", "holdsOf", "(I)I"⟩, 36), (⟨"BarrowNightsModel", "lodgersOf", "(I)I"⟩, 36), (⟨"BarrowNightsModel", "isWalker", "(I)Z"⟩, 36), (⟨"BarrowNightsModel", "doLodge", "(II)Z"⟩, 36), (⟨"BarrowNightsModel", "mayGo", "(II)Z"⟩, 36), (⟨"BarrowNightsModel", "goNight", "()I"⟩, 36), (⟨"BarrowNightsModel", "refusesPair", "(II)I"⟩, 36), (⟨"BarrowNightsModel", "keep", "()V"⟩, 36), (⟨"BarrowNightsModel", "goSeason", "(II)I"⟩, 36), (⟨"BarrowNightsModel", "does", "(II)Z"⟩, 36), (⟨"BarrowNightsModel", "tellSeason", "(I)I"⟩, 36), (⟨"BarrowNightsModel", "whoLodges", "()I"⟩, 36)]
theorem lw_r5 : ∀ q ∈ lw_privs_5, lw_okq q := List.forall_mem_cons.mpr ⟨lw_p64, List.forall_mem_cons.mpr ⟨lw_p65, List.forall_mem_cons.mpr ⟨lw_p66, List.forall_mem_cons.mpr ⟨lw_p67, List.forall_mem_cons.mpr ⟨lw_p68, List.forall_mem_cons.mpr ⟨lw_p69, List.forall_mem_cons.mpr ⟨lw_p70, List.forall_mem_cons.mpr ⟨lw_p71, List.forall_mem_cons.mpr ⟨lw_p72, List.forall_mem_cons.mpr ⟨lw_p73, List.forall_mem_cons.mpr ⟨lw_p74, List.forall_mem_cons.mpr ⟨lw_p75, List.forall_mem_cons.mpr ⟨lw_p76, List.forall_mem_cons.mpr ⟨lw_p77, List.forall_mem_cons.mpr ⟨lw_p78, List.forall_mem_cons.mpr ⟨lw_p79, fun _ h => absurd h List.not_mem_nil⟩⟩⟩⟩⟩⟩⟩⟩⟩⟩⟩⟩⟩⟩⟩⟩
theorem lw_p80 : lw_okq (⟨"BarrowNightsModel", "putBack", "()V"⟩, 36) := ⟨⟨by decide +kernel, by decide +kernel⟩, List.mem_of_getElem? (i := 692) (by decide +kernel), List.mem_of_getElem? (i := 948) (by decide +kernel), List.mem_of_getElem? (i := 949) (by decide +kernel)⟩
theorem lw_p81 : lw_okq (⟨"BarrowNightsModel", "findHoused", "(I)V"⟩, 36) := ⟨⟨by decide +kernel, by decide +kernel⟩, List.mem_of_getElem? (i := 692) (by decide +kernel), List.mem_of_getElem? (i := 956) (by decide +kernel), List.mem_of_getElem? (i := 957) (by decide +kernel)⟩
theorem lw_p82 : lw_okq (⟨"BarrowNightsModel", "rowsOf", "()I"⟩, 36) := ⟨⟨by decide +kernel, by decide +kernel⟩, List.mem_of_getElem? (i := 692) (by decide +kernel), List.mem_of_getElem? (i := 960) (by decide +kernel), List.mem_of_getElem? (i := 961) (by decide +kernel)⟩
theorem lw_p83 : lw_okq (⟨"BarrowNightsModel", "rowOf", "(I)V"⟩, 36) := ⟨⟨by decide +kernel, by decide +kernel⟩, List.mem_of_getElem? (i := 692) (by decide +kernel), List.mem_of_getElem? (i := 964) (by decide +kernel), List.mem_of_getElem? (i := 965) (by decide +kernel)⟩
theorem lw_p84 : lw_okq (⟨"BarrowNightsModel", "canRow", "(I)Z"⟩, 36) := ⟨⟨by decide +kernel, by decide +kernel⟩, List.mem_of_getElem? (i := 692) (by decide +kernel), List.mem_of_getElem? (i := 968) (by decide +kernel), List.mem_of_getElem? (i := 969) (by decide +kernel)⟩
theorem lw_p85 : lw_okq (⟨"BarrowNightsModel", "isHeld", "()Z"⟩, 36) := ⟨⟨by decide +kernel, by decide +kernel⟩, List.mem_of_getElem? (i := 692) (by decide +kernel), List.mem_of_getElem? (i := 972) (by decide +kernel), List.mem_of_getElem? (i := 973) (by decide +kernel)⟩
theorem lw_p86 : lw_okq (⟨"BarrowNightsModel", "stepOn", "(II)V"⟩, 36) := ⟨⟨by decide +kernel, by decide +kernel⟩, List.mem_of_getElem? (i := 692) (by decide +kernel), List.mem_of_getElem? (i := 984) (by decide +kernel), List.mem_of_getElem? (i := 985) (by decide +kernel)⟩
theorem lw_p87 : lw_okq (⟨"BarrowNightsModel", "areDreams", "(I)Z"⟩, 36) := ⟨⟨by decide +kernel, by decide +kernel⟩, List.mem_of_getElem? (i := 692) (by decide +kernel), List.mem_of_getElem? (i := 992) (by decide +kernel), List.mem_of_getElem? (i := 993) (by decide +kernel)⟩
theorem lw_p88 : lw_okq (⟨"BarrowNightsModel", "areSo", "()Z"⟩, 36) := ⟨⟨by decide +kernel, by decide +kernel⟩, List.mem_of_getElem? (i := 692) (by decide +kernel), List.mem_of_getElem? (i := 1008) (by decide +kernel), List.mem_of_getElem? (i := 1009) (by decide +kernel)⟩
theorem lw_p89 : lw_okq (⟨"BarrowNightsModel", "lost", "(I)J"⟩, 36) := ⟨⟨by decide +kernel, by decide +kernel⟩, List.mem_of_getElem? (i := 692) (by decide +kernel), List.mem_of_getElem? (i := 1040) (by decide +kernel), List.mem_of_getElem? (i := 1041) (by decide +kernel)⟩
theorem lw_p90 : lw_okq (⟨"BarrowNightsModel", "begins", "(I)V"⟩, 36) := ⟨⟨by decide +kernel, by decide +kernel⟩, List.mem_of_getElem? (i := 692) (by decide +kernel), List.mem_of_getElem? (i := 1052) (by decide +kernel), List.mem_of_getElem? (i := 1053) (by decide +kernel)⟩
def lw_privs_6 : List (MethodName × Nat) := [(⟨"BarrowNightsModel", "putBack", "()V"⟩, 36), (⟨"BarrowNightsModel", "findHoused", "(I)V"⟩, 36), (⟨"BarrowNightsModel", "rowsOf", "()I"⟩, 36), (⟨"BarrowNightsModel", "rowOf", "(I)V"⟩, 36), (⟨"BarrowNightsModel", "canRow", "(I)Z"⟩, 36), (⟨"BarrowNightsModel", "isHeld", "()Z"⟩, 36), (⟨"BarrowNightsModel", "stepOn", "(II)V"⟩, 36), (⟨"BarrowNightsModel", "areDreams", "(I)Z"⟩, 36), (⟨"BarrowNightsModel", "areSo", "()Z"⟩, 36), (⟨"BarrowNightsModel", "lost", "(I)J"⟩, 36), (⟨"BarrowNightsModel", "begins", "(I)V"⟩, 36)]
theorem lw_r6 : ∀ q ∈ lw_privs_6, lw_okq q := List.forall_mem_cons.mpr ⟨lw_p80, List.forall_mem_cons.mpr ⟨lw_p81, List.forall_mem_cons.mpr ⟨lw_p82, List.forall_mem_cons.mpr ⟨lw_p83, List.forall_mem_cons.mpr ⟨lw_p84, List.forall_mem_cons.mpr ⟨lw_p85, List.forall_mem_cons.mpr ⟨lw_p86, List.forall_mem_cons.mpr ⟨lw_p87, List.forall_mem_cons.mpr ⟨lw_p88, List.forall_mem_cons.mpr ⟨lw_p89, List.forall_mem_cons.mpr ⟨lw_p90, fun _ h => absurd h List.not_mem_nil⟩⟩⟩⟩⟩⟩⟩⟩⟩⟩⟩
def lw_privs : List (MethodName × Nat) := lw_privs_1 ++ (lw_privs_2 ++ (lw_privs_3 ++ (lw_privs_4 ++ (lw_privs_5 ++ (lw_privs_6)))))
def lw_tbl : List Cond := k2_sels lw_privs ++ tables_1
theorem lw_privs_ok : ∀ q ∈ lw_privs, lw_okq q := by
  show ∀ q ∈ lw_privs_1 ++ (lw_privs_2 ++ (lw_privs_3 ++ (lw_privs_4 ++ (lw_privs_5 ++ (lw_privs_6))))), lw_okq q
  exact List.forall_mem_append.mpr ⟨lw_r1, List.forall_mem_append.mpr ⟨lw_r2, List.forall_mem_append.mpr ⟨lw_r3, List.forall_mem_append.mpr ⟨lw_r4, List.forall_mem_append.mpr ⟨lw_r5, lw_r6⟩⟩⟩⟩⟩
-- ===== end of PART A; then your names; then what follows =====
end
section
/-! names, fields: printed by the task (NAMES.whole) -/
def RX0 : String := "BarrowNights$Down"
def TX0 : u_T := fun k => match k with
  | 0 => ("BarrowNights$Down", "barrows", "I", false)
  | 1 => ("BarrowNights$Down", "walkers", "I", false)
  | 2 => ("BarrowNights$Down", "nights", "I", false)
  | 3 => ("BarrowNights$Down", "kind", "[I", true)
  | 4 => ("BarrowNights$Down", "beds", "[I", true)
  | 5 => ("BarrowNights$Down", "pence", "[I", true)
  | 6 => ("BarrowNights$Down", "site", "[I", true)
  | 7 => ("BarrowNights$Down", "means", "[I", true)
  | 8 => ("BarrowNights$Down", "place", "[I", true)
  | 9 => ("BarrowNights$Down", "reach", "[I", true)
  | 10 => ("BarrowNights$Down", "lodging", "[I", true)
  | _ => ("BarrowNights$Down", "cold", "[I", true)
def tyX0 : Nat → FieldType := fun k => match k with
  | 0 => .int
  | 1 => .int
  | 2 => .int
  | 3 => .array .int
  | 4 => .array .int
  | 5 => .array .int
  | 6 => .array .int
  | 7 => .array .int
  | 8 => .array .int
  | 9 => .array .int
  | 10 => .array .int
  | _ => .array .int
theorem nmX0 : ∀ a, a < 12 → ∀ b, b < 12 → a ≠ b → (TX0 a).2.1 ≠ (TX0 b).2.1 := by decide +kernel
theorem tyX0_ok : ∀ k, k < 12 → parseFieldDescriptor (TX0 k).2.2.1 = some (tyX0 k) := by decide +kernel
abbrev cX0_init : ByteArray := prog_2_method_1_code
def yX0_init : MethodName := ⟨RX0, "<init>", "()V"⟩
abbrev cX0_isThere : ByteArray := prog_2_method_2_code
def yX0_isThere : MethodName := ⟨RX0, "isThere", "()Z"⟩
abbrev cX0_hasBarrow : ByteArray := prog_2_method_3_code
def yX0_hasBarrow : MethodName := ⟨RX0, "hasBarrow", "(I)Z"⟩
abbrev cX0_hasWalker : ByteArray := prog_2_method_4_code
def yX0_hasWalker : MethodName := ⟨RX0, "hasWalker", "(I)Z"⟩
abbrev cX0_become : ByteArray := prog_2_method_5_code
def yX0_become : MethodName := ⟨RX0, "become", "(LBarrowNights$Down;)V"⟩
abbrev cX0_holdsOf : ByteArray := prog_2_method_6_code
def yX0_holdsOf : MethodName := ⟨RX0, "holdsOf", "(I)I"⟩
abbrev cX0_lodgersOf : ByteArray := prog_2_method_7_code
def yX0_lodgersOf : MethodName := ⟨RX0, "lodgersOf", "(I)I"⟩
abbrev cX0_allLodgers : ByteArray := prog_2_method_8_code
def yX0_allLodgers : MethodName := ⟨RX0, "allLodgers", "()I"⟩
abbrev cX0_dreamOf : ByteArray := prog_2_method_9_code
def yX0_dreamOf : MethodName := ⟨RX0, "dreamOf", "(I)I"⟩
abbrev cX0_suits : ByteArray := prog_2_method_10_code
def yX0_suits : MethodName := ⟨RX0, "suits", "(II)Z"⟩
abbrev cX0_enter : ByteArray := prog_2_method_11_code
def yX0_enter : MethodName := ⟨RX0, "enter", "(II)Z"⟩
abbrev cX0_goOut : ByteArray := prog_2_method_12_code
def yX0_goOut : MethodName := ⟨RX0, "goOut", "(I)Z"⟩
abbrev cX0_passNights : ByteArray := prog_2_method_13_code
def yX0_passNights : MethodName := ⟨RX0, "passNights", "(I)I"⟩
abbrev cX0_paysOrGoes : ByteArray := prog_2_method_14_code
def yX0_paysOrGoes : MethodName := ⟨RX0, "paysOrGoes", "(I)Z"⟩
abbrev cX0_meansOfAll : ByteArray := prog_2_method_15_code
def yX0_meansOfAll : MethodName := ⟨RX0, "meansOfAll", "()I"⟩
abbrev cX0_fewestTo : ByteArray := prog_2_method_16_code
def yX0_fewestTo : MethodName := ⟨RX0, "fewestTo", "(II)I"⟩
abbrev cX0_sitesNear : ByteArray := prog_2_method_17_code
def yX0_sitesNear : MethodName := ⟨RX0, "sitesNear", "(II)I"⟩
abbrev cX0_isNearAny : ByteArray := prog_2_method_18_code
def yX0_isNearAny : MethodName := ⟨RX0, "isNearAny", "(III)Z"⟩
abbrev cX0_waysToFill : ByteArray := prog_2_method_19_code
def yX0_waysToFill : MethodName := ⟨RX0, "waysToFill", "(I)J"⟩
def RX1 : String := "BarrowNights$Housing"
def TX1 : u_T := fun k => match k with
  | 0 => ("BarrowNights$Housing", "row", "[I", true)
  | 1 => ("BarrowNights$Housing", "best", "[I", true)
  | 2 => ("BarrowNights$Housing", "left", "[I", true)
  | 3 => ("BarrowNights$Housing", "most", "I", false)
  | _ => ("BarrowNights$Housing", "least", "I", false)
def tyX1 : Nat → FieldType := fun k => match k with
  | 0 => .array .int
  | 1 => .array .int
  | 2 => .array .int
  | 3 => .int
  | _ => .int
theorem nmX1 : ∀ a, a < 5 → ∀ b, b < 5 → a ≠ b → (TX1 a).2.1 ≠ (TX1 b).2.1 := by decide +kernel
theorem tyX1_ok : ∀ k, k < 5 → parseFieldDescriptor (TX1 k).2.2.1 = some (tyX1 k) := by decide +kernel
abbrev cX1_init : ByteArray := prog_3_method_1_code
def yX1_init : MethodName := ⟨RX1, "<init>", "()V"⟩
abbrev cX1_search : ByteArray := prog_3_method_2_code
def yX1_search : MethodName := ⟨RX1, "search", "(LBarrowNights$Down;I)V"⟩
abbrev cX1_place : ByteArray := prog_3_method_3_code
def yX1_place : MethodName := ⟨RX1, "place", "(LBarrowNights$Down;III)V"⟩
abbrev cX1_keep : ByteArray := prog_3_method_4_code
def yX1_keep : MethodName := ⟨RX1, "keep", "(III)V"⟩
def RX2 : String := "BarrowNights$Lying"
def TX2 : u_T := fun k => match k with
  | 0 => ("BarrowNights$Lying", "dreams", "[I", true)
  | 1 => ("BarrowNights$Lying", "row", "[I", true)
  | 2 => ("BarrowNights$Lying", "first", "[I", true)
  | 3 => ("BarrowNights$Lying", "left", "[I", true)
  | 4 => ("BarrowNights$Lying", "latest", "[I", true)
  | 5 => ("BarrowNights$Lying", "ways", "I", false)
  | _ => ("BarrowNights$Lying", "firstOnly", "Z", false)
def tyX2 : Nat → FieldType := fun k => match k with
  | 0 => .array .int
  | 1 => .array .int
  | 2 => .array .int
  | 3 => .array .int
  | 4 => .array .int
  | 5 => .int
  | _ => .boolean
theorem nmX2 : ∀ a, a < 7 → ∀ b, b < 7 → a ≠ b → (TX2 a).2.1 ≠ (TX2 b).2.1 := by decide +kernel
theorem tyX2_ok : ∀ k, k < 7 → parseFieldDescriptor (TX2 k).2.2.1 = some (tyX2 k) := by decide +kernel
abbrev cX2_init : ByteArray := prog_4_method_1_code
def yX2_init : MethodName := ⟨RX2, "<init>", "()V"⟩
abbrev cX2_load : ByteArray := prog_4_method_2_code
def yX2_load : MethodName := ⟨RX2, "load", "(LBarrowNights$Sheets;III)V"⟩
abbrev cX2_search : ByteArray := prog_4_method_3_code
def yX2_search : MethodName := ⟨RX2, "search", "(LBarrowNights$Down;Z)V"⟩
abbrev cX2_lay : ByteArray := prog_4_method_4_code
def yX2_lay : MethodName := ⟨RX2, "lay", "(LBarrowNights$Down;I)V"⟩
abbrev cX2_layIn : ByteArray := prog_4_method_5_code
def yX2_layIn : MethodName := ⟨RX2, "layIn", "(LBarrowNights$Down;II)V"⟩
abbrev cX2_isTold : ByteArray := prog_4_method_6_code
def yX2_isTold : MethodName := ⟨RX2, "isTold", "(II)Z"⟩
abbrev cX2_keep : ByteArray := prog_4_method_7_code
def yX2_keep : MethodName := ⟨RX2, "keep", "(I)V"⟩
def RX3 : String := "BarrowNights$Readings"
def TX3 : u_T := fun k => match k with
  | 0 => ("BarrowNights$Readings", "barrow", "[I", true)
  | 1 => ("BarrowNights$Readings", "lodgers", "[I", true)
  | 2 => ("BarrowNights$Readings", "full", "[I", true)
  | _ => ("BarrowNights$Readings", "count", "I", false)
def tyX3 : Nat → FieldType := fun k => match k with
  | 0 => .array .int
  | 1 => .array .int
  | 2 => .array .int
  | _ => .int
theorem nmX3 : ∀ a, a < 4 → ∀ b, b < 4 → a ≠ b → (TX3 a).2.1 ≠ (TX3 b).2.1 := by decide +kernel
theorem tyX3_ok : ∀ k, k < 4 → parseFieldDescriptor (TX3 k).2.2.1 = some (tyX3 k) := by decide +kernel
abbrev cX3_init : ByteArray := prog_5_method_1_code
def yX3_init : MethodName := ⟨RX3, "<init>", "()V"⟩
abbrev cX3_hasRoom : ByteArray := prog_5_method_2_code
def yX3_hasRoom : MethodName := ⟨RX3, "hasRoom", "()Z"⟩
abbrev cX3_note : ByteArray := prog_5_method_3_code
def yX3_note : MethodName := ⟨RX3, "note", "(III)I"⟩
abbrev cX3_areSo : ByteArray := prog_5_method_4_code
def yX3_areSo : MethodName := ⟨RX3, "areSo", "(LBarrowNights$Down;II)Z"⟩
def RX4 : String := "BarrowNights$Season"
def TX4 : u_T := fun k => match k with
  | 0 => ("BarrowNights$Season", "then", "LBarrowNights$Down;", true)
  | 1 => ("BarrowNights$Season", "first", "[I", true)
  | 2 => ("BarrowNights$Season", "second", "[I", true)
  | 3 => ("BarrowNights$Season", "acts", "I", false)
  | 4 => ("BarrowNights$Season", "firstWrong", "I", false)
  | _ => ("BarrowNights$Season", "putOut", "I", false)
def tyX4 : Nat → FieldType := fun k => match k with
  | 0 => .object "BarrowNights$Down"
  | 1 => .array .int
  | 2 => .array .int
  | 3 => .int
  | 4 => .int
  | _ => .int
theorem nmX4 : ∀ a, a < 6 → ∀ b, b < 6 → a ≠ b → (TX4 a).2.1 ≠ (TX4 b).2.1 := by decide +kernel
theorem tyX4_ok : ∀ k, k < 6 → parseFieldDescriptor (TX4 k).2.2.1 = some (tyX4 k) := by decide +kernel
abbrev cX4_init : ByteArray := prog_6_method_1_code
def yX4_init : MethodName := ⟨RX4, "<init>", "()V"⟩
abbrev cX4_isWhat : ByteArray := prog_6_method_2_code
def yX4_isWhat : MethodName := ⟨RX4, "isWhat", "(I)Z"⟩
abbrev cX4_load : ByteArray := prog_6_method_3_code
def yX4_load : MethodName := ⟨RX4, "load", "(LBarrowNights$Down;LBarrowNights$Sheets;III)I"⟩
abbrev cX4_refusalOf : ByteArray := prog_6_method_4_code
def yX4_refusalOf : MethodName := ⟨RX4, "refusalOf", "(II)I"⟩
abbrev cX4_play : ByteArray := prog_6_method_5_code
def yX4_play : MethodName := ⟨RX4, "play", "()V"⟩
abbrev cX4_canDo : ByteArray := prog_6_method_6_code
def yX4_canDo : MethodName := ⟨RX4, "canDo", "(II)Z"⟩
abbrev cX4_answerTo : ByteArray := prog_6_method_7_code
def yX4_answerTo : MethodName := ⟨RX4, "answerTo", "(I)I"⟩
def RX5 : String := "BarrowNights$Sheets"
def TX5 : u_T := fun k => match k with
  | 0 => ("BarrowNights$Sheets", "lanes", "[I", true)
  | 1 => ("BarrowNights$Sheets", "sizes", "[I", true)
  | _ => ("BarrowNights$Sheets", "cells", "[I", true)
def tyX5 : Nat → FieldType := fun k => match k with
  | 0 => .array .int
  | 1 => .array .int
  | _ => .array .int
theorem nmX5 : ∀ a, a < 3 → ∀ b, b < 3 → a ≠ b → (TX5 a).2.1 ≠ (TX5 b).2.1 := by decide +kernel
theorem tyX5_ok : ∀ k, k < 3 → parseFieldDescriptor (TX5 k).2.2.1 = some (tyX5 k) := by decide +kernel
abbrev cX5_init : ByteArray := prog_7_method_1_code
def yX5_init : MethodName := ⟨RX5, "<init>", "()V"⟩
abbrev cX5_isSheet : ByteArray := prog_7_method_2_code
def yX5_isSheet : MethodName := ⟨RX5, "isSheet", "(I)Z"⟩
abbrev cX5_hasNothing : ByteArray := prog_7_method_3_code
def yX5_hasNothing : MethodName := ⟨RX5, "hasNothing", "(I)Z"⟩
abbrev cX5_faultOfRow : ByteArray := prog_7_method_4_code
def yX5_faultOfRow : MethodName := ⟨RX5, "faultOfRow", "(II)I"⟩
abbrev cX5_faultOfPair : ByteArray := prog_7_method_5_code
def yX5_faultOfPair : MethodName := ⟨RX5, "faultOfPair", "(II)I"⟩
abbrev cX5_faultOfCell : ByteArray := prog_7_method_6_code
def yX5_faultOfCell : MethodName := ⟨RX5, "faultOfCell", "(II)I"⟩
abbrev cX5_faultOfCells : ByteArray := prog_7_method_7_code
def yX5_faultOfCells : MethodName := ⟨RX5, "faultOfCells", "(III)I"⟩
abbrev cX5_renew : ByteArray := prog_7_method_8_code
def yX5_renew : MethodName := ⟨RX5, "renew", "(III)V"⟩
abbrev cX5_empty : ByteArray := prog_7_method_9_code
def yX5_empty : MethodName := ⟨RX5, "empty", "(I)V"⟩
abbrev cX5_valueAt : ByteArray := prog_7_method_10_code
def yX5_valueAt : MethodName := ⟨RX5, "valueAt", "(II)I"⟩
abbrev cX5_setAt : ByteArray := prog_7_method_11_code
def yX5_setAt : MethodName := ⟨RX5, "setAt", "(III)V"⟩
abbrev cX5_cut : ByteArray := prog_7_method_12_code
def yX5_cut : MethodName := ⟨RX5, "cut", "(II)I"⟩
abbrev cX5_move : ByteArray := prog_7_method_13_code
def yX5_move : MethodName := ⟨RX5, "move", "(IIIII)V"⟩
def RX6 : String := "BarrowNights$Text"
def TX6 : u_T := fun k => match k with
  | 0 => ("BarrowNights$Text", "codes", "[I", true)
  | 1 => ("BarrowNights$Text", "length", "I", false)
  | 2 => ("BarrowNights$Text", "barrows", "I", false)
  | _ => ("BarrowNights$Text", "walkers", "I", false)
def tyX6 : Nat → FieldType := fun k => match k with
  | 0 => .array .int
  | 1 => .int
  | 2 => .int
  | _ => .int
theorem nmX6 : ∀ a, a < 4 → ∀ b, b < 4 → a ≠ b → (TX6 a).2.1 ≠ (TX6 b).2.1 := by decide +kernel
theorem tyX6_ok : ∀ k, k < 4 → parseFieldDescriptor (TX6 k).2.2.1 = some (tyX6 k) := by decide +kernel
abbrev cX6_init : ByteArray := prog_8_method_1_code
def yX6_init : MethodName := ⟨RX6, "<init>", "()V"⟩
abbrev cX6_load : ByteArray := prog_8_method_2_code
def yX6_load : MethodName := ⟨RX6, "load", "(LBarrowNights$Sheets;III)V"⟩
abbrev cX6_codeAt : ByteArray := prog_8_method_3_code
def yX6_codeAt : MethodName := ⟨RX6, "codeAt", "(I)I"⟩
abbrev cX6_isDigit : ByteArray := prog_8_method_4_code
def yX6_isDigit : MethodName := ⟨RX6, "isDigit", "(ICC)Z"⟩
abbrev cX6_digitAt : ByteArray := prog_8_method_5_code
def yX6_digitAt : MethodName := ⟨RX6, "digitAt", "(I)I"⟩
abbrev cX6_kindAt : ByteArray := prog_8_method_6_code
def yX6_kindAt : MethodName := ⟨RX6, "kindAt", "(I)I"⟩
abbrev cX6_firstFault : ByteArray := prog_8_method_7_code
def yX6_firstFault : MethodName := ⟨RX6, "firstFault", "()I"⟩
abbrev cX6_stopInBarrow : ByteArray := prog_8_method_8_code
def yX6_stopInBarrow : MethodName := ⟨RX6, "stopInBarrow", "(I)I"⟩
abbrev cX6_stopInWalker : ByteArray := prog_8_method_9_code
def yX6_stopInWalker : MethodName := ⟨RX6, "stopInWalker", "(I)I"⟩
abbrev cX6_makeAnew : ByteArray := prog_8_method_10_code
def yX6_makeAnew : MethodName := ⟨RX6, "makeAnew", "(LBarrowNights$Down;)V"⟩
def RX7 : String := "BarrowNights"
def TX7 : u_T := fun k => match k with
  | 0 => ("BarrowNights", "sheets", "LBarrowNights$Sheets;", true)
  | 1 => ("BarrowNights", "text", "LBarrowNights$Text;", true)
  | 2 => ("BarrowNights", "now", "LBarrowNights$Down;", true)
  | 3 => ("BarrowNights", "told", "LBarrowNights$Season;", true)
  | 4 => ("BarrowNights", "housing", "LBarrowNights$Housing;", true)
  | 5 => ("BarrowNights", "lying", "LBarrowNights$Lying;", true)
  | 6 => ("BarrowNights", "readings", "LBarrowNights$Readings;", true)
  | 7 => ("BarrowNights", "trace", "I", false)
  | _ => ("BarrowNights", "fault", "I", false)
def tyX7 : Nat → FieldType := fun k => match k with
  | 0 => .object "BarrowNights$Sheets"
  | 1 => .object "BarrowNights$Text"
  | 2 => .object "BarrowNights$Down"
  | 3 => .object "BarrowNights$Season"
  | 4 => .object "BarrowNights$Housing"
  | 5 => .object "BarrowNights$Lying"
  | 6 => .object "BarrowNights$Readings"
  | 7 => .int
  | _ => .int
theorem nmX7 : ∀ a, a < 9 → ∀ b, b < 9 → a ≠ b → (TX7 a).2.1 ≠ (TX7 b).2.1 := by decide +kernel
theorem tyX7_ok : ∀ k, k < 9 → parseFieldDescriptor (TX7 k).2.2.1 = some (tyX7 k) := by decide +kernel
abbrev cX7_init : ByteArray := prog_1_method_1_code
def yX7_init : MethodName := ⟨RX7, "<init>", "()V"⟩
abbrev cX7_down : ByteArray := prog_1_method_2_code
def yX7_down : MethodName := ⟨RX7, "down", "(IIII)I"⟩
abbrev cX7_ofBarrow : ByteArray := prog_1_method_3_code
def yX7_ofBarrow : MethodName := ⟨RX7, "ofBarrow", "(II)I"⟩
abbrev cX7_ofWalker : ByteArray := prog_1_method_4_code
def yX7_ofWalker : MethodName := ⟨RX7, "ofWalker", "(II)I"⟩
abbrev cX7_charge : ByteArray := prog_1_method_5_code
def yX7_charge : MethodName := ⟨RX7, "charge", "(II)I"⟩
abbrev cX7_earn : ByteArray := prog_1_method_6_code
def yX7_earn : MethodName := ⟨RX7, "earn", "(II)I"⟩
abbrev cX7_lodge : ByteArray := prog_1_method_7_code
def yX7_lodge : MethodName := ⟨RX7, "lodge", "(II)I"⟩
abbrev cX7_leave : ByteArray := prog_1_method_8_code
def yX7_leave : MethodName := ⟨RX7, "leave", "(I)I"⟩
abbrev cX7_night : ByteArray := prog_1_method_9_code
def yX7_night : MethodName := ⟨RX7, "night", "(I)I"⟩
abbrev cX7_season : ByteArray := prog_1_method_10_code
def yX7_season : MethodName := ⟨RX7, "season", "(IIIII)I"⟩
abbrev cX7_housed : ByteArray := prog_1_method_11_code
def yX7_housed : MethodName := ⟨RX7, "housed", "(I)I"⟩
abbrev cX7_ploughed : ByteArray := prog_1_method_12_code
def yX7_ploughed : MethodName := ⟨RX7, "ploughed", "(I)I"⟩
abbrev cX7_way : ByteArray := prog_1_method_13_code
def yX7_way : MethodName := ⟨RX7, "way", "(II)I"⟩
abbrev cX7_lain : ByteArray := prog_1_method_14_code
def yX7_lain : MethodName := ⟨RX7, "lain", "(IIII)I"⟩
abbrev cX7_reading : ByteArray := prog_1_method_15_code
def yX7_reading : MethodName := ⟨RX7, "reading", "(III)I"⟩
abbrev cX7_back : ByteArray := prog_1_method_16_code
def yX7_back : MethodName := ⟨RX7, "back", "(I)I"⟩
abbrev cX7_rooms : ByteArray := prog_1_method_17_code
def yX7_rooms : MethodName := ⟨RX7, "rooms", "(I)I"⟩
abbrev cX7_kinds : ByteArray := prog_1_method_18_code
def yX7_kinds : MethodName := ⟨RX7, "kinds", "(I)I"⟩
abbrev cX7_odds : ByteArray := prog_1_method_19_code
def yX7_odds : MethodName := ⟨RX7, "odds", "(II)J"⟩
abbrev cX7_sheet : ByteArray := prog_1_method_20_code
def yX7_sheet : MethodName := ⟨RX7, "sheet", "(III)I"⟩
abbrev cX7_lose : ByteArray := prog_1_method_21_code
def yX7_lose : MethodName := ⟨RX7, "lose", "(I)I"⟩
abbrev cX7_put : ByteArray := prog_1_method_22_code
def yX7_put : MethodName := ⟨RX7, "put", "(III)I"⟩
abbrev cX7_cell : ByteArray := prog_1_method_23_code
def yX7_cell : MethodName := ⟨RX7, "cell", "(III)J"⟩
abbrev cX7_copy : ByteArray := prog_1_method_24_code
def yX7_copy : MethodName := ⟨RX7, "copy", "(IIIII)I"⟩
abbrev cX7_tell : ByteArray := prog_1_method_25_code
def yX7_tell : MethodName := ⟨RX7, "tell", "(I)I"⟩
abbrev cX7_haunt : ByteArray := prog_1_method_26_code
def yX7_haunt : MethodName := ⟨RX7, "haunt", "(I)I"⟩
abbrev cX7_as : ByteArray := prog_1_method_27_code
def yX7_as : MethodName := ⟨RX7, "as", "(II)I"⟩
abbrev cX7_trace : ByteArray := prog_1_method_28_code
def yX7_trace : MethodName := ⟨RX7, "trace", "()I"⟩
abbrev cX7_fault : ByteArray := prog_1_method_29_code
def yX7_fault : MethodName := ⟨RX7, "fault", "()I"⟩
abbrev cX7_many : ByteArray := prog_1_method_30_code
def yX7_many : MethodName := ⟨RX7, "many", "(I)I"⟩
abbrev cX7_begin : ByteArray := prog_1_method_31_code
def yX7_begin : MethodName := ⟨RX7, "begin", "(I)V"⟩
abbrev cX7_roundBody : ByteArray := prog_1_method_32_code
def yX7_roundBody : MethodName := ⟨RX7, "roundBody", "(I)I"⟩
abbrev cX7_longBody : ByteArray := prog_1_method_33_code
def yX7_longBody : MethodName := ⟨RX7, "longBody", "(I)I"⟩
abbrev cX7_ringBody : ByteArray := prog_1_method_34_code
def yX7_ringBody : MethodName := ⟨RX7, "ringBody", "(I)I"⟩
abbrev cX7_lentHaunt : ByteArray := prog_1_method_35_code
def yX7_lentHaunt : MethodName := ⟨RX7, "lentHaunt", "(I)I"⟩
abbrev cX7_ringHaunt : ByteArray := prog_1_method_36_code
def yX7_ringHaunt : MethodName := ⟨RX7, "ringHaunt", "()I"⟩
abbrev cX7_isLane : ByteArray := prog_1_method_37_code
def yX7_isLane : MethodName := ⟨RX7, "isLane", "(I)Z"⟩
abbrev cX7_holdsAs : ByteArray := prog_1_method_38_code
def yX7_holdsAs : MethodName := ⟨RX7, "holdsAs", "(II)I"⟩
abbrev cX7_isNear : ByteArray := prog_1_method_39_code
def yX7_isNear : MethodName := ⟨RX7, "isNear", "(III)Z"⟩
abbrev cX7_power : ByteArray := prog_1_method_40_code
def yX7_power : MethodName := ⟨RX7, "power", "(JI)J"⟩
abbrev cX7_choices : ByteArray := prog_1_method_41_code
def yX7_choices : MethodName := ⟨RX7, "choices", "(II)J"⟩
abbrev cX7_commonPart : ByteArray := prog_1_method_42_code
def yX7_commonPart : MethodName := ⟨RX7, "commonPart", "(JJ)J"⟩
def RX8 : String := "BarrowNightsModel"
def TX8 : u_T := fun k => match k with
  | 0 => ("BarrowNightsModel", "fault", "I", false)
  | 1 => ("BarrowNightsModel", "trace", "I", false)
  | 2 => ("BarrowNightsModel", "sorts", "[I", true)
  | 3 => ("BarrowNightsModel", "sheetLong", "[I", true)
  | 4 => ("BarrowNightsModel", "cells", "[I", true)
  | 5 => ("BarrowNightsModel", "barrows", "I", false)
  | 6 => ("BarrowNightsModel", "walkers", "I", false)
  | 7 => ("BarrowNightsModel", "nights", "I", false)
  | 8 => ("BarrowNightsModel", "kind", "[I", true)
  | 9 => ("BarrowNightsModel", "beds", "[I", true)
  | 10 => ("BarrowNightsModel", "pence", "[I", true)
  | 11 => ("BarrowNightsModel", "place", "[I", true)
  | 12 => ("BarrowNightsModel", "means", "[I", true)
  | 13 => ("BarrowNightsModel", "stands", "[I", true)
  | 14 => ("BarrowNightsModel", "goesFar", "[I", true)
  | 15 => ("BarrowNightsModel", "lodgesIn", "[I", true)
  | 16 => ("BarrowNightsModel", "cold", "[I", true)
  | 17 => ("BarrowNightsModel", "at", "I", false)
  | 18 => ("BarrowNightsModel", "readBarrows", "I", false)
  | 19 => ("BarrowNightsModel", "readWalkers", "I", false)
  | 20 => ("BarrowNightsModel", "read", "[I", true)
  | 21 => ("BarrowNightsModel", "readWho", "[I", true)
  | 22 => ("BarrowNightsModel", "keptMeans", "[I", true)
  | 23 => ("BarrowNightsModel", "keptStands", "[I", true)
  | 24 => ("BarrowNightsModel", "keptLodges", "[I", true)
  | 25 => ("BarrowNightsModel", "keptCold", "[I", true)
  | 26 => ("BarrowNightsModel", "putOut", "I", false)
  | 27 => ("BarrowNightsModel", "row", "[I", true)
  | 28 => ("BarrowNightsModel", "housedIn", "[I", true)
  | 29 => ("BarrowNightsModel", "housedMany", "I", false)
  | 30 => ("BarrowNightsModel", "housedPence", "I", false)
  | 31 => ("BarrowNightsModel", "steps", "[I", true)
  | 32 => ("BarrowNightsModel", "readings", "I", false)
  | 33 => ("BarrowNightsModel", "readWhich", "[I", true)
  | 34 => ("BarrowNightsModel", "readLodgers", "[I", true)
  | _ => ("BarrowNightsModel", "readFull", "[I", true)
def tyX8 : Nat → FieldType := fun k => match k with
  | 0 => .int
  | 1 => .int
  | 2 => .array .int
  | 3 => .array .int
  | 4 => .array .int
  | 5 => .int
  | 6 => .int
  | 7 => .int
  | 8 => .array .int
  | 9 => .array .int
  | 10 => .array .int
  | 11 => .array .int
  | 12 => .array .int
  | 13 => .array .int
  | 14 => .array .int
  | 15 => .array .int
  | 16 => .array .int
  | 17 => .int
  | 18 => .int
  | 19 => .int
  | 20 => .array .int
  | 21 => .array .int
  | 22 => .array .int
  | 23 => .array .int
  | 24 => .array .int
  | 25 => .array .int
  | 26 => .int
  | 27 => .array .int
  | 28 => .array .int
  | 29 => .int
  | 30 => .int
  | 31 => .array .int
  | 32 => .int
  | 33 => .array .int
  | 34 => .array .int
  | _ => .array .int
theorem nmX8 : ∀ a, a < 36 → ∀ b, b < 36 → a ≠ b → (TX8 a).2.1 ≠ (TX8 b).2.1 := by decide +kernel
theorem tyX8_ok : ∀ k, k < 36 → parseFieldDescriptor (TX8 k).2.2.1 = some (tyX8 k) := by decide +kernel
abbrev cX8_init : ByteArray := prog_10_method_1_code
def yX8_init : MethodName := ⟨RX8, "<init>", "()V"⟩
abbrev cX8_fails : ByteArray := prog_10_method_3_code
def yX8_fails : MethodName := ⟨RX8, "fails", "(I)I"⟩
abbrev cX8_lost : ByteArray := prog_10_method_4_code
def yX8_lost : MethodName := ⟨RX8, "lost", "(I)J"⟩
abbrev cX8_within : ByteArray := prog_10_method_5_code
def yX8_within : MethodName := ⟨RX8, "within", "(III)Z"⟩
abbrev cX8_isSheet : ByteArray := prog_10_method_6_code
def yX8_isSheet : MethodName := ⟨RX8, "isSheet", "(I)Z"⟩
abbrev cX8_isSort : ByteArray := prog_10_method_7_code
def yX8_isSort : MethodName := ⟨RX8, "isSort", "(I)Z"⟩
abbrev cX8_against : ByteArray := prog_10_method_8_code
def yX8_against : MethodName := ⟨RX8, "against", "(IIII)I"⟩
abbrev cX8_isBarrow : ByteArray := prog_10_method_9_code
def yX8_isBarrow : MethodName := ⟨RX8, "isBarrow", "(I)Z"⟩
abbrev cX8_isWalker : ByteArray := prog_10_method_10_code
def yX8_isWalker : MethodName := ⟨RX8, "isWalker", "(I)Z"⟩
abbrev cX8_digit : ByteArray := prog_10_method_11_code
def yX8_digit : MethodName := ⟨RX8, "digit", "(III)I"⟩
abbrev cX8_isSign : ByteArray := prog_10_method_12_code
def yX8_isSign : MethodName := ⟨RX8, "isSign", "(II)Z"⟩
abbrev cX8_down : ByteArray := prog_10_method_13_code
def yX8_down : MethodName := ⟨RX8, "down", "(IIII)I"⟩
abbrev cX8_takeDown : ByteArray := prog_10_method_14_code
def yX8_takeDown : MethodName := ⟨RX8, "takeDown", "()V"⟩
abbrev cX8_readDown : ByteArray := prog_10_method_15_code
def yX8_readDown : MethodName := ⟨RX8, "readDown", "(I)Z"⟩
abbrev cX8_readBarrow : ByteArray := prog_10_method_16_code
def yX8_readBarrow : MethodName := ⟨RX8, "readBarrow", "(I)Z"⟩
abbrev cX8_readWalker : ByteArray := prog_10_method_17_code
def yX8_readWalker : MethodName := ⟨RX8, "readWalker", "(I)Z"⟩
abbrev cX8_holdsBy : ByteArray := prog_10_method_18_code
def yX8_holdsBy : MethodName := ⟨RX8, "holdsBy", "(II)I"⟩
abbrev cX8_holdsOf : ByteArray := prog_10_method_19_code
def yX8_holdsOf : MethodName := ⟨RX8, "holdsOf", "(I)I"⟩
abbrev cX8_lodgersOf : ByteArray := prog_10_method_20_code
def yX8_lodgersOf : MethodName := ⟨RX8, "lodgersOf", "(I)I"⟩
abbrev cX8_size : ByteArray := prog_10_method_21_code
def yX8_size : MethodName := ⟨RX8, "size", "(I)I"⟩
abbrev cX8_ofBarrow : ByteArray := prog_10_method_22_code
def yX8_ofBarrow : MethodName := ⟨RX8, "ofBarrow", "(II)I"⟩
abbrev cX8_dreamOf : ByteArray := prog_10_method_23_code
def yX8_dreamOf : MethodName := ⟨RX8, "dreamOf", "([II)I"⟩
abbrev cX8_ofWalker : ByteArray := prog_10_method_24_code
def yX8_ofWalker : MethodName := ⟨RX8, "ofWalker", "(II)I"⟩
abbrev cX8_charge : ByteArray := prog_10_method_25_code
def yX8_charge : MethodName := ⟨RX8, "charge", "(II)I"⟩
abbrev cX8_earn : ByteArray := prog_10_method_26_code
def yX8_earn : MethodName := ⟨RX8, "earn", "(II)I"⟩
abbrev cX8_apart : ByteArray := prog_10_method_27_code
def yX8_apart : MethodName := ⟨RX8, "apart", "(II)I"⟩
abbrev cX8_mayGo : ByteArray := prog_10_method_28_code
def yX8_mayGo : MethodName := ⟨RX8, "mayGo", "(II)Z"⟩
abbrev cX8_doLodge : ByteArray := prog_10_method_29_code
def yX8_doLodge : MethodName := ⟨RX8, "doLodge", "(II)Z"⟩
abbrev cX8_lodge : ByteArray := prog_10_method_30_code
def yX8_lodge : MethodName := ⟨RX8, "lodge", "(II)I"⟩
abbrev cX8_leave : ByteArray := prog_10_method_31_code
def yX8_leave : MethodName := ⟨RX8, "leave", "(I)I"⟩
abbrev cX8_goNight : ByteArray := prog_10_method_32_code
def yX8_goNight : MethodName := ⟨RX8, "goNight", "()I"⟩
abbrev cX8_night : ByteArray := prog_10_method_33_code
def yX8_night : MethodName := ⟨RX8, "night", "(I)I"⟩
abbrev cX8_keep : ByteArray := prog_10_method_34_code
def yX8_keep : MethodName := ⟨RX8, "keep", "()V"⟩
abbrev cX8_putBack : ByteArray := prog_10_method_35_code
def yX8_putBack : MethodName := ⟨RX8, "putBack", "()V"⟩
abbrev cX8_does : ByteArray := prog_10_method_36_code
def yX8_does : MethodName := ⟨RX8, "does", "(II)Z"⟩
abbrev cX8_goSeason : ByteArray := prog_10_method_37_code
def yX8_goSeason : MethodName := ⟨RX8, "goSeason", "(II)I"⟩
abbrev cX8_refusesPair : ByteArray := prog_10_method_38_code
def yX8_refusesPair : MethodName := ⟨RX8, "refusesPair", "(II)I"⟩
abbrev cX8_season : ByteArray := prog_10_method_39_code
def yX8_season : MethodName := ⟨RX8, "season", "(IIIII)I"⟩
abbrev cX8_whoLodges : ByteArray := prog_10_method_40_code
def yX8_whoLodges : MethodName := ⟨RX8, "whoLodges", "()I"⟩
abbrev cX8_tellSeason : ByteArray := prog_10_method_41_code
def yX8_tellSeason : MethodName := ⟨RX8, "tellSeason", "(I)I"⟩
abbrev cX8_rowsOf : ByteArray := prog_10_method_42_code
def yX8_rowsOf : MethodName := ⟨RX8, "rowsOf", "()I"⟩
abbrev cX8_rowOf : ByteArray := prog_10_method_43_code
def yX8_rowOf : MethodName := ⟨RX8, "rowOf", "(I)V"⟩
abbrev cX8_isHeld : ByteArray := prog_10_method_44_code
def yX8_isHeld : MethodName := ⟨RX8, "isHeld", "()Z"⟩
abbrev cX8_canRow : ByteArray := prog_10_method_45_code
def yX8_canRow : MethodName := ⟨RX8, "canRow", "(I)Z"⟩
abbrev cX8_findHoused : ByteArray := prog_10_method_46_code
def yX8_findHoused : MethodName := ⟨RX8, "findHoused", "(I)V"⟩
abbrev cX8_housed : ByteArray := prog_10_method_47_code
def yX8_housed : MethodName := ⟨RX8, "housed", "(I)I"⟩
abbrev cX8_ploughed : ByteArray := prog_10_method_48_code
def yX8_ploughed : MethodName := ⟨RX8, "ploughed", "(I)I"⟩
abbrev cX8_way : ByteArray := prog_10_method_49_code
def yX8_way : MethodName := ⟨RX8, "way", "(II)I"⟩
abbrev cX8_stepOn : ByteArray := prog_10_method_50_code
def yX8_stepOn : MethodName := ⟨RX8, "stepOn", "(II)V"⟩
abbrev cX8_areDreams : ByteArray := prog_10_method_51_code
def yX8_areDreams : MethodName := ⟨RX8, "areDreams", "(I)Z"⟩
abbrev cX8_lain : ByteArray := prog_10_method_52_code
def yX8_lain : MethodName := ⟨RX8, "lain", "(IIII)I"⟩
abbrev cX8_reading : ByteArray := prog_10_method_53_code
def yX8_reading : MethodName := ⟨RX8, "reading", "(III)I"⟩
abbrev cX8_back : ByteArray := prog_10_method_54_code
def yX8_back : MethodName := ⟨RX8, "back", "(I)I"⟩
abbrev cX8_areSo : ByteArray := prog_10_method_55_code
def yX8_areSo : MethodName := ⟨RX8, "areSo", "()Z"⟩
abbrev cX8_rooms : ByteArray := prog_10_method_56_code
def yX8_rooms : MethodName := ⟨RX8, "rooms", "(I)I"⟩
abbrev cX8_kinds : ByteArray := prog_10_method_57_code
def yX8_kinds : MethodName := ⟨RX8, "kinds", "(I)I"⟩
abbrev cX8_inLeastTerms : ByteArray := prog_10_method_58_code
def yX8_inLeastTerms : MethodName := ⟨RX8, "inLeastTerms", "(JJI)J"⟩
abbrev cX8_odds : ByteArray := prog_10_method_59_code
def yX8_odds : MethodName := ⟨RX8, "odds", "(II)J"⟩
abbrev cX8_sheet : ByteArray := prog_10_method_60_code
def yX8_sheet : MethodName := ⟨RX8, "sheet", "(III)I"⟩
abbrev cX8_lose : ByteArray := prog_10_method_61_code
def yX8_lose : MethodName := ⟨RX8, "lose", "(I)I"⟩
abbrev cX8_put : ByteArray := prog_10_method_62_code
def yX8_put : MethodName := ⟨RX8, "put", "(III)I"⟩
abbrev cX8_cell : ByteArray := prog_10_method_63_code
def yX8_cell : MethodName := ⟨RX8, "cell", "(III)J"⟩
abbrev cX8_copy : ByteArray := prog_10_method_64_code
def yX8_copy : MethodName := ⟨RX8, "copy", "(IIIII)I"⟩
abbrev cX8_begins : ByteArray := prog_10_method_65_code
def yX8_begins : MethodName := ⟨RX8, "begins", "(I)V"⟩
abbrev cX8_tell : ByteArray := prog_10_method_66_code
def yX8_tell : MethodName := ⟨RX8, "tell", "(I)I"⟩
abbrev cX8_haunt : ByteArray := prog_10_method_67_code
def yX8_haunt : MethodName := ⟨RX8, "haunt", "(I)I"⟩
abbrev cX8_as : ByteArray := prog_10_method_68_code
def yX8_as : MethodName := ⟨RX8, "as", "(II)I"⟩
abbrev cX8_trace : ByteArray := prog_10_method_69_code
def yX8_trace : MethodName := ⟨RX8, "trace", "()I"⟩
abbrev cX8_fault : ByteArray := prog_10_method_70_code
def yX8_fault : MethodName := ⟨RX8, "fault", "()I"⟩
abbrev cX8_many : ByteArray := prog_10_method_71_code
def yX8_many : MethodName := ⟨RX8, "many", "(I)I"⟩
def RJ6 : String := "java/lang/Integer"
def TJ6 : u_T := fun k => match k with
  | _ => ("", "", "", false)
def tyJ6 : Nat → FieldType := fun k => match k with
  | _ => .int
theorem nmJ6 : ∀ a, a < 0 → ∀ b, b < 0 → a ≠ b → (TJ6 a).2.1 ≠ (TJ6 b).2.1 := by decide +kernel
theorem tyJ6_ok : ∀ k, k < 0 → parseFieldDescriptor (TJ6 k).2.2.1 = some (tyJ6 k) := by decide +kernel
abbrev cJ6_bitCount_0f7a4 : ByteArray := prog_11_method_49_code
def yJ6_bitCount_0f7a4 : MethodName := ⟨RJ6, "bitCount", "(I)I"⟩
def RJ9 : String := "java/lang/Math"
def TJ9 : u_T := fun k => match k with
  | _ => ("", "", "", false)
def tyJ9 : Nat → FieldType := fun k => match k with
  | _ => .int
theorem nmJ9 : ∀ a, a < 0 → ∀ b, b < 0 → a ≠ b → (TJ9 a).2.1 ≠ (TJ9 b).2.1 := by decide +kernel
theorem tyJ9_ok : ∀ k, k < 0 → parseFieldDescriptor (TJ9 k).2.2.1 = some (tyJ9 k) := by decide +kernel
abbrev cJ9_abs_0f7a4 : ByteArray := prog_12_method_59_code
def yJ9_abs_0f7a4 : MethodName := ⟨RJ9, "abs", "(I)I"⟩
abbrev cJ9_max_7cf53 : ByteArray := prog_12_method_65_code
def yJ9_max_7cf53 : MethodName := ⟨RJ9, "max", "(II)I"⟩
abbrev cJ9_min_7cf53 : ByteArray := prog_12_method_69_code
def yJ9_min_7cf53 : MethodName := ⟨RJ9, "min", "(II)I"⟩
def RJ10 : String := "java/lang/System"
def TJ10 : u_T := fun k => match k with
  | _ => ("", "", "", false)
def tyJ10 : Nat → FieldType := fun k => match k with
  | _ => .int
theorem nmJ10 : ∀ a, a < 0 → ∀ b, b < 0 → a ≠ b → (TJ10 a).2.1 ≠ (TJ10 b).2.1 := by decide +kernel
theorem tyJ10_ok : ∀ k, k < 0 → parseFieldDescriptor (TJ10 k).2.2.1 = some (tyJ10 k) := by decide +kernel
def RL : String := "BarrowNightsLaw"
abbrev cL_law : ByteArray := code
def yL_law : MethodName := ⟨RL, "law", "([I)Z"⟩
abbrev vwCl : List vw_C := [(RX0, TX0, 12), (RX1, TX1, 5), (RX2, TX2, 7), (RX3, TX3, 4), (RX4, TX4, 6), (RX5, TX5, 3), (RX6, TX6, 4), (RX7, TX7, 9), (RX8, TX8, 36)]
abbrev kX0_init : MethodName × ByteArray × Nat × Option FieldType := (yX0_init, cX0_init, 1, none)
abbrev kX0_isThere : MethodName × ByteArray × Nat × Option FieldType := (yX0_isThere, cX0_isThere, 1, (some .boolean))
abbrev kX0_hasBarrow : MethodName × ByteArray × Nat × Option FieldType := (yX0_hasBarrow, cX0_hasBarrow, 2, (some .boolean))
abbrev kX0_hasWalker : MethodName × ByteArray × Nat × Option FieldType := (yX0_hasWalker, cX0_hasWalker, 2, (some .boolean))
abbrev kX0_become : MethodName × ByteArray × Nat × Option FieldType := (yX0_become, cX0_become, 3, none)
abbrev kX0_holdsOf : MethodName × ByteArray × Nat × Option FieldType := (yX0_holdsOf, cX0_holdsOf, 2, (some .int))
abbrev kX0_lodgersOf : MethodName × ByteArray × Nat × Option FieldType := (yX0_lodgersOf, cX0_lodgersOf, 4, (some .int))
abbrev kX0_allLodgers : MethodName × ByteArray × Nat × Option FieldType := (yX0_allLodgers, cX0_allLodgers, 3, (some .int))
abbrev kX0_dreamOf : MethodName × ByteArray × Nat × Option FieldType := (yX0_dreamOf, cX0_dreamOf, 3, (some .int))
abbrev kX0_suits : MethodName × ByteArray × Nat × Option FieldType := (yX0_suits, cX0_suits, 3, (some .boolean))
abbrev kX0_enter : MethodName × ByteArray × Nat × Option FieldType := (yX0_enter, cX0_enter, 3, (some .boolean))
abbrev kX0_goOut : MethodName × ByteArray × Nat × Option FieldType := (yX0_goOut, cX0_goOut, 2, (some .boolean))
abbrev kX0_passNights : MethodName × ByteArray × Nat × Option FieldType := (yX0_passNights, cX0_passNights, 5, (some .int))
abbrev kX0_paysOrGoes : MethodName × ByteArray × Nat × Option FieldType := (yX0_paysOrGoes, cX0_paysOrGoes, 5, (some .boolean))
abbrev kX0_meansOfAll : MethodName × ByteArray × Nat × Option FieldType := (yX0_meansOfAll, cX0_meansOfAll, 3, (some .int))
abbrev kX0_fewestTo : MethodName × ByteArray × Nat × Option FieldType := (yX0_fewestTo, cX0_fewestTo, 5, (some .int))
abbrev kX0_sitesNear : MethodName × ByteArray × Nat × Option FieldType := (yX0_sitesNear, cX0_sitesNear, 5, (some .int))
abbrev kX0_isNearAny : MethodName × ByteArray × Nat × Option FieldType := (yX0_isNearAny, cX0_isNearAny, 4, (some .boolean))
abbrev kX0_waysToFill : MethodName × ByteArray × Nat × Option FieldType := (yX0_waysToFill, cX0_waysToFill, 5, (some .long))
abbrev kX1_init : MethodName × ByteArray × Nat × Option FieldType := (yX1_init, cX1_init, 1, none)
abbrev kX1_search : MethodName × ByteArray × Nat × Option FieldType := (yX1_search, cX1_search, 4, none)
abbrev kX1_place : MethodName × ByteArray × Nat × Option FieldType := (yX1_place, cX1_place, 7, none)
abbrev kX1_keep : MethodName × ByteArray × Nat × Option FieldType := (yX1_keep, cX1_keep, 5, none)
abbrev kX2_init : MethodName × ByteArray × Nat × Option FieldType := (yX2_init, cX2_init, 1, none)
abbrev kX2_load : MethodName × ByteArray × Nat × Option FieldType := (yX2_load, cX2_load, 6, none)
abbrev kX2_search : MethodName × ByteArray × Nat × Option FieldType := (yX2_search, cX2_search, 4, none)
abbrev kX2_lay : MethodName × ByteArray × Nat × Option FieldType := (yX2_lay, cX2_lay, 4, none)
abbrev kX2_layIn : MethodName × ByteArray × Nat × Option FieldType := (yX2_layIn, cX2_layIn, 5, none)
abbrev kX2_isTold : MethodName × ByteArray × Nat × Option FieldType := (yX2_isTold, cX2_isTold, 3, (some .boolean))
abbrev kX2_keep : MethodName × ByteArray × Nat × Option FieldType := (yX2_keep, cX2_keep, 3, none)
abbrev kX3_init : MethodName × ByteArray × Nat × Option FieldType := (yX3_init, cX3_init, 1, none)
abbrev kX3_hasRoom : MethodName × ByteArray × Nat × Option FieldType := (yX3_hasRoom, cX3_hasRoom, 1, (some .boolean))
abbrev kX3_note : MethodName × ByteArray × Nat × Option FieldType := (yX3_note, cX3_note, 4, (some .int))
abbrev kX3_areSo : MethodName × ByteArray × Nat × Option FieldType := (yX3_areSo, cX3_areSo, 7, (some .boolean))
abbrev kX4_init : MethodName × ByteArray × Nat × Option FieldType := (yX4_init, cX4_init, 1, none)
abbrev kX4_isWhat : MethodName × ByteArray × Nat × Option FieldType := (yX4_isWhat, cX4_isWhat, 1, (some .boolean))
abbrev kX4_load : MethodName × ByteArray × Nat × Option FieldType := (yX4_load, cX4_load, 8, (some .int))
abbrev kX4_refusalOf : MethodName × ByteArray × Nat × Option FieldType := (yX4_refusalOf, cX4_refusalOf, 3, (some .int))
abbrev kX4_play : MethodName × ByteArray × Nat × Option FieldType := (yX4_play, cX4_play, 2, none)
abbrev kX4_canDo : MethodName × ByteArray × Nat × Option FieldType := (yX4_canDo, cX4_canDo, 3, (some .boolean))
abbrev kX4_answerTo : MethodName × ByteArray × Nat × Option FieldType := (yX4_answerTo, cX4_answerTo, 3, (some .int))
abbrev kX5_init : MethodName × ByteArray × Nat × Option FieldType := (yX5_init, cX5_init, 1, none)
abbrev kX5_isSheet : MethodName × ByteArray × Nat × Option FieldType := (yX5_isSheet, cX5_isSheet, 1, (some .boolean))
abbrev kX5_hasNothing : MethodName × ByteArray × Nat × Option FieldType := (yX5_hasNothing, cX5_hasNothing, 2, (some .boolean))
abbrev kX5_faultOfRow : MethodName × ByteArray × Nat × Option FieldType := (yX5_faultOfRow, cX5_faultOfRow, 3, (some .int))
abbrev kX5_faultOfPair : MethodName × ByteArray × Nat × Option FieldType := (yX5_faultOfPair, cX5_faultOfPair, 3, (some .int))
abbrev kX5_faultOfCell : MethodName × ByteArray × Nat × Option FieldType := (yX5_faultOfCell, cX5_faultOfCell, 3, (some .int))
abbrev kX5_faultOfCells : MethodName × ByteArray × Nat × Option FieldType := (yX5_faultOfCells, cX5_faultOfCells, 4, (some .int))
abbrev kX5_renew : MethodName × ByteArray × Nat × Option FieldType := (yX5_renew, cX5_renew, 5, none)
abbrev kX5_empty : MethodName × ByteArray × Nat × Option FieldType := (yX5_empty, cX5_empty, 2, none)
abbrev kX5_valueAt : MethodName × ByteArray × Nat × Option FieldType := (yX5_valueAt, cX5_valueAt, 3, (some .int))
abbrev kX5_setAt : MethodName × ByteArray × Nat × Option FieldType := (yX5_setAt, cX5_setAt, 4, none)
abbrev kX5_cut : MethodName × ByteArray × Nat × Option FieldType := (yX5_cut, cX5_cut, 2, (some .int))
abbrev kX5_move : MethodName × ByteArray × Nat × Option FieldType := (yX5_move, cX5_move, 6, none)
abbrev kX6_init : MethodName × ByteArray × Nat × Option FieldType := (yX6_init, cX6_init, 1, none)
abbrev kX6_load : MethodName × ByteArray × Nat × Option FieldType := (yX6_load, cX6_load, 6, none)
abbrev kX6_codeAt : MethodName × ByteArray × Nat × Option FieldType := (yX6_codeAt, cX6_codeAt, 2, (some .int))
abbrev kX6_isDigit : MethodName × ByteArray × Nat × Option FieldType := (yX6_isDigit, cX6_isDigit, 4, (some .boolean))
abbrev kX6_digitAt : MethodName × ByteArray × Nat × Option FieldType := (yX6_digitAt, cX6_digitAt, 2, (some .int))
abbrev kX6_kindAt : MethodName × ByteArray × Nat × Option FieldType := (yX6_kindAt, cX6_kindAt, 2, (some .int))
abbrev kX6_firstFault : MethodName × ByteArray × Nat × Option FieldType := (yX6_firstFault, cX6_firstFault, 4, (some .int))
abbrev kX6_stopInBarrow : MethodName × ByteArray × Nat × Option FieldType := (yX6_stopInBarrow, cX6_stopInBarrow, 2, (some .int))
abbrev kX6_stopInWalker : MethodName × ByteArray × Nat × Option FieldType := (yX6_stopInWalker, cX6_stopInWalker, 2, (some .int))
abbrev kX6_makeAnew : MethodName × ByteArray × Nat × Option FieldType := (yX6_makeAnew, cX6_makeAnew, 4, none)
abbrev kX7_init : MethodName × ByteArray × Nat × Option FieldType := (yX7_init, cX7_init, 1, none)
abbrev kX7_down : MethodName × ByteArray × Nat × Option FieldType := (yX7_down, cX7_down, 6, (some .int))
abbrev kX7_ofBarrow : MethodName × ByteArray × Nat × Option FieldType := (yX7_ofBarrow, cX7_ofBarrow, 3, (some .int))
abbrev kX7_ofWalker : MethodName × ByteArray × Nat × Option FieldType := (yX7_ofWalker, cX7_ofWalker, 3, (some .int))
abbrev kX7_charge : MethodName × ByteArray × Nat × Option FieldType := (yX7_charge, cX7_charge, 4, (some .int))
abbrev kX7_earn : MethodName × ByteArray × Nat × Option FieldType := (yX7_earn, cX7_earn, 4, (some .int))
abbrev kX7_lodge : MethodName × ByteArray × Nat × Option FieldType := (yX7_lodge, cX7_lodge, 3, (some .int))
abbrev kX7_leave : MethodName × ByteArray × Nat × Option FieldType := (yX7_leave, cX7_leave, 3, (some .int))
abbrev kX7_night : MethodName × ByteArray × Nat × Option FieldType := (yX7_night, cX7_night, 2, (some .int))
abbrev kX7_season : MethodName × ByteArray × Nat × Option FieldType := (yX7_season, cX7_season, 7, (some .int))
abbrev kX7_housed : MethodName × ByteArray × Nat × Option FieldType := (yX7_housed, cX7_housed, 2, (some .int))
abbrev kX7_ploughed : MethodName × ByteArray × Nat × Option FieldType := (yX7_ploughed, cX7_ploughed, 2, (some .int))
abbrev kX7_way : MethodName × ByteArray × Nat × Option FieldType := (yX7_way, cX7_way, 3, (some .int))
abbrev kX7_lain : MethodName × ByteArray × Nat × Option FieldType := (yX7_lain, cX7_lain, 5, (some .int))
abbrev kX7_reading : MethodName × ByteArray × Nat × Option FieldType := (yX7_reading, cX7_reading, 4, (some .int))
abbrev kX7_back : MethodName × ByteArray × Nat × Option FieldType := (yX7_back, cX7_back, 2, (some .int))
abbrev kX7_rooms : MethodName × ByteArray × Nat × Option FieldType := (yX7_rooms, cX7_rooms, 4, (some .int))
abbrev kX7_kinds : MethodName × ByteArray × Nat × Option FieldType := (yX7_kinds, cX7_kinds, 4, (some .int))
abbrev kX7_odds : MethodName × ByteArray × Nat × Option FieldType := (yX7_odds, cX7_odds, 9, (some .long))
abbrev kX7_sheet : MethodName × ByteArray × Nat × Option FieldType := (yX7_sheet, cX7_sheet, 4, (some .int))
abbrev kX7_lose : MethodName × ByteArray × Nat × Option FieldType := (yX7_lose, cX7_lose, 2, (some .int))
abbrev kX7_put : MethodName × ByteArray × Nat × Option FieldType := (yX7_put, cX7_put, 4, (some .int))
abbrev kX7_cell : MethodName × ByteArray × Nat × Option FieldType := (yX7_cell, cX7_cell, 4, (some .long))
abbrev kX7_copy : MethodName × ByteArray × Nat × Option FieldType := (yX7_copy, cX7_copy, 6, (some .int))
abbrev kX7_tell : MethodName × ByteArray × Nat × Option FieldType := (yX7_tell, cX7_tell, 2, (some .int))
abbrev kX7_haunt : MethodName × ByteArray × Nat × Option FieldType := (yX7_haunt, cX7_haunt, 2, (some .int))
abbrev kX7_as : MethodName × ByteArray × Nat × Option FieldType := (yX7_as, cX7_as, 3, (some .int))
abbrev kX7_trace : MethodName × ByteArray × Nat × Option FieldType := (yX7_trace, cX7_trace, 1, (some .int))
abbrev kX7_fault : MethodName × ByteArray × Nat × Option FieldType := (yX7_fault, cX7_fault, 1, (some .int))
abbrev kX7_many : MethodName × ByteArray × Nat × Option FieldType := (yX7_many, cX7_many, 2, (some .int))
abbrev kX7_begin : MethodName × ByteArray × Nat × Option FieldType := (yX7_begin, cX7_begin, 2, none)
abbrev kX7_roundBody : MethodName × ByteArray × Nat × Option FieldType := (yX7_roundBody, cX7_roundBody, 2, (some .int))
abbrev kX7_longBody : MethodName × ByteArray × Nat × Option FieldType := (yX7_longBody, cX7_longBody, 2, (some .int))
abbrev kX7_ringBody : MethodName × ByteArray × Nat × Option FieldType := (yX7_ringBody, cX7_ringBody, 3, (some .int))
abbrev kX7_lentHaunt : MethodName × ByteArray × Nat × Option FieldType := (yX7_lentHaunt, cX7_lentHaunt, 2, (some .int))
abbrev kX7_ringHaunt : MethodName × ByteArray × Nat × Option FieldType := (yX7_ringHaunt, cX7_ringHaunt, 1, (some .int))
abbrev kX7_isLane : MethodName × ByteArray × Nat × Option FieldType := (yX7_isLane, cX7_isLane, 1, (some .boolean))
abbrev kX7_holdsAs : MethodName × ByteArray × Nat × Option FieldType := (yX7_holdsAs, cX7_holdsAs, 2, (some .int))
abbrev kX7_isNear : MethodName × ByteArray × Nat × Option FieldType := (yX7_isNear, cX7_isNear, 3, (some .boolean))
abbrev kX7_power : MethodName × ByteArray × Nat × Option FieldType := (yX7_power, cX7_power, 6, (some .long))
abbrev kX7_choices : MethodName × ByteArray × Nat × Option FieldType := (yX7_choices, cX7_choices, 5, (some .long))
abbrev kX7_commonPart : MethodName × ByteArray × Nat × Option FieldType := (yX7_commonPart, cX7_commonPart, 11, (some .long))
abbrev kX8_init : MethodName × ByteArray × Nat × Option FieldType := (yX8_init, cX8_init, 1, none)
abbrev kX8_fails : MethodName × ByteArray × Nat × Option FieldType := (yX8_fails, cX8_fails, 2, (some .int))
abbrev kX8_lost : MethodName × ByteArray × Nat × Option FieldType := (yX8_lost, cX8_lost, 2, (some .long))
abbrev kX8_within : MethodName × ByteArray × Nat × Option FieldType := (yX8_within, cX8_within, 3, (some .boolean))
abbrev kX8_isSheet : MethodName × ByteArray × Nat × Option FieldType := (yX8_isSheet, cX8_isSheet, 1, (some .boolean))
abbrev kX8_isSort : MethodName × ByteArray × Nat × Option FieldType := (yX8_isSort, cX8_isSort, 1, (some .boolean))
abbrev kX8_against : MethodName × ByteArray × Nat × Option FieldType := (yX8_against, cX8_against, 5, (some .int))
abbrev kX8_isBarrow : MethodName × ByteArray × Nat × Option FieldType := (yX8_isBarrow, cX8_isBarrow, 2, (some .boolean))
abbrev kX8_isWalker : MethodName × ByteArray × Nat × Option FieldType := (yX8_isWalker, cX8_isWalker, 2, (some .boolean))
abbrev kX8_digit : MethodName × ByteArray × Nat × Option FieldType := (yX8_digit, cX8_digit, 4, (some .int))
abbrev kX8_isSign : MethodName × ByteArray × Nat × Option FieldType := (yX8_isSign, cX8_isSign, 3, (some .boolean))
abbrev kX8_down : MethodName × ByteArray × Nat × Option FieldType := (yX8_down, cX8_down, 7, (some .int))
abbrev kX8_takeDown : MethodName × ByteArray × Nat × Option FieldType := (yX8_takeDown, cX8_takeDown, 2, none)
abbrev kX8_readDown : MethodName × ByteArray × Nat × Option FieldType := (yX8_readDown, cX8_readDown, 2, (some .boolean))
abbrev kX8_readBarrow : MethodName × ByteArray × Nat × Option FieldType := (yX8_readBarrow, cX8_readBarrow, 4, (some .boolean))
abbrev kX8_readWalker : MethodName × ByteArray × Nat × Option FieldType := (yX8_readWalker, cX8_readWalker, 3, (some .boolean))
abbrev kX8_holdsBy : MethodName × ByteArray × Nat × Option FieldType := (yX8_holdsBy, cX8_holdsBy, 2, (some .int))
abbrev kX8_holdsOf : MethodName × ByteArray × Nat × Option FieldType := (yX8_holdsOf, cX8_holdsOf, 2, (some .int))
abbrev kX8_lodgersOf : MethodName × ByteArray × Nat × Option FieldType := (yX8_lodgersOf, cX8_lodgersOf, 4, (some .int))
abbrev kX8_size : MethodName × ByteArray × Nat × Option FieldType := (yX8_size, cX8_size, 3, (some .int))
abbrev kX8_ofBarrow : MethodName × ByteArray × Nat × Option FieldType := (yX8_ofBarrow, cX8_ofBarrow, 3, (some .int))
abbrev kX8_dreamOf : MethodName × ByteArray × Nat × Option FieldType := (yX8_dreamOf, cX8_dreamOf, 3, (some .int))
abbrev kX8_ofWalker : MethodName × ByteArray × Nat × Option FieldType := (yX8_ofWalker, cX8_ofWalker, 3, (some .int))
abbrev kX8_charge : MethodName × ByteArray × Nat × Option FieldType := (yX8_charge, cX8_charge, 4, (some .int))
abbrev kX8_earn : MethodName × ByteArray × Nat × Option FieldType := (yX8_earn, cX8_earn, 4, (some .int))
abbrev kX8_apart : MethodName × ByteArray × Nat × Option FieldType := (yX8_apart, cX8_apart, 2, (some .int))
abbrev kX8_mayGo : MethodName × ByteArray × Nat × Option FieldType := (yX8_mayGo, cX8_mayGo, 3, (some .boolean))
abbrev kX8_doLodge : MethodName × ByteArray × Nat × Option FieldType := (yX8_doLodge, cX8_doLodge, 3, (some .boolean))
abbrev kX8_lodge : MethodName × ByteArray × Nat × Option FieldType := (yX8_lodge, cX8_lodge, 3, (some .int))
abbrev kX8_leave : MethodName × ByteArray × Nat × Option FieldType := (yX8_leave, cX8_leave, 3, (some .int))
abbrev kX8_goNight : MethodName × ByteArray × Nat × Option FieldType := (yX8_goNight, cX8_goNight, 4, (some .int))
abbrev kX8_night : MethodName × ByteArray × Nat × Option FieldType := (yX8_night, cX8_night, 4, (some .int))
abbrev kX8_keep : MethodName × ByteArray × Nat × Option FieldType := (yX8_keep, cX8_keep, 2, none)
abbrev kX8_putBack : MethodName × ByteArray × Nat × Option FieldType := (yX8_putBack, cX8_putBack, 2, none)
abbrev kX8_does : MethodName × ByteArray × Nat × Option FieldType := (yX8_does, cX8_does, 4, (some .boolean))
abbrev kX8_goSeason : MethodName × ByteArray × Nat × Option FieldType := (yX8_goSeason, cX8_goSeason, 4, (some .int))
abbrev kX8_refusesPair : MethodName × ByteArray × Nat × Option FieldType := (yX8_refusesPair, cX8_refusesPair, 3, (some .int))
abbrev kX8_season : MethodName × ByteArray × Nat × Option FieldType := (yX8_season, cX8_season, 10, (some .int))
abbrev kX8_whoLodges : MethodName × ByteArray × Nat × Option FieldType := (yX8_whoLodges, cX8_whoLodges, 3, (some .int))
abbrev kX8_tellSeason : MethodName × ByteArray × Nat × Option FieldType := (yX8_tellSeason, cX8_tellSeason, 4, (some .int))
abbrev kX8_rowsOf : MethodName × ByteArray × Nat × Option FieldType := (yX8_rowsOf, cX8_rowsOf, 3, (some .int))
abbrev kX8_rowOf : MethodName × ByteArray × Nat × Option FieldType := (yX8_rowOf, cX8_rowOf, 4, none)
abbrev kX8_isHeld : MethodName × ByteArray × Nat × Option FieldType := (yX8_isHeld, cX8_isHeld, 4, (some .boolean))
abbrev kX8_canRow : MethodName × ByteArray × Nat × Option FieldType := (yX8_canRow, cX8_canRow, 3, (some .boolean))
abbrev kX8_findHoused : MethodName × ByteArray × Nat × Option FieldType := (yX8_findHoused, cX8_findHoused, 7, none)
abbrev kX8_housed : MethodName × ByteArray × Nat × Option FieldType := (yX8_housed, cX8_housed, 2, (some .int))
abbrev kX8_ploughed : MethodName × ByteArray × Nat × Option FieldType := (yX8_ploughed, cX8_ploughed, 2, (some .int))
abbrev kX8_way : MethodName × ByteArray × Nat × Option FieldType := (yX8_way, cX8_way, 5, (some .int))
abbrev kX8_stepOn : MethodName × ByteArray × Nat × Option FieldType := (yX8_stepOn, cX8_stepOn, 6, none)
abbrev kX8_areDreams : MethodName × ByteArray × Nat × Option FieldType := (yX8_areDreams, cX8_areDreams, 5, (some .boolean))
abbrev kX8_lain : MethodName × ByteArray × Nat × Option FieldType := (yX8_lain, cX8_lain, 9, (some .int))
abbrev kX8_reading : MethodName × ByteArray × Nat × Option FieldType := (yX8_reading, cX8_reading, 4, (some .int))
abbrev kX8_back : MethodName × ByteArray × Nat × Option FieldType := (yX8_back, cX8_back, 2, (some .int))
abbrev kX8_areSo : MethodName × ByteArray × Nat × Option FieldType := (yX8_areSo, cX8_areSo, 3, (some .boolean))
abbrev kX8_rooms : MethodName × ByteArray × Nat × Option FieldType := (yX8_rooms, cX8_rooms, 5, (some .int))
abbrev kX8_kinds : MethodName × ByteArray × Nat × Option FieldType := (yX8_kinds, cX8_kinds, 5, (some .int))
abbrev kX8_inLeastTerms : MethodName × ByteArray × Nat × Option FieldType := (yX8_inLeastTerms, cX8_inLeastTerms, 11, (some .long))
abbrev kX8_odds : MethodName × ByteArray × Nat × Option FieldType := (yX8_odds, cX8_odds, 7, (some .long))
abbrev kX8_sheet : MethodName × ByteArray × Nat × Option FieldType := (yX8_sheet, cX8_sheet, 5, (some .int))
abbrev kX8_lose : MethodName × ByteArray × Nat × Option FieldType := (yX8_lose, cX8_lose, 3, (some .int))
abbrev kX8_put : MethodName × ByteArray × Nat × Option FieldType := (yX8_put, cX8_put, 4, (some .int))
abbrev kX8_cell : MethodName × ByteArray × Nat × Option FieldType := (yX8_cell, cX8_cell, 4, (some .long))
abbrev kX8_copy : MethodName × ByteArray × Nat × Option FieldType := (yX8_copy, cX8_copy, 10, (some .int))
abbrev kX8_begins : MethodName × ByteArray × Nat × Option FieldType := (yX8_begins, cX8_begins, 2, none)
abbrev kX8_tell : MethodName × ByteArray × Nat × Option FieldType := (yX8_tell, cX8_tell, 3, (some .int))
abbrev kX8_haunt : MethodName × ByteArray × Nat × Option FieldType := (yX8_haunt, cX8_haunt, 2, (some .int))
abbrev kX8_as : MethodName × ByteArray × Nat × Option FieldType := (yX8_as, cX8_as, 3, (some .int))
abbrev kX8_trace : MethodName × ByteArray × Nat × Option FieldType := (yX8_trace, cX8_trace, 1, (some .int))
abbrev kX8_fault : MethodName × ByteArray × Nat × Option FieldType := (yX8_fault, cX8_fault, 1, (some .int))
abbrev kX8_many : MethodName × ByteArray × Nat × Option FieldType := (yX8_many, cX8_many, 2, (some .int))
abbrev kJ6_bitCount_0f7a4 : MethodName × ByteArray × Nat × Option FieldType := (yJ6_bitCount_0f7a4, cJ6_bitCount_0f7a4, 1, (some .int))
abbrev kJ9_abs_0f7a4 : MethodName × ByteArray × Nat × Option FieldType := (yJ9_abs_0f7a4, cJ9_abs_0f7a4, 1, (some .int))
abbrev kJ9_max_7cf53 : MethodName × ByteArray × Nat × Option FieldType := (yJ9_max_7cf53, cJ9_max_7cf53, 2, (some .int))
abbrev kJ9_min_7cf53 : MethodName × ByteArray × Nat × Option FieldType := (yJ9_min_7cf53, cJ9_min_7cf53, 2, (some .int))
end
section
/-! THE SMALL MACHINE. The world's cells are numbered 0 .. 68; a reference is its cell's number; mC: a method's contract, mJ: the machine at a place of a method. -/
abbrev mE : Type := (Nat × (Nat → Int32)) ⊕ (Nat × List Value)
abbrev mW : Type := Nat → mE
abbrev mM : Type := MethodName × ByteArray × Nat × Option FieldType
def mUp (w : mW) (i : Nat) (e : mE) : mW := fun j => if j = i then e else w j
def mTr (as : Nat → Nat) : Value → Value
  | .ref i => .ref (as i)
  | v => v
def mTE (cy : ClassId) (as : Nat → Nat) : mE → va_E
  | .inl a => .inl (cy, a.1, .inl a.2)
  | .inr o => .inr (o.1, o.2.map (mTr as))
abbrev mCells : Nat := 69
def mWs (cy : ClassId) (as : Nat → Nat) (w : mW) : va_W := (List.range mCells).map (fun i => (as i, mTE cy as (w i)))
theorem mWs_len (cy : ClassId) (as : Nat → Nat) (w : mW) : (mWs cy as w).length = mCells := by simp [mWs]
theorem mWs_get (cy : ClassId) (as : Nat → Nat) (w : mW) {i : Nat} (h : i < mCells) : (mWs cy as w)[i]? = some (as i, mTE cy as (w i)) := by
  simp [mWs, List.getElem?_map, List.getElem?_range h]
theorem mWs_set (cy : ClassId) (as : Nat → Nat) (w : mW) {i : Nat} (h : i < mCells) (e : mE) : (mWs cy as w).set i (as i, mTE cy as e) = mWs cy as (mUp w i e) := by
  apply List.ext_getElem?
  intro j
  by_cases hj : j < mCells
  · by_cases hij : i = j
    · subst hij
      rw [mWs_get _ _ _ hj, List.getElem?_set_self (by rw [mWs_len]; exact hj)]
      simp [mUp]
    · rw [List.getElem?_set_ne hij, mWs_get _ _ _ hj, mWs_get _ _ _ hj]
      simp [mUp, Ne.symm hij]
  · rw [List.getElem?_eq_none (by rw [List.length_set, mWs_len]; omega), List.getElem?_eq_none (by rw [mWs_len]; omega)]
theorem mTr_cat (as : Nat → Nat) (v : Value) : (mTr as v).category = v.category := by cases v <;> rfl
-- words
def mTT : List Cond := lw_tbl.filter goodWord
theorem mTT_mem {w : Cond} (h : w ∈ lw_tbl) (g : goodWord w = true) : w ∈ mTT := List.mem_filter.mpr ⟨h, g⟩
def mNest : Cond → Bool
  | .fieldLinkNest .. => true
  | .methodLinkNest .. => true
  | _ => false
def mNW (U : State) : Prop := ∀ w ∈ lw_tbl, mNest w = true → va_Nw w U
theorem mNW.warm {s U : State} (hW : s.WarmedH U.vm) (h : mNW s) : mNW U := by
  intro w hw hn
  cases w <;> first | exact va_Nw.warmF hW (h _ hw hn) | exact va_Nw.warmM hW (h _ hw hn) | cases hn
theorem mNW.same {u U : State} (hv : u.vm = U.vm) (h : mNW u) : mNW U := by
  intro w hw hn
  cases w <;> first | exact va_Nw.same rfl hv (h _ hw hn) | cases hn
def mWd (M : mM) : List Cond := Cond.code M.1 M.2.1 M.2.2.1 M.2.2.2 :: mTT
def mOK (M : mM) : Prop := Cond.code M.1 M.2.1 M.2.2.1 M.2.2.2 ∈ lw_tbl ∧ plainName M.1.cls = true ∧ Cond.initialized M.1.cls ∈ lw_tbl ∧ (M.1.cls ≠ "java/lang/invoke/MethodHandle" ∧ M.1.cls ≠ "java/lang/invoke/VarHandle") ∧ M.2.2.1 ≤ 20
theorem mGood {M' : mM} (h : mOK M') : GoodIn mTT (mWd M') := by
  intro w hw
  rcases List.mem_cons.mp hw with rfl | hw
  · exact ⟨mTT_mem h.1 rfl, Or.inl rfl⟩
  · exact ⟨hw, good_of_word (List.mem_filter.mp hw).2⟩
def mRm (d : Nat) : Room := { frames := d, cells := 0, slots := 0, locals := 40 * d }
-- contracts
def mPre (D : va_G) (cy : ClassId) (as : Nat → Nat) (sz : Nat) (w : mW) (U : State) : Prop := U.heap.size = sz ∧ va_P D vwCl (mWs cy as w) U.heap ∧ va_K D vwCl [(cy, .int)] U ∧ va_D (fun _ => True) (mWs cy as w) ∧ mNW U
def mB (D : va_G) (cy : ClassId) (as : Nat → Nat) (A : Nat → Prop) (w : mW) (t : State) : Prop := va_P D vwCl (mWs cy as w) t.heap ∧ va_K D vwCl [(cy, .int)] t ∧ va_D A (mWs cy as w)
def mQc (Q : Option Value → mW → Prop) (D : va_G) (cy : ClassId) (as : Nat → Nat) (A : Nat → Prop) : Array Value → State → Outcome → State → Prop := fun _ st oc t => (∃ (v : Option Value) (w : mW), oc = .returned (v.map (mTr as)) ∧ Q v w ∧ mB D cy as A w t) ∧ va_F A st t
def mC (d : Nat) (M : mM) (av : List Value) (w : mW) (Q : Option Value → mW → Prop) : Prop :=
  ∀ (l : Launch) (D : va_G) (cy : ClassId) (as : Nat → Nat) (sz : Nat), Met l M.1 (mWd M) (mRm d) (va_Pc (av.map (mTr as)) (mPre D cy as sz w)) (mQc Q D cy as (va_A (mWs cy as w) sz)) 0 0 (va_A (mWs cy as w) sz)
-- locals
def mLoc (as : Nat → Nat) (ls : Array Slot) (nL : Nat) (L : List Value) : Prop := ls.size = nL ∧ lv_wf ls ∧ ∀ (i : Nat) (v : Value), L[i]? = some v → v ≠ .null → ls[i]? = some (.val (mTr as v))
def mVal (j : Nat) : Option Slot → Option (Nat × Value)
  | some (.val v) => some (j, v)
  | _ => none
def mAll (ls : Array Slot) : List (Nat × Value) := (List.range ls.size).filterMap (fun j => mVal j ls[j]?)
theorem mAll_mem {ls : Array Slot} {j : Nat} {v : Value} : (j, v) ∈ mAll ls ↔ ls[j]? = some (.val v) := by
  unfold mAll
  rw [List.mem_filterMap]
  constructor
  · rintro ⟨i, _, h⟩
    unfold mVal at h
    split at h
    · rename_i v' hv'
      cases h
      exact hv'
    · cases h
  · intro h
    exact ⟨j, List.mem_range.mpr (lv_lt h), by rw [h]; rfl⟩
theorem mLoc.has {as : Nat → Nat} {ls : Array Slot} {nL : Nat} {L : List Value} (h : mLoc as ls nL L) : lv_has ls nL (mAll ls) := ⟨h.1, h.2.1, fun q hq => mAll_mem.mp hq⟩
def mClr (L : List Value) (i : Nat) : List Value := match i with
  | 0 => L
  | j + 1 => match L[j]? with
    | some (.long _) => L.set j .null
    | some (.double _) => L.set j .null
    | _ => L
theorem mClr_get {L : List Value} {i j : Nat} {u : Value} (h : (mClr L i)[j]? = some u) (hu : u ≠ .null) : L[j]? = some u ∧ ¬ (j + 1 = i ∧ u.category = 2) := by
  cases i with
  | zero => exact ⟨h, fun q => by omega⟩
  | succ k =>
    unfold mClr at h
    simp only at h
    by_cases hjk : j = k
    · subst hjk
      split at h
      · rw [List.getElem?_set_self'] at h
        cases hq : L[j]? with
        | none => rw [hq] at h; cases h
        | some z => rw [hq] at h; exact absurd (Option.some.inj h).symm hu
      · rw [List.getElem?_set_self'] at h
        cases hq : L[j]? with
        | none => rw [hq] at h; cases h
        | some z => rw [hq] at h; exact absurd (Option.some.inj h).symm hu
      · rename_i h1 h2
        refine ⟨h, fun q => ?_⟩
        cases u with
        | long x => exact h1 _ h
        | double x => exact h2 _ h
        | _ => exact absurd q.2 (by simp [Value.category])
    · have hne : ¬ (j + 1 = k + 1 ∧ u.category = 2) := fun q => hjk (by omega)
      split at h
      · rw [List.getElem?_set_ne (Ne.symm hjk)] at h; exact ⟨h, hne⟩
      · rw [List.getElem?_set_ne (Ne.symm hjk)] at h; exact ⟨h, hne⟩
      · exact ⟨h, hne⟩
theorem mSet_get {L : List Value} {i j : Nat} {v u : Value} (h : (L.set i v)[j]? = some u) : (j = i ∧ u = v) ∨ (j ≠ i ∧ L[j]? = some u) := by
  by_cases hji : j = i
  · subst hji
    rw [List.getElem?_set_self'] at h
    cases hq : L[j]? with
    | none => rw [hq] at h; cases h
    | some z => rw [hq] at h; exact Or.inl ⟨rfl, (Option.some.inj h).symm⟩
  · rw [List.getElem?_set_ne (Ne.symm hji)] at h
    exact Or.inr ⟨hji, h⟩
theorem mLoc.st1 {as : Nat → Nat} {ls ls' : Array Slot} {nL : Nat} {L : List Value} {i : Nat} {v : Value} (h : mLoc as ls nL L) (h' : lv_has ls' nL ((i, mTr as v) :: (mAll ls).filter (fun q => !(q.1 == i) && !(q.1 + 1 == i && q.2.category == 2)))) : mLoc as ls' nL ((mClr L i).set i v) := by
  refine ⟨h'.1, h'.2.1, fun j u hj hu => ?_⟩
  rcases mSet_get hj with ⟨rfl, rfl⟩ | ⟨hji, hj⟩
  · exact h'.2.2 _ List.mem_cons_self
  · obtain ⟨h1, h2⟩ := mClr_get hj hu
    refine h'.2.2 (j, mTr as u) (List.mem_cons_of_mem _ (List.mem_filter.mpr ⟨mAll_mem.mpr (h.2.2 j u h1 hu), ?_⟩))
    simp only [Bool.and_eq_true, Bool.not_eq_true', beq_eq_false_iff_ne, ne_eq, Bool.and_eq_false_iff, mTr_cat]
    refine ⟨hji, ?_⟩
    by_cases hq : j + 1 = i
    · exact Or.inr fun q => h2 ⟨hq, q⟩
    · exact Or.inl hq
theorem mLoc.st2 {as : Nat → Nat} {ls ls' : Array Slot} {nL : Nat} {L : List Value} {i : Nat} {v : Value} (h : mLoc as ls nL L) (h' : lv_has ls' nL ((i, mTr as v) :: (mAll ls).filter (fun q => !(q.1 == i) && (!(q.1 == i + 1) && !(q.1 + 1 == i && q.2.category == 2))))) : mLoc as ls' nL (((mClr L i).set (i + 1) .null).set i v) := by
  refine ⟨h'.1, h'.2.1, fun j u hj hu => ?_⟩
  rcases mSet_get hj with ⟨rfl, rfl⟩ | ⟨hji, hj⟩
  · exact h'.2.2 _ List.mem_cons_self
  · rcases mSet_get hj with ⟨rfl, rfl⟩ | ⟨hji2, hj⟩
    · exact absurd rfl hu
    · obtain ⟨h1, h2⟩ := mClr_get hj hu
      refine h'.2.2 (j, mTr as u) (List.mem_cons_of_mem _ (List.mem_filter.mpr ⟨mAll_mem.mpr (h.2.2 j u h1 hu), ?_⟩))
      simp only [Bool.and_eq_true, Bool.not_eq_true', beq_eq_false_iff_ne, ne_eq, Bool.and_eq_false_iff, mTr_cat]
      refine ⟨hji, hji2, ?_⟩
      by_cases hq : j + 1 = i
      · exact Or.inr fun q => h2 ⟨hq, q⟩
      · exact Or.inl hq
def mEnt : List Value → List Value
  | [] => []
  | v :: vs => if v.category = 2 then v :: .null :: mEnt vs else v :: mEnt vs
theorem mEnt_args (as : Nat → Nat) : ∀ (av : List Value) (k i : Nat) (v : Value), (mEnt av)[i]? = some v → v ≠ .null → (k + i, mTr as v) ∈ lv_args k (av.map (mTr as))
  | [], k, i, v, h, _ => by cases h
  | a :: av, k, i, v, h, hv => by
    unfold mEnt at h
    simp only [List.map_cons, lv_args, mTr_cat]
    split at h
    · rename_i hc
      rw [if_pos hc]
      match i, h with
      | 0, h => cases h; exact List.mem_cons_self
      | 1, h => cases h; exact absurd rfl hv
      | i + 2, h =>
        have := mEnt_args as av (k + 2) i v h hv
        rw [show k + (i + 2) = k + 2 + i by omega]
        exact List.mem_cons_of_mem _ this
    · rename_i hc
      rw [if_neg hc]
      match i, h with
      | 0, h => cases h; exact List.mem_cons_self
      | i + 1, h =>
        have := mEnt_args as av (k + 1) i v h hv
        rw [show k + (i + 1) = k + 1 + i by omega]
        exact List.mem_cons_of_mem _ this
theorem mSl_len (as : Nat → Nat) : ∀ av : List Value, (lg_sl (av.map (mTr as))).length = (mEnt av).length
  | [] => rfl
  | a :: av => by
    have ih := mSl_len as av
    unfold lg_sl at ih ⊢
    simp only [List.map_cons, List.flatMap_cons, List.length_append, mTr_cat, ih, mEnt]
    split <;> simp [Nat.add_comm] <;> omega
-- the machine at a place of a method
def mCx (d : Nat) (M : mM) (p : Program) (R : Room) (s : State) (m : MethodId) (args : Array Value) (c : Code) (D : va_G) (cy : ClassId) (A : Nat → Prop) (H0 : Heap) (cells slots : Nat) : Prop :=
  p.tables.exec = Jvm.exec ∧ c.code = M.2.1 ∧ c.maxLocals = M.2.2.1 ∧ s.vm.findClass M.1.cls = some m.cls ∧ (∀ w ∈ mTT, w.before args s = true) ∧ mNW s ∧ va_K D vwCl [(cy, .int)] s ∧ (∀ q, H0.size ≤ q → A q) ∧ d ≤ R.frames ∧ 40 * d ≤ R.locals ∧ cells ≤ R.cells ∧ slots ≤ R.slots
def mRet (M : mM) (pc : Nat) (v : Option Value) : Prop := match v with
  | none => decode M.2.1 pc = .ok (.return_, 1) ∧ M.2.2.2 = none
  | some (.int x) => decode M.2.1 pc = .ok (.ireturn, 1) ∧ ∃ ty, M.2.2.2 = some ty ∧ narrow ty (.int x) = .int x
  | some (.long _) => decode M.2.1 pc = .ok (.lreturn, 1) ∧ M.2.2.2 = some .long
  | _ => False
abbrev mX : Type := State → Heap → (Nat → Prop) → (Nat → Nat) → Prop
def mX0 : mX := fun _ _ _ _ => True
def mJ (X : mX) (d : Nat) (M : mM) (Q : Option Value → mW → Prop) (pc : Nat) (L st : List Value) (w : mW) : Prop :=
  ∀ (p : Program) (l : Launch) (e : Env) (R : Room) (s : State) (m : MethodId) (args : Array Value) (below : List Frame) (meth : Method) (c : Code) (D : va_G) (cy : ClassId) (as : Nat → Nat) (A : Nat → Prop) (H0 : Heap) (cells slots : Nat) (Z : State → Prop),
    mCx d M p R s m args c D cy A H0 cells slots → X s H0 A as →
    (∀ (v : Option Value) (w' : mW) (H : Heap) (locs : List Loc) (ls : Array Slot) (pc : Nat), Q v w' → va_P D vwCl (mWs cy as w') H → va_D A (mWs cy as w') → va_S A H0 H locs → mRet M pc v → W p l e R s m args below meth c H locs cells slots Z (F0 m pc ls (v.toList.map (mTr as)))) →
    ∀ (H : Heap) (locs : List Loc) (ls : Array Slot), va_P D vwCl (mWs cy as w) H → va_D A (mWs cy as w) → va_S A H0 H locs → mLoc as ls M.2.2.1 L → W p l e R s m args below meth c H locs cells slots Z (F0 m pc ls (st.map (mTr as)))
theorem mJ.mono {X : mX} {d : Nat} {M : mM} {Q Q' : Option Value → mW → Prop} {pc : Nat} {L st : List Value} {w : mW} (h : mJ X d M Q pc L st w) (hq : ∀ v w', Q v w' → Q' v w') : mJ X d M Q' pc L st w :=
  fun p l e R s m args below meth c D cy as A H0 cells slots Z hC hX hE H locs ls hP hD hS hl => h p l e R s m args below meth c D cy as A H0 cells slots Z hC hX (fun v w' H locs ls pc hv => hE v w' H locs ls pc (hq v w' hv)) H locs ls hP hD hS hl
theorem mC.mono {d : Nat} {M : mM} {av : List Value} {w : mW} {Q Q' : Option Value → mW → Prop} (h : mC d M av w Q) (hq : ∀ v w', Q v w' → Q' v w') : mC d M av w Q' := by
  intro l D cy as sz p e ha hc hk s m args below hf h1 hP hT
  obtain ⟨k, o, h2, h3, h4, ⟨⟨⟨v, w', e1, e2, e3⟩, e4⟩, e5⟩⟩ := h l D cy as sz p e ha hc hk s m args below hf h1 hP hT
  exact ⟨k, o, h2, h3, h4, ⟨⟨⟨v, w', e1, hq v w' e2, e3⟩, e4⟩, e5⟩⟩
set_option maxHeartbeats 1000000 in
theorem mC.of {d : Nat} {M : mM} {av : List Value} {w : mW} {Q : Option Value → mW → Prop} {L : List Value} (hOK : mOK M) (k : Nat) (hL : mEnt av ++ List.replicate k .null = L) (hn : L.length = M.2.2.1) (h : mJ mX0 d M Q 0 L [] w) : mC d M av w Q := by
  intro l D cy as sz
  refine Met.ofW (cc := M.2.1) (maxL := M.2.2.1) (ret := M.2.2.2) hOK.2.1 rfl ?_
  intro p e s m args below meth c s₁ B hml hv
  obtain ⟨rfl, hsz, hP, hK, hD0, hN⟩ := hv
  have hts := atoms_spec (ws := mWd M) B.pre
  have hown : s.vm.findClass M.1.cls = some m.cls := findClass_of_methodNamed B.named
  have hlocks := B.notSynchronized
  subst hsz
  have hD := hD0.self (sz := s.heap.size)
  have hA : ∀ q : Nat, s.heap.size ≤ q → va_A (mWs cy as w) s.heap.size q := fun q h => Or.inr h
  have hS : va_S (va_A (mWs cy as w) s.heap.size) s.heap s.heap [] := va_S.rf
  have hlen : (lg_sl (av.map (mTr as))).length ≤ M.2.2.1 := by
    rw [mSl_len, ← hn, ← hL, List.length_append]; omega
  have hl := lv_entry (av.map (mTr as)) hlen
  rw [lg_entry_eq]
  generalize (lg_sl (av.map (mTr as)) ++ List.replicate (M.2.2.1 - (lg_sl (av.map (mTr as))).length) Slot.unset).toArray = ls at hl ⊢
  refine h p l e (headSpec (mWd M) (mRm d)).room s m _ below meth c D cy as (va_A (mWs cy as w) s.heap.size) s.heap 0 0 _ ⟨B.exec, B.bytes, hml, hown, fun w hw => hts w (List.mem_cons_of_mem _ hw), hN, hK, hA, Nat.le_refl _, Nat.le_refl _, Nat.zero_le _, Nat.zero_le _⟩ trivial ?_ s.heap [] ls hP hD hS ⟨hl.1, hl.2.1, fun i v hi hv => ?_⟩
  · intro v w' H locs ls pc hq hP hD hS hr
    have hfin : ∀ t : State, t.heap = H → s.WarmedH t.vm → mQc Q D cy as (va_A (mWs cy as w) s.heap.size) (av.map (mTr as)).toArray s (.returned (v.map (mTr as))) t := fun t ht hW => ⟨⟨v, w', rfl, hq, by rw [ht]; exact hP, va_K.moved hW.alike hK, hD⟩, hS.F ht⟩
    match v, hr, hfin with
    | none, hr, hfin => exact W.vret B.exec B.bytes (B.returns.trans hr.2) hfin hS.2.2 hr.1 hlocks
    | some (.int x), hr, hfin =>
      obtain ⟨h1, ty, h2, h3⟩ := hr
      exact W.zret B.exec B.bytes (B.returns.trans h2) h3 hfin hS.2.2 h1 hlocks
    | some (.long x), hr, hfin => exact W.lret B.exec B.bytes (B.returns.trans hr.2) hfin hS.2.2 hr.1 hlocks
  · have h1 : (mEnt av)[i]? = some v := by
      rw [← hL] at hi
      by_cases hb : i < (mEnt av).length
      · rwa [List.getElem?_append_left hb] at hi
      · rw [List.getElem?_append_right (by omega)] at hi
        have := List.mem_of_getElem? hi
        exact absurd (List.eq_of_mem_replicate this) hv
    have h2 := mEnt_args as av 0 i v h1 hv
    rw [Nat.zero_add] at h2
    exact hl.2.2 _ h2
theorem x_iconst {X : mX} {d : Nat} {M : mM} {Q : Option Value → mW → Prop} {pc : Nat} {L st : List Value} {w : mW} {n : Int} {v : Int32} (hd : decode M.2.1 pc = .ok (.iconst n, 1)) (hv : Int32.ofInt n = v) (k : mJ X d M Q (pc + 1) L (.int v :: st) w) : mJ X d M Q pc L (st) w := fun p l e R s m args below meth c D cy as A H0 cells slots Z hC hX hE H locs ls hP hD hS hl => lv_iconst hC.1 hC.2.1 hd hv (k p l e R s m args below meth c D cy as A H0 cells slots Z hC hX hE H locs ls hP hD hS hl)
theorem x_bipush {X : mX} {d : Nat} {M : mM} {Q : Option Value → mW → Prop} {pc : Nat} {L st : List Value} {w : mW} {n : Int} {v : Int32} (hd : decode M.2.1 pc = .ok (.bipush n, 2)) (hv : (Int8.ofInt n).toInt32 = v) (k : mJ X d M Q (pc + 2) L (.int v :: st) w) : mJ X d M Q pc L (st) w := fun p l e R s m args below meth c D cy as A H0 cells slots Z hC hX hE H locs ls hP hD hS hl => lv_bipush hC.1 hC.2.1 hd hv (k p l e R s m args below meth c D cy as A H0 cells slots Z hC hX hE H locs ls hP hD hS hl)
theorem x_sipush {X : mX} {d : Nat} {M : mM} {Q : Option Value → mW → Prop} {pc : Nat} {L st : List Value} {w : mW} {n : Int} {v : Int32} (hd : decode M.2.1 pc = .ok (.sipush n, 3)) (hv : (Int16.ofInt n).toInt32 = v) (k : mJ X d M Q (pc + 3) L (.int v :: st) w) : mJ X d M Q pc L (st) w := fun p l e R s m args below meth c D cy as A H0 cells slots Z hC hX hE H locs ls hP hD hS hl => lv_sipush hC.1 hC.2.1 hd hv (k p l e R s m args below meth c D cy as A H0 cells slots Z hC hX hE H locs ls hP hD hS hl)
theorem x_lconst {X : mX} {d : Nat} {M : mM} {Q : Option Value → mW → Prop} {pc : Nat} {L st : List Value} {w : mW} {n : Fin 2} {v : Int64} (hd : decode M.2.1 pc = .ok (.lconst n, 1)) (hv : Int64.ofNat (n : Nat) = v) (k : mJ X d M Q (pc + 1) L (.long v :: st) w) : mJ X d M Q pc L (st) w := fun p l e R s m args below meth c D cy as A H0 cells slots Z hC hX hE H locs ls hP hD hS hl => lv_lconst hC.1 hC.2.1 hd hv (k p l e R s m args below meth c D cy as A H0 cells slots Z hC hX hE H locs ls hP hD hS hl)
theorem x_iload_n {X : mX} {d : Nat} {M : mM} {Q : Option Value → mW → Prop} {pc : Nat} {L st : List Value} {w : mW} {j : Fin 4} {i : Nat} {x : Int32} (hd : decode M.2.1 pc = .ok (.iload_n j, 1)) (hi : (j : Nat) = i) (hx : L[i]? = some (.int x)) (k : mJ X d M Q (pc + 1) L (.int x :: st) w) : mJ X d M Q pc L (st) w := fun p l e R s m args below meth c D cy as A H0 cells slots Z hC hX hE H locs ls hP hD hS hl => lv_iload_n hC.1 hC.2.1 hd hi (hl.2.2 _ _ hx (fun q => by cases q)) (k p l e R s m args below meth c D cy as A H0 cells slots Z hC hX hE H locs ls hP hD hS hl)
theorem x_iload {X : mX} {d : Nat} {M : mM} {Q : Option Value → mW → Prop} {pc : Nat} {L st : List Value} {w : mW} {i : Nat} {x : Int32} (hd : decode M.2.1 pc = .ok (.iload i, 2)) (hx : L[i]? = some (.int x)) (k : mJ X d M Q (pc + 2) L (.int x :: st) w) : mJ X d M Q pc L (st) w := fun p l e R s m args below meth c D cy as A H0 cells slots Z hC hX hE H locs ls hP hD hS hl => lv_iload hC.1 hC.2.1 hd (hl.2.2 _ _ hx (fun q => by cases q)) (k p l e R s m args below meth c D cy as A H0 cells slots Z hC hX hE H locs ls hP hD hS hl)
theorem x_lload_n {X : mX} {d : Nat} {M : mM} {Q : Option Value → mW → Prop} {pc : Nat} {L st : List Value} {w : mW} {j : Fin 4} {i : Nat} {x : Int64} (hd : decode M.2.1 pc = .ok (.lload_n j, 1)) (hi : (j : Nat) = i) (hx : L[i]? = some (.long x)) (k : mJ X d M Q (pc + 1) L (.long x :: st) w) : mJ X d M Q pc L (st) w := fun p l e R s m args below meth c D cy as A H0 cells slots Z hC hX hE H locs ls hP hD hS hl => lv_lload_n hC.1 hC.2.1 hd hi (hl.2.2 _ _ hx (fun q => by cases q)) (k p l e R s m args below meth c D cy as A H0 cells slots Z hC hX hE H locs ls hP hD hS hl)
theorem x_lload {X : mX} {d : Nat} {M : mM} {Q : Option Value → mW → Prop} {pc : Nat} {L st : List Value} {w : mW} {i : Nat} {x : Int64} (hd : decode M.2.1 pc = .ok (.lload i, 2)) (hx : L[i]? = some (.long x)) (k : mJ X d M Q (pc + 2) L (.long x :: st) w) : mJ X d M Q pc L (st) w := fun p l e R s m args below meth c D cy as A H0 cells slots Z hC hX hE H locs ls hP hD hS hl => lv_lload hC.1 hC.2.1 hd (hl.2.2 _ _ hx (fun q => by cases q)) (k p l e R s m args below meth c D cy as A H0 cells slots Z hC hX hE H locs ls hP hD hS hl)
theorem x_aload_n {X : mX} {d : Nat} {M : mM} {Q : Option Value → mW → Prop} {pc : Nat} {L st : List Value} {w : mW} {j : Fin 4} {i : Nat} {x : Nat} (hd : decode M.2.1 pc = .ok (.aload_n j, 1)) (hi : (j : Nat) = i) (hx : L[i]? = some (.ref x)) (k : mJ X d M Q (pc + 1) L (.ref x :: st) w) : mJ X d M Q pc L (st) w := fun p l e R s m args below meth c D cy as A H0 cells slots Z hC hX hE H locs ls hP hD hS hl => lv_aload_n hC.1 hC.2.1 hd hi (x := as x) (hl.2.2 _ _ hx (fun q => by cases q)) (k p l e R s m args below meth c D cy as A H0 cells slots Z hC hX hE H locs ls hP hD hS hl)
theorem x_aload {X : mX} {d : Nat} {M : mM} {Q : Option Value → mW → Prop} {pc : Nat} {L st : List Value} {w : mW} {i : Nat} {x : Nat} (hd : decode M.2.1 pc = .ok (.aload i, 2)) (hx : L[i]? = some (.ref x)) (k : mJ X d M Q (pc + 2) L (.ref x :: st) w) : mJ X d M Q pc L (st) w := fun p l e R s m args below meth c D cy as A H0 cells slots Z hC hX hE H locs ls hP hD hS hl => lv_aload hC.1 hC.2.1 hd (x := as x) (hl.2.2 _ _ hx (fun q => by cases q)) (k p l e R s m args below meth c D cy as A H0 cells slots Z hC hX hE H locs ls hP hD hS hl)
theorem x_istore_n {X : mX} {d : Nat} {M : mM} {Q : Option Value → mW → Prop} {pc : Nat} {L st : List Value} {w : mW} {j : Fin 4} {i : Nat} {x : Int32} {L' : List Value} (hd : decode M.2.1 pc = .ok (.istore_n j, 1)) (hi : (j : Nat) = i) (hn : i < M.2.2.1) (hL : (mClr L i).set i (.int x) = L') (k : mJ X d M Q (pc + 1) L' st w) : mJ X d M Q pc L (.int x :: st) w := fun p l e R s m args below meth c D cy as A H0 cells slots Z hC hX hE H locs ls hP hD hS hl => lv_istore_n hC.1 hC.2.1 hd hi hl.has hn rfl (fun ls2 h2 => k p l e R s m args below meth c D cy as A H0 cells slots Z hC hX hE H locs ls2 hP hD hS (hL ▸ hl.st1 (v := .int x) h2))
theorem x_istore {X : mX} {d : Nat} {M : mM} {Q : Option Value → mW → Prop} {pc : Nat} {L st : List Value} {w : mW} {i : Nat} {x : Int32} {L' : List Value} (hd : decode M.2.1 pc = .ok (.istore i, 2)) (hn : i < M.2.2.1) (hL : (mClr L i).set i (.int x) = L') (k : mJ X d M Q (pc + 2) L' st w) : mJ X d M Q pc L (.int x :: st) w := fun p l e R s m args below meth c D cy as A H0 cells slots Z hC hX hE H locs ls hP hD hS hl => lv_istore hC.1 hC.2.1 hd hl.has hn rfl (fun ls2 h2 => k p l e R s m args below meth c D cy as A H0 cells slots Z hC hX hE H locs ls2 hP hD hS (hL ▸ hl.st1 (v := .int x) h2))
theorem x_lstore_n {X : mX} {d : Nat} {M : mM} {Q : Option Value → mW → Prop} {pc : Nat} {L st : List Value} {w : mW} {j : Fin 4} {i : Nat} {x : Int64} {L' : List Value} (hd : decode M.2.1 pc = .ok (.lstore_n j, 1)) (hi : (j : Nat) = i) (hn : i + 1 < M.2.2.1) (hL : ((mClr L i).set (i + 1) .null).set i (.long x) = L') (k : mJ X d M Q (pc + 1) L' st w) : mJ X d M Q pc L (.long x :: st) w := fun p l e R s m args below meth c D cy as A H0 cells slots Z hC hX hE H locs ls hP hD hS hl => lv_lstore_n hC.1 hC.2.1 hd hi hl.has hn rfl (fun ls2 h2 => k p l e R s m args below meth c D cy as A H0 cells slots Z hC hX hE H locs ls2 hP hD hS (hL ▸ hl.st2 (v := .long x) h2))
theorem x_lstore {X : mX} {d : Nat} {M : mM} {Q : Option Value → mW → Prop} {pc : Nat} {L st : List Value} {w : mW} {i : Nat} {x : Int64} {L' : List Value} (hd : decode M.2.1 pc = .ok (.lstore i, 2)) (hn : i + 1 < M.2.2.1) (hL : ((mClr L i).set (i + 1) .null).set i (.long x) = L') (k : mJ X d M Q (pc + 2) L' st w) : mJ X d M Q pc L (.long x :: st) w := fun p l e R s m args below meth c D cy as A H0 cells slots Z hC hX hE H locs ls hP hD hS hl => lv_lstore hC.1 hC.2.1 hd hl.has hn rfl (fun ls2 h2 => k p l e R s m args below meth c D cy as A H0 cells slots Z hC hX hE H locs ls2 hP hD hS (hL ▸ hl.st2 (v := .long x) h2))
theorem x_iinc {X : mX} {d : Nat} {M : mM} {Q : Option Value → mW → Prop} {pc : Nat} {L st : List Value} {w : mW} {i : Nat} {n : Int} {x v : Int32} {L' : List Value} (hd : decode M.2.1 pc = .ok (.iinc i n, 3)) (hn : i < M.2.2.1) (hx : L[i]? = some (.int x)) (hv : x + Int32.ofInt n = v) (hL : (mClr L i).set i (.int v) = L') (k : mJ X d M Q (pc + 3) L' st w) : mJ X d M Q pc L st w := fun p l e R s m args below meth c D cy as A H0 cells slots Z hC hX hE H locs ls hP hD hS hl => by
  obtain ⟨k0, hk0⟩ := List.getElem?_of_mem (mAll_mem.mpr (hl.2.2 _ _ hx (fun q => by cases q)))
  exact lv_iinc hC.1 hC.2.1 hd hl.has hk0 hv hn rfl (fun ls2 h2 => k p l e R s m args below meth c D cy as A H0 cells slots Z hC hX hE H locs ls2 hP hD hS (hL ▸ hl.st1 (v := .int v) h2))
theorem x_iadd {X : mX} {d : Nat} {M : mM} {Q : Option Value → mW → Prop} {pc : Nat} {L st : List Value} {w : mW} {a b : Int32} (hd : decode M.2.1 pc = .ok (.iadd, 1))  (k : mJ X d M Q (pc + 1) L (.int (a + b) :: st) w) : mJ X d M Q pc L (.int b :: .int a :: st) w := fun p l e R s m args below meth c D cy as A H0 cells slots Z hC hX hE H locs ls hP hD hS hl => lv_iadd hC.1 hC.2.1 hd  (k p l e R s m args below meth c D cy as A H0 cells slots Z hC hX hE H locs ls hP hD hS hl)
theorem x_isub {X : mX} {d : Nat} {M : mM} {Q : Option Value → mW → Prop} {pc : Nat} {L st : List Value} {w : mW} {a b : Int32} (hd : decode M.2.1 pc = .ok (.isub, 1))  (k : mJ X d M Q (pc + 1) L (.int (a - b) :: st) w) : mJ X d M Q pc L (.int b :: .int a :: st) w := fun p l e R s m args below meth c D cy as A H0 cells slots Z hC hX hE H locs ls hP hD hS hl => lv_isub hC.1 hC.2.1 hd  (k p l e R s m args below meth c D cy as A H0 cells slots Z hC hX hE H locs ls hP hD hS hl)
theorem x_imul {X : mX} {d : Nat} {M : mM} {Q : Option Value → mW → Prop} {pc : Nat} {L st : List Value} {w : mW} {a b : Int32} (hd : decode M.2.1 pc = .ok (.imul, 1))  (k : mJ X d M Q (pc + 1) L (.int (a * b) :: st) w) : mJ X d M Q pc L (.int b :: .int a :: st) w := fun p l e R s m args below meth c D cy as A H0 cells slots Z hC hX hE H locs ls hP hD hS hl => lv_imul hC.1 hC.2.1 hd  (k p l e R s m args below meth c D cy as A H0 cells slots Z hC hX hE H locs ls hP hD hS hl)
theorem x_iand {X : mX} {d : Nat} {M : mM} {Q : Option Value → mW → Prop} {pc : Nat} {L st : List Value} {w : mW} {a b : Int32} (hd : decode M.2.1 pc = .ok (.iand, 1))  (k : mJ X d M Q (pc + 1) L (.int (a &&& b) :: st) w) : mJ X d M Q pc L (.int b :: .int a :: st) w := fun p l e R s m args below meth c D cy as A H0 cells slots Z hC hX hE H locs ls hP hD hS hl => lv_iand hC.1 hC.2.1 hd  (k p l e R s m args below meth c D cy as A H0 cells slots Z hC hX hE H locs ls hP hD hS hl)
theorem x_ior {X : mX} {d : Nat} {M : mM} {Q : Option Value → mW → Prop} {pc : Nat} {L st : List Value} {w : mW} {a b : Int32} (hd : decode M.2.1 pc = .ok (.ior, 1))  (k : mJ X d M Q (pc + 1) L (.int (a ||| b) :: st) w) : mJ X d M Q pc L (.int b :: .int a :: st) w := fun p l e R s m args below meth c D cy as A H0 cells slots Z hC hX hE H locs ls hP hD hS hl => lv_ior hC.1 hC.2.1 hd  (k p l e R s m args below meth c D cy as A H0 cells slots Z hC hX hE H locs ls hP hD hS hl)
theorem x_ishl {X : mX} {d : Nat} {M : mM} {Q : Option Value → mW → Prop} {pc : Nat} {L st : List Value} {w : mW} {a b : Int32} (hd : decode M.2.1 pc = .ok (.ishl, 1))  (k : mJ X d M Q (pc + 1) L (.int (a <<< (b &&& 31)) :: st) w) : mJ X d M Q pc L (.int b :: .int a :: st) w := fun p l e R s m args below meth c D cy as A H0 cells slots Z hC hX hE H locs ls hP hD hS hl => lv_ishl hC.1 hC.2.1 hd  (k p l e R s m args below meth c D cy as A H0 cells slots Z hC hX hE H locs ls hP hD hS hl)
theorem x_ishr {X : mX} {d : Nat} {M : mM} {Q : Option Value → mW → Prop} {pc : Nat} {L st : List Value} {w : mW} {a b : Int32} (hd : decode M.2.1 pc = .ok (.ishr, 1))  (k : mJ X d M Q (pc + 1) L (.int (a >>> (b &&& 31)) :: st) w) : mJ X d M Q pc L (.int b :: .int a :: st) w := fun p l e R s m args below meth c D cy as A H0 cells slots Z hC hX hE H locs ls hP hD hS hl => lv_ishr hC.1 hC.2.1 hd  (k p l e R s m args below meth c D cy as A H0 cells slots Z hC hX hE H locs ls hP hD hS hl)
theorem x_iushr {X : mX} {d : Nat} {M : mM} {Q : Option Value → mW → Prop} {pc : Nat} {L st : List Value} {w : mW} {a b v : Int32} (hd : decode M.2.1 pc = .ok (.iushr, 1)) (hv : (a.toUInt32 >>> (b.toUInt32 &&& Int32.toUInt32 31)).toInt32 = v) (k : mJ X d M Q (pc + 1) L (.int v :: st) w) : mJ X d M Q pc L (.int b :: .int a :: st) w := fun p l e R s m args below meth c D cy as A H0 cells slots Z hC hX hE H locs ls hP hD hS hl => lv_iushr hC.1 hC.2.1 hd hv (k p l e R s m args below meth c D cy as A H0 cells slots Z hC hX hE H locs ls hP hD hS hl)
theorem x_ineg {X : mX} {d : Nat} {M : mM} {Q : Option Value → mW → Prop} {pc : Nat} {L st : List Value} {w : mW} {a : Int32} (hd : decode M.2.1 pc = .ok (.ineg, 1))  (k : mJ X d M Q (pc + 1) L (.int (-a) :: st) w) : mJ X d M Q pc L (.int a :: st) w := fun p l e R s m args below meth c D cy as A H0 cells slots Z hC hX hE H locs ls hP hD hS hl => lv_ineg hC.1 hC.2.1 hd  (k p l e R s m args below meth c D cy as A H0 cells slots Z hC hX hE H locs ls hP hD hS hl)
theorem x_idiv {X : mX} {d : Nat} {M : mM} {Q : Option Value → mW → Prop} {pc : Nat} {L st : List Value} {w : mW} {a b : Int32} (hd : decode M.2.1 pc = .ok (.idiv, 1)) (hne : ¬ b = 0) (k : mJ X d M Q (pc + 1) L (.int (a / b) :: st) w) : mJ X d M Q pc L (.int b :: .int a :: st) w := fun p l e R s m args below meth c D cy as A H0 cells slots Z hC hX hE H locs ls hP hD hS hl => lv_idiv hC.1 hC.2.1 hd hne (k p l e R s m args below meth c D cy as A H0 cells slots Z hC hX hE H locs ls hP hD hS hl)
theorem x_irem {X : mX} {d : Nat} {M : mM} {Q : Option Value → mW → Prop} {pc : Nat} {L st : List Value} {w : mW} {a b : Int32} (hd : decode M.2.1 pc = .ok (.irem, 1)) (hne : ¬ b = 0) (k : mJ X d M Q (pc + 1) L (.int (a - a / b * b) :: st) w) : mJ X d M Q pc L (.int b :: .int a :: st) w := fun p l e R s m args below meth c D cy as A H0 cells slots Z hC hX hE H locs ls hP hD hS hl => lv_irem hC.1 hC.2.1 hd hne (k p l e R s m args below meth c D cy as A H0 cells slots Z hC hX hE H locs ls hP hD hS hl)
theorem x_ladd {X : mX} {d : Nat} {M : mM} {Q : Option Value → mW → Prop} {pc : Nat} {L st : List Value} {w : mW} {a b : Int64} (hd : decode M.2.1 pc = .ok (.ladd, 1))  (k : mJ X d M Q (pc + 1) L (.long (a + b) :: st) w) : mJ X d M Q pc L (.long b :: .long a :: st) w := fun p l e R s m args below meth c D cy as A H0 cells slots Z hC hX hE H locs ls hP hD hS hl => lv_ladd hC.1 hC.2.1 hd  (k p l e R s m args below meth c D cy as A H0 cells slots Z hC hX hE H locs ls hP hD hS hl)
theorem x_lmul {X : mX} {d : Nat} {M : mM} {Q : Option Value → mW → Prop} {pc : Nat} {L st : List Value} {w : mW} {a b : Int64} (hd : decode M.2.1 pc = .ok (.lmul, 1))  (k : mJ X d M Q (pc + 1) L (.long (a * b) :: st) w) : mJ X d M Q pc L (.long b :: .long a :: st) w := fun p l e R s m args below meth c D cy as A H0 cells slots Z hC hX hE H locs ls hP hD hS hl => lv_lmul hC.1 hC.2.1 hd  (k p l e R s m args below meth c D cy as A H0 cells slots Z hC hX hE H locs ls hP hD hS hl)
theorem x_ldiv {X : mX} {d : Nat} {M : mM} {Q : Option Value → mW → Prop} {pc : Nat} {L st : List Value} {w : mW} {a b : Int64} (hd : decode M.2.1 pc = .ok (.ldiv, 1)) (hne : ¬ b = 0) (k : mJ X d M Q (pc + 1) L (.long (a / b) :: st) w) : mJ X d M Q pc L (.long b :: .long a :: st) w := fun p l e R s m args below meth c D cy as A H0 cells slots Z hC hX hE H locs ls hP hD hS hl => lv_ldiv hC.1 hC.2.1 hd hne (k p l e R s m args below meth c D cy as A H0 cells slots Z hC hX hE H locs ls hP hD hS hl)
theorem x_lrem {X : mX} {d : Nat} {M : mM} {Q : Option Value → mW → Prop} {pc : Nat} {L st : List Value} {w : mW} {a b : Int64} (hd : decode M.2.1 pc = .ok (.lrem, 1)) (hne : ¬ b = 0) (k : mJ X d M Q (pc + 1) L (.long (a - a / b * b) :: st) w) : mJ X d M Q pc L (.long b :: .long a :: st) w := fun p l e R s m args below meth c D cy as A H0 cells slots Z hC hX hE H locs ls hP hD hS hl => lv_lrem hC.1 hC.2.1 hd hne (k p l e R s m args below meth c D cy as A H0 cells slots Z hC hX hE H locs ls hP hD hS hl)
theorem x_lcmp {X : mX} {d : Nat} {M : mM} {Q : Option Value → mW → Prop} {pc : Nat} {L st : List Value} {w : mW} {a b : Int64} (hd : decode M.2.1 pc = .ok (.lcmp, 1))  (k : mJ X d M Q (pc + 1) L (.int (lg_cmp a b) :: st) w) : mJ X d M Q pc L (.long b :: .long a :: st) w := fun p l e R s m args below meth c D cy as A H0 cells slots Z hC hX hE H locs ls hP hD hS hl => W.lcmp hC.1 hC.2.1 hd  (k p l e R s m args below meth c D cy as A H0 cells slots Z hC hX hE H locs ls hP hD hS hl)
theorem x_i2l {X : mX} {d : Nat} {M : mM} {Q : Option Value → mW → Prop} {pc : Nat} {L st : List Value} {w : mW} {a : Int32} {v : Int64} (hd : decode M.2.1 pc = .ok (.i2l, 1)) (hv : a.toInt64 = v) (k : mJ X d M Q (pc + 1) L (.long v :: st) w) : mJ X d M Q pc L (.int a :: st) w := fun p l e R s m args below meth c D cy as A H0 cells slots Z hC hX hE H locs ls hP hD hS hl => lv_i2l hC.1 hC.2.1 hd hv (k p l e R s m args below meth c D cy as A H0 cells slots Z hC hX hE H locs ls hP hD hS hl)
theorem x_i2b {X : mX} {d : Nat} {M : mM} {Q : Option Value → mW → Prop} {pc : Nat} {L st : List Value} {w : mW} {a v : Int32} (hd : decode M.2.1 pc = .ok (.i2b, 1)) (hv : a.toInt8.toInt32 = v) (k : mJ X d M Q (pc + 1) L (.int v :: st) w) : mJ X d M Q pc L (.int a :: st) w := fun p l e R s m args below meth c D cy as A H0 cells slots Z hC hX hE H locs ls hP hD hS hl => lv_i2b hC.1 hC.2.1 hd hv (k p l e R s m args below meth c D cy as A H0 cells slots Z hC hX hE H locs ls hP hD hS hl)
theorem x_i2s {X : mX} {d : Nat} {M : mM} {Q : Option Value → mW → Prop} {pc : Nat} {L st : List Value} {w : mW} {a v : Int32} (hd : decode M.2.1 pc = .ok (.i2s, 1)) (hv : a.toInt16.toInt32 = v) (k : mJ X d M Q (pc + 1) L (.int v :: st) w) : mJ X d M Q pc L (.int a :: st) w := fun p l e R s m args below meth c D cy as A H0 cells slots Z hC hX hE H locs ls hP hD hS hl => lv_i2s hC.1 hC.2.1 hd hv (k p l e R s m args below meth c D cy as A H0 cells slots Z hC hX hE H locs ls hP hD hS hl)
theorem x_dup {X : mX} {d : Nat} {M : mM} {Q : Option Value → mW → Prop} {pc : Nat} {L st : List Value} {w : mW} {a : Value} (hd : decode M.2.1 pc = .ok (.dup, 1)) (ha : a.category = 1) (k : mJ X d M Q (pc + 1) L (a :: a :: st) w) : mJ X d M Q pc L (a :: st) w := fun p l e R s m args below meth c D cy as A H0 cells slots Z hC hX hE H locs ls hP hD hS hl => lv_dup hC.1 hC.2.1 hd ((mTr_cat as a).trans ha) (k p l e R s m args below meth c D cy as A H0 cells slots Z hC hX hE H locs ls hP hD hS hl)
theorem x_dup2 {X : mX} {d : Nat} {M : mM} {Q : Option Value → mW → Prop} {pc : Nat} {L st : List Value} {w : mW} {a b : Value} (hd : decode M.2.1 pc = .ok (.dup2, 1)) (ha : a.category = 1) (hb : b.category = 1) (k : mJ X d M Q (pc + 1) L (a :: b :: a :: b :: st) w) : mJ X d M Q pc L (a :: b :: st) w := fun p l e R s m args below meth c D cy as A H0 cells slots Z hC hX hE H locs ls hP hD hS hl => lv_dup2_11 hC.1 hC.2.1 hd ((mTr_cat as a).trans ha) ((mTr_cat as b).trans hb) (k p l e R s m args below meth c D cy as A H0 cells slots Z hC hX hE H locs ls hP hD hS hl)
theorem x_ldc2 {X : mX} {d : Nat} {M : mM} {Q : Option Value → mW → Prop} {pc : Nat} {L st : List Value} {w : mW} {idx : Nat} {v : Int64} (hd : decode M.2.1 pc = .ok (.ldc2_w idx, 3)) (hc : Cond.constantLong M.1.cls idx v ∈ mTT) (k : mJ X d M Q (pc + 3) L (.long v :: st) w) : mJ X d M Q pc L (st) w := fun p l e R s m args below meth c D cy as A H0 cells slots Z hC hX hE H locs ls hP hD hS hl => lv_ldc2 hC.1 hC.2.1 hC.2.2.2.1 (hC.2.2.2.2.1 _ hc) hd (k p l e R s m args below meth c D cy as A H0 cells slots Z hC hX hE H locs ls hP hD hS hl)
theorem x_ldcw {X : mX} {d : Nat} {M : mM} {Q : Option Value → mW → Prop} {pc : Nat} {L st : List Value} {w : mW} {idx : Nat} {v : Int32} (hd : decode M.2.1 pc = .ok (.ldc_w idx, 3)) (hc : Cond.constant M.1.cls idx v ∈ mTT) (k : mJ X d M Q (pc + 3) L (.int v :: st) w) : mJ X d M Q pc L (st) w := fun p l e R s m args below meth c D cy as A H0 cells slots Z hC hX hE H locs ls hP hD hS hl => lv_ldcw hC.1 hC.2.1 hC.2.2.2.1 (hC.2.2.2.2.1 _ hc) hd (k p l e R s m args below meth c D cy as A H0 cells slots Z hC hX hE H locs ls hP hD hS hl)
theorem x_if_eq {X : mX} {d : Nat} {M : mM} {Q : Option Value → mW → Prop} {pc : Nat} {L st : List Value} {w : mW} {x : Int32} {off : Int} {tgt : Nat} (hd : decode M.2.1 pc = .ok (.ifCond .eq off, 3)) (ht : (pc : Int) + off = (tgt : Int)) (kt : x = 0 → mJ X d M Q tgt L st w) (kf : ¬ x = 0 → mJ X d M Q (pc + 3) L st w) : mJ X d M Q pc L (.int x :: st) w := fun p l e R s m args below meth c D cy as A H0 cells slots Z hC hX hE H locs ls hP hD hS hl => lv_if_eq hC.1 hC.2.1 hd ht (fun h => kt h p l e R s m args below meth c D cy as A H0 cells slots Z hC hX hE H locs ls hP hD hS hl) (fun h => kf h p l e R s m args below meth c D cy as A H0 cells slots Z hC hX hE H locs ls hP hD hS hl)
theorem x_icmp_eq {X : mX} {d : Nat} {M : mM} {Q : Option Value → mW → Prop} {pc : Nat} {L st : List Value} {w : mW} {x y : Int32} {off : Int} {tgt : Nat} (hd : decode M.2.1 pc = .ok (.if_icmp .eq off, 3)) (ht : (pc : Int) + off = (tgt : Int)) (kt : x = y → mJ X d M Q tgt L st w) (kf : ¬ x = y → mJ X d M Q (pc + 3) L st w) : mJ X d M Q pc L (.int y :: .int x :: st) w := fun p l e R s m args below meth c D cy as A H0 cells slots Z hC hX hE H locs ls hP hD hS hl => lv_icmp_eq hC.1 hC.2.1 hd ht (fun h => kt h p l e R s m args below meth c D cy as A H0 cells slots Z hC hX hE H locs ls hP hD hS hl) (fun h => kf h p l e R s m args below meth c D cy as A H0 cells slots Z hC hX hE H locs ls hP hD hS hl)
theorem x_if_ne {X : mX} {d : Nat} {M : mM} {Q : Option Value → mW → Prop} {pc : Nat} {L st : List Value} {w : mW} {x : Int32} {off : Int} {tgt : Nat} (hd : decode M.2.1 pc = .ok (.ifCond .ne off, 3)) (ht : (pc : Int) + off = (tgt : Int)) (kt : ¬ x = 0 → mJ X d M Q tgt L st w) (kf : x = 0 → mJ X d M Q (pc + 3) L st w) : mJ X d M Q pc L (.int x :: st) w := fun p l e R s m args below meth c D cy as A H0 cells slots Z hC hX hE H locs ls hP hD hS hl => lv_if_ne hC.1 hC.2.1 hd ht (fun h => kt h p l e R s m args below meth c D cy as A H0 cells slots Z hC hX hE H locs ls hP hD hS hl) (fun h => kf h p l e R s m args below meth c D cy as A H0 cells slots Z hC hX hE H locs ls hP hD hS hl)
theorem x_icmp_ne {X : mX} {d : Nat} {M : mM} {Q : Option Value → mW → Prop} {pc : Nat} {L st : List Value} {w : mW} {x y : Int32} {off : Int} {tgt : Nat} (hd : decode M.2.1 pc = .ok (.if_icmp .ne off, 3)) (ht : (pc : Int) + off = (tgt : Int)) (kt : ¬ x = y → mJ X d M Q tgt L st w) (kf : x = y → mJ X d M Q (pc + 3) L st w) : mJ X d M Q pc L (.int y :: .int x :: st) w := fun p l e R s m args below meth c D cy as A H0 cells slots Z hC hX hE H locs ls hP hD hS hl => lv_icmp_ne hC.1 hC.2.1 hd ht (fun h => kt h p l e R s m args below meth c D cy as A H0 cells slots Z hC hX hE H locs ls hP hD hS hl) (fun h => kf h p l e R s m args below meth c D cy as A H0 cells slots Z hC hX hE H locs ls hP hD hS hl)
theorem x_if_lt {X : mX} {d : Nat} {M : mM} {Q : Option Value → mW → Prop} {pc : Nat} {L st : List Value} {w : mW} {x : Int32} {off : Int} {tgt : Nat} (hd : decode M.2.1 pc = .ok (.ifCond .lt off, 3)) (ht : (pc : Int) + off = (tgt : Int)) (kt : x < 0 → mJ X d M Q tgt L st w) (kf : ¬ x < 0 → mJ X d M Q (pc + 3) L st w) : mJ X d M Q pc L (.int x :: st) w := fun p l e R s m args below meth c D cy as A H0 cells slots Z hC hX hE H locs ls hP hD hS hl => lv_if_lt hC.1 hC.2.1 hd ht (fun h => kt h p l e R s m args below meth c D cy as A H0 cells slots Z hC hX hE H locs ls hP hD hS hl) (fun h => kf h p l e R s m args below meth c D cy as A H0 cells slots Z hC hX hE H locs ls hP hD hS hl)
theorem x_icmp_lt {X : mX} {d : Nat} {M : mM} {Q : Option Value → mW → Prop} {pc : Nat} {L st : List Value} {w : mW} {x y : Int32} {off : Int} {tgt : Nat} (hd : decode M.2.1 pc = .ok (.if_icmp .lt off, 3)) (ht : (pc : Int) + off = (tgt : Int)) (kt : x < y → mJ X d M Q tgt L st w) (kf : ¬ x < y → mJ X d M Q (pc + 3) L st w) : mJ X d M Q pc L (.int y :: .int x :: st) w := fun p l e R s m args below meth c D cy as A H0 cells slots Z hC hX hE H locs ls hP hD hS hl => lv_icmp_lt hC.1 hC.2.1 hd ht (fun h => kt h p l e R s m args below meth c D cy as A H0 cells slots Z hC hX hE H locs ls hP hD hS hl) (fun h => kf h p l e R s m args below meth c D cy as A H0 cells slots Z hC hX hE H locs ls hP hD hS hl)
theorem x_if_ge {X : mX} {d : Nat} {M : mM} {Q : Option Value → mW → Prop} {pc : Nat} {L st : List Value} {w : mW} {x : Int32} {off : Int} {tgt : Nat} (hd : decode M.2.1 pc = .ok (.ifCond .ge off, 3)) (ht : (pc : Int) + off = (tgt : Int)) (kt : 0 ≤ x → mJ X d M Q tgt L st w) (kf : ¬ 0 ≤ x → mJ X d M Q (pc + 3) L st w) : mJ X d M Q pc L (.int x :: st) w := fun p l e R s m args below meth c D cy as A H0 cells slots Z hC hX hE H locs ls hP hD hS hl => lv_if_ge hC.1 hC.2.1 hd ht (fun h => kt h p l e R s m args below meth c D cy as A H0 cells slots Z hC hX hE H locs ls hP hD hS hl) (fun h => kf h p l e R s m args below meth c D cy as A H0 cells slots Z hC hX hE H locs ls hP hD hS hl)
theorem x_icmp_ge {X : mX} {d : Nat} {M : mM} {Q : Option Value → mW → Prop} {pc : Nat} {L st : List Value} {w : mW} {x y : Int32} {off : Int} {tgt : Nat} (hd : decode M.2.1 pc = .ok (.if_icmp .ge off, 3)) (ht : (pc : Int) + off = (tgt : Int)) (kt : y ≤ x → mJ X d M Q tgt L st w) (kf : ¬ y ≤ x → mJ X d M Q (pc + 3) L st w) : mJ X d M Q pc L (.int y :: .int x :: st) w := fun p l e R s m args below meth c D cy as A H0 cells slots Z hC hX hE H locs ls hP hD hS hl => lv_icmp_ge hC.1 hC.2.1 hd ht (fun h => kt h p l e R s m args below meth c D cy as A H0 cells slots Z hC hX hE H locs ls hP hD hS hl) (fun h => kf h p l e R s m args below meth c D cy as A H0 cells slots Z hC hX hE H locs ls hP hD hS hl)
theorem x_if_gt {X : mX} {d : Nat} {M : mM} {Q : Option Value → mW → Prop} {pc : Nat} {L st : List Value} {w : mW} {x : Int32} {off : Int} {tgt : Nat} (hd : decode M.2.1 pc = .ok (.ifCond .gt off, 3)) (ht : (pc : Int) + off = (tgt : Int)) (kt : 0 < x → mJ X d M Q tgt L st w) (kf : ¬ 0 < x → mJ X d M Q (pc + 3) L st w) : mJ X d M Q pc L (.int x :: st) w := fun p l e R s m args below meth c D cy as A H0 cells slots Z hC hX hE H locs ls hP hD hS hl => lv_if_gt hC.1 hC.2.1 hd ht (fun h => kt h p l e R s m args below meth c D cy as A H0 cells slots Z hC hX hE H locs ls hP hD hS hl) (fun h => kf h p l e R s m args below meth c D cy as A H0 cells slots Z hC hX hE H locs ls hP hD hS hl)
theorem x_icmp_gt {X : mX} {d : Nat} {M : mM} {Q : Option Value → mW → Prop} {pc : Nat} {L st : List Value} {w : mW} {x y : Int32} {off : Int} {tgt : Nat} (hd : decode M.2.1 pc = .ok (.if_icmp .gt off, 3)) (ht : (pc : Int) + off = (tgt : Int)) (kt : y < x → mJ X d M Q tgt L st w) (kf : ¬ y < x → mJ X d M Q (pc + 3) L st w) : mJ X d M Q pc L (.int y :: .int x :: st) w := fun p l e R s m args below meth c D cy as A H0 cells slots Z hC hX hE H locs ls hP hD hS hl => lv_icmp_gt hC.1 hC.2.1 hd ht (fun h => kt h p l e R s m args below meth c D cy as A H0 cells slots Z hC hX hE H locs ls hP hD hS hl) (fun h => kf h p l e R s m args below meth c D cy as A H0 cells slots Z hC hX hE H locs ls hP hD hS hl)
theorem x_if_le {X : mX} {d : Nat} {M : mM} {Q : Option Value → mW → Prop} {pc : Nat} {L st : List Value} {w : mW} {x : Int32} {off : Int} {tgt : Nat} (hd : decode M.2.1 pc = .ok (.ifCond .le off, 3)) (ht : (pc : Int) + off = (tgt : Int)) (kt : x ≤ 0 → mJ X d M Q tgt L st w) (kf : ¬ x ≤ 0 → mJ X d M Q (pc + 3) L st w) : mJ X d M Q pc L (.int x :: st) w := fun p l e R s m args below meth c D cy as A H0 cells slots Z hC hX hE H locs ls hP hD hS hl => lv_if_le hC.1 hC.2.1 hd ht (fun h => kt h p l e R s m args below meth c D cy as A H0 cells slots Z hC hX hE H locs ls hP hD hS hl) (fun h => kf h p l e R s m args below meth c D cy as A H0 cells slots Z hC hX hE H locs ls hP hD hS hl)
theorem x_icmp_le {X : mX} {d : Nat} {M : mM} {Q : Option Value → mW → Prop} {pc : Nat} {L st : List Value} {w : mW} {x y : Int32} {off : Int} {tgt : Nat} (hd : decode M.2.1 pc = .ok (.if_icmp .le off, 3)) (ht : (pc : Int) + off = (tgt : Int)) (kt : x ≤ y → mJ X d M Q tgt L st w) (kf : ¬ x ≤ y → mJ X d M Q (pc + 3) L st w) : mJ X d M Q pc L (.int y :: .int x :: st) w := fun p l e R s m args below meth c D cy as A H0 cells slots Z hC hX hE H locs ls hP hD hS hl => lv_icmp_le hC.1 hC.2.1 hd ht (fun h => kt h p l e R s m args below meth c D cy as A H0 cells slots Z hC hX hE H locs ls hP hD hS hl) (fun h => kf h p l e R s m args below meth c D cy as A H0 cells slots Z hC hX hE H locs ls hP hD hS hl)
theorem x_goto {X : mX} {d : Nat} {M : mM} {Q : Option Value → mW → Prop} {pc : Nat} {L st : List Value} {w : mW} {off : Int} {tgt : Nat} (hd : decode M.2.1 pc = .ok (.goto off, 3)) (ht : (pc : Int) + off = (tgt : Int)) (k : mJ X d M Q tgt L st w) : mJ X d M Q pc L st w := fun p l e R s m args below meth c D cy as A H0 cells slots Z hC hX hE H locs ls hP hD hS hl => lv_goto hC.1 hC.2.1 hd ht (k p l e R s m args below meth c D cy as A H0 cells slots Z hC hX hE H locs ls hP hD hS hl)
theorem x_lookup {X : mX} {d : Nat} {M : mM} {Q : Option Value → mW → Prop} {pc : Nat} {L st : List Value} {w : mW} {dflt : Int} {ps : Array (Int × Int)} {len : Nat} {x : Int32} {off : Int} {tgt : Nat} (hd : decode M.2.1 pc = .ok (.lookupswitch dflt ps, len)) (hp : (ps.toList.zip (ps.toList.drop 1)).all (fun (a, next) => a.1 < next.1) = true) (ho : Op.lookupswitch.offset ps.toList dflt x.toInt = off) (ht : (pc : Int) + off = (tgt : Int)) (k : mJ X d M Q tgt L st w) : mJ X d M Q pc L (.int x :: st) w := fun p l e R s m args below meth c D cy as A H0 cells slots Z hC hX hE H locs ls hP hD hS hl => lv_lookup hC.1 hC.2.1 hd hp ho ht (k p l e R s m args below meth c D cy as A H0 cells slots Z hC hX hE H locs ls hP hD hS hl)
theorem x_tableOut {X : mX} {d : Nat} {M : mM} {Q : Option Value → mW → Prop} {pc : Nat} {L st : List Value} {w : mW} {dflt lo hi : Int} {offs : Array Int} {len : Nat} {x : Int32} {tgt : Nat} (hd : decode M.2.1 pc = .ok (.tableswitch dflt lo hi offs, len)) (h : x.toInt < lo ∨ hi < x.toInt) (ht : (pc : Int) + dflt = (tgt : Int)) (k : mJ X d M Q tgt L st w) : mJ X d M Q pc L (.int x :: st) w := fun p l e R s m args below meth c D cy as A H0 cells slots Z hC hX hE H locs ls hP hD hS hl => lv_tableOut hC.1 hC.2.1 hd h ht (k p l e R s m args below meth c D cy as A H0 cells slots Z hC hX hE H locs ls hP hD hS hl)
theorem x_tableIn {X : mX} {d : Nat} {M : mM} {Q : Option Value → mW → Prop} {pc : Nat} {L st : List Value} {w : mW} {dflt lo hi : Int} {offs : Array Int} {len : Nat} {x : Int32} {off : Int} {tgt : Nat} (hd : decode M.2.1 pc = .ok (.tableswitch dflt lo hi offs, len)) (h1 : ¬ x.toInt < lo) (h2 : ¬ hi < x.toInt) (ho : offs[(x.toInt - lo).toNat]? = some off) (ht : (pc : Int) + off = (tgt : Int)) (k : mJ X d M Q tgt L st w) : mJ X d M Q pc L (.int x :: st) w := fun p l e R s m args below meth c D cy as A H0 cells slots Z hC hX hE H locs ls hP hD hS hl => lv_tableIn hC.1 hC.2.1 hd h1 h2 ho ht (k p l e R s m args below meth c D cy as A H0 cells slots Z hC hX hE H locs ls hP hD hS hl)
theorem x_iret {X : mX} {d : Nat} {M : mM} {Q : Option Value → mW → Prop} {pc : Nat} {L st : List Value} {w : mW} {x : Int32} (hd : decode M.2.1 pc = .ok (.ireturn, 1)) {ty : FieldType} (hr : M.2.2.2 = some ty) (hn : narrow ty (.int x) = .int x) (hq : Q (some (.int x)) w) : mJ X d M Q pc L [.int x] w := fun p l e R s m args below meth c D cy as A H0 cells slots Z hC hX hE H locs ls hP hD hS hl => hE (some (.int x)) w H locs ls pc hq hP hD hS ⟨hd, ty, hr, hn⟩
theorem x_lret {X : mX} {d : Nat} {M : mM} {Q : Option Value → mW → Prop} {pc : Nat} {L st : List Value} {w : mW} {x : Int64} (hd : decode M.2.1 pc = .ok (.lreturn, 1)) (hr : M.2.2.2 = some .long) (hq : Q (some (.long x)) w) : mJ X d M Q pc L [.long x] w := fun p l e R s m args below meth c D cy as A H0 cells slots Z hC hX hE H locs ls hP hD hS hl => hE (some (.long x)) w H locs ls pc hq hP hD hS ⟨hd, hr⟩
theorem x_vret {X : mX} {d : Nat} {M : mM} {Q : Option Value → mW → Prop} {pc : Nat} {L st : List Value} {w : mW}  (hd : decode M.2.1 pc = .ok (.return_, 1)) (hr : M.2.2.2 = none) (hq : Q (none) w) : mJ X d M Q pc L [] w := fun p l e R s m args below meth c D cy as A H0 cells slots Z hC hX hE H locs ls hP hD hS hl => hE (none) w H locs ls pc hq hP hD hS ⟨hd, hr⟩

-- fields: a place (own class, entry) reads or writes the field k of the class ci
def mSite (own : String) (idx ci k : Nat) (fin : Bool) (ty : FieldType) : Prop := ∃ (C : String) (T : u_T) (N : Nat) (ty0 : Nat → FieldType), vwCl[ci]? = some (C, T, N) ∧ (∀ w ∈ u_ws C T N, w ∈ mTT) ∧ k < N ∧ (∀ k, k < N → parseFieldDescriptor (T k).2.2.1 = some (ty0 k)) ∧ (∀ a, a < N → ∀ b, b < N → a ≠ b → (T a).2.1 ≠ (T b).2.1) ∧ (T k).1 = C ∧ (T k).2.2.2 = fin ∧ parseFieldDescriptor (T k).2.2.1 = some ty ∧ (Cond.fieldLink own idx C (T k).2.1 (T k).2.2.1 ∈ mTT ∨ ∃ host, Cond.fieldLinkNest own idx C (T k).2.1 (T k).2.2.1 host ∈ lw_tbl)
theorem mE_inr {w : mW} {a ci : Nat} {fs : List Value} (cy : ClassId) (as : Nat → Nat) (ha : a < mCells) (hw : w a = .inr (ci, fs)) : (mWs cy as w)[a]? = some (as a, .inr (ci, fs.map (mTr as))) := by
  rw [mWs_get _ _ _ ha, hw]; rfl
theorem mE_inl {w : mW} {a n : Nat} {f : Nat → Int32} (cy : ClassId) (as : Nat → Nat) (ha : a < mCells) (hw : w a = .inl (n, f)) : (mWs cy as w)[a]? = some (as a, .inl (cy, n, .inl f)) := by
  rw [mWs_get _ _ _ ha, hw]; rfl
theorem x_get {X : mX} {d : Nat} {M : mM} {Q : Option Value → mW → Prop} {pc : Nat} {L st : List Value} {w : mW} {idx ci k a : Nat} {fin : Bool} {ty : FieldType} {fs : List Value} {v : Value} (hs : mSite M.1.cls idx ci k fin ty) (hd : decode M.2.1 pc = .ok (.getfield idx, 3)) (ha : a < mCells) (hw : w a = .inr (ci, fs)) (hv : fs[k]? = some v) (kk : mJ X d M Q (pc + 3) L (v :: st) w) : mJ X d M Q pc L (.ref a :: st) w := by
  intro p l e R s m args below meth c D cy as A H0 cells slots Z hC hX hE H locs ls hP hD hS hl
  obtain ⟨C, T, N, ty0, h1, h2, h3, h4, h5, h6, h7, h8, h9⟩ := hs
  have he := mE_inr cy as ha hw
  have hv' : (fs.map (mTr as))[k]? = some (mTr as v) := by rw [List.getElem?_map, hv]; rfl
  rcases h9 with h9 | ⟨host, h9⟩
  · exact va_get hC.1 hC.2.1 hC.2.2.2.2.1 h2 hC.2.2.2.1 hC.2.2.2.2.2.2.1 hP a he h1 k h3 (hC.2.2.2.2.1 _ h9) (fun x hx => by rw [h6] at hx; exact hx) hv' hd (kk p l e R s m args below meth c D cy as A H0 cells slots Z hC hX hE H locs ls hP hD hS hl)
  · exact va_getN hC.1 hC.2.1 hC.2.2.2.2.1 h2 hC.2.2.2.1 hC.2.2.2.2.2.2.1 hP a he h1 k h3 (va_Nw.use rfl (hC.2.2.2.2.2.1 _ h9 rfl)) (fun x hx => by rw [h6] at hx; exact hx) hv' hd (kk p l e R s m args below meth c D cy as A H0 cells slots Z hC hX hE H locs ls hP hD hS hl)
theorem x_put {X : mX} {d : Nat} {M : mM} {Q : Option Value → mW → Prop} {pc : Nat} {L st : List Value} {w : mW} {idx ci k a : Nat} {ty : FieldType} {fs : List Value} {x : Int32} (hs : mSite M.1.cls idx ci k false ty) (hd : decode M.2.1 pc = .ok (.putfield idx, 3)) (ha : a < mCells) (hw : w a = .inr (ci, fs)) (hk : k < fs.length) (hn : narrow ty (.int x) = .int x) (hf : fits ty (.int x) = true) (kk : mJ X d M Q (pc + 3) L st (mUp w a (.inr (ci, fs.set k (.int x))))) : mJ X d M Q pc L (.int x :: .ref a :: st) w := by
  intro p l e R s m args below meth c D cy as A H0 cells slots Z hC hX hE H locs ls hP hD hS hl
  obtain ⟨C, T, N, ty0, h1, h2, h3, h4, h5, h6, h7, h8, h9⟩ := hs
  have he := mE_inr cy as ha hw
  have hset : (mWs cy as w).set a (as a, .inr (ci, (fs.map (mTr as)).set k (mTr as (.int x)))) = mWs cy as (mUp w a (.inr (ci, fs.set k (.int x)))) := by
    rw [← mWs_set cy as w ha]
    simp [mTE, List.map_set]
  rcases h9 with h9 | ⟨host, h9⟩
  · refine va_put hC.1 hC.2.1 hC.2.2.2.2.1 h2 ty0 h4 h5 hC.2.2.2.1 hC.2.2.2.2.2.2.1 hP hD hS a he h1 k h3 (hC.2.2.2.2.1 _ h9) (fun x hx => by rw [h6] at hx; exact hx) h7 h8 hn hf (by rw [List.length_map]; exact hk) hd (fun H1 locs1 hP1 hD1 hS1 => ?_)
    rw [hset] at hP1 hD1
    exact kk p l e R s m args below meth c D cy as A H0 cells slots Z hC hX hE H1 locs1 ls hP1 hD1 hS1 hl
  · refine va_putN hC.1 hC.2.1 hC.2.2.2.2.1 h2 ty0 h4 h5 hC.2.2.2.1 hC.2.2.2.2.2.2.1 hP hD hS a he h1 k h3 (va_Nw.use rfl (hC.2.2.2.2.2.1 _ h9 rfl)) (fun x hx => by rw [h6] at hx; exact hx) h7 h8 hn hf (by rw [List.length_map]; exact hk) hd (fun H1 locs1 hP1 hD1 hS1 => ?_)
    rw [hset] at hP1 hD1
    exact kk p l e R s m args below meth c D cy as A H0 cells slots Z hC hX hE H1 locs1 ls hP1 hD1 hS1 hl
theorem x_iald {X : mX} {d : Nat} {M : mM} {Q : Option Value → mW → Prop} {pc : Nat} {L st : List Value} {w : mW} {a n : Nat} {f : Nat → Int32} {i : Int32} (hd : decode M.2.1 pc = .ok (.iaload, 1)) (ha : a < mCells) (hw : w a = .inl (n, f)) (hi : vp_in i n) (kk : mJ X d M Q (pc + 1) L (.int (f i.toNatClampNeg) :: st) w) : mJ X d M Q pc L (.int i :: .ref a :: st) w :=
  fun p l e R s m args below meth c D cy as A H0 cells slots Z hC hX hE H locs ls hP hD hS hl => va_iald hC.1 hC.2.1 hC.2.2.2.2.2.2.1 hP a 0 (mE_inl cy as ha hw) rfl hi hd (kk p l e R s m args below meth c D cy as A H0 cells slots Z hC hX hE H locs ls hP hD hS hl)
theorem x_iast {X : mX} {d : Nat} {M : mM} {Q : Option Value → mW → Prop} {pc : Nat} {L st : List Value} {w : mW} {a n : Nat} {f : Nat → Int32} {i x : Int32} (hd : decode M.2.1 pc = .ok (.iastore, 1)) (ha : a < mCells) (hw : w a = .inl (n, f)) (hi : vp_in i n) (kk : mJ X d M Q (pc + 1) L st (mUp w a (.inl (n, upd f i.toNatClampNeg x)))) : mJ X d M Q pc L (.int x :: .int i :: .ref a :: st) w := by
  intro p l e R s m args below meth c D cy as A H0 cells slots Z hC hX hE H locs ls hP hD hS hl
  refine va_iast hC.1 hC.2.1 hC.2.2.2.2.2.2.1 hP hD hS a 0 (mE_inl cy as ha hw) rfl hi hd (fun H1 locs1 hP1 hD1 hS1 => ?_)
  have hset : (mWs cy as w).set a (as a, .inl (cy, n, .inl (upd f i.toNatClampNeg x))) = mWs cy as (mUp w a (.inl (n, upd f i.toNatClampNeg x))) := mWs_set cy as w ha (.inl (n, upd f i.toNatClampNeg x))
  rw [hset] at hP1 hD1
  exact kk p l e R s m args below meth c D cy as A H0 cells slots Z hC hX hE H1 locs1 ls hP1 hD1 hS1 hl
-- calls
theorem mPc_blind {D : va_G} {cy : ClassId} {as : Nat → Nat} {sz : Nat} {w : mW} {av : List Value} : FrameBlind (va_Pc av (mPre D cy as sz w)) := by
  intro a U g mk q
  obtain ⟨q0, q1, qP, qK, qD, qN⟩ := q
  exact ⟨q0, q1, qP, va_K.moved (u := U) (U := U.calling g mk a) (Vm.Alike.refl U.vm) qK, qD, mNW.same (u := U) (U := U.calling g mk a) rfl qN⟩
theorem mPc_at {D : va_G} {cy : ClassId} {as : Nat → Nat} {w : mW} {av : List Value} {A : Nat → Prop} {s : State} {H : Heap} (hP : va_P D vwCl (mWs cy as w) H) (hD : va_D A (mWs cy as w)) (hK : va_K D vwCl [(cy, .int)] s) (hN : mNW s) : ∀ U : State, U.heap = H → s.WarmedH U.vm → va_Pc av (mPre D cy as H.size w) av.toArray U :=
  fun U hU hW => ⟨rfl, by rw [hU], by rw [hU]; exact hP, va_K.moved hW.alike hK, hD.weaken (fun _ _ _ _ => trivial), hN.warm hW⟩
theorem mFree {D : va_G} {cy : ClassId} {as : Nat → Nat} {w : mW} {A : Nat → Prop} {H0 H : Heap} {locs : List Loc} (hD : va_D A (mWs cy as w)) (hS : va_S A H0 H locs) (hA : ∀ q, H0.size ≤ q → A q) : ∀ q, va_A (mWs cy as w) H.size q → A q := by
  intro q h
  rcases h with ⟨k, e, h⟩ | h
  · exact hD.2 k (q, e) h
  · exact hA q (Nat.le_trans hS.1 h)
theorem mCallX {p : Program} {l : Launch} {e : Env} {R : Room} {s : State} {m : MethodId} {args : Array Value} {below : List Frame} {meth : Method} {c : Code} {H : Heap} {locs : List Loc} {cells slots : Nat} {Z : State → Prop} {pc : Nat} {ls : Array Slot} {rest st0 : List Value} {a : Array Value} {A : Nat → Prop} {H0 : Heap} {Q : Option Value → mW → Prop} {D : va_G} {cy : ClassId} {as : Nat → Nat} {w : mW}
    (hr : va_Run p l e R s m args below meth c H locs cells slots 0 0 (F0 m pc ls st0) rest (mQc Q D cy as (va_A (mWs cy as w) H.size) a) (va_A (mWs cy as w) H.size)) (hD : va_D A (mWs cy as w)) (hS : va_S A H0 H locs) (hA : ∀ q, H0.size ≤ q → A q)
    (kk : ∀ (v : Option Value) (w' : mW) (H1 : Heap) (locs1 : List Loc), Q v w' → va_P D vwCl (mWs cy as w') H1 → va_D A (mWs cy as w') → va_S A H0 H1 locs1 → W p l e R s m args below meth c H1 locs1 cells slots Z (F0 m (pc + 3) ls ((v.map (mTr as)).toList ++ rest))) : W p l e R s m args below meth c H locs cells slots Z (F0 m pc ls st0) := by
  intro T hT X
  obtain ⟨v, st₀, t, T', L, h0, X', hL, e1, e2, ⟨⟨v', w', hv, hq, hP1, hK1, hD1⟩, hz, hk⟩, st⟩ := hr T hT X
  cases hv
  rw [h0] at hz hk
  have hf := mFree (D := D) hD hS hA
  obtain ⟨t2, a1, b1⟩ := kk v' w' T'.heap (locs ++ L) hq (by rw [e1]; exact hP1) (hD1.weaken (fun k q _ h => hf q.1 h))
    ⟨Nat.le_trans hS.1 (by rw [e1]; exact hz), fun q h1 h2 => by rw [e1, hk q (Nat.lt_of_lt_of_le h1 hS.1) (fun z => h2 (hf q z))]; exact hS.2.1 q h1 h2, fun q hq => by
      rcases List.mem_append.mp hq with h | h
      · exact hS.2.2 q h
      · exact hf _ (hL q h)⟩ T' rfl X'
  exact ⟨t2, st t2 a1, b1⟩
def mVirt (own : String) (idx : Nat) (M' : mM) (ci n : Nat) : Prop := mOK M' ∧ (Cond.methodLink own idx M'.1 ∈ mTT ∨ ∃ host, Cond.methodLinkNest own idx M'.1 host ∈ lw_tbl) ∧ Cond.instanceMethod M'.1 ∈ mTT ∧ Cond.selects M'.1.cls M'.1 M'.1 ∈ mTT ∧ (parseMethodDescriptor M'.1.desc).map (fun d => d.parameters.length) = some n ∧ ∃ q, vwCl[ci]? = some q ∧ q.1 = M'.1.cls
def mStat (own : String) (idx : Nat) (M' : mM) (n : Nat) : Prop := mOK M' ∧ (Cond.methodLink own idx M'.1 ∈ mTT ∨ ∃ host, Cond.methodLinkNest own idx M'.1 host ∈ lw_tbl) ∧ Cond.static M'.1 ∈ mTT ∧ (parseMethodDescriptor M'.1.desc).map (fun d => d.parameters.length) = some n
theorem x_virt {X : mX} {d : Nat} {M : mM} {Q : Option Value → mW → Prop} {pc : Nat} {L st : List Value} {w : mW} {idx ci n a : Nat} {M' : mM} {As fs : List Value} {Q' : Option Value → mW → Prop} (hs : mVirt M.1.cls idx M' ci n) (hd : decode M.2.1 pc = .ok (.invokevirtual idx, 3)) (ha : a < mCells) (hw : w a = .inr (ci, fs)) (hn : As.length = n) (hr : (st.map fun v => v.category).sum ≤ 8) {st0 : List Value} (hst : As.reverse ++ .ref a :: st = st0) (hM : mC d M' (.ref a :: As) w Q') (kk : ∀ v w', Q' v w' → mJ X (d + 1) M Q (pc + 3) L (v.toList ++ st) w') : mJ X (d + 1) M Q pc L st0 w := by
  intro p l e R s m args below meth c D cy as A H0 cells slots Z hC hX hE H locs ls hP hD hS hl
  obtain ⟨hOK, hlink, hinst, hsel, hpar, q, hq1, hq2⟩ := hs
  have hts := hC.2.2.2.2.1
  have hfr : (mRm d).frames + 1 ≤ R.frames := hC.2.2.2.2.2.2.2.2.1
  have hlo : 8 + (M'.2.2.1 + 11) + (mRm d).locals ≤ R.locals := by
    have h1 := hC.2.2.2.2.2.2.2.2.2.1
    have h2 := hOK.2.2.2.2
    show 8 + (M'.2.2.1 + 11) + 40 * d ≤ R.locals
    omega
  have hini : (Cond.initialized M'.1.cls).before args s = true := hts _ (mTT_mem hOK.2.2.1 rfl)
  have hrec : ∃ cell : Cell, H[as a]? = some cell ∧ cell.vm.isStatics = false ∧ s.vm.findClass M'.1.cls = some cell.cls := by
    rw [← hq2]; exact va_recv hC.2.2.2.2.2.2.1 hP hq1 (mE_inr cy as ha hw)
  have hpre := mPc_at (av := (Value.ref a :: As).map (mTr as)) hP hD hC.2.2.2.2.2.2.1 hC.2.2.2.2.2.1
  have hcells : cells + 0 ≤ R.cells ∧ slots + 0 ≤ R.slots := hC.2.2.2.2.2.2.2.2.2.2
  subst hst
  have hstk : (As.reverse ++ .ref a :: st).map (mTr as) = (As.map (mTr as)).reverse ++ .ref (as a) :: st.map (mTr as) := by simp [mTr]
  have hrest : ((st.map (mTr as)).map fun v => v.category).sum ≤ 8 := by rw [List.map_map]; simpa [Function.comp_def, mTr_cat] using hr
  rw [hstk]
  have hrun : va_Run p l e R s m args below meth c H locs cells slots 0 0 (F0 m pc ls ((As.map (mTr as)).reverse ++ .ref (as a) :: st.map (mTr as))) (st.map (mTr as)) (mQc Q' D cy as (va_A (mWs cy as w) H.size) (Value.ref (as a) :: As.map (mTr as)).toArray) (va_A (mWs cy as w) H.size) := by
    rcases hlink with hlink | ⟨host, hlink⟩
    · exact va_runV (C := M'.1.cls) (n := n) ⟨hC.1, hC.2.1, hC.2.2.1, hC.2.2.2.1, hts⟩ (hM l D cy as H.size) ⟨callB_of n hts (mGood hOK) rfl rfl rfl hini (hts _ hlink) ⟨hOK.2.2.2.1.1, hOK.2.2.2.1.2, hpar⟩ ⟨hfr, hlo⟩, hts _ hinst, hts _ hsel⟩ ⟨mPc_blind, hrec, hpre⟩ rfl (by rw [List.length_map]; exact hn) hl.1 rfl (lv_room hrest) hd hcells
    · exact va_runVN (C := M'.1.cls) (n := n) ⟨hC.1, hC.2.1, hC.2.2.1, hC.2.2.2.1, hts⟩ (hM l D cy as H.size) ⟨va_cnB n hts (mGood hOK) rfl rfl rfl (hC.2.2.2.2.2.1 _ hlink rfl) hini ⟨hOK.2.2.2.1.1, hOK.2.2.2.1.2, hpar⟩ ⟨hfr, hlo⟩, hts _ hinst, hts _ hsel⟩ ⟨mPc_blind, hrec, hpre⟩ rfl (by rw [List.length_map]; exact hn) hl.1 rfl (lv_room hrest) hd hcells
  refine mCallX hrun hD hS hC.2.2.2.2.2.2.2.1 (fun v w' H1 locs1 hq hP1 hD1 hS1 => ?_)
  have h9 := kk v w' hq p l e R s m args below meth c D cy as A H0 cells slots Z hC hX hE H1 locs1 ls hP1 hD1 hS1 hl
  cases v <;> simpa using h9
theorem x_stat {X : mX} {d : Nat} {M : mM} {Q : Option Value → mW → Prop} {pc : Nat} {L st : List Value} {w : mW} {idx n : Nat} {M' : mM} {As : List Value} {Q' : Option Value → mW → Prop} (hs : mStat M.1.cls idx M' n) (hd : decode M.2.1 pc = .ok (.invokestatic idx, 3)) (hn : As.length = n) (hr : (st.map fun v => v.category).sum ≤ 8) {st0 : List Value} (hst : As.reverse ++ st = st0) (hM : mC d M' As w Q') (kk : ∀ v w', Q' v w' → mJ X (d + 1) M Q (pc + 3) L (v.toList ++ st) w') : mJ X (d + 1) M Q pc L st0 w := by
  intro p l e R s m args below meth c D cy as A H0 cells slots Z hC hX hE H locs ls hP hD hS hl
  obtain ⟨hOK, hlink, hstat, hpar⟩ := hs
  have hts := hC.2.2.2.2.1
  have hfr : (mRm d).frames + 1 ≤ R.frames := hC.2.2.2.2.2.2.2.2.1
  have hlo : 8 + (M'.2.2.1 + 11) + (mRm d).locals ≤ R.locals := by
    have h1 := hC.2.2.2.2.2.2.2.2.2.1
    have h2 := hOK.2.2.2.2
    show 8 + (M'.2.2.1 + 11) + 40 * d ≤ R.locals
    omega
  have hini : (Cond.initialized M'.1.cls).before args s = true := hts _ (mTT_mem hOK.2.2.1 rfl)
  have hpre := mPc_at (av := As.map (mTr as)) hP hD hC.2.2.2.2.2.2.1 hC.2.2.2.2.2.1
  have hcells : cells + 0 ≤ R.cells ∧ slots + 0 ≤ R.slots := hC.2.2.2.2.2.2.2.2.2.2
  subst hst
  have hstk : (As.reverse ++ st).map (mTr as) = (As.map (mTr as)).reverse ++ st.map (mTr as) := by simp
  have hrest : ((st.map (mTr as)).map fun v => v.category).sum ≤ 8 := by rw [List.map_map]; simpa [Function.comp_def, mTr_cat] using hr
  rw [hstk]
  have hrun : va_Run p l e R s m args below meth c H locs cells slots 0 0 (F0 m pc ls ((As.map (mTr as)).reverse ++ st.map (mTr as))) (st.map (mTr as)) (mQc Q' D cy as (va_A (mWs cy as w) H.size) (As.map (mTr as)).toArray) (va_A (mWs cy as w) H.size) := by
    rcases hlink with hlink | ⟨host, hlink⟩
    · exact va_runS (n := n) ⟨hC.1, hC.2.1, hC.2.2.1, hC.2.2.2.1, hts⟩ (hM l D cy as H.size) ⟨callB_of n hts (mGood hOK) rfl rfl rfl hini (hts _ hlink) ⟨hOK.2.2.2.1.1, hOK.2.2.2.1.2, hpar⟩ ⟨hfr, hlo⟩, hts _ hstat⟩ ⟨mPc_blind, hpre⟩ rfl (by rw [List.length_map]; exact hn) hl.1 rfl (lv_room hrest) hd hcells
    · exact va_runSN (n := n) ⟨hC.1, hC.2.1, hC.2.2.1, hC.2.2.2.1, hts⟩ (hM l D cy as H.size) ⟨va_cnB n hts (mGood hOK) rfl rfl rfl (hC.2.2.2.2.2.1 _ hlink rfl) hini ⟨hOK.2.2.2.1.1, hOK.2.2.2.1.2, hpar⟩ ⟨hfr, hlo⟩, hts _ hstat, trivial⟩ ⟨mPc_blind, hpre⟩ rfl (by rw [List.length_map]; exact hn) hl.1 rfl (lv_room hrest) hd hcells
  refine mCallX hrun hD hS hC.2.2.2.2.2.2.2.1 (fun v w' H1 locs1 hq hP1 hD1 hS1 => ?_)
  have h9 := kk v w' hq p l e R s m args below meth c D cy as A H0 cells slots Z hC hX hE H1 locs1 ls hP1 hD1 hS1 hl
  cases v <;> simpa using h9
end
section
theorem t_0 : (Cond.selects "BarrowNights$Sheets" ⟨"BarrowNights$Sheets", "faultOfRow", "(II)I"⟩ ⟨"BarrowNights$Sheets", "faultOfRow", "(II)I"⟩) ∈ lw_tbl := List.mem_of_getElem? (i := 0) (by decide +kernel)
theorem t_1 : (Cond.selects "BarrowNights$Sheets" ⟨"BarrowNights$Sheets", "hasNothing", "(I)Z"⟩ ⟨"BarrowNights$Sheets", "hasNothing", "(I)Z"⟩) ∈ lw_tbl := List.mem_of_getElem? (i := 1) (by decide +kernel)
theorem t_2 : (Cond.selects "BarrowNights$Sheets" ⟨"BarrowNights$Sheets", "faultOfCells", "(III)I"⟩ ⟨"BarrowNights$Sheets", "faultOfCells", "(III)I"⟩) ∈ lw_tbl := List.mem_of_getElem? (i := 2) (by decide +kernel)
theorem t_3 : (Cond.selects "BarrowNights$Text" ⟨"BarrowNights$Text", "load", "(LBarrowNights$Sheets;III)V"⟩ ⟨"BarrowNights$Text", "load", "(LBarrowNights$Sheets;III)V"⟩) ∈ lw_tbl := List.mem_of_getElem? (i := 3) (by decide +kernel)
theorem t_4 : (Cond.selects "BarrowNights$Sheets" ⟨"BarrowNights$Sheets", "valueAt", "(II)I"⟩ ⟨"BarrowNights$Sheets", "valueAt", "(II)I"⟩) ∈ lw_tbl := List.mem_of_getElem? (i := 4) (by decide +kernel)
theorem t_5 : (Cond.selects "BarrowNights$Sheets" ⟨"BarrowNights$Sheets", "faultOfCell", "(II)I"⟩ ⟨"BarrowNights$Sheets", "faultOfCell", "(II)I"⟩) ∈ lw_tbl := List.mem_of_getElem? (i := 5) (by decide +kernel)
theorem t_6 : (Cond.selects "BarrowNights$Text" ⟨"BarrowNights$Text", "firstFault", "()I"⟩ ⟨"BarrowNights$Text", "firstFault", "()I"⟩) ∈ lw_tbl := List.mem_of_getElem? (i := 6) (by decide +kernel)
theorem t_7 : (Cond.selects "BarrowNights$Text" ⟨"BarrowNights$Text", "codeAt", "(I)I"⟩ ⟨"BarrowNights$Text", "codeAt", "(I)I"⟩) ∈ lw_tbl := List.mem_of_getElem? (i := 7) (by decide +kernel)
theorem t_8 : (Cond.selects "BarrowNights$Text" ⟨"BarrowNights$Text", "stopInBarrow", "(I)I"⟩ ⟨"BarrowNights$Text", "stopInBarrow", "(I)I"⟩) ∈ lw_tbl := List.mem_of_getElem? (i := 8) (by decide +kernel)
theorem t_9 : (Cond.selects "BarrowNights$Text" ⟨"BarrowNights$Text", "kindAt", "(I)I"⟩ ⟨"BarrowNights$Text", "kindAt", "(I)I"⟩) ∈ lw_tbl := List.mem_of_getElem? (i := 9) (by decide +kernel)
theorem t_10 : (Cond.selects "BarrowNights$Text" ⟨"BarrowNights$Text", "isDigit", "(ICC)Z"⟩ ⟨"BarrowNights$Text", "isDigit", "(ICC)Z"⟩) ∈ lw_tbl := List.mem_of_getElem? (i := 10) (by decide +kernel)
theorem t_11 : (Cond.selects "BarrowNights$Text" ⟨"BarrowNights$Text", "stopInWalker", "(I)I"⟩ ⟨"BarrowNights$Text", "stopInWalker", "(I)I"⟩) ∈ lw_tbl := List.mem_of_getElem? (i := 11) (by decide +kernel)
theorem t_12 : (Cond.selects "BarrowNights$Text" ⟨"BarrowNights$Text", "makeAnew", "(LBarrowNights$Down;)V"⟩ ⟨"BarrowNights$Text", "makeAnew", "(LBarrowNights$Down;)V"⟩) ∈ lw_tbl := List.mem_of_getElem? (i := 12) (by decide +kernel)
theorem t_13 : (Cond.selects "BarrowNights$Text" ⟨"BarrowNights$Text", "digitAt", "(I)I"⟩ ⟨"BarrowNights$Text", "digitAt", "(I)I"⟩) ∈ lw_tbl := List.mem_of_getElem? (i := 13) (by decide +kernel)
theorem t_14 : (Cond.selects "BarrowNights$Down" ⟨"BarrowNights$Down", "hasBarrow", "(I)Z"⟩ ⟨"BarrowNights$Down", "hasBarrow", "(I)Z"⟩) ∈ lw_tbl := List.mem_of_getElem? (i := 14) (by decide +kernel)
theorem t_15 : (Cond.selects "BarrowNights$Down" ⟨"BarrowNights$Down", "holdsOf", "(I)I"⟩ ⟨"BarrowNights$Down", "holdsOf", "(I)I"⟩) ∈ lw_tbl := List.mem_of_getElem? (i := 15) (by decide +kernel)
theorem t_16 : (Cond.selects "BarrowNights$Down" ⟨"BarrowNights$Down", "lodgersOf", "(I)I"⟩ ⟨"BarrowNights$Down", "lodgersOf", "(I)I"⟩) ∈ lw_tbl := List.mem_of_getElem? (i := 16) (by decide +kernel)
theorem t_17 : (Cond.selects "BarrowNights$Down" ⟨"BarrowNights$Down", "hasWalker", "(I)Z"⟩ ⟨"BarrowNights$Down", "hasWalker", "(I)Z"⟩) ∈ lw_tbl := List.mem_of_getElem? (i := 17) (by decide +kernel)
theorem t_18 : (Cond.selects "BarrowNights$Down" ⟨"BarrowNights$Down", "dreamOf", "(I)I"⟩ ⟨"BarrowNights$Down", "dreamOf", "(I)I"⟩) ∈ lw_tbl := List.mem_of_getElem? (i := 18) (by decide +kernel)
theorem t_19 : (Cond.selects "BarrowNights$Down" ⟨"BarrowNights$Down", "enter", "(II)Z"⟩ ⟨"BarrowNights$Down", "enter", "(II)Z"⟩) ∈ lw_tbl := List.mem_of_getElem? (i := 19) (by decide +kernel)
theorem t_20 : (Cond.selects "BarrowNights$Down" ⟨"BarrowNights$Down", "suits", "(II)Z"⟩ ⟨"BarrowNights$Down", "suits", "(II)Z"⟩) ∈ lw_tbl := List.mem_of_getElem? (i := 20) (by decide +kernel)
theorem t_21 : (Cond.selects "BarrowNights$Down" ⟨"BarrowNights$Down", "goOut", "(I)Z"⟩ ⟨"BarrowNights$Down", "goOut", "(I)Z"⟩) ∈ lw_tbl := List.mem_of_getElem? (i := 21) (by decide +kernel)
theorem t_22 : (Cond.selects "BarrowNights$Down" ⟨"BarrowNights$Down", "isThere", "()Z"⟩ ⟨"BarrowNights$Down", "isThere", "()Z"⟩) ∈ lw_tbl := List.mem_of_getElem? (i := 22) (by decide +kernel)
theorem t_23 : (Cond.selects "BarrowNights$Down" ⟨"BarrowNights$Down", "passNights", "(I)I"⟩ ⟨"BarrowNights$Down", "passNights", "(I)I"⟩) ∈ lw_tbl := List.mem_of_getElem? (i := 23) (by decide +kernel)
theorem t_24 : (Cond.selects "BarrowNights$Down" ⟨"BarrowNights$Down", "paysOrGoes", "(I)Z"⟩ ⟨"BarrowNights$Down", "paysOrGoes", "(I)Z"⟩) ∈ lw_tbl := List.mem_of_getElem? (i := 24) (by decide +kernel)
theorem t_25 : (Cond.selects "BarrowNights$Season" ⟨"BarrowNights$Season", "load", "(LBarrowNights$Down;LBarrowNights$Sheets;III)I"⟩ ⟨"BarrowNights$Season", "load", "(LBarrowNights$Down;LBarrowNights$Sheets;III)I"⟩) ∈ lw_tbl := List.mem_of_getElem? (i := 25) (by decide +kernel)
theorem t_26 : (Cond.selects "BarrowNights$Down" ⟨"BarrowNights$Down", "become", "(LBarrowNights$Down;)V"⟩ ⟨"BarrowNights$Down", "become", "(LBarrowNights$Down;)V"⟩) ∈ lw_tbl := List.mem_of_getElem? (i := 26) (by decide +kernel)
theorem t_27 : (Cond.selects "BarrowNights$Season" ⟨"BarrowNights$Season", "refusalOf", "(II)I"⟩ ⟨"BarrowNights$Season", "refusalOf", "(II)I"⟩) ∈ lw_tbl := List.mem_of_getElem? (i := 27) (by decide +kernel)
theorem t_28 : (Cond.selects "BarrowNights$Season" ⟨"BarrowNights$Season", "play", "()V"⟩ ⟨"BarrowNights$Season", "play", "()V"⟩) ∈ lw_tbl := List.mem_of_getElem? (i := 28) (by decide +kernel)
theorem t_29 : (Cond.selects "BarrowNights$Season" ⟨"BarrowNights$Season", "canDo", "(II)Z"⟩ ⟨"BarrowNights$Season", "canDo", "(II)Z"⟩) ∈ lw_tbl := List.mem_of_getElem? (i := 29) (by decide +kernel)
theorem t_30 : (Cond.selects "BarrowNights$Season" ⟨"BarrowNights$Season", "answerTo", "(I)I"⟩ ⟨"BarrowNights$Season", "answerTo", "(I)I"⟩) ∈ lw_tbl := List.mem_of_getElem? (i := 30) (by decide +kernel)
theorem t_31 : (Cond.selects "BarrowNights$Down" ⟨"BarrowNights$Down", "allLodgers", "()I"⟩ ⟨"BarrowNights$Down", "allLodgers", "()I"⟩) ∈ lw_tbl := List.mem_of_getElem? (i := 31) (by decide +kernel)
theorem t_32 : (Cond.selects "BarrowNights$Down" ⟨"BarrowNights$Down", "meansOfAll", "()I"⟩ ⟨"BarrowNights$Down", "meansOfAll", "()I"⟩) ∈ lw_tbl := List.mem_of_getElem? (i := 32) (by decide +kernel)
theorem t_33 : (Cond.selects "BarrowNights$Housing" ⟨"BarrowNights$Housing", "search", "(LBarrowNights$Down;I)V"⟩ ⟨"BarrowNights$Housing", "search", "(LBarrowNights$Down;I)V"⟩) ∈ lw_tbl := List.mem_of_getElem? (i := 33) (by decide +kernel)
theorem t_34 : (Cond.selects "BarrowNights$Housing" ⟨"BarrowNights$Housing", "place", "(LBarrowNights$Down;III)V"⟩ ⟨"BarrowNights$Housing", "place", "(LBarrowNights$Down;III)V"⟩) ∈ lw_tbl := List.mem_of_getElem? (i := 34) (by decide +kernel)
theorem t_35 : (Cond.selects "BarrowNights$Housing" ⟨"BarrowNights$Housing", "keep", "(III)V"⟩ ⟨"BarrowNights$Housing", "keep", "(III)V"⟩) ∈ lw_tbl := List.mem_of_getElem? (i := 35) (by decide +kernel)
theorem t_36 : (Cond.selects "BarrowNights$Down" ⟨"BarrowNights$Down", "fewestTo", "(II)I"⟩ ⟨"BarrowNights$Down", "fewestTo", "(II)I"⟩) ∈ lw_tbl := List.mem_of_getElem? (i := 36) (by decide +kernel)
theorem t_37 : (Cond.selects "BarrowNights$Down" ⟨"BarrowNights$Down", "sitesNear", "(II)I"⟩ ⟨"BarrowNights$Down", "sitesNear", "(II)I"⟩) ∈ lw_tbl := List.mem_of_getElem? (i := 37) (by decide +kernel)
theorem t_38 : (Cond.selects "BarrowNights$Lying" ⟨"BarrowNights$Lying", "load", "(LBarrowNights$Sheets;III)V"⟩ ⟨"BarrowNights$Lying", "load", "(LBarrowNights$Sheets;III)V"⟩) ∈ lw_tbl := List.mem_of_getElem? (i := 38) (by decide +kernel)
theorem t_39 : (Cond.selects "BarrowNights$Lying" ⟨"BarrowNights$Lying", "search", "(LBarrowNights$Down;Z)V"⟩ ⟨"BarrowNights$Lying", "search", "(LBarrowNights$Down;Z)V"⟩) ∈ lw_tbl := List.mem_of_getElem? (i := 39) (by decide +kernel)
theorem t_40 : (Cond.selects "BarrowNights$Lying" ⟨"BarrowNights$Lying", "lay", "(LBarrowNights$Down;I)V"⟩ ⟨"BarrowNights$Lying", "lay", "(LBarrowNights$Down;I)V"⟩) ∈ lw_tbl := List.mem_of_getElem? (i := 40) (by decide +kernel)
theorem t_41 : (Cond.selects "BarrowNights$Lying" ⟨"BarrowNights$Lying", "keep", "(I)V"⟩ ⟨"BarrowNights$Lying", "keep", "(I)V"⟩) ∈ lw_tbl := List.mem_of_getElem? (i := 41) (by decide +kernel)
theorem t_42 : (Cond.selects "BarrowNights$Lying" ⟨"BarrowNights$Lying", "isTold", "(II)Z"⟩ ⟨"BarrowNights$Lying", "isTold", "(II)Z"⟩) ∈ lw_tbl := List.mem_of_getElem? (i := 42) (by decide +kernel)
theorem t_43 : (Cond.selects "BarrowNights$Lying" ⟨"BarrowNights$Lying", "layIn", "(LBarrowNights$Down;II)V"⟩ ⟨"BarrowNights$Lying", "layIn", "(LBarrowNights$Down;II)V"⟩) ∈ lw_tbl := List.mem_of_getElem? (i := 43) (by decide +kernel)
theorem t_44 : (Cond.selects "BarrowNights$Readings" ⟨"BarrowNights$Readings", "hasRoom", "()Z"⟩ ⟨"BarrowNights$Readings", "hasRoom", "()Z"⟩) ∈ lw_tbl := List.mem_of_getElem? (i := 44) (by decide +kernel)
theorem t_45 : (Cond.selects "BarrowNights$Readings" ⟨"BarrowNights$Readings", "note", "(III)I"⟩ ⟨"BarrowNights$Readings", "note", "(III)I"⟩) ∈ lw_tbl := List.mem_of_getElem? (i := 45) (by decide +kernel)
theorem t_46 : (Cond.selects "BarrowNights$Readings" ⟨"BarrowNights$Readings", "areSo", "(LBarrowNights$Down;II)Z"⟩ ⟨"BarrowNights$Readings", "areSo", "(LBarrowNights$Down;II)Z"⟩) ∈ lw_tbl := List.mem_of_getElem? (i := 46) (by decide +kernel)
theorem t_47 : (Cond.selects "BarrowNights$Down" ⟨"BarrowNights$Down", "waysToFill", "(I)J"⟩ ⟨"BarrowNights$Down", "waysToFill", "(I)J"⟩) ∈ lw_tbl := List.mem_of_getElem? (i := 47) (by decide +kernel)
theorem t_48 : (Cond.selects "BarrowNights$Sheets" ⟨"BarrowNights$Sheets", "renew", "(III)V"⟩ ⟨"BarrowNights$Sheets", "renew", "(III)V"⟩) ∈ lw_tbl := List.mem_of_getElem? (i := 48) (by decide +kernel)
theorem t_49 : (Cond.selects "BarrowNights$Sheets" ⟨"BarrowNights$Sheets", "empty", "(I)V"⟩ ⟨"BarrowNights$Sheets", "empty", "(I)V"⟩) ∈ lw_tbl := List.mem_of_getElem? (i := 49) (by decide +kernel)
theorem t_50 : (Cond.selects "BarrowNights$Sheets" ⟨"BarrowNights$Sheets", "setAt", "(III)V"⟩ ⟨"BarrowNights$Sheets", "setAt", "(III)V"⟩) ∈ lw_tbl := List.mem_of_getElem? (i := 50) (by decide +kernel)
theorem t_51 : (Cond.selects "BarrowNights$Sheets" ⟨"BarrowNights$Sheets", "faultOfPair", "(II)I"⟩ ⟨"BarrowNights$Sheets", "faultOfPair", "(II)I"⟩) ∈ lw_tbl := List.mem_of_getElem? (i := 51) (by decide +kernel)
theorem t_52 : (Cond.selects "BarrowNights$Sheets" ⟨"BarrowNights$Sheets", "move", "(IIIII)V"⟩ ⟨"BarrowNights$Sheets", "move", "(IIIII)V"⟩) ∈ lw_tbl := List.mem_of_getElem? (i := 52) (by decide +kernel)
theorem t_53 : (Cond.selects "BarrowNights" ⟨"BarrowNights", "ringBody", "(I)I"⟩ ⟨"BarrowNights", "ringBody", "(I)I"⟩) ∈ lw_tbl := List.mem_of_getElem? (i := 53) (by decide +kernel)
theorem t_54 : (Cond.selects "BarrowNights" ⟨"BarrowNights", "begin", "(I)V"⟩ ⟨"BarrowNights", "begin", "(I)V"⟩) ∈ lw_tbl := List.mem_of_getElem? (i := 54) (by decide +kernel)
theorem t_55 : (Cond.selects "BarrowNights" ⟨"BarrowNights", "longBody", "(I)I"⟩ ⟨"BarrowNights", "longBody", "(I)I"⟩) ∈ lw_tbl := List.mem_of_getElem? (i := 55) (by decide +kernel)
theorem t_56 : (Cond.selects "BarrowNights" ⟨"BarrowNights", "roundBody", "(I)I"⟩ ⟨"BarrowNights", "roundBody", "(I)I"⟩) ∈ lw_tbl := List.mem_of_getElem? (i := 56) (by decide +kernel)
theorem t_57 : (Cond.selects "BarrowNights" ⟨"BarrowNights", "ringHaunt", "()I"⟩ ⟨"BarrowNights", "ringHaunt", "()I"⟩) ∈ lw_tbl := List.mem_of_getElem? (i := 57) (by decide +kernel)
theorem t_58 : (Cond.selects "BarrowNights" ⟨"BarrowNights", "lentHaunt", "(I)I"⟩ ⟨"BarrowNights", "lentHaunt", "(I)I"⟩) ∈ lw_tbl := List.mem_of_getElem? (i := 58) (by decide +kernel)
theorem t_59 : (Cond.selects "BarrowNightsModel" ⟨"BarrowNightsModel", "against", "(IIII)I"⟩ ⟨"BarrowNightsModel", "against", "(IIII)I"⟩) ∈ lw_tbl := List.mem_of_getElem? (i := 59) (by decide +kernel)
theorem t_60 : (Cond.selects "BarrowNightsModel" ⟨"BarrowNightsModel", "fails", "(I)I"⟩ ⟨"BarrowNightsModel", "fails", "(I)I"⟩) ∈ lw_tbl := List.mem_of_getElem? (i := 60) (by decide +kernel)
theorem t_61 : (Cond.selects "BarrowNightsModel" ⟨"BarrowNightsModel", "readDown", "(I)Z"⟩ ⟨"BarrowNightsModel", "readDown", "(I)Z"⟩) ∈ lw_tbl := List.mem_of_getElem? (i := 61) (by decide +kernel)
theorem t_62 : (Cond.selects "BarrowNightsModel" ⟨"BarrowNightsModel", "isSign", "(II)Z"⟩ ⟨"BarrowNightsModel", "isSign", "(II)Z"⟩) ∈ lw_tbl := List.mem_of_getElem? (i := 62) (by decide +kernel)
theorem t_63 : (Cond.selects "BarrowNightsModel" ⟨"BarrowNightsModel", "readBarrow", "(I)Z"⟩ ⟨"BarrowNightsModel", "readBarrow", "(I)Z"⟩) ∈ lw_tbl := List.mem_of_getElem? (i := 63) (by decide +kernel)
theorem t_64 : (Cond.selects "BarrowNightsModel" ⟨"BarrowNightsModel", "digit", "(III)I"⟩ ⟨"BarrowNightsModel", "digit", "(III)I"⟩) ∈ lw_tbl := List.mem_of_getElem? (i := 64) (by decide +kernel)
theorem t_65 : (Cond.selects "BarrowNightsModel" ⟨"BarrowNightsModel", "readWalker", "(I)Z"⟩ ⟨"BarrowNightsModel", "readWalker", "(I)Z"⟩) ∈ lw_tbl := List.mem_of_getElem? (i := 65) (by decide +kernel)
theorem t_66 : (Cond.selects "BarrowNightsModel" ⟨"BarrowNightsModel", "takeDown", "()V"⟩ ⟨"BarrowNightsModel", "takeDown", "()V"⟩) ∈ lw_tbl := List.mem_of_getElem? (i := 66) (by decide +kernel)
theorem t_67 : (Cond.selects "BarrowNightsModel" ⟨"BarrowNightsModel", "isBarrow", "(I)Z"⟩ ⟨"BarrowNightsModel", "isBarrow", "(I)Z"⟩) ∈ lw_tbl := List.mem_of_getElem? (i := 67) (by decide +kernel)
theorem t_68 : (Cond.selects "BarrowNightsModel" ⟨"BarrowNightsModel", "holdsOf", "(I)I"⟩ ⟨"BarrowNightsModel", "holdsOf", "(I)I"⟩) ∈ lw_tbl := List.mem_of_getElem? (i := 68) (by decide +kernel)
theorem t_69 : (Cond.selects "BarrowNightsModel" ⟨"BarrowNightsModel", "lodgersOf", "(I)I"⟩ ⟨"BarrowNightsModel", "lodgersOf", "(I)I"⟩) ∈ lw_tbl := List.mem_of_getElem? (i := 69) (by decide +kernel)
theorem t_70 : (Cond.selects "BarrowNightsModel" ⟨"BarrowNightsModel", "isWalker", "(I)Z"⟩ ⟨"BarrowNightsModel", "isWalker", "(I)Z"⟩) ∈ lw_tbl := List.mem_of_getElem? (i := 70) (by decide +kernel)
theorem t_71 : (Cond.selects "BarrowNightsModel" ⟨"BarrowNightsModel", "doLodge", "(II)Z"⟩ ⟨"BarrowNightsModel", "doLodge", "(II)Z"⟩) ∈ lw_tbl := List.mem_of_getElem? (i := 71) (by decide +kernel)
theorem t_72 : (Cond.selects "BarrowNightsModel" ⟨"BarrowNightsModel", "mayGo", "(II)Z"⟩ ⟨"BarrowNightsModel", "mayGo", "(II)Z"⟩) ∈ lw_tbl := List.mem_of_getElem? (i := 72) (by decide +kernel)
theorem t_73 : (Cond.selects "BarrowNightsModel" ⟨"BarrowNightsModel", "goNight", "()I"⟩ ⟨"BarrowNightsModel", "goNight", "()I"⟩) ∈ lw_tbl := List.mem_of_getElem? (i := 73) (by decide +kernel)
theorem t_74 : (Cond.selects "BarrowNightsModel" ⟨"BarrowNightsModel", "refusesPair", "(II)I"⟩ ⟨"BarrowNightsModel", "refusesPair", "(II)I"⟩) ∈ lw_tbl := List.mem_of_getElem? (i := 74) (by decide +kernel)
theorem t_75 : (Cond.selects "BarrowNightsModel" ⟨"BarrowNightsModel", "keep", "()V"⟩ ⟨"BarrowNightsModel", "keep", "()V"⟩) ∈ lw_tbl := List.mem_of_getElem? (i := 75) (by decide +kernel)
theorem t_76 : (Cond.selects "BarrowNightsModel" ⟨"BarrowNightsModel", "goSeason", "(II)I"⟩ ⟨"BarrowNightsModel", "goSeason", "(II)I"⟩) ∈ lw_tbl := List.mem_of_getElem? (i := 76) (by decide +kernel)
theorem t_77 : (Cond.selects "BarrowNightsModel" ⟨"BarrowNightsModel", "does", "(II)Z"⟩ ⟨"BarrowNightsModel", "does", "(II)Z"⟩) ∈ lw_tbl := List.mem_of_getElem? (i := 77) (by decide +kernel)
theorem t_78 : (Cond.selects "BarrowNightsModel" ⟨"BarrowNightsModel", "tellSeason", "(I)I"⟩ ⟨"BarrowNightsModel", "tellSeason", "(I)I"⟩) ∈ lw_tbl := List.mem_of_getElem? (i := 78) (by decide +kernel)
theorem t_79 : (Cond.selects "BarrowNightsModel" ⟨"BarrowNightsModel", "whoLodges", "()I"⟩ ⟨"BarrowNightsModel", "whoLodges", "()I"⟩) ∈ lw_tbl := List.mem_of_getElem? (i := 79) (by decide +kernel)
theorem t_80 : (Cond.selects "BarrowNightsModel" ⟨"BarrowNightsModel", "putBack", "()V"⟩ ⟨"BarrowNightsModel", "putBack", "()V"⟩) ∈ lw_tbl := List.mem_of_getElem? (i := 80) (by decide +kernel)
theorem t_81 : (Cond.selects "BarrowNightsModel" ⟨"BarrowNightsModel", "findHoused", "(I)V"⟩ ⟨"BarrowNightsModel", "findHoused", "(I)V"⟩) ∈ lw_tbl := List.mem_of_getElem? (i := 81) (by decide +kernel)
theorem t_82 : (Cond.selects "BarrowNightsModel" ⟨"BarrowNightsModel", "rowsOf", "()I"⟩ ⟨"BarrowNightsModel", "rowsOf", "()I"⟩) ∈ lw_tbl := List.mem_of_getElem? (i := 82) (by decide +kernel)
theorem t_83 : (Cond.selects "BarrowNightsModel" ⟨"BarrowNightsModel", "rowOf", "(I)V"⟩ ⟨"BarrowNightsModel", "rowOf", "(I)V"⟩) ∈ lw_tbl := List.mem_of_getElem? (i := 83) (by decide +kernel)
theorem t_84 : (Cond.selects "BarrowNightsModel" ⟨"BarrowNightsModel", "canRow", "(I)Z"⟩ ⟨"BarrowNightsModel", "canRow", "(I)Z"⟩) ∈ lw_tbl := List.mem_of_getElem? (i := 84) (by decide +kernel)
theorem t_85 : (Cond.selects "BarrowNightsModel" ⟨"BarrowNightsModel", "isHeld", "()Z"⟩ ⟨"BarrowNightsModel", "isHeld", "()Z"⟩) ∈ lw_tbl := List.mem_of_getElem? (i := 85) (by decide +kernel)
theorem t_86 : (Cond.selects "BarrowNightsModel" ⟨"BarrowNightsModel", "stepOn", "(II)V"⟩ ⟨"BarrowNightsModel", "stepOn", "(II)V"⟩) ∈ lw_tbl := List.mem_of_getElem? (i := 86) (by decide +kernel)
theorem t_87 : (Cond.selects "BarrowNightsModel" ⟨"BarrowNightsModel", "areDreams", "(I)Z"⟩ ⟨"BarrowNightsModel", "areDreams", "(I)Z"⟩) ∈ lw_tbl := List.mem_of_getElem? (i := 87) (by decide +kernel)
theorem t_88 : (Cond.selects "BarrowNightsModel" ⟨"BarrowNightsModel", "areSo", "()Z"⟩ ⟨"BarrowNightsModel", "areSo", "()Z"⟩) ∈ lw_tbl := List.mem_of_getElem? (i := 88) (by decide +kernel)
theorem t_89 : (Cond.selects "BarrowNightsModel" ⟨"BarrowNightsModel", "lost", "(I)J"⟩ ⟨"BarrowNightsModel", "lost", "(I)J"⟩) ∈ lw_tbl := List.mem_of_getElem? (i := 89) (by decide +kernel)
theorem t_90 : (Cond.selects "BarrowNightsModel" ⟨"BarrowNightsModel", "begins", "(I)V"⟩ ⟨"BarrowNightsModel", "begins", "(I)V"⟩) ∈ lw_tbl := List.mem_of_getElem? (i := 90) (by decide +kernel)
theorem t_92 : (Jvm.Cond.initialized "BarrowNights") ∈ lw_tbl := List.mem_of_getElem? (i := 92) (by decide +kernel)
theorem t_93 : (Jvm.Cond.initialized "BarrowNights$Sheets") ∈ lw_tbl := List.mem_of_getElem? (i := 93) (by decide +kernel)
theorem t_94 : (Jvm.Cond.initialized "BarrowNights$Text") ∈ lw_tbl := List.mem_of_getElem? (i := 94) (by decide +kernel)
theorem t_95 : (Jvm.Cond.initialized "BarrowNights$Down") ∈ lw_tbl := List.mem_of_getElem? (i := 95) (by decide +kernel)
theorem t_96 : (Jvm.Cond.initialized "BarrowNights$Season") ∈ lw_tbl := List.mem_of_getElem? (i := 96) (by decide +kernel)
theorem t_97 : (Jvm.Cond.initialized "BarrowNights$Housing") ∈ lw_tbl := List.mem_of_getElem? (i := 97) (by decide +kernel)
theorem t_98 : (Jvm.Cond.initialized "BarrowNights$Lying") ∈ lw_tbl := List.mem_of_getElem? (i := 98) (by decide +kernel)
theorem t_99 : (Jvm.Cond.initialized "BarrowNights$Readings") ∈ lw_tbl := List.mem_of_getElem? (i := 99) (by decide +kernel)
theorem t_100 : (Jvm.Cond.initialized "BarrowNightsModel") ∈ lw_tbl := List.mem_of_getElem? (i := 100) (by decide +kernel)
theorem t_102 : (Jvm.Cond.initialized "java/lang/Integer") ∈ lw_tbl := List.mem_of_getElem? (i := 102) (by decide +kernel)
set_option maxRecDepth 100000 in
theorem t_108 : (Jvm.Cond.code ({ cls := "BarrowNights", name := "<init>", desc := "()V" } : Jvm.MethodName) prog_1_method_1_code (1 : Nat) (Option.none : Option Jvm.ClassFile.FieldType)) ∈ lw_tbl := List.mem_of_getElem? (i := 108) (rfl)
set_option maxRecDepth 100000 in
theorem t_116 : (Jvm.Cond.code ({ cls := "BarrowNights$Sheets", name := "<init>", desc := "()V" } : Jvm.MethodName) prog_7_method_1_code (1 : Nat) (Option.none : Option Jvm.ClassFile.FieldType)) ∈ lw_tbl := List.mem_of_getElem? (i := 116) (rfl)
theorem t_118 : (Jvm.Cond.fieldLink "BarrowNights$Sheets" (11 : Nat) "BarrowNights$Sheets" "lanes" "[I") ∈ lw_tbl := List.mem_of_getElem? (i := 118) (by decide +kernel)
theorem t_119 : (Jvm.Cond.fieldLink "BarrowNights$Sheets" (15 : Nat) "BarrowNights$Sheets" "sizes" "[I") ∈ lw_tbl := List.mem_of_getElem? (i := 119) (by decide +kernel)
theorem t_120 : (Jvm.Cond.fieldLink "BarrowNights$Sheets" (18 : Nat) "BarrowNights$Sheets" "cells" "[I") ∈ lw_tbl := List.mem_of_getElem? (i := 120) (by decide +kernel)
set_option maxRecDepth 100000 in
theorem t_133 : (Jvm.Cond.code ({ cls := "BarrowNights$Text", name := "<init>", desc := "()V" } : Jvm.MethodName) prog_8_method_1_code (1 : Nat) (Option.none : Option Jvm.ClassFile.FieldType)) ∈ lw_tbl := List.mem_of_getElem? (i := 133) (rfl)
theorem t_135 : (Jvm.Cond.fieldLink "BarrowNights$Text" (11 : Nat) "BarrowNights$Text" "codes" "[I") ∈ lw_tbl := List.mem_of_getElem? (i := 135) (by decide +kernel)
theorem t_136 : (Jvm.Cond.fieldLink "BarrowNights$Text" (26 : Nat) "BarrowNights$Text" "length" "I") ∈ lw_tbl := List.mem_of_getElem? (i := 136) (by decide +kernel)
theorem t_137 : (Jvm.Cond.fieldLink "BarrowNights$Text" (37 : Nat) "BarrowNights$Text" "barrows" "I") ∈ lw_tbl := List.mem_of_getElem? (i := 137) (by decide +kernel)
theorem t_138 : (Jvm.Cond.fieldLink "BarrowNights$Text" (40 : Nat) "BarrowNights$Text" "walkers" "I") ∈ lw_tbl := List.mem_of_getElem? (i := 138) (by decide +kernel)
set_option maxRecDepth 100000 in
theorem t_152 : (Jvm.Cond.code ({ cls := "BarrowNights$Down", name := "<init>", desc := "()V" } : Jvm.MethodName) prog_2_method_1_code (1 : Nat) (Option.none : Option Jvm.ClassFile.FieldType)) ∈ lw_tbl := List.mem_of_getElem? (i := 152) (rfl)
theorem t_154 : (Jvm.Cond.fieldLink "BarrowNights$Down" (39 : Nat) "BarrowNights$Down" "barrows" "I") ∈ lw_tbl := List.mem_of_getElem? (i := 154) (by decide +kernel)
theorem t_155 : (Jvm.Cond.fieldLinkNest "BarrowNights$Housing" (21 : Nat) "BarrowNights$Down" "barrows" "I" "BarrowNights") ∈ lw_tbl := List.mem_of_getElem? (i := 155) (by decide +kernel)
theorem t_156 : (Jvm.Cond.fieldLinkNest "BarrowNights" (97 : Nat) "BarrowNights$Down" "barrows" "I" "BarrowNights") ∈ lw_tbl := List.mem_of_getElem? (i := 156) (by decide +kernel)
theorem t_157 : (Jvm.Cond.fieldLinkNest "BarrowNights$Lying" (33 : Nat) "BarrowNights$Down" "barrows" "I" "BarrowNights") ∈ lw_tbl := List.mem_of_getElem? (i := 157) (by decide +kernel)
theorem t_158 : (Jvm.Cond.fieldLinkNest "BarrowNights$Text" (56 : Nat) "BarrowNights$Down" "barrows" "I" "BarrowNights") ∈ lw_tbl := List.mem_of_getElem? (i := 158) (by decide +kernel)
theorem t_159 : (Jvm.Cond.fieldLinkNest "BarrowNights$Housing" (41 : Nat) "BarrowNights$Down" "walkers" "I" "BarrowNights") ∈ lw_tbl := List.mem_of_getElem? (i := 159) (by decide +kernel)
theorem t_160 : (Jvm.Cond.fieldLink "BarrowNights$Down" (43 : Nat) "BarrowNights$Down" "walkers" "I") ∈ lw_tbl := List.mem_of_getElem? (i := 160) (by decide +kernel)
theorem t_161 : (Jvm.Cond.fieldLinkNest "BarrowNights$Lying" (58 : Nat) "BarrowNights$Down" "walkers" "I" "BarrowNights") ∈ lw_tbl := List.mem_of_getElem? (i := 161) (by decide +kernel)
theorem t_162 : (Jvm.Cond.fieldLinkNest "BarrowNights$Text" (59 : Nat) "BarrowNights$Down" "walkers" "I" "BarrowNights") ∈ lw_tbl := List.mem_of_getElem? (i := 162) (by decide +kernel)
theorem t_163 : (Jvm.Cond.fieldLinkNest "BarrowNights" (191 : Nat) "BarrowNights$Down" "walkers" "I" "BarrowNights") ∈ lw_tbl := List.mem_of_getElem? (i := 163) (by decide +kernel)
theorem t_164 : (Jvm.Cond.fieldLink "BarrowNights$Down" (46 : Nat) "BarrowNights$Down" "nights" "I") ∈ lw_tbl := List.mem_of_getElem? (i := 164) (by decide +kernel)
theorem t_165 : (Jvm.Cond.fieldLinkNest "BarrowNights$Text" (60 : Nat) "BarrowNights$Down" "nights" "I" "BarrowNights") ∈ lw_tbl := List.mem_of_getElem? (i := 165) (by decide +kernel)
theorem t_166 : (Jvm.Cond.fieldLinkNest "BarrowNights" (273 : Nat) "BarrowNights$Down" "nights" "I" "BarrowNights") ∈ lw_tbl := List.mem_of_getElem? (i := 166) (by decide +kernel)
theorem t_167 : (Jvm.Cond.fieldLink "BarrowNights$Down" (9 : Nat) "BarrowNights$Down" "kind" "[I") ∈ lw_tbl := List.mem_of_getElem? (i := 167) (by decide +kernel)
theorem t_168 : (Jvm.Cond.fieldLinkNest "BarrowNights" (103 : Nat) "BarrowNights$Down" "kind" "[I" "BarrowNights") ∈ lw_tbl := List.mem_of_getElem? (i := 168) (by decide +kernel)
theorem t_169 : (Jvm.Cond.fieldLinkNest "BarrowNights$Text" (63 : Nat) "BarrowNights$Down" "kind" "[I" "BarrowNights") ∈ lw_tbl := List.mem_of_getElem? (i := 169) (by decide +kernel)
theorem t_170 : (Jvm.Cond.fieldLink "BarrowNights$Down" (15 : Nat) "BarrowNights$Down" "beds" "[I") ∈ lw_tbl := List.mem_of_getElem? (i := 170) (by decide +kernel)
theorem t_171 : (Jvm.Cond.fieldLinkNest "BarrowNights" (107 : Nat) "BarrowNights$Down" "beds" "[I" "BarrowNights") ∈ lw_tbl := List.mem_of_getElem? (i := 171) (by decide +kernel)
theorem t_172 : (Jvm.Cond.fieldLinkNest "BarrowNights$Text" (66 : Nat) "BarrowNights$Down" "beds" "[I" "BarrowNights") ∈ lw_tbl := List.mem_of_getElem? (i := 172) (by decide +kernel)
theorem t_173 : (Jvm.Cond.fieldLink "BarrowNights$Down" (18 : Nat) "BarrowNights$Down" "pence" "[I") ∈ lw_tbl := List.mem_of_getElem? (i := 173) (by decide +kernel)
theorem t_174 : (Jvm.Cond.fieldLinkNest "BarrowNights" (110 : Nat) "BarrowNights$Down" "pence" "[I" "BarrowNights") ∈ lw_tbl := List.mem_of_getElem? (i := 174) (by decide +kernel)
theorem t_175 : (Jvm.Cond.fieldLinkNest "BarrowNights$Housing" (56 : Nat) "BarrowNights$Down" "pence" "[I" "BarrowNights") ∈ lw_tbl := List.mem_of_getElem? (i := 175) (by decide +kernel)
theorem t_176 : (Jvm.Cond.fieldLinkNest "BarrowNights$Text" (72 : Nat) "BarrowNights$Down" "pence" "[I" "BarrowNights") ∈ lw_tbl := List.mem_of_getElem? (i := 176) (by decide +kernel)
theorem t_177 : (Jvm.Cond.fieldLink "BarrowNights$Down" (21 : Nat) "BarrowNights$Down" "site" "[I") ∈ lw_tbl := List.mem_of_getElem? (i := 177) (by decide +kernel)
theorem t_178 : (Jvm.Cond.fieldLinkNest "BarrowNights" (113 : Nat) "BarrowNights$Down" "site" "[I" "BarrowNights") ∈ lw_tbl := List.mem_of_getElem? (i := 178) (by decide +kernel)
theorem t_179 : (Jvm.Cond.fieldLinkNest "BarrowNights$Text" (75 : Nat) "BarrowNights$Down" "site" "[I" "BarrowNights") ∈ lw_tbl := List.mem_of_getElem? (i := 179) (by decide +kernel)
theorem t_180 : (Jvm.Cond.fieldLink "BarrowNights$Down" (24 : Nat) "BarrowNights$Down" "means" "[I") ∈ lw_tbl := List.mem_of_getElem? (i := 180) (by decide +kernel)
theorem t_181 : (Jvm.Cond.fieldLinkNest "BarrowNights" (126 : Nat) "BarrowNights$Down" "means" "[I" "BarrowNights") ∈ lw_tbl := List.mem_of_getElem? (i := 181) (by decide +kernel)
theorem t_182 : (Jvm.Cond.fieldLinkNest "BarrowNights$Text" (78 : Nat) "BarrowNights$Down" "means" "[I" "BarrowNights") ∈ lw_tbl := List.mem_of_getElem? (i := 182) (by decide +kernel)
theorem t_183 : (Jvm.Cond.fieldLink "BarrowNights$Down" (27 : Nat) "BarrowNights$Down" "place" "[I") ∈ lw_tbl := List.mem_of_getElem? (i := 183) (by decide +kernel)
theorem t_184 : (Jvm.Cond.fieldLinkNest "BarrowNights" (129 : Nat) "BarrowNights$Down" "place" "[I" "BarrowNights") ∈ lw_tbl := List.mem_of_getElem? (i := 184) (by decide +kernel)
theorem t_185 : (Jvm.Cond.fieldLinkNest "BarrowNights$Text" (81 : Nat) "BarrowNights$Down" "place" "[I" "BarrowNights") ∈ lw_tbl := List.mem_of_getElem? (i := 185) (by decide +kernel)
theorem t_186 : (Jvm.Cond.fieldLink "BarrowNights$Down" (30 : Nat) "BarrowNights$Down" "reach" "[I") ∈ lw_tbl := List.mem_of_getElem? (i := 186) (by decide +kernel)
theorem t_187 : (Jvm.Cond.fieldLinkNest "BarrowNights" (132 : Nat) "BarrowNights$Down" "reach" "[I" "BarrowNights") ∈ lw_tbl := List.mem_of_getElem? (i := 187) (by decide +kernel)
theorem t_188 : (Jvm.Cond.fieldLinkNest "BarrowNights$Text" (84 : Nat) "BarrowNights$Down" "reach" "[I" "BarrowNights") ∈ lw_tbl := List.mem_of_getElem? (i := 188) (by decide +kernel)
theorem t_189 : (Jvm.Cond.fieldLink "BarrowNights$Down" (33 : Nat) "BarrowNights$Down" "lodging" "[I") ∈ lw_tbl := List.mem_of_getElem? (i := 189) (by decide +kernel)
theorem t_190 : (Jvm.Cond.fieldLinkNest "BarrowNights" (135 : Nat) "BarrowNights$Down" "lodging" "[I" "BarrowNights") ∈ lw_tbl := List.mem_of_getElem? (i := 190) (by decide +kernel)
theorem t_191 : (Jvm.Cond.fieldLinkNest "BarrowNights$Season" (84 : Nat) "BarrowNights$Down" "lodging" "[I" "BarrowNights") ∈ lw_tbl := List.mem_of_getElem? (i := 191) (by decide +kernel)
theorem t_192 : (Jvm.Cond.fieldLinkNest "BarrowNights$Text" (87 : Nat) "BarrowNights$Down" "lodging" "[I" "BarrowNights") ∈ lw_tbl := List.mem_of_getElem? (i := 192) (by decide +kernel)
theorem t_193 : (Jvm.Cond.fieldLink "BarrowNights$Down" (36 : Nat) "BarrowNights$Down" "cold" "[I") ∈ lw_tbl := List.mem_of_getElem? (i := 193) (by decide +kernel)
theorem t_194 : (Jvm.Cond.fieldLinkNest "BarrowNights" (138 : Nat) "BarrowNights$Down" "cold" "[I" "BarrowNights") ∈ lw_tbl := List.mem_of_getElem? (i := 194) (by decide +kernel)
theorem t_195 : (Jvm.Cond.fieldLinkNest "BarrowNights$Season" (87 : Nat) "BarrowNights$Down" "cold" "[I" "BarrowNights") ∈ lw_tbl := List.mem_of_getElem? (i := 195) (by decide +kernel)
theorem t_196 : (Jvm.Cond.fieldLinkNest "BarrowNights$Text" (90 : Nat) "BarrowNights$Down" "cold" "[I" "BarrowNights") ∈ lw_tbl := List.mem_of_getElem? (i := 196) (by decide +kernel)
set_option maxRecDepth 100000 in
theorem t_226 : (Jvm.Cond.code ({ cls := "BarrowNights$Season", name := "<init>", desc := "()V" } : Jvm.MethodName) prog_6_method_1_code (1 : Nat) (Option.none : Option Jvm.ClassFile.FieldType)) ∈ lw_tbl := List.mem_of_getElem? (i := 226) (rfl)
theorem t_230 : (Jvm.Cond.fieldLink "BarrowNights$Season" (12 : Nat) "BarrowNights$Season" "then" "LBarrowNights$Down;") ∈ lw_tbl := List.mem_of_getElem? (i := 230) (by decide +kernel)
theorem t_231 : (Jvm.Cond.fieldLink "BarrowNights$Season" (18 : Nat) "BarrowNights$Season" "first" "[I") ∈ lw_tbl := List.mem_of_getElem? (i := 231) (by decide +kernel)
theorem t_232 : (Jvm.Cond.fieldLink "BarrowNights$Season" (22 : Nat) "BarrowNights$Season" "second" "[I") ∈ lw_tbl := List.mem_of_getElem? (i := 232) (by decide +kernel)
theorem t_233 : (Jvm.Cond.fieldLink "BarrowNights$Season" (38 : Nat) "BarrowNights$Season" "acts" "I") ∈ lw_tbl := List.mem_of_getElem? (i := 233) (by decide +kernel)
theorem t_234 : (Jvm.Cond.fieldLink "BarrowNights$Season" (57 : Nat) "BarrowNights$Season" "firstWrong" "I") ∈ lw_tbl := List.mem_of_getElem? (i := 234) (by decide +kernel)
theorem t_235 : (Jvm.Cond.fieldLink "BarrowNights$Season" (60 : Nat) "BarrowNights$Season" "putOut" "I") ∈ lw_tbl := List.mem_of_getElem? (i := 235) (by decide +kernel)
set_option maxRecDepth 100000 in
theorem t_253 : (Jvm.Cond.code ({ cls := "BarrowNights$Housing", name := "<init>", desc := "()V" } : Jvm.MethodName) prog_3_method_1_code (1 : Nat) (Option.none : Option Jvm.ClassFile.FieldType)) ∈ lw_tbl := List.mem_of_getElem? (i := 253) (rfl)
theorem t_255 : (Jvm.Cond.fieldLink "BarrowNights$Housing" (9 : Nat) "BarrowNights$Housing" "row" "[I") ∈ lw_tbl := List.mem_of_getElem? (i := 255) (by decide +kernel)
theorem t_256 : (Jvm.Cond.fieldLink "BarrowNights$Housing" (15 : Nat) "BarrowNights$Housing" "best" "[I") ∈ lw_tbl := List.mem_of_getElem? (i := 256) (by decide +kernel)
theorem t_257 : (Jvm.Cond.fieldLinkNest "BarrowNights" (185 : Nat) "BarrowNights$Housing" "best" "[I" "BarrowNights") ∈ lw_tbl := List.mem_of_getElem? (i := 257) (by decide +kernel)
theorem t_258 : (Jvm.Cond.fieldLink "BarrowNights$Housing" (18 : Nat) "BarrowNights$Housing" "left" "[I") ∈ lw_tbl := List.mem_of_getElem? (i := 258) (by decide +kernel)
theorem t_259 : (Jvm.Cond.fieldLink "BarrowNights$Housing" (31 : Nat) "BarrowNights$Housing" "most" "I") ∈ lw_tbl := List.mem_of_getElem? (i := 259) (by decide +kernel)
theorem t_260 : (Jvm.Cond.fieldLinkNest "BarrowNights" (179 : Nat) "BarrowNights$Housing" "most" "I" "BarrowNights") ∈ lw_tbl := List.mem_of_getElem? (i := 260) (by decide +kernel)
theorem t_261 : (Jvm.Cond.fieldLink "BarrowNights$Housing" (34 : Nat) "BarrowNights$Housing" "least" "I") ∈ lw_tbl := List.mem_of_getElem? (i := 261) (by decide +kernel)
theorem t_262 : (Jvm.Cond.fieldLinkNest "BarrowNights" (182 : Nat) "BarrowNights$Housing" "least" "I" "BarrowNights") ∈ lw_tbl := List.mem_of_getElem? (i := 262) (by decide +kernel)
set_option maxRecDepth 100000 in
theorem t_278 : (Jvm.Cond.code ({ cls := "BarrowNights$Lying", name := "<init>", desc := "()V" } : Jvm.MethodName) prog_4_method_1_code (1 : Nat) (Option.none : Option Jvm.ClassFile.FieldType)) ∈ lw_tbl := List.mem_of_getElem? (i := 278) (rfl)
theorem t_280 : (Jvm.Cond.fieldLink "BarrowNights$Lying" (9 : Nat) "BarrowNights$Lying" "dreams" "[I") ∈ lw_tbl := List.mem_of_getElem? (i := 280) (by decide +kernel)
theorem t_281 : (Jvm.Cond.fieldLink "BarrowNights$Lying" (15 : Nat) "BarrowNights$Lying" "row" "[I") ∈ lw_tbl := List.mem_of_getElem? (i := 281) (by decide +kernel)
theorem t_282 : (Jvm.Cond.fieldLink "BarrowNights$Lying" (18 : Nat) "BarrowNights$Lying" "first" "[I") ∈ lw_tbl := List.mem_of_getElem? (i := 282) (by decide +kernel)
theorem t_283 : (Jvm.Cond.fieldLinkNest "BarrowNights" (201 : Nat) "BarrowNights$Lying" "first" "[I" "BarrowNights") ∈ lw_tbl := List.mem_of_getElem? (i := 283) (by decide +kernel)
theorem t_284 : (Jvm.Cond.fieldLink "BarrowNights$Lying" (21 : Nat) "BarrowNights$Lying" "left" "[I") ∈ lw_tbl := List.mem_of_getElem? (i := 284) (by decide +kernel)
theorem t_285 : (Jvm.Cond.fieldLink "BarrowNights$Lying" (24 : Nat) "BarrowNights$Lying" "latest" "[I") ∈ lw_tbl := List.mem_of_getElem? (i := 285) (by decide +kernel)
theorem t_286 : (Jvm.Cond.fieldLink "BarrowNights$Lying" (43 : Nat) "BarrowNights$Lying" "ways" "I") ∈ lw_tbl := List.mem_of_getElem? (i := 286) (by decide +kernel)
theorem t_287 : (Jvm.Cond.fieldLinkNest "BarrowNights" (198 : Nat) "BarrowNights$Lying" "ways" "I" "BarrowNights") ∈ lw_tbl := List.mem_of_getElem? (i := 287) (by decide +kernel)
theorem t_288 : (Jvm.Cond.fieldLink "BarrowNights$Lying" (46 : Nat) "BarrowNights$Lying" "firstOnly" "Z") ∈ lw_tbl := List.mem_of_getElem? (i := 288) (by decide +kernel)
set_option maxRecDepth 100000 in
theorem t_308 : (Jvm.Cond.code ({ cls := "BarrowNights$Readings", name := "<init>", desc := "()V" } : Jvm.MethodName) prog_5_method_1_code (1 : Nat) (Option.none : Option Jvm.ClassFile.FieldType)) ∈ lw_tbl := List.mem_of_getElem? (i := 308) (rfl)
theorem t_310 : (Jvm.Cond.fieldLink "BarrowNights$Readings" (11 : Nat) "BarrowNights$Readings" "barrow" "[I") ∈ lw_tbl := List.mem_of_getElem? (i := 310) (by decide +kernel)
theorem t_311 : (Jvm.Cond.fieldLink "BarrowNights$Readings" (15 : Nat) "BarrowNights$Readings" "lodgers" "[I") ∈ lw_tbl := List.mem_of_getElem? (i := 311) (by decide +kernel)
theorem t_312 : (Jvm.Cond.fieldLink "BarrowNights$Readings" (18 : Nat) "BarrowNights$Readings" "full" "[I") ∈ lw_tbl := List.mem_of_getElem? (i := 312) (by decide +kernel)
theorem t_313 : (Jvm.Cond.fieldLink "BarrowNights$Readings" (21 : Nat) "BarrowNights$Readings" "count" "I") ∈ lw_tbl := List.mem_of_getElem? (i := 313) (by decide +kernel)
theorem t_314 : (Jvm.Cond.fieldLinkNest "BarrowNights" (94 : Nat) "BarrowNights$Readings" "count" "I" "BarrowNights") ∈ lw_tbl := List.mem_of_getElem? (i := 314) (by decide +kernel)
theorem t_324 : (Jvm.Cond.fieldLink "BarrowNights" (12 : Nat) "BarrowNights" "sheets" "LBarrowNights$Sheets;") ∈ lw_tbl := List.mem_of_getElem? (i := 324) (by decide +kernel)
theorem t_325 : (Jvm.Cond.fieldLink "BarrowNights" (21 : Nat) "BarrowNights" "text" "LBarrowNights$Text;") ∈ lw_tbl := List.mem_of_getElem? (i := 325) (by decide +kernel)
theorem t_326 : (Jvm.Cond.fieldLink "BarrowNights" (28 : Nat) "BarrowNights" "now" "LBarrowNights$Down;") ∈ lw_tbl := List.mem_of_getElem? (i := 326) (by decide +kernel)
theorem t_327 : (Jvm.Cond.fieldLink "BarrowNights" (35 : Nat) "BarrowNights" "told" "LBarrowNights$Season;") ∈ lw_tbl := List.mem_of_getElem? (i := 327) (by decide +kernel)
theorem t_328 : (Jvm.Cond.fieldLink "BarrowNights" (42 : Nat) "BarrowNights" "housing" "LBarrowNights$Housing;") ∈ lw_tbl := List.mem_of_getElem? (i := 328) (by decide +kernel)
theorem t_329 : (Jvm.Cond.fieldLink "BarrowNights" (49 : Nat) "BarrowNights" "lying" "LBarrowNights$Lying;") ∈ lw_tbl := List.mem_of_getElem? (i := 329) (by decide +kernel)
theorem t_330 : (Jvm.Cond.fieldLink "BarrowNights" (56 : Nat) "BarrowNights" "readings" "LBarrowNights$Readings;") ∈ lw_tbl := List.mem_of_getElem? (i := 330) (by decide +kernel)
theorem t_331 : (Jvm.Cond.fieldLink "BarrowNights" (60 : Nat) "BarrowNights" "trace" "I") ∈ lw_tbl := List.mem_of_getElem? (i := 331) (by decide +kernel)
theorem t_332 : (Jvm.Cond.fieldLink "BarrowNights" (64 : Nat) "BarrowNights" "fault" "I") ∈ lw_tbl := List.mem_of_getElem? (i := 332) (by decide +kernel)
theorem t_352 : (Jvm.Cond.methodLink "BarrowNightsLaw" (13 : Nat) ({ cls := "BarrowNights", name := "down", desc := "(IIII)I" } : Jvm.MethodName)) ∈ lw_tbl := List.mem_of_getElem? (i := 352) (by decide +kernel)
theorem t_353 : (Jvm.Cond.instanceMethod ({ cls := "BarrowNights", name := "down", desc := "(IIII)I" } : Jvm.MethodName)) ∈ lw_tbl := List.mem_of_getElem? (i := 353) (by decide +kernel)
theorem t_354 : (Jvm.Cond.selects "BarrowNights" ({ cls := "BarrowNights", name := "down", desc := "(IIII)I" } : Jvm.MethodName) ({ cls := "BarrowNights", name := "down", desc := "(IIII)I" } : Jvm.MethodName)) ∈ lw_tbl := List.mem_of_getElem? (i := 354) (by decide +kernel)
set_option maxRecDepth 100000 in
theorem t_355 : (Jvm.Cond.code ({ cls := "BarrowNights", name := "down", desc := "(IIII)I" } : Jvm.MethodName) prog_1_method_2_code (6 : Nat) (Option.some Jvm.ClassFile.FieldType.int)) ∈ lw_tbl := List.mem_of_getElem? (i := 355) (rfl)
theorem t_356 : (Jvm.Cond.methodLinkNest "BarrowNights" (67 : Nat) ({ cls := "BarrowNights$Sheets", name := "isSheet", desc := "(I)Z" } : Jvm.MethodName) "BarrowNights") ∈ lw_tbl := List.mem_of_getElem? (i := 356) (by decide +kernel)
theorem t_357 : (Jvm.Cond.static ({ cls := "BarrowNights$Sheets", name := "isSheet", desc := "(I)Z" } : Jvm.MethodName)) ∈ lw_tbl := List.mem_of_getElem? (i := 357) (by decide +kernel)
set_option maxRecDepth 100000 in
theorem t_358 : (Jvm.Cond.code ({ cls := "BarrowNights$Sheets", name := "isSheet", desc := "(I)Z" } : Jvm.MethodName) prog_7_method_2_code (1 : Nat) (Option.some Jvm.ClassFile.FieldType.boolean)) ∈ lw_tbl := List.mem_of_getElem? (i := 358) (rfl)
theorem t_359 : (Jvm.Cond.methodLink "BarrowNights" (71 : Nat) ({ cls := "BarrowNights", name := "isLane", desc := "(I)Z" } : Jvm.MethodName)) ∈ lw_tbl := List.mem_of_getElem? (i := 359) (by decide +kernel)
theorem t_360 : (Jvm.Cond.static ({ cls := "BarrowNights", name := "isLane", desc := "(I)Z" } : Jvm.MethodName)) ∈ lw_tbl := List.mem_of_getElem? (i := 360) (by decide +kernel)
set_option maxRecDepth 100000 in
theorem t_361 : (Jvm.Cond.code ({ cls := "BarrowNights", name := "isLane", desc := "(I)Z" } : Jvm.MethodName) prog_1_method_37_code (1 : Nat) (Option.some Jvm.ClassFile.FieldType.boolean)) ∈ lw_tbl := List.mem_of_getElem? (i := 361) (rfl)
theorem t_362 : (Jvm.Cond.methodLinkNest "BarrowNights" (74 : Nat) ({ cls := "BarrowNights$Sheets", name := "faultOfRow", desc := "(II)I" } : Jvm.MethodName) "BarrowNights") ∈ lw_tbl := List.mem_of_getElem? (i := 362) (by decide +kernel)
theorem t_364 : (Jvm.Cond.instanceMethod ({ cls := "BarrowNights$Sheets", name := "faultOfRow", desc := "(II)I" } : Jvm.MethodName)) ∈ lw_tbl := List.mem_of_getElem? (i := 364) (by decide +kernel)
set_option maxRecDepth 100000 in
theorem t_365 : (Jvm.Cond.code ({ cls := "BarrowNights$Sheets", name := "faultOfRow", desc := "(II)I" } : Jvm.MethodName) prog_7_method_4_code (3 : Nat) (Option.some Jvm.ClassFile.FieldType.int)) ∈ lw_tbl := List.mem_of_getElem? (i := 365) (rfl)
theorem t_366 : (Jvm.Cond.methodLink "BarrowNights$Sheets" (25 : Nat) ({ cls := "BarrowNights$Sheets", name := "hasNothing", desc := "(I)Z" } : Jvm.MethodName)) ∈ lw_tbl := List.mem_of_getElem? (i := 366) (by decide +kernel)
theorem t_368 : (Jvm.Cond.instanceMethod ({ cls := "BarrowNights$Sheets", name := "hasNothing", desc := "(I)Z" } : Jvm.MethodName)) ∈ lw_tbl := List.mem_of_getElem? (i := 368) (by decide +kernel)
set_option maxRecDepth 100000 in
theorem t_369 : (Jvm.Cond.code ({ cls := "BarrowNights$Sheets", name := "hasNothing", desc := "(I)Z" } : Jvm.MethodName) prog_7_method_3_code (2 : Nat) (Option.some Jvm.ClassFile.FieldType.boolean)) ∈ lw_tbl := List.mem_of_getElem? (i := 369) (rfl)
theorem t_370 : (Jvm.Cond.methodLink "BarrowNights$Sheets" (21 : Nat) ({ cls := "BarrowNights$Sheets", name := "isSheet", desc := "(I)Z" } : Jvm.MethodName)) ∈ lw_tbl := List.mem_of_getElem? (i := 370) (by decide +kernel)
theorem t_371 : (Jvm.Cond.methodLinkNest "BarrowNights" (78 : Nat) ({ cls := "BarrowNights$Sheets", name := "faultOfCells", desc := "(III)I" } : Jvm.MethodName) "BarrowNights") ∈ lw_tbl := List.mem_of_getElem? (i := 371) (by decide +kernel)
theorem t_373 : (Jvm.Cond.instanceMethod ({ cls := "BarrowNights$Sheets", name := "faultOfCells", desc := "(III)I" } : Jvm.MethodName)) ∈ lw_tbl := List.mem_of_getElem? (i := 373) (by decide +kernel)
set_option maxRecDepth 100000 in
theorem t_374 : (Jvm.Cond.code ({ cls := "BarrowNights$Sheets", name := "faultOfCells", desc := "(III)I" } : Jvm.MethodName) prog_7_method_7_code (4 : Nat) (Option.some Jvm.ClassFile.FieldType.int)) ∈ lw_tbl := List.mem_of_getElem? (i := 374) (rfl)
theorem t_375 : (Jvm.Cond.methodLinkNest "BarrowNights" (82 : Nat) ({ cls := "BarrowNights$Text", name := "load", desc := "(LBarrowNights$Sheets;III)V" } : Jvm.MethodName) "BarrowNights") ∈ lw_tbl := List.mem_of_getElem? (i := 375) (by decide +kernel)
theorem t_377 : (Jvm.Cond.instanceMethod ({ cls := "BarrowNights$Text", name := "load", desc := "(LBarrowNights$Sheets;III)V" } : Jvm.MethodName)) ∈ lw_tbl := List.mem_of_getElem? (i := 377) (by decide +kernel)
set_option maxRecDepth 100000 in
theorem t_378 : (Jvm.Cond.code ({ cls := "BarrowNights$Text", name := "load", desc := "(LBarrowNights$Sheets;III)V" } : Jvm.MethodName) prog_8_method_2_code (6 : Nat) (Option.none : Option Jvm.ClassFile.FieldType)) ∈ lw_tbl := List.mem_of_getElem? (i := 378) (rfl)
theorem t_379 : (Jvm.Cond.methodLink "BarrowNights$Text" (17 : Nat) ({ cls := "java/lang/Math", name := "min", desc := "(II)I" } : Jvm.MethodName)) ∈ lw_tbl := List.mem_of_getElem? (i := 379) (by decide +kernel)
theorem t_380 : (Jvm.Cond.static ({ cls := "java/lang/Math", name := "min", desc := "(II)I" } : Jvm.MethodName)) ∈ lw_tbl := List.mem_of_getElem? (i := 380) (by decide +kernel)
set_option maxRecDepth 100000 in
theorem t_381 : (Jvm.Cond.code ({ cls := "java/lang/Math", name := "min", desc := "(II)I" } : Jvm.MethodName) prog_12_method_69_code (2 : Nat) (Option.some Jvm.ClassFile.FieldType.int)) ∈ lw_tbl := List.mem_of_getElem? (i := 381) (rfl)
theorem t_382 : (Jvm.Cond.methodLink "BarrowNights$Text" (23 : Nat) ({ cls := "java/lang/Math", name := "max", desc := "(II)I" } : Jvm.MethodName)) ∈ lw_tbl := List.mem_of_getElem? (i := 382) (by decide +kernel)
theorem t_383 : (Jvm.Cond.static ({ cls := "java/lang/Math", name := "max", desc := "(II)I" } : Jvm.MethodName)) ∈ lw_tbl := List.mem_of_getElem? (i := 383) (by decide +kernel)
set_option maxRecDepth 100000 in
theorem t_384 : (Jvm.Cond.code ({ cls := "java/lang/Math", name := "max", desc := "(II)I" } : Jvm.MethodName) prog_12_method_65_code (2 : Nat) (Option.some Jvm.ClassFile.FieldType.int)) ∈ lw_tbl := List.mem_of_getElem? (i := 384) (rfl)
theorem t_385 : (Jvm.Cond.methodLinkNest "BarrowNights$Text" (30 : Nat) ({ cls := "BarrowNights$Sheets", name := "valueAt", desc := "(II)I" } : Jvm.MethodName) "BarrowNights") ∈ lw_tbl := List.mem_of_getElem? (i := 385) (by decide +kernel)
theorem t_387 : (Jvm.Cond.instanceMethod ({ cls := "BarrowNights$Sheets", name := "valueAt", desc := "(II)I" } : Jvm.MethodName)) ∈ lw_tbl := List.mem_of_getElem? (i := 387) (by decide +kernel)
set_option maxRecDepth 100000 in
theorem t_388 : (Jvm.Cond.code ({ cls := "BarrowNights$Sheets", name := "valueAt", desc := "(II)I" } : Jvm.MethodName) prog_7_method_10_code (3 : Nat) (Option.some Jvm.ClassFile.FieldType.int)) ∈ lw_tbl := List.mem_of_getElem? (i := 388) (rfl)
theorem t_389 : (Jvm.Cond.methodLink "BarrowNights$Sheets" (28 : Nat) ({ cls := "BarrowNights$Sheets", name := "faultOfCell", desc := "(II)I" } : Jvm.MethodName)) ∈ lw_tbl := List.mem_of_getElem? (i := 389) (by decide +kernel)
theorem t_391 : (Jvm.Cond.instanceMethod ({ cls := "BarrowNights$Sheets", name := "faultOfCell", desc := "(II)I" } : Jvm.MethodName)) ∈ lw_tbl := List.mem_of_getElem? (i := 391) (by decide +kernel)
set_option maxRecDepth 100000 in
theorem t_392 : (Jvm.Cond.code ({ cls := "BarrowNights$Sheets", name := "faultOfCell", desc := "(II)I" } : Jvm.MethodName) prog_7_method_6_code (3 : Nat) (Option.some Jvm.ClassFile.FieldType.int)) ∈ lw_tbl := List.mem_of_getElem? (i := 392) (rfl)
theorem t_393 : (Jvm.Cond.methodLinkNest "BarrowNights" (86 : Nat) ({ cls := "BarrowNights$Text", name := "firstFault", desc := "()I" } : Jvm.MethodName) "BarrowNights") ∈ lw_tbl := List.mem_of_getElem? (i := 393) (by decide +kernel)
theorem t_395 : (Jvm.Cond.instanceMethod ({ cls := "BarrowNights$Text", name := "firstFault", desc := "()I" } : Jvm.MethodName)) ∈ lw_tbl := List.mem_of_getElem? (i := 395) (by decide +kernel)
set_option maxRecDepth 100000 in
theorem t_396 : (Jvm.Cond.code ({ cls := "BarrowNights$Text", name := "firstFault", desc := "()I" } : Jvm.MethodName) prog_8_method_7_code (4 : Nat) (Option.some Jvm.ClassFile.FieldType.int)) ∈ lw_tbl := List.mem_of_getElem? (i := 396) (rfl)
theorem t_397 : (Jvm.Cond.methodLink "BarrowNights$Text" (33 : Nat) ({ cls := "BarrowNights$Text", name := "codeAt", desc := "(I)I" } : Jvm.MethodName)) ∈ lw_tbl := List.mem_of_getElem? (i := 397) (by decide +kernel)
theorem t_399 : (Jvm.Cond.instanceMethod ({ cls := "BarrowNights$Text", name := "codeAt", desc := "(I)I" } : Jvm.MethodName)) ∈ lw_tbl := List.mem_of_getElem? (i := 399) (by decide +kernel)
set_option maxRecDepth 100000 in
theorem t_400 : (Jvm.Cond.code ({ cls := "BarrowNights$Text", name := "codeAt", desc := "(I)I" } : Jvm.MethodName) prog_8_method_3_code (2 : Nat) (Option.some Jvm.ClassFile.FieldType.int)) ∈ lw_tbl := List.mem_of_getElem? (i := 400) (rfl)
theorem t_401 : (Jvm.Cond.methodLink "BarrowNights$Text" (43 : Nat) ({ cls := "BarrowNights$Text", name := "stopInBarrow", desc := "(I)I" } : Jvm.MethodName)) ∈ lw_tbl := List.mem_of_getElem? (i := 401) (by decide +kernel)
theorem t_403 : (Jvm.Cond.instanceMethod ({ cls := "BarrowNights$Text", name := "stopInBarrow", desc := "(I)I" } : Jvm.MethodName)) ∈ lw_tbl := List.mem_of_getElem? (i := 403) (by decide +kernel)
set_option maxRecDepth 100000 in
theorem t_404 : (Jvm.Cond.code ({ cls := "BarrowNights$Text", name := "stopInBarrow", desc := "(I)I" } : Jvm.MethodName) prog_8_method_8_code (2 : Nat) (Option.some Jvm.ClassFile.FieldType.int)) ∈ lw_tbl := List.mem_of_getElem? (i := 404) (rfl)
theorem t_405 : (Jvm.Cond.methodLink "BarrowNights$Text" (49 : Nat) ({ cls := "BarrowNights$Text", name := "kindAt", desc := "(I)I" } : Jvm.MethodName)) ∈ lw_tbl := List.mem_of_getElem? (i := 405) (by decide +kernel)
theorem t_407 : (Jvm.Cond.instanceMethod ({ cls := "BarrowNights$Text", name := "kindAt", desc := "(I)I" } : Jvm.MethodName)) ∈ lw_tbl := List.mem_of_getElem? (i := 407) (by decide +kernel)
set_option maxRecDepth 100000 in
theorem t_408 : (Jvm.Cond.code ({ cls := "BarrowNights$Text", name := "kindAt", desc := "(I)I" } : Jvm.MethodName) prog_8_method_6_code (2 : Nat) (Option.some Jvm.ClassFile.FieldType.int)) ∈ lw_tbl := List.mem_of_getElem? (i := 408) (rfl)
theorem t_409 : (Jvm.Cond.methodLink "BarrowNights$Text" (52 : Nat) ({ cls := "BarrowNights$Text", name := "isDigit", desc := "(ICC)Z" } : Jvm.MethodName)) ∈ lw_tbl := List.mem_of_getElem? (i := 409) (by decide +kernel)
theorem t_411 : (Jvm.Cond.instanceMethod ({ cls := "BarrowNights$Text", name := "isDigit", desc := "(ICC)Z" } : Jvm.MethodName)) ∈ lw_tbl := List.mem_of_getElem? (i := 411) (by decide +kernel)
set_option maxRecDepth 100000 in
theorem t_412 : (Jvm.Cond.code ({ cls := "BarrowNights$Text", name := "isDigit", desc := "(ICC)Z" } : Jvm.MethodName) prog_8_method_4_code (4 : Nat) (Option.some Jvm.ClassFile.FieldType.boolean)) ∈ lw_tbl := List.mem_of_getElem? (i := 412) (rfl)
theorem t_413 : (Jvm.Cond.methodLink "BarrowNights$Text" (46 : Nat) ({ cls := "BarrowNights$Text", name := "stopInWalker", desc := "(I)I" } : Jvm.MethodName)) ∈ lw_tbl := List.mem_of_getElem? (i := 413) (by decide +kernel)
theorem t_415 : (Jvm.Cond.instanceMethod ({ cls := "BarrowNights$Text", name := "stopInWalker", desc := "(I)I" } : Jvm.MethodName)) ∈ lw_tbl := List.mem_of_getElem? (i := 415) (by decide +kernel)
set_option maxRecDepth 100000 in
theorem t_416 : (Jvm.Cond.code ({ cls := "BarrowNights$Text", name := "stopInWalker", desc := "(I)I" } : Jvm.MethodName) prog_8_method_9_code (2 : Nat) (Option.some Jvm.ClassFile.FieldType.int)) ∈ lw_tbl := List.mem_of_getElem? (i := 416) (rfl)
theorem t_417 : (Jvm.Cond.methodLinkNest "BarrowNights" (90 : Nat) ({ cls := "BarrowNights$Text", name := "makeAnew", desc := "(LBarrowNights$Down;)V" } : Jvm.MethodName) "BarrowNights") ∈ lw_tbl := List.mem_of_getElem? (i := 417) (by decide +kernel)
theorem t_419 : (Jvm.Cond.instanceMethod ({ cls := "BarrowNights$Text", name := "makeAnew", desc := "(LBarrowNights$Down;)V" } : Jvm.MethodName)) ∈ lw_tbl := List.mem_of_getElem? (i := 419) (by decide +kernel)
set_option maxRecDepth 100000 in
theorem t_420 : (Jvm.Cond.code ({ cls := "BarrowNights$Text", name := "makeAnew", desc := "(LBarrowNights$Down;)V" } : Jvm.MethodName) prog_8_method_10_code (4 : Nat) (Option.none : Option Jvm.ClassFile.FieldType)) ∈ lw_tbl := List.mem_of_getElem? (i := 420) (rfl)
theorem t_421 : (Jvm.Cond.methodLink "BarrowNights$Text" (69 : Nat) ({ cls := "BarrowNights$Text", name := "digitAt", desc := "(I)I" } : Jvm.MethodName)) ∈ lw_tbl := List.mem_of_getElem? (i := 421) (by decide +kernel)
theorem t_423 : (Jvm.Cond.instanceMethod ({ cls := "BarrowNights$Text", name := "digitAt", desc := "(I)I" } : Jvm.MethodName)) ∈ lw_tbl := List.mem_of_getElem? (i := 423) (by decide +kernel)
set_option maxRecDepth 100000 in
theorem t_424 : (Jvm.Cond.code ({ cls := "BarrowNights$Text", name := "digitAt", desc := "(I)I" } : Jvm.MethodName) prog_8_method_5_code (2 : Nat) (Option.some Jvm.ClassFile.FieldType.int)) ∈ lw_tbl := List.mem_of_getElem? (i := 424) (rfl)
theorem t_425 : (Jvm.Cond.methodLink "BarrowNightsLaw" (18 : Nat) ({ cls := "BarrowNights", name := "ofBarrow", desc := "(II)I" } : Jvm.MethodName)) ∈ lw_tbl := List.mem_of_getElem? (i := 425) (by decide +kernel)
theorem t_426 : (Jvm.Cond.instanceMethod ({ cls := "BarrowNights", name := "ofBarrow", desc := "(II)I" } : Jvm.MethodName)) ∈ lw_tbl := List.mem_of_getElem? (i := 426) (by decide +kernel)
theorem t_427 : (Jvm.Cond.selects "BarrowNights" ({ cls := "BarrowNights", name := "ofBarrow", desc := "(II)I" } : Jvm.MethodName) ({ cls := "BarrowNights", name := "ofBarrow", desc := "(II)I" } : Jvm.MethodName)) ∈ lw_tbl := List.mem_of_getElem? (i := 427) (by decide +kernel)
set_option maxRecDepth 100000 in
theorem t_428 : (Jvm.Cond.code ({ cls := "BarrowNights", name := "ofBarrow", desc := "(II)I" } : Jvm.MethodName) prog_1_method_3_code (3 : Nat) (Option.some Jvm.ClassFile.FieldType.int)) ∈ lw_tbl := List.mem_of_getElem? (i := 428) (rfl)
theorem t_429 : (Jvm.Cond.methodLinkNest "BarrowNights" (100 : Nat) ({ cls := "BarrowNights$Down", name := "hasBarrow", desc := "(I)Z" } : Jvm.MethodName) "BarrowNights") ∈ lw_tbl := List.mem_of_getElem? (i := 429) (by decide +kernel)
theorem t_431 : (Jvm.Cond.instanceMethod ({ cls := "BarrowNights$Down", name := "hasBarrow", desc := "(I)Z" } : Jvm.MethodName)) ∈ lw_tbl := List.mem_of_getElem? (i := 431) (by decide +kernel)
set_option maxRecDepth 100000 in
theorem t_432 : (Jvm.Cond.code ({ cls := "BarrowNights$Down", name := "hasBarrow", desc := "(I)Z" } : Jvm.MethodName) prog_2_method_3_code (2 : Nat) (Option.some Jvm.ClassFile.FieldType.boolean)) ∈ lw_tbl := List.mem_of_getElem? (i := 432) (rfl)
theorem t_433 : (Jvm.Cond.methodLinkNest "BarrowNights" (116 : Nat) ({ cls := "BarrowNights$Down", name := "holdsOf", desc := "(I)I" } : Jvm.MethodName) "BarrowNights") ∈ lw_tbl := List.mem_of_getElem? (i := 433) (by decide +kernel)
theorem t_435 : (Jvm.Cond.instanceMethod ({ cls := "BarrowNights$Down", name := "holdsOf", desc := "(I)I" } : Jvm.MethodName)) ∈ lw_tbl := List.mem_of_getElem? (i := 435) (by decide +kernel)
set_option maxRecDepth 100000 in
theorem t_436 : (Jvm.Cond.code ({ cls := "BarrowNights$Down", name := "holdsOf", desc := "(I)I" } : Jvm.MethodName) prog_2_method_6_code (2 : Nat) (Option.some Jvm.ClassFile.FieldType.int)) ∈ lw_tbl := List.mem_of_getElem? (i := 436) (rfl)
theorem t_437 : (Jvm.Cond.methodLink "BarrowNights$Down" (49 : Nat) ({ cls := "BarrowNights$Down", name := "hasBarrow", desc := "(I)Z" } : Jvm.MethodName)) ∈ lw_tbl := List.mem_of_getElem? (i := 437) (by decide +kernel)
theorem t_438 : (Jvm.Cond.methodLinkNest "BarrowNights$Down" (53 : Nat) ({ cls := "BarrowNights", name := "holdsAs", desc := "(II)I" } : Jvm.MethodName) "BarrowNights") ∈ lw_tbl := List.mem_of_getElem? (i := 438) (by decide +kernel)
theorem t_439 : (Jvm.Cond.static ({ cls := "BarrowNights", name := "holdsAs", desc := "(II)I" } : Jvm.MethodName)) ∈ lw_tbl := List.mem_of_getElem? (i := 439) (by decide +kernel)
set_option maxRecDepth 100000 in
theorem t_440 : (Jvm.Cond.code ({ cls := "BarrowNights", name := "holdsAs", desc := "(II)I" } : Jvm.MethodName) prog_1_method_38_code (2 : Nat) (Option.some Jvm.ClassFile.FieldType.int)) ∈ lw_tbl := List.mem_of_getElem? (i := 440) (rfl)
theorem t_441 : (Jvm.Cond.methodLinkNest "BarrowNights" (120 : Nat) ({ cls := "BarrowNights$Down", name := "lodgersOf", desc := "(I)I" } : Jvm.MethodName) "BarrowNights") ∈ lw_tbl := List.mem_of_getElem? (i := 441) (by decide +kernel)
theorem t_443 : (Jvm.Cond.instanceMethod ({ cls := "BarrowNights$Down", name := "lodgersOf", desc := "(I)I" } : Jvm.MethodName)) ∈ lw_tbl := List.mem_of_getElem? (i := 443) (by decide +kernel)
set_option maxRecDepth 100000 in
theorem t_444 : (Jvm.Cond.code ({ cls := "BarrowNights$Down", name := "lodgersOf", desc := "(I)I" } : Jvm.MethodName) prog_2_method_7_code (4 : Nat) (Option.some Jvm.ClassFile.FieldType.int)) ∈ lw_tbl := List.mem_of_getElem? (i := 444) (rfl)
theorem t_445 : (Jvm.Cond.methodLink "BarrowNightsLaw" (23 : Nat) ({ cls := "BarrowNights", name := "ofWalker", desc := "(II)I" } : Jvm.MethodName)) ∈ lw_tbl := List.mem_of_getElem? (i := 445) (by decide +kernel)
theorem t_446 : (Jvm.Cond.instanceMethod ({ cls := "BarrowNights", name := "ofWalker", desc := "(II)I" } : Jvm.MethodName)) ∈ lw_tbl := List.mem_of_getElem? (i := 446) (by decide +kernel)
theorem t_447 : (Jvm.Cond.selects "BarrowNights" ({ cls := "BarrowNights", name := "ofWalker", desc := "(II)I" } : Jvm.MethodName) ({ cls := "BarrowNights", name := "ofWalker", desc := "(II)I" } : Jvm.MethodName)) ∈ lw_tbl := List.mem_of_getElem? (i := 447) (by decide +kernel)
set_option maxRecDepth 100000 in
theorem t_448 : (Jvm.Cond.code ({ cls := "BarrowNights", name := "ofWalker", desc := "(II)I" } : Jvm.MethodName) prog_1_method_4_code (3 : Nat) (Option.some Jvm.ClassFile.FieldType.int)) ∈ lw_tbl := List.mem_of_getElem? (i := 448) (rfl)
theorem t_449 : (Jvm.Cond.methodLinkNest "BarrowNights" (123 : Nat) ({ cls := "BarrowNights$Down", name := "hasWalker", desc := "(I)Z" } : Jvm.MethodName) "BarrowNights") ∈ lw_tbl := List.mem_of_getElem? (i := 449) (by decide +kernel)
theorem t_451 : (Jvm.Cond.instanceMethod ({ cls := "BarrowNights$Down", name := "hasWalker", desc := "(I)Z" } : Jvm.MethodName)) ∈ lw_tbl := List.mem_of_getElem? (i := 451) (by decide +kernel)
set_option maxRecDepth 100000 in
theorem t_452 : (Jvm.Cond.code ({ cls := "BarrowNights$Down", name := "hasWalker", desc := "(I)Z" } : Jvm.MethodName) prog_2_method_4_code (2 : Nat) (Option.some Jvm.ClassFile.FieldType.boolean)) ∈ lw_tbl := List.mem_of_getElem? (i := 452) (rfl)
theorem t_453 : (Jvm.Cond.methodLinkNest "BarrowNights" (141 : Nat) ({ cls := "BarrowNights$Down", name := "dreamOf", desc := "(I)I" } : Jvm.MethodName) "BarrowNights") ∈ lw_tbl := List.mem_of_getElem? (i := 453) (by decide +kernel)
theorem t_455 : (Jvm.Cond.instanceMethod ({ cls := "BarrowNights$Down", name := "dreamOf", desc := "(I)I" } : Jvm.MethodName)) ∈ lw_tbl := List.mem_of_getElem? (i := 455) (by decide +kernel)
set_option maxRecDepth 100000 in
theorem t_456 : (Jvm.Cond.code ({ cls := "BarrowNights$Down", name := "dreamOf", desc := "(I)I" } : Jvm.MethodName) prog_2_method_9_code (3 : Nat) (Option.some Jvm.ClassFile.FieldType.int)) ∈ lw_tbl := List.mem_of_getElem? (i := 456) (rfl)
theorem t_457 : (Jvm.Cond.methodLink "BarrowNights$Down" (57 : Nat) ({ cls := "BarrowNights$Down", name := "hasWalker", desc := "(I)Z" } : Jvm.MethodName)) ∈ lw_tbl := List.mem_of_getElem? (i := 457) (by decide +kernel)
theorem t_458 : (Jvm.Cond.methodLink "BarrowNightsLaw" (27 : Nat) ({ cls := "BarrowNights", name := "charge", desc := "(II)I" } : Jvm.MethodName)) ∈ lw_tbl := List.mem_of_getElem? (i := 458) (by decide +kernel)
theorem t_459 : (Jvm.Cond.instanceMethod ({ cls := "BarrowNights", name := "charge", desc := "(II)I" } : Jvm.MethodName)) ∈ lw_tbl := List.mem_of_getElem? (i := 459) (by decide +kernel)
theorem t_460 : (Jvm.Cond.selects "BarrowNights" ({ cls := "BarrowNights", name := "charge", desc := "(II)I" } : Jvm.MethodName) ({ cls := "BarrowNights", name := "charge", desc := "(II)I" } : Jvm.MethodName)) ∈ lw_tbl := List.mem_of_getElem? (i := 460) (by decide +kernel)
set_option maxRecDepth 100000 in
theorem t_461 : (Jvm.Cond.code ({ cls := "BarrowNights", name := "charge", desc := "(II)I" } : Jvm.MethodName) prog_1_method_5_code (4 : Nat) (Option.some Jvm.ClassFile.FieldType.int)) ∈ lw_tbl := List.mem_of_getElem? (i := 461) (rfl)
theorem t_462 : (Jvm.Cond.methodLink "BarrowNightsLaw" (31 : Nat) ({ cls := "BarrowNights", name := "earn", desc := "(II)I" } : Jvm.MethodName)) ∈ lw_tbl := List.mem_of_getElem? (i := 462) (by decide +kernel)
theorem t_463 : (Jvm.Cond.instanceMethod ({ cls := "BarrowNights", name := "earn", desc := "(II)I" } : Jvm.MethodName)) ∈ lw_tbl := List.mem_of_getElem? (i := 463) (by decide +kernel)
theorem t_464 : (Jvm.Cond.selects "BarrowNights" ({ cls := "BarrowNights", name := "earn", desc := "(II)I" } : Jvm.MethodName) ({ cls := "BarrowNights", name := "earn", desc := "(II)I" } : Jvm.MethodName)) ∈ lw_tbl := List.mem_of_getElem? (i := 464) (by decide +kernel)
set_option maxRecDepth 100000 in
theorem t_465 : (Jvm.Cond.code ({ cls := "BarrowNights", name := "earn", desc := "(II)I" } : Jvm.MethodName) prog_1_method_6_code (4 : Nat) (Option.some Jvm.ClassFile.FieldType.int)) ∈ lw_tbl := List.mem_of_getElem? (i := 465) (rfl)
theorem t_466 : (Jvm.Cond.methodLink "BarrowNightsLaw" (35 : Nat) ({ cls := "BarrowNights", name := "lodge", desc := "(II)I" } : Jvm.MethodName)) ∈ lw_tbl := List.mem_of_getElem? (i := 466) (by decide +kernel)
theorem t_467 : (Jvm.Cond.instanceMethod ({ cls := "BarrowNights", name := "lodge", desc := "(II)I" } : Jvm.MethodName)) ∈ lw_tbl := List.mem_of_getElem? (i := 467) (by decide +kernel)
theorem t_468 : (Jvm.Cond.selects "BarrowNights" ({ cls := "BarrowNights", name := "lodge", desc := "(II)I" } : Jvm.MethodName) ({ cls := "BarrowNights", name := "lodge", desc := "(II)I" } : Jvm.MethodName)) ∈ lw_tbl := List.mem_of_getElem? (i := 468) (by decide +kernel)
set_option maxRecDepth 100000 in
theorem t_469 : (Jvm.Cond.code ({ cls := "BarrowNights", name := "lodge", desc := "(II)I" } : Jvm.MethodName) prog_1_method_7_code (3 : Nat) (Option.some Jvm.ClassFile.FieldType.int)) ∈ lw_tbl := List.mem_of_getElem? (i := 469) (rfl)
theorem t_470 : (Jvm.Cond.methodLinkNest "BarrowNights" (144 : Nat) ({ cls := "BarrowNights$Down", name := "enter", desc := "(II)Z" } : Jvm.MethodName) "BarrowNights") ∈ lw_tbl := List.mem_of_getElem? (i := 470) (by decide +kernel)
theorem t_472 : (Jvm.Cond.instanceMethod ({ cls := "BarrowNights$Down", name := "enter", desc := "(II)Z" } : Jvm.MethodName)) ∈ lw_tbl := List.mem_of_getElem? (i := 472) (by decide +kernel)
set_option maxRecDepth 100000 in
theorem t_473 : (Jvm.Cond.code ({ cls := "BarrowNights$Down", name := "enter", desc := "(II)Z" } : Jvm.MethodName) prog_2_method_11_code (3 : Nat) (Option.some Jvm.ClassFile.FieldType.boolean)) ∈ lw_tbl := List.mem_of_getElem? (i := 473) (rfl)
theorem t_474 : (Jvm.Cond.methodLink "BarrowNights$Down" (64 : Nat) ({ cls := "BarrowNights$Down", name := "suits", desc := "(II)Z" } : Jvm.MethodName)) ∈ lw_tbl := List.mem_of_getElem? (i := 474) (by decide +kernel)
theorem t_476 : (Jvm.Cond.instanceMethod ({ cls := "BarrowNights$Down", name := "suits", desc := "(II)Z" } : Jvm.MethodName)) ∈ lw_tbl := List.mem_of_getElem? (i := 476) (by decide +kernel)
set_option maxRecDepth 100000 in
theorem t_477 : (Jvm.Cond.code ({ cls := "BarrowNights$Down", name := "suits", desc := "(II)Z" } : Jvm.MethodName) prog_2_method_10_code (3 : Nat) (Option.some Jvm.ClassFile.FieldType.boolean)) ∈ lw_tbl := List.mem_of_getElem? (i := 477) (rfl)
theorem t_478 : (Jvm.Cond.methodLinkNest "BarrowNights$Down" (60 : Nat) ({ cls := "BarrowNights", name := "isNear", desc := "(III)Z" } : Jvm.MethodName) "BarrowNights") ∈ lw_tbl := List.mem_of_getElem? (i := 478) (by decide +kernel)
theorem t_479 : (Jvm.Cond.static ({ cls := "BarrowNights", name := "isNear", desc := "(III)Z" } : Jvm.MethodName)) ∈ lw_tbl := List.mem_of_getElem? (i := 479) (by decide +kernel)
set_option maxRecDepth 100000 in
theorem t_480 : (Jvm.Cond.code ({ cls := "BarrowNights", name := "isNear", desc := "(III)Z" } : Jvm.MethodName) prog_1_method_39_code (3 : Nat) (Option.some Jvm.ClassFile.FieldType.boolean)) ∈ lw_tbl := List.mem_of_getElem? (i := 480) (rfl)
theorem t_481 : (Jvm.Cond.methodLink "BarrowNights" (282 : Nat) ({ cls := "java/lang/Math", name := "abs", desc := "(I)I" } : Jvm.MethodName)) ∈ lw_tbl := List.mem_of_getElem? (i := 481) (by decide +kernel)
theorem t_482 : (Jvm.Cond.static ({ cls := "java/lang/Math", name := "abs", desc := "(I)I" } : Jvm.MethodName)) ∈ lw_tbl := List.mem_of_getElem? (i := 482) (by decide +kernel)
set_option maxRecDepth 100000 in
theorem t_483 : (Jvm.Cond.code ({ cls := "java/lang/Math", name := "abs", desc := "(I)I" } : Jvm.MethodName) prog_12_method_59_code (1 : Nat) (Option.some Jvm.ClassFile.FieldType.int)) ∈ lw_tbl := List.mem_of_getElem? (i := 483) (rfl)
theorem t_484 : (Jvm.Cond.methodLink "BarrowNights$Down" (68 : Nat) ({ cls := "BarrowNights$Down", name := "lodgersOf", desc := "(I)I" } : Jvm.MethodName)) ∈ lw_tbl := List.mem_of_getElem? (i := 484) (by decide +kernel)
theorem t_485 : (Jvm.Cond.methodLink "BarrowNights$Down" (72 : Nat) ({ cls := "java/lang/Integer", name := "bitCount", desc := "(I)I" } : Jvm.MethodName)) ∈ lw_tbl := List.mem_of_getElem? (i := 485) (by decide +kernel)
theorem t_486 : (Jvm.Cond.static ({ cls := "java/lang/Integer", name := "bitCount", desc := "(I)I" } : Jvm.MethodName)) ∈ lw_tbl := List.mem_of_getElem? (i := 486) (by decide +kernel)
set_option maxRecDepth 100000 in
theorem t_487 : (Jvm.Cond.code ({ cls := "java/lang/Integer", name := "bitCount", desc := "(I)I" } : Jvm.MethodName) prog_11_method_49_code (1 : Nat) (Option.some Jvm.ClassFile.FieldType.int)) ∈ lw_tbl := List.mem_of_getElem? (i := 487) (rfl)
theorem t_488 : (Jvm.Cond.constant "java/lang/Integer" (265 : Nat) (1431655765 : Int32)) ∈ lw_tbl := List.mem_of_getElem? (i := 488) (by decide +kernel)
theorem t_489 : (Jvm.Cond.constant "java/lang/Integer" (266 : Nat) (858993459 : Int32)) ∈ lw_tbl := List.mem_of_getElem? (i := 489) (by decide +kernel)
theorem t_490 : (Jvm.Cond.constant "java/lang/Integer" (267 : Nat) (252645135 : Int32)) ∈ lw_tbl := List.mem_of_getElem? (i := 490) (by decide +kernel)
theorem t_491 : (Jvm.Cond.methodLink "BarrowNights$Down" (77 : Nat) ({ cls := "BarrowNights$Down", name := "holdsOf", desc := "(I)I" } : Jvm.MethodName)) ∈ lw_tbl := List.mem_of_getElem? (i := 491) (by decide +kernel)
theorem t_492 : (Jvm.Cond.methodLink "BarrowNights" (148 : Nat) ({ cls := "java/lang/Integer", name := "bitCount", desc := "(I)I" } : Jvm.MethodName)) ∈ lw_tbl := List.mem_of_getElem? (i := 492) (by decide +kernel)
theorem t_493 : (Jvm.Cond.methodLink "BarrowNightsLaw" (39 : Nat) ({ cls := "BarrowNights", name := "leave", desc := "(I)I" } : Jvm.MethodName)) ∈ lw_tbl := List.mem_of_getElem? (i := 493) (by decide +kernel)
theorem t_494 : (Jvm.Cond.instanceMethod ({ cls := "BarrowNights", name := "leave", desc := "(I)I" } : Jvm.MethodName)) ∈ lw_tbl := List.mem_of_getElem? (i := 494) (by decide +kernel)
theorem t_495 : (Jvm.Cond.selects "BarrowNights" ({ cls := "BarrowNights", name := "leave", desc := "(I)I" } : Jvm.MethodName) ({ cls := "BarrowNights", name := "leave", desc := "(I)I" } : Jvm.MethodName)) ∈ lw_tbl := List.mem_of_getElem? (i := 495) (by decide +kernel)
set_option maxRecDepth 100000 in
theorem t_496 : (Jvm.Cond.code ({ cls := "BarrowNights", name := "leave", desc := "(I)I" } : Jvm.MethodName) prog_1_method_8_code (3 : Nat) (Option.some Jvm.ClassFile.FieldType.int)) ∈ lw_tbl := List.mem_of_getElem? (i := 496) (rfl)
theorem t_497 : (Jvm.Cond.methodLinkNest "BarrowNights" (153 : Nat) ({ cls := "BarrowNights$Down", name := "goOut", desc := "(I)Z" } : Jvm.MethodName) "BarrowNights") ∈ lw_tbl := List.mem_of_getElem? (i := 497) (by decide +kernel)
theorem t_499 : (Jvm.Cond.instanceMethod ({ cls := "BarrowNights$Down", name := "goOut", desc := "(I)Z" } : Jvm.MethodName)) ∈ lw_tbl := List.mem_of_getElem? (i := 499) (by decide +kernel)
set_option maxRecDepth 100000 in
theorem t_500 : (Jvm.Cond.code ({ cls := "BarrowNights$Down", name := "goOut", desc := "(I)Z" } : Jvm.MethodName) prog_2_method_12_code (2 : Nat) (Option.some Jvm.ClassFile.FieldType.boolean)) ∈ lw_tbl := List.mem_of_getElem? (i := 500) (rfl)
theorem t_501 : (Jvm.Cond.methodLink "BarrowNightsLaw" (44 : Nat) ({ cls := "BarrowNights", name := "night", desc := "(I)I" } : Jvm.MethodName)) ∈ lw_tbl := List.mem_of_getElem? (i := 501) (by decide +kernel)
theorem t_502 : (Jvm.Cond.instanceMethod ({ cls := "BarrowNights", name := "night", desc := "(I)I" } : Jvm.MethodName)) ∈ lw_tbl := List.mem_of_getElem? (i := 502) (by decide +kernel)
theorem t_503 : (Jvm.Cond.selects "BarrowNights" ({ cls := "BarrowNights", name := "night", desc := "(I)I" } : Jvm.MethodName) ({ cls := "BarrowNights", name := "night", desc := "(I)I" } : Jvm.MethodName)) ∈ lw_tbl := List.mem_of_getElem? (i := 503) (by decide +kernel)
set_option maxRecDepth 100000 in
theorem t_504 : (Jvm.Cond.code ({ cls := "BarrowNights", name := "night", desc := "(I)I" } : Jvm.MethodName) prog_1_method_9_code (2 : Nat) (Option.some Jvm.ClassFile.FieldType.int)) ∈ lw_tbl := List.mem_of_getElem? (i := 504) (rfl)
theorem t_505 : (Jvm.Cond.methodLinkNest "BarrowNights" (156 : Nat) ({ cls := "BarrowNights$Down", name := "isThere", desc := "()Z" } : Jvm.MethodName) "BarrowNights") ∈ lw_tbl := List.mem_of_getElem? (i := 505) (by decide +kernel)
theorem t_507 : (Jvm.Cond.instanceMethod ({ cls := "BarrowNights$Down", name := "isThere", desc := "()Z" } : Jvm.MethodName)) ∈ lw_tbl := List.mem_of_getElem? (i := 507) (by decide +kernel)
set_option maxRecDepth 100000 in
theorem t_508 : (Jvm.Cond.code ({ cls := "BarrowNights$Down", name := "isThere", desc := "()Z" } : Jvm.MethodName) prog_2_method_2_code (1 : Nat) (Option.some Jvm.ClassFile.FieldType.boolean)) ∈ lw_tbl := List.mem_of_getElem? (i := 508) (rfl)
theorem t_509 : (Jvm.Cond.methodLinkNest "BarrowNights" (160 : Nat) ({ cls := "BarrowNights$Down", name := "passNights", desc := "(I)I" } : Jvm.MethodName) "BarrowNights") ∈ lw_tbl := List.mem_of_getElem? (i := 509) (by decide +kernel)
theorem t_511 : (Jvm.Cond.instanceMethod ({ cls := "BarrowNights$Down", name := "passNights", desc := "(I)I" } : Jvm.MethodName)) ∈ lw_tbl := List.mem_of_getElem? (i := 511) (by decide +kernel)
set_option maxRecDepth 100000 in
theorem t_512 : (Jvm.Cond.code ({ cls := "BarrowNights$Down", name := "passNights", desc := "(I)I" } : Jvm.MethodName) prog_2_method_13_code (5 : Nat) (Option.some Jvm.ClassFile.FieldType.int)) ∈ lw_tbl := List.mem_of_getElem? (i := 512) (rfl)
theorem t_513 : (Jvm.Cond.methodLink "BarrowNights$Down" (80 : Nat) ({ cls := "BarrowNights$Down", name := "paysOrGoes", desc := "(I)Z" } : Jvm.MethodName)) ∈ lw_tbl := List.mem_of_getElem? (i := 513) (by decide +kernel)
theorem t_515 : (Jvm.Cond.instanceMethod ({ cls := "BarrowNights$Down", name := "paysOrGoes", desc := "(I)Z" } : Jvm.MethodName)) ∈ lw_tbl := List.mem_of_getElem? (i := 515) (by decide +kernel)
set_option maxRecDepth 100000 in
theorem t_516 : (Jvm.Cond.code ({ cls := "BarrowNights$Down", name := "paysOrGoes", desc := "(I)Z" } : Jvm.MethodName) prog_2_method_14_code (5 : Nat) (Option.some Jvm.ClassFile.FieldType.boolean)) ∈ lw_tbl := List.mem_of_getElem? (i := 516) (rfl)
theorem t_517 : (Jvm.Cond.methodLink "BarrowNightsLaw" (48 : Nat) ({ cls := "BarrowNights", name := "season", desc := "(IIIII)I" } : Jvm.MethodName)) ∈ lw_tbl := List.mem_of_getElem? (i := 517) (by decide +kernel)
theorem t_518 : (Jvm.Cond.instanceMethod ({ cls := "BarrowNights", name := "season", desc := "(IIIII)I" } : Jvm.MethodName)) ∈ lw_tbl := List.mem_of_getElem? (i := 518) (by decide +kernel)
theorem t_519 : (Jvm.Cond.selects "BarrowNights" ({ cls := "BarrowNights", name := "season", desc := "(IIIII)I" } : Jvm.MethodName) ({ cls := "BarrowNights", name := "season", desc := "(IIIII)I" } : Jvm.MethodName)) ∈ lw_tbl := List.mem_of_getElem? (i := 519) (by decide +kernel)
set_option maxRecDepth 100000 in
theorem t_520 : (Jvm.Cond.code ({ cls := "BarrowNights", name := "season", desc := "(IIIII)I" } : Jvm.MethodName) prog_1_method_10_code (7 : Nat) (Option.some Jvm.ClassFile.FieldType.int)) ∈ lw_tbl := List.mem_of_getElem? (i := 520) (rfl)
theorem t_521 : (Jvm.Cond.methodLinkNest "BarrowNights" (163 : Nat) ({ cls := "BarrowNights$Season", name := "isWhat", desc := "(I)Z" } : Jvm.MethodName) "BarrowNights") ∈ lw_tbl := List.mem_of_getElem? (i := 521) (by decide +kernel)
theorem t_522 : (Jvm.Cond.static ({ cls := "BarrowNights$Season", name := "isWhat", desc := "(I)Z" } : Jvm.MethodName)) ∈ lw_tbl := List.mem_of_getElem? (i := 522) (by decide +kernel)
set_option maxRecDepth 100000 in
theorem t_523 : (Jvm.Cond.code ({ cls := "BarrowNights$Season", name := "isWhat", desc := "(I)Z" } : Jvm.MethodName) prog_6_method_2_code (1 : Nat) (Option.some Jvm.ClassFile.FieldType.boolean)) ∈ lw_tbl := List.mem_of_getElem? (i := 523) (rfl)
theorem t_524 : (Jvm.Cond.methodLinkNest "BarrowNights" (166 : Nat) ({ cls := "BarrowNights$Season", name := "load", desc := "(LBarrowNights$Down;LBarrowNights$Sheets;III)I" } : Jvm.MethodName) "BarrowNights") ∈ lw_tbl := List.mem_of_getElem? (i := 524) (by decide +kernel)
theorem t_526 : (Jvm.Cond.instanceMethod ({ cls := "BarrowNights$Season", name := "load", desc := "(LBarrowNights$Down;LBarrowNights$Sheets;III)I" } : Jvm.MethodName)) ∈ lw_tbl := List.mem_of_getElem? (i := 526) (by decide +kernel)
set_option maxRecDepth 100000 in
theorem t_527 : (Jvm.Cond.code ({ cls := "BarrowNights$Season", name := "load", desc := "(LBarrowNights$Down;LBarrowNights$Sheets;III)I" } : Jvm.MethodName) prog_6_method_3_code (8 : Nat) (Option.some Jvm.ClassFile.FieldType.int)) ∈ lw_tbl := List.mem_of_getElem? (i := 527) (rfl)
theorem t_528 : (Jvm.Cond.methodLinkNest "BarrowNights$Season" (25 : Nat) ({ cls := "BarrowNights$Down", name := "become", desc := "(LBarrowNights$Down;)V" } : Jvm.MethodName) "BarrowNights") ∈ lw_tbl := List.mem_of_getElem? (i := 528) (by decide +kernel)
theorem t_530 : (Jvm.Cond.instanceMethod ({ cls := "BarrowNights$Down", name := "become", desc := "(LBarrowNights$Down;)V" } : Jvm.MethodName)) ∈ lw_tbl := List.mem_of_getElem? (i := 530) (by decide +kernel)
set_option maxRecDepth 100000 in
theorem t_531 : (Jvm.Cond.code ({ cls := "BarrowNights$Down", name := "become", desc := "(LBarrowNights$Down;)V" } : Jvm.MethodName) prog_2_method_5_code (3 : Nat) (Option.none : Option Jvm.ClassFile.FieldType)) ∈ lw_tbl := List.mem_of_getElem? (i := 531) (rfl)
theorem t_532 : (Jvm.Cond.methodLink "BarrowNights$Season" (29 : Nat) ({ cls := "java/lang/Math", name := "min", desc := "(II)I" } : Jvm.MethodName)) ∈ lw_tbl := List.mem_of_getElem? (i := 532) (by decide +kernel)
theorem t_533 : (Jvm.Cond.methodLink "BarrowNights$Season" (35 : Nat) ({ cls := "java/lang/Math", name := "max", desc := "(II)I" } : Jvm.MethodName)) ∈ lw_tbl := List.mem_of_getElem? (i := 533) (by decide +kernel)
theorem t_534 : (Jvm.Cond.methodLinkNest "BarrowNights$Season" (42 : Nat) ({ cls := "BarrowNights$Sheets", name := "valueAt", desc := "(II)I" } : Jvm.MethodName) "BarrowNights") ∈ lw_tbl := List.mem_of_getElem? (i := 534) (by decide +kernel)
theorem t_535 : (Jvm.Cond.methodLink "BarrowNights$Season" (47 : Nat) ({ cls := "BarrowNights$Season", name := "refusalOf", desc := "(II)I" } : Jvm.MethodName)) ∈ lw_tbl := List.mem_of_getElem? (i := 535) (by decide +kernel)
theorem t_537 : (Jvm.Cond.instanceMethod ({ cls := "BarrowNights$Season", name := "refusalOf", desc := "(II)I" } : Jvm.MethodName)) ∈ lw_tbl := List.mem_of_getElem? (i := 537) (by decide +kernel)
set_option maxRecDepth 100000 in
theorem t_538 : (Jvm.Cond.code ({ cls := "BarrowNights$Season", name := "refusalOf", desc := "(II)I" } : Jvm.MethodName) prog_6_method_4_code (3 : Nat) (Option.some Jvm.ClassFile.FieldType.int)) ∈ lw_tbl := List.mem_of_getElem? (i := 538) (rfl)
theorem t_539 : (Jvm.Cond.methodLinkNest "BarrowNights$Season" (50 : Nat) ({ cls := "BarrowNights$Down", name := "hasBarrow", desc := "(I)Z" } : Jvm.MethodName) "BarrowNights") ∈ lw_tbl := List.mem_of_getElem? (i := 539) (by decide +kernel)
theorem t_540 : (Jvm.Cond.methodLinkNest "BarrowNights$Season" (54 : Nat) ({ cls := "BarrowNights$Down", name := "hasWalker", desc := "(I)Z" } : Jvm.MethodName) "BarrowNights") ∈ lw_tbl := List.mem_of_getElem? (i := 540) (by decide +kernel)
theorem t_541 : (Jvm.Cond.methodLinkNest "BarrowNights" (169 : Nat) ({ cls := "BarrowNights$Season", name := "play", desc := "()V" } : Jvm.MethodName) "BarrowNights") ∈ lw_tbl := List.mem_of_getElem? (i := 541) (by decide +kernel)
theorem t_543 : (Jvm.Cond.instanceMethod ({ cls := "BarrowNights$Season", name := "play", desc := "()V" } : Jvm.MethodName)) ∈ lw_tbl := List.mem_of_getElem? (i := 543) (by decide +kernel)
set_option maxRecDepth 100000 in
theorem t_544 : (Jvm.Cond.code ({ cls := "BarrowNights$Season", name := "play", desc := "()V" } : Jvm.MethodName) prog_6_method_5_code (2 : Nat) (Option.none : Option Jvm.ClassFile.FieldType)) ∈ lw_tbl := List.mem_of_getElem? (i := 544) (rfl)
theorem t_545 : (Jvm.Cond.methodLink "BarrowNights$Season" (63 : Nat) ({ cls := "BarrowNights$Season", name := "canDo", desc := "(II)Z" } : Jvm.MethodName)) ∈ lw_tbl := List.mem_of_getElem? (i := 545) (by decide +kernel)
theorem t_547 : (Jvm.Cond.instanceMethod ({ cls := "BarrowNights$Season", name := "canDo", desc := "(II)Z" } : Jvm.MethodName)) ∈ lw_tbl := List.mem_of_getElem? (i := 547) (by decide +kernel)
set_option maxRecDepth 100000 in
theorem t_548 : (Jvm.Cond.code ({ cls := "BarrowNights$Season", name := "canDo", desc := "(II)Z" } : Jvm.MethodName) prog_6_method_6_code (3 : Nat) (Option.some Jvm.ClassFile.FieldType.boolean)) ∈ lw_tbl := List.mem_of_getElem? (i := 548) (rfl)
theorem t_549 : (Jvm.Cond.methodLinkNest "BarrowNights$Season" (67 : Nat) ({ cls := "BarrowNights$Down", name := "goOut", desc := "(I)Z" } : Jvm.MethodName) "BarrowNights") ∈ lw_tbl := List.mem_of_getElem? (i := 549) (by decide +kernel)
theorem t_550 : (Jvm.Cond.methodLinkNest "BarrowNights$Season" (70 : Nat) ({ cls := "BarrowNights$Down", name := "enter", desc := "(II)Z" } : Jvm.MethodName) "BarrowNights") ∈ lw_tbl := List.mem_of_getElem? (i := 550) (by decide +kernel)
theorem t_551 : (Jvm.Cond.methodLinkNest "BarrowNights$Season" (73 : Nat) ({ cls := "BarrowNights$Down", name := "passNights", desc := "(I)I" } : Jvm.MethodName) "BarrowNights") ∈ lw_tbl := List.mem_of_getElem? (i := 551) (by decide +kernel)
theorem t_552 : (Jvm.Cond.methodLinkNest "BarrowNights" (172 : Nat) ({ cls := "BarrowNights$Season", name := "answerTo", desc := "(I)I" } : Jvm.MethodName) "BarrowNights") ∈ lw_tbl := List.mem_of_getElem? (i := 552) (by decide +kernel)
theorem t_554 : (Jvm.Cond.instanceMethod ({ cls := "BarrowNights$Season", name := "answerTo", desc := "(I)I" } : Jvm.MethodName)) ∈ lw_tbl := List.mem_of_getElem? (i := 554) (by decide +kernel)
set_option maxRecDepth 100000 in
theorem t_555 : (Jvm.Cond.code ({ cls := "BarrowNights$Season", name := "answerTo", desc := "(I)I" } : Jvm.MethodName) prog_6_method_7_code (3 : Nat) (Option.some Jvm.ClassFile.FieldType.int)) ∈ lw_tbl := List.mem_of_getElem? (i := 555) (rfl)
theorem t_556 : (Jvm.Cond.methodLinkNest "BarrowNights$Season" (77 : Nat) ({ cls := "BarrowNights$Down", name := "allLodgers", desc := "()I" } : Jvm.MethodName) "BarrowNights") ∈ lw_tbl := List.mem_of_getElem? (i := 556) (by decide +kernel)
theorem t_558 : (Jvm.Cond.instanceMethod ({ cls := "BarrowNights$Down", name := "allLodgers", desc := "()I" } : Jvm.MethodName)) ∈ lw_tbl := List.mem_of_getElem? (i := 558) (by decide +kernel)
set_option maxRecDepth 100000 in
theorem t_559 : (Jvm.Cond.code ({ cls := "BarrowNights$Down", name := "allLodgers", desc := "()I" } : Jvm.MethodName) prog_2_method_8_code (3 : Nat) (Option.some Jvm.ClassFile.FieldType.int)) ∈ lw_tbl := List.mem_of_getElem? (i := 559) (rfl)
theorem t_560 : (Jvm.Cond.methodLinkNest "BarrowNights$Season" (81 : Nat) ({ cls := "BarrowNights$Down", name := "meansOfAll", desc := "()I" } : Jvm.MethodName) "BarrowNights") ∈ lw_tbl := List.mem_of_getElem? (i := 560) (by decide +kernel)
theorem t_562 : (Jvm.Cond.instanceMethod ({ cls := "BarrowNights$Down", name := "meansOfAll", desc := "()I" } : Jvm.MethodName)) ∈ lw_tbl := List.mem_of_getElem? (i := 562) (by decide +kernel)
set_option maxRecDepth 100000 in
theorem t_563 : (Jvm.Cond.code ({ cls := "BarrowNights$Down", name := "meansOfAll", desc := "()I" } : Jvm.MethodName) prog_2_method_15_code (3 : Nat) (Option.some Jvm.ClassFile.FieldType.int)) ∈ lw_tbl := List.mem_of_getElem? (i := 563) (rfl)
theorem t_564 : (Jvm.Cond.methodLink "BarrowNightsLaw" (53 : Nat) ({ cls := "BarrowNights", name := "housed", desc := "(I)I" } : Jvm.MethodName)) ∈ lw_tbl := List.mem_of_getElem? (i := 564) (by decide +kernel)
theorem t_565 : (Jvm.Cond.instanceMethod ({ cls := "BarrowNights", name := "housed", desc := "(I)I" } : Jvm.MethodName)) ∈ lw_tbl := List.mem_of_getElem? (i := 565) (by decide +kernel)
theorem t_566 : (Jvm.Cond.selects "BarrowNights" ({ cls := "BarrowNights", name := "housed", desc := "(I)I" } : Jvm.MethodName) ({ cls := "BarrowNights", name := "housed", desc := "(I)I" } : Jvm.MethodName)) ∈ lw_tbl := List.mem_of_getElem? (i := 566) (by decide +kernel)
set_option maxRecDepth 100000 in
theorem t_567 : (Jvm.Cond.code ({ cls := "BarrowNights", name := "housed", desc := "(I)I" } : Jvm.MethodName) prog_1_method_11_code (2 : Nat) (Option.some Jvm.ClassFile.FieldType.int)) ∈ lw_tbl := List.mem_of_getElem? (i := 567) (rfl)
theorem t_568 : (Jvm.Cond.methodLinkNest "BarrowNights" (175 : Nat) ({ cls := "BarrowNights$Housing", name := "search", desc := "(LBarrowNights$Down;I)V" } : Jvm.MethodName) "BarrowNights") ∈ lw_tbl := List.mem_of_getElem? (i := 568) (by decide +kernel)
theorem t_570 : (Jvm.Cond.instanceMethod ({ cls := "BarrowNights$Housing", name := "search", desc := "(LBarrowNights$Down;I)V" } : Jvm.MethodName)) ∈ lw_tbl := List.mem_of_getElem? (i := 570) (by decide +kernel)
set_option maxRecDepth 100000 in
theorem t_571 : (Jvm.Cond.code ({ cls := "BarrowNights$Housing", name := "search", desc := "(LBarrowNights$Down;I)V" } : Jvm.MethodName) prog_3_method_2_code (4 : Nat) (Option.none : Option Jvm.ClassFile.FieldType)) ∈ lw_tbl := List.mem_of_getElem? (i := 571) (rfl)
theorem t_572 : (Jvm.Cond.methodLinkNest "BarrowNights$Housing" (27 : Nat) ({ cls := "BarrowNights$Down", name := "holdsOf", desc := "(I)I" } : Jvm.MethodName) "BarrowNights") ∈ lw_tbl := List.mem_of_getElem? (i := 572) (by decide +kernel)
theorem t_573 : (Jvm.Cond.methodLink "BarrowNights$Housing" (37 : Nat) ({ cls := "BarrowNights$Housing", name := "place", desc := "(LBarrowNights$Down;III)V" } : Jvm.MethodName)) ∈ lw_tbl := List.mem_of_getElem? (i := 573) (by decide +kernel)
theorem t_575 : (Jvm.Cond.instanceMethod ({ cls := "BarrowNights$Housing", name := "place", desc := "(LBarrowNights$Down;III)V" } : Jvm.MethodName)) ∈ lw_tbl := List.mem_of_getElem? (i := 575) (by decide +kernel)
set_option maxRecDepth 100000 in
theorem t_576 : (Jvm.Cond.code ({ cls := "BarrowNights$Housing", name := "place", desc := "(LBarrowNights$Down;III)V" } : Jvm.MethodName) prog_3_method_3_code (7 : Nat) (Option.none : Option Jvm.ClassFile.FieldType)) ∈ lw_tbl := List.mem_of_getElem? (i := 576) (rfl)
theorem t_577 : (Jvm.Cond.methodLinkNest "BarrowNights$Housing" (44 : Nat) ({ cls := "BarrowNights$Down", name := "hasWalker", desc := "(I)Z" } : Jvm.MethodName) "BarrowNights") ∈ lw_tbl := List.mem_of_getElem? (i := 577) (by decide +kernel)
theorem t_578 : (Jvm.Cond.methodLink "BarrowNights$Housing" (48 : Nat) ({ cls := "BarrowNights$Housing", name := "keep", desc := "(III)V" } : Jvm.MethodName)) ∈ lw_tbl := List.mem_of_getElem? (i := 578) (by decide +kernel)
theorem t_580 : (Jvm.Cond.instanceMethod ({ cls := "BarrowNights$Housing", name := "keep", desc := "(III)V" } : Jvm.MethodName)) ∈ lw_tbl := List.mem_of_getElem? (i := 580) (by decide +kernel)
set_option maxRecDepth 100000 in
theorem t_581 : (Jvm.Cond.code ({ cls := "BarrowNights$Housing", name := "keep", desc := "(III)V" } : Jvm.MethodName) prog_3_method_4_code (5 : Nat) (Option.none : Option Jvm.ClassFile.FieldType)) ∈ lw_tbl := List.mem_of_getElem? (i := 581) (rfl)
theorem t_582 : (Jvm.Cond.methodLinkNest "BarrowNights$Housing" (52 : Nat) ({ cls := "BarrowNights$Down", name := "suits", desc := "(II)Z" } : Jvm.MethodName) "BarrowNights") ∈ lw_tbl := List.mem_of_getElem? (i := 582) (by decide +kernel)
theorem t_583 : (Jvm.Cond.methodLink "BarrowNightsLaw" (57 : Nat) ({ cls := "BarrowNights", name := "ploughed", desc := "(I)I" } : Jvm.MethodName)) ∈ lw_tbl := List.mem_of_getElem? (i := 583) (by decide +kernel)
theorem t_584 : (Jvm.Cond.instanceMethod ({ cls := "BarrowNights", name := "ploughed", desc := "(I)I" } : Jvm.MethodName)) ∈ lw_tbl := List.mem_of_getElem? (i := 584) (by decide +kernel)
theorem t_585 : (Jvm.Cond.selects "BarrowNights" ({ cls := "BarrowNights", name := "ploughed", desc := "(I)I" } : Jvm.MethodName) ({ cls := "BarrowNights", name := "ploughed", desc := "(I)I" } : Jvm.MethodName)) ∈ lw_tbl := List.mem_of_getElem? (i := 585) (by decide +kernel)
set_option maxRecDepth 100000 in
theorem t_586 : (Jvm.Cond.code ({ cls := "BarrowNights", name := "ploughed", desc := "(I)I" } : Jvm.MethodName) prog_1_method_12_code (2 : Nat) (Option.some Jvm.ClassFile.FieldType.int)) ∈ lw_tbl := List.mem_of_getElem? (i := 586) (rfl)
theorem t_587 : (Jvm.Cond.methodLink "BarrowNightsLaw" (61 : Nat) ({ cls := "BarrowNights", name := "way", desc := "(II)I" } : Jvm.MethodName)) ∈ lw_tbl := List.mem_of_getElem? (i := 587) (by decide +kernel)
theorem t_588 : (Jvm.Cond.instanceMethod ({ cls := "BarrowNights", name := "way", desc := "(II)I" } : Jvm.MethodName)) ∈ lw_tbl := List.mem_of_getElem? (i := 588) (by decide +kernel)
theorem t_589 : (Jvm.Cond.selects "BarrowNights" ({ cls := "BarrowNights", name := "way", desc := "(II)I" } : Jvm.MethodName) ({ cls := "BarrowNights", name := "way", desc := "(II)I" } : Jvm.MethodName)) ∈ lw_tbl := List.mem_of_getElem? (i := 589) (by decide +kernel)
set_option maxRecDepth 100000 in
theorem t_590 : (Jvm.Cond.code ({ cls := "BarrowNights", name := "way", desc := "(II)I" } : Jvm.MethodName) prog_1_method_13_code (3 : Nat) (Option.some Jvm.ClassFile.FieldType.int)) ∈ lw_tbl := List.mem_of_getElem? (i := 590) (rfl)
theorem t_591 : (Jvm.Cond.methodLinkNest "BarrowNights" (188 : Nat) ({ cls := "BarrowNights$Down", name := "fewestTo", desc := "(II)I" } : Jvm.MethodName) "BarrowNights") ∈ lw_tbl := List.mem_of_getElem? (i := 591) (by decide +kernel)
theorem t_593 : (Jvm.Cond.instanceMethod ({ cls := "BarrowNights$Down", name := "fewestTo", desc := "(II)I" } : Jvm.MethodName)) ∈ lw_tbl := List.mem_of_getElem? (i := 593) (by decide +kernel)
set_option maxRecDepth 100000 in
theorem t_594 : (Jvm.Cond.code ({ cls := "BarrowNights$Down", name := "fewestTo", desc := "(II)I" } : Jvm.MethodName) prog_2_method_16_code (5 : Nat) (Option.some Jvm.ClassFile.FieldType.int)) ∈ lw_tbl := List.mem_of_getElem? (i := 594) (rfl)
theorem t_595 : (Jvm.Cond.methodLink "BarrowNights$Down" (83 : Nat) ({ cls := "BarrowNights$Down", name := "isNearAny", desc := "(III)Z" } : Jvm.MethodName)) ∈ lw_tbl := List.mem_of_getElem? (i := 595) (by decide +kernel)
theorem t_596 : (Jvm.Cond.static ({ cls := "BarrowNights$Down", name := "isNearAny", desc := "(III)Z" } : Jvm.MethodName)) ∈ lw_tbl := List.mem_of_getElem? (i := 596) (by decide +kernel)
set_option maxRecDepth 100000 in
theorem t_597 : (Jvm.Cond.code ({ cls := "BarrowNights$Down", name := "isNearAny", desc := "(III)Z" } : Jvm.MethodName) prog_2_method_18_code (4 : Nat) (Option.some Jvm.ClassFile.FieldType.boolean)) ∈ lw_tbl := List.mem_of_getElem? (i := 597) (rfl)
theorem t_598 : (Jvm.Cond.methodLink "BarrowNights$Down" (86 : Nat) ({ cls := "BarrowNights$Down", name := "sitesNear", desc := "(II)I" } : Jvm.MethodName)) ∈ lw_tbl := List.mem_of_getElem? (i := 598) (by decide +kernel)
theorem t_600 : (Jvm.Cond.instanceMethod ({ cls := "BarrowNights$Down", name := "sitesNear", desc := "(II)I" } : Jvm.MethodName)) ∈ lw_tbl := List.mem_of_getElem? (i := 600) (by decide +kernel)
set_option maxRecDepth 100000 in
theorem t_601 : (Jvm.Cond.code ({ cls := "BarrowNights$Down", name := "sitesNear", desc := "(II)I" } : Jvm.MethodName) prog_2_method_17_code (5 : Nat) (Option.some Jvm.ClassFile.FieldType.int)) ∈ lw_tbl := List.mem_of_getElem? (i := 601) (rfl)
theorem t_602 : (Jvm.Cond.methodLink "BarrowNightsLaw" (65 : Nat) ({ cls := "BarrowNights", name := "lain", desc := "(IIII)I" } : Jvm.MethodName)) ∈ lw_tbl := List.mem_of_getElem? (i := 602) (by decide +kernel)
theorem t_603 : (Jvm.Cond.instanceMethod ({ cls := "BarrowNights", name := "lain", desc := "(IIII)I" } : Jvm.MethodName)) ∈ lw_tbl := List.mem_of_getElem? (i := 603) (by decide +kernel)
theorem t_604 : (Jvm.Cond.selects "BarrowNights" ({ cls := "BarrowNights", name := "lain", desc := "(IIII)I" } : Jvm.MethodName) ({ cls := "BarrowNights", name := "lain", desc := "(IIII)I" } : Jvm.MethodName)) ∈ lw_tbl := List.mem_of_getElem? (i := 604) (by decide +kernel)
set_option maxRecDepth 100000 in
theorem t_605 : (Jvm.Cond.code ({ cls := "BarrowNights", name := "lain", desc := "(IIII)I" } : Jvm.MethodName) prog_1_method_14_code (5 : Nat) (Option.some Jvm.ClassFile.FieldType.int)) ∈ lw_tbl := List.mem_of_getElem? (i := 605) (rfl)
theorem t_606 : (Jvm.Cond.methodLinkNest "BarrowNights" (194 : Nat) ({ cls := "BarrowNights$Lying", name := "load", desc := "(LBarrowNights$Sheets;III)V" } : Jvm.MethodName) "BarrowNights") ∈ lw_tbl := List.mem_of_getElem? (i := 606) (by decide +kernel)
theorem t_608 : (Jvm.Cond.instanceMethod ({ cls := "BarrowNights$Lying", name := "load", desc := "(LBarrowNights$Sheets;III)V" } : Jvm.MethodName)) ∈ lw_tbl := List.mem_of_getElem? (i := 608) (by decide +kernel)
set_option maxRecDepth 100000 in
theorem t_609 : (Jvm.Cond.code ({ cls := "BarrowNights$Lying", name := "load", desc := "(LBarrowNights$Sheets;III)V" } : Jvm.MethodName) prog_4_method_2_code (6 : Nat) (Option.none : Option Jvm.ClassFile.FieldType)) ∈ lw_tbl := List.mem_of_getElem? (i := 609) (rfl)
theorem t_610 : (Jvm.Cond.methodLinkNest "BarrowNights$Lying" (27 : Nat) ({ cls := "BarrowNights$Sheets", name := "valueAt", desc := "(II)I" } : Jvm.MethodName) "BarrowNights") ∈ lw_tbl := List.mem_of_getElem? (i := 610) (by decide +kernel)
theorem t_611 : (Jvm.Cond.methodLinkNest "BarrowNights" (195 : Nat) ({ cls := "BarrowNights$Lying", name := "search", desc := "(LBarrowNights$Down;Z)V" } : Jvm.MethodName) "BarrowNights") ∈ lw_tbl := List.mem_of_getElem? (i := 611) (by decide +kernel)
theorem t_613 : (Jvm.Cond.instanceMethod ({ cls := "BarrowNights$Lying", name := "search", desc := "(LBarrowNights$Down;Z)V" } : Jvm.MethodName)) ∈ lw_tbl := List.mem_of_getElem? (i := 613) (by decide +kernel)
set_option maxRecDepth 100000 in
theorem t_614 : (Jvm.Cond.code ({ cls := "BarrowNights$Lying", name := "search", desc := "(LBarrowNights$Down;Z)V" } : Jvm.MethodName) prog_4_method_3_code (4 : Nat) (Option.none : Option Jvm.ClassFile.FieldType)) ∈ lw_tbl := List.mem_of_getElem? (i := 614) (rfl)
theorem t_615 : (Jvm.Cond.methodLinkNest "BarrowNights$Lying" (39 : Nat) ({ cls := "BarrowNights$Down", name := "holdsOf", desc := "(I)I" } : Jvm.MethodName) "BarrowNights") ∈ lw_tbl := List.mem_of_getElem? (i := 615) (by decide +kernel)
theorem t_616 : (Jvm.Cond.methodLink "BarrowNights$Lying" (50 : Nat) ({ cls := "BarrowNights$Lying", name := "lay", desc := "(LBarrowNights$Down;I)V" } : Jvm.MethodName)) ∈ lw_tbl := List.mem_of_getElem? (i := 616) (by decide +kernel)
theorem t_618 : (Jvm.Cond.instanceMethod ({ cls := "BarrowNights$Lying", name := "lay", desc := "(LBarrowNights$Down;I)V" } : Jvm.MethodName)) ∈ lw_tbl := List.mem_of_getElem? (i := 618) (by decide +kernel)
set_option maxRecDepth 100000 in
theorem t_619 : (Jvm.Cond.code ({ cls := "BarrowNights$Lying", name := "lay", desc := "(LBarrowNights$Down;I)V" } : Jvm.MethodName) prog_4_method_4_code (4 : Nat) (Option.none : Option Jvm.ClassFile.FieldType)) ∈ lw_tbl := List.mem_of_getElem? (i := 619) (rfl)
theorem t_620 : (Jvm.Cond.methodLinkNest "BarrowNights$Lying" (54 : Nat) ({ cls := "BarrowNights$Down", name := "hasWalker", desc := "(I)Z" } : Jvm.MethodName) "BarrowNights") ∈ lw_tbl := List.mem_of_getElem? (i := 620) (by decide +kernel)
theorem t_621 : (Jvm.Cond.methodLink "BarrowNights$Lying" (61 : Nat) ({ cls := "BarrowNights$Lying", name := "keep", desc := "(I)V" } : Jvm.MethodName)) ∈ lw_tbl := List.mem_of_getElem? (i := 621) (by decide +kernel)
theorem t_623 : (Jvm.Cond.instanceMethod ({ cls := "BarrowNights$Lying", name := "keep", desc := "(I)V" } : Jvm.MethodName)) ∈ lw_tbl := List.mem_of_getElem? (i := 623) (by decide +kernel)
set_option maxRecDepth 100000 in
theorem t_624 : (Jvm.Cond.code ({ cls := "BarrowNights$Lying", name := "keep", desc := "(I)V" } : Jvm.MethodName) prog_4_method_7_code (3 : Nat) (Option.none : Option Jvm.ClassFile.FieldType)) ∈ lw_tbl := List.mem_of_getElem? (i := 624) (rfl)
theorem t_625 : (Jvm.Cond.methodLink "BarrowNights$Lying" (65 : Nat) ({ cls := "BarrowNights$Lying", name := "isTold", desc := "(II)Z" } : Jvm.MethodName)) ∈ lw_tbl := List.mem_of_getElem? (i := 625) (by decide +kernel)
theorem t_627 : (Jvm.Cond.instanceMethod ({ cls := "BarrowNights$Lying", name := "isTold", desc := "(II)Z" } : Jvm.MethodName)) ∈ lw_tbl := List.mem_of_getElem? (i := 627) (by decide +kernel)
set_option maxRecDepth 100000 in
theorem t_628 : (Jvm.Cond.code ({ cls := "BarrowNights$Lying", name := "isTold", desc := "(II)Z" } : Jvm.MethodName) prog_4_method_6_code (3 : Nat) (Option.some Jvm.ClassFile.FieldType.boolean)) ∈ lw_tbl := List.mem_of_getElem? (i := 628) (rfl)
theorem t_629 : (Jvm.Cond.methodLink "BarrowNights$Lying" (69 : Nat) ({ cls := "BarrowNights$Lying", name := "layIn", desc := "(LBarrowNights$Down;II)V" } : Jvm.MethodName)) ∈ lw_tbl := List.mem_of_getElem? (i := 629) (by decide +kernel)
theorem t_631 : (Jvm.Cond.instanceMethod ({ cls := "BarrowNights$Lying", name := "layIn", desc := "(LBarrowNights$Down;II)V" } : Jvm.MethodName)) ∈ lw_tbl := List.mem_of_getElem? (i := 631) (by decide +kernel)
set_option maxRecDepth 100000 in
theorem t_632 : (Jvm.Cond.code ({ cls := "BarrowNights$Lying", name := "layIn", desc := "(LBarrowNights$Down;II)V" } : Jvm.MethodName) prog_4_method_5_code (5 : Nat) (Option.none : Option Jvm.ClassFile.FieldType)) ∈ lw_tbl := List.mem_of_getElem? (i := 632) (rfl)
theorem t_633 : (Jvm.Cond.methodLink "BarrowNightsLaw" (69 : Nat) ({ cls := "BarrowNights", name := "reading", desc := "(III)I" } : Jvm.MethodName)) ∈ lw_tbl := List.mem_of_getElem? (i := 633) (by decide +kernel)
theorem t_634 : (Jvm.Cond.instanceMethod ({ cls := "BarrowNights", name := "reading", desc := "(III)I" } : Jvm.MethodName)) ∈ lw_tbl := List.mem_of_getElem? (i := 634) (by decide +kernel)
theorem t_635 : (Jvm.Cond.selects "BarrowNights" ({ cls := "BarrowNights", name := "reading", desc := "(III)I" } : Jvm.MethodName) ({ cls := "BarrowNights", name := "reading", desc := "(III)I" } : Jvm.MethodName)) ∈ lw_tbl := List.mem_of_getElem? (i := 635) (by decide +kernel)
set_option maxRecDepth 100000 in
theorem t_636 : (Jvm.Cond.code ({ cls := "BarrowNights", name := "reading", desc := "(III)I" } : Jvm.MethodName) prog_1_method_15_code (4 : Nat) (Option.some Jvm.ClassFile.FieldType.int)) ∈ lw_tbl := List.mem_of_getElem? (i := 636) (rfl)
theorem t_637 : (Jvm.Cond.methodLinkNest "BarrowNights" (204 : Nat) ({ cls := "BarrowNights$Readings", name := "hasRoom", desc := "()Z" } : Jvm.MethodName) "BarrowNights") ∈ lw_tbl := List.mem_of_getElem? (i := 637) (by decide +kernel)
theorem t_639 : (Jvm.Cond.instanceMethod ({ cls := "BarrowNights$Readings", name := "hasRoom", desc := "()Z" } : Jvm.MethodName)) ∈ lw_tbl := List.mem_of_getElem? (i := 639) (by decide +kernel)
set_option maxRecDepth 100000 in
theorem t_640 : (Jvm.Cond.code ({ cls := "BarrowNights$Readings", name := "hasRoom", desc := "()Z" } : Jvm.MethodName) prog_5_method_2_code (1 : Nat) (Option.some Jvm.ClassFile.FieldType.boolean)) ∈ lw_tbl := List.mem_of_getElem? (i := 640) (rfl)
theorem t_641 : (Jvm.Cond.methodLinkNest "BarrowNights" (207 : Nat) ({ cls := "BarrowNights$Readings", name := "note", desc := "(III)I" } : Jvm.MethodName) "BarrowNights") ∈ lw_tbl := List.mem_of_getElem? (i := 641) (by decide +kernel)
theorem t_643 : (Jvm.Cond.instanceMethod ({ cls := "BarrowNights$Readings", name := "note", desc := "(III)I" } : Jvm.MethodName)) ∈ lw_tbl := List.mem_of_getElem? (i := 643) (by decide +kernel)
set_option maxRecDepth 100000 in
theorem t_644 : (Jvm.Cond.code ({ cls := "BarrowNights$Readings", name := "note", desc := "(III)I" } : Jvm.MethodName) prog_5_method_3_code (4 : Nat) (Option.some Jvm.ClassFile.FieldType.int)) ∈ lw_tbl := List.mem_of_getElem? (i := 644) (rfl)
theorem t_645 : (Jvm.Cond.methodLink "BarrowNights$Readings" (25 : Nat) ({ cls := "BarrowNights$Readings", name := "hasRoom", desc := "()Z" } : Jvm.MethodName)) ∈ lw_tbl := List.mem_of_getElem? (i := 645) (by decide +kernel)
theorem t_646 : (Jvm.Cond.methodLink "BarrowNightsLaw" (74 : Nat) ({ cls := "BarrowNights", name := "back", desc := "(I)I" } : Jvm.MethodName)) ∈ lw_tbl := List.mem_of_getElem? (i := 646) (by decide +kernel)
theorem t_647 : (Jvm.Cond.instanceMethod ({ cls := "BarrowNights", name := "back", desc := "(I)I" } : Jvm.MethodName)) ∈ lw_tbl := List.mem_of_getElem? (i := 647) (by decide +kernel)
theorem t_648 : (Jvm.Cond.selects "BarrowNights" ({ cls := "BarrowNights", name := "back", desc := "(I)I" } : Jvm.MethodName) ({ cls := "BarrowNights", name := "back", desc := "(I)I" } : Jvm.MethodName)) ∈ lw_tbl := List.mem_of_getElem? (i := 648) (by decide +kernel)
set_option maxRecDepth 100000 in
theorem t_649 : (Jvm.Cond.code ({ cls := "BarrowNights", name := "back", desc := "(I)I" } : Jvm.MethodName) prog_1_method_16_code (2 : Nat) (Option.some Jvm.ClassFile.FieldType.int)) ∈ lw_tbl := List.mem_of_getElem? (i := 649) (rfl)
theorem t_650 : (Jvm.Cond.methodLink "BarrowNightsLaw" (78 : Nat) ({ cls := "BarrowNights", name := "rooms", desc := "(I)I" } : Jvm.MethodName)) ∈ lw_tbl := List.mem_of_getElem? (i := 650) (by decide +kernel)
theorem t_651 : (Jvm.Cond.instanceMethod ({ cls := "BarrowNights", name := "rooms", desc := "(I)I" } : Jvm.MethodName)) ∈ lw_tbl := List.mem_of_getElem? (i := 651) (by decide +kernel)
theorem t_652 : (Jvm.Cond.selects "BarrowNights" ({ cls := "BarrowNights", name := "rooms", desc := "(I)I" } : Jvm.MethodName) ({ cls := "BarrowNights", name := "rooms", desc := "(I)I" } : Jvm.MethodName)) ∈ lw_tbl := List.mem_of_getElem? (i := 652) (by decide +kernel)
set_option maxRecDepth 100000 in
theorem t_653 : (Jvm.Cond.code ({ cls := "BarrowNights", name := "rooms", desc := "(I)I" } : Jvm.MethodName) prog_1_method_17_code (4 : Nat) (Option.some Jvm.ClassFile.FieldType.int)) ∈ lw_tbl := List.mem_of_getElem? (i := 653) (rfl)
theorem t_654 : (Jvm.Cond.methodLink "BarrowNights" (210 : Nat) ({ cls := "BarrowNights", name := "holdsAs", desc := "(II)I" } : Jvm.MethodName)) ∈ lw_tbl := List.mem_of_getElem? (i := 654) (by decide +kernel)
theorem t_655 : (Jvm.Cond.methodLinkNest "BarrowNights" (213 : Nat) ({ cls := "BarrowNights$Readings", name := "areSo", desc := "(LBarrowNights$Down;II)Z" } : Jvm.MethodName) "BarrowNights") ∈ lw_tbl := List.mem_of_getElem? (i := 655) (by decide +kernel)
theorem t_657 : (Jvm.Cond.instanceMethod ({ cls := "BarrowNights$Readings", name := "areSo", desc := "(LBarrowNights$Down;II)Z" } : Jvm.MethodName)) ∈ lw_tbl := List.mem_of_getElem? (i := 657) (by decide +kernel)
set_option maxRecDepth 100000 in
theorem t_658 : (Jvm.Cond.code ({ cls := "BarrowNights$Readings", name := "areSo", desc := "(LBarrowNights$Down;II)Z" } : Jvm.MethodName) prog_5_method_4_code (7 : Nat) (Option.some Jvm.ClassFile.FieldType.boolean)) ∈ lw_tbl := List.mem_of_getElem? (i := 658) (rfl)
theorem t_659 : (Jvm.Cond.methodLinkNest "BarrowNights$Readings" (29 : Nat) ({ cls := "BarrowNights$Down", name := "holdsOf", desc := "(I)I" } : Jvm.MethodName) "BarrowNights") ∈ lw_tbl := List.mem_of_getElem? (i := 659) (by decide +kernel)
theorem t_660 : (Jvm.Cond.methodLink "BarrowNightsLaw" (82 : Nat) ({ cls := "BarrowNights", name := "kinds", desc := "(I)I" } : Jvm.MethodName)) ∈ lw_tbl := List.mem_of_getElem? (i := 660) (by decide +kernel)
theorem t_661 : (Jvm.Cond.instanceMethod ({ cls := "BarrowNights", name := "kinds", desc := "(I)I" } : Jvm.MethodName)) ∈ lw_tbl := List.mem_of_getElem? (i := 661) (by decide +kernel)
theorem t_662 : (Jvm.Cond.selects "BarrowNights" ({ cls := "BarrowNights", name := "kinds", desc := "(I)I" } : Jvm.MethodName) ({ cls := "BarrowNights", name := "kinds", desc := "(I)I" } : Jvm.MethodName)) ∈ lw_tbl := List.mem_of_getElem? (i := 662) (by decide +kernel)
set_option maxRecDepth 100000 in
theorem t_663 : (Jvm.Cond.code ({ cls := "BarrowNights", name := "kinds", desc := "(I)I" } : Jvm.MethodName) prog_1_method_18_code (4 : Nat) (Option.some Jvm.ClassFile.FieldType.int)) ∈ lw_tbl := List.mem_of_getElem? (i := 663) (rfl)
theorem t_664 : (Jvm.Cond.methodLink "BarrowNightsLaw" (86 : Nat) ({ cls := "BarrowNights", name := "odds", desc := "(II)J" } : Jvm.MethodName)) ∈ lw_tbl := List.mem_of_getElem? (i := 664) (by decide +kernel)
theorem t_665 : (Jvm.Cond.instanceMethod ({ cls := "BarrowNights", name := "odds", desc := "(II)J" } : Jvm.MethodName)) ∈ lw_tbl := List.mem_of_getElem? (i := 665) (by decide +kernel)
theorem t_666 : (Jvm.Cond.selects "BarrowNights" ({ cls := "BarrowNights", name := "odds", desc := "(II)J" } : Jvm.MethodName) ({ cls := "BarrowNights", name := "odds", desc := "(II)J" } : Jvm.MethodName)) ∈ lw_tbl := List.mem_of_getElem? (i := 666) (by decide +kernel)
set_option maxRecDepth 100000 in
theorem t_667 : (Jvm.Cond.code ({ cls := "BarrowNights", name := "odds", desc := "(II)J" } : Jvm.MethodName) prog_1_method_19_code (9 : Nat) (Option.some Jvm.ClassFile.FieldType.long)) ∈ lw_tbl := List.mem_of_getElem? (i := 667) (rfl)
theorem t_668 : (Jvm.Cond.constantLong "BarrowNights" (217 : Nat) (-9223372036854775808 : Int64)) ∈ lw_tbl := List.mem_of_getElem? (i := 668) (by decide +kernel)
theorem t_669 : (Jvm.Cond.methodLinkNest "BarrowNights" (219 : Nat) ({ cls := "BarrowNights$Down", name := "waysToFill", desc := "(I)J" } : Jvm.MethodName) "BarrowNights") ∈ lw_tbl := List.mem_of_getElem? (i := 669) (by decide +kernel)
theorem t_671 : (Jvm.Cond.instanceMethod ({ cls := "BarrowNights$Down", name := "waysToFill", desc := "(I)J" } : Jvm.MethodName)) ∈ lw_tbl := List.mem_of_getElem? (i := 671) (by decide +kernel)
set_option maxRecDepth 100000 in
theorem t_672 : (Jvm.Cond.code ({ cls := "BarrowNights$Down", name := "waysToFill", desc := "(I)J" } : Jvm.MethodName) prog_2_method_19_code (5 : Nat) (Option.some Jvm.ClassFile.FieldType.long)) ∈ lw_tbl := List.mem_of_getElem? (i := 672) (rfl)
theorem t_673 : (Jvm.Cond.methodLinkNest "BarrowNights$Down" (89 : Nat) ({ cls := "BarrowNights", name := "choices", desc := "(II)J" } : Jvm.MethodName) "BarrowNights") ∈ lw_tbl := List.mem_of_getElem? (i := 673) (by decide +kernel)
theorem t_674 : (Jvm.Cond.static ({ cls := "BarrowNights", name := "choices", desc := "(II)J" } : Jvm.MethodName)) ∈ lw_tbl := List.mem_of_getElem? (i := 674) (by decide +kernel)
set_option maxRecDepth 100000 in
theorem t_675 : (Jvm.Cond.code ({ cls := "BarrowNights", name := "choices", desc := "(II)J" } : Jvm.MethodName) prog_1_method_41_code (5 : Nat) (Option.some Jvm.ClassFile.FieldType.long)) ∈ lw_tbl := List.mem_of_getElem? (i := 675) (rfl)
theorem t_676 : (Jvm.Cond.methodLinkNest "BarrowNights$Down" (93 : Nat) ({ cls := "BarrowNights", name := "power", desc := "(JI)J" } : Jvm.MethodName) "BarrowNights") ∈ lw_tbl := List.mem_of_getElem? (i := 676) (by decide +kernel)
theorem t_677 : (Jvm.Cond.static ({ cls := "BarrowNights", name := "power", desc := "(JI)J" } : Jvm.MethodName)) ∈ lw_tbl := List.mem_of_getElem? (i := 677) (by decide +kernel)
set_option maxRecDepth 100000 in
theorem t_678 : (Jvm.Cond.code ({ cls := "BarrowNights", name := "power", desc := "(JI)J" } : Jvm.MethodName) prog_1_method_40_code (6 : Nat) (Option.some Jvm.ClassFile.FieldType.long)) ∈ lw_tbl := List.mem_of_getElem? (i := 678) (rfl)
theorem t_679 : (Jvm.Cond.methodLink "BarrowNights" (223 : Nat) ({ cls := "BarrowNights", name := "power", desc := "(JI)J" } : Jvm.MethodName)) ∈ lw_tbl := List.mem_of_getElem? (i := 679) (by decide +kernel)
theorem t_680 : (Jvm.Cond.methodLink "BarrowNights" (227 : Nat) ({ cls := "BarrowNights", name := "commonPart", desc := "(JJ)J" } : Jvm.MethodName)) ∈ lw_tbl := List.mem_of_getElem? (i := 680) (by decide +kernel)
theorem t_681 : (Jvm.Cond.static ({ cls := "BarrowNights", name := "commonPart", desc := "(JJ)J" } : Jvm.MethodName)) ∈ lw_tbl := List.mem_of_getElem? (i := 681) (by decide +kernel)
set_option maxRecDepth 100000 in
theorem t_682 : (Jvm.Cond.code ({ cls := "BarrowNights", name := "commonPart", desc := "(JJ)J" } : Jvm.MethodName) prog_1_method_42_code (11 : Nat) (Option.some Jvm.ClassFile.FieldType.long)) ∈ lw_tbl := List.mem_of_getElem? (i := 682) (rfl)
theorem t_683 : (Jvm.Cond.methodLink "BarrowNightsLaw" (91 : Nat) ({ cls := "BarrowNights", name := "sheet", desc := "(III)I" } : Jvm.MethodName)) ∈ lw_tbl := List.mem_of_getElem? (i := 683) (by decide +kernel)
theorem t_684 : (Jvm.Cond.instanceMethod ({ cls := "BarrowNights", name := "sheet", desc := "(III)I" } : Jvm.MethodName)) ∈ lw_tbl := List.mem_of_getElem? (i := 684) (by decide +kernel)
theorem t_685 : (Jvm.Cond.selects "BarrowNights" ({ cls := "BarrowNights", name := "sheet", desc := "(III)I" } : Jvm.MethodName) ({ cls := "BarrowNights", name := "sheet", desc := "(III)I" } : Jvm.MethodName)) ∈ lw_tbl := List.mem_of_getElem? (i := 685) (by decide +kernel)
set_option maxRecDepth 100000 in
theorem t_686 : (Jvm.Cond.code ({ cls := "BarrowNights", name := "sheet", desc := "(III)I" } : Jvm.MethodName) prog_1_method_20_code (4 : Nat) (Option.some Jvm.ClassFile.FieldType.int)) ∈ lw_tbl := List.mem_of_getElem? (i := 686) (rfl)
theorem t_687 : (Jvm.Cond.methodLinkNest "BarrowNights" (231 : Nat) ({ cls := "BarrowNights$Sheets", name := "renew", desc := "(III)V" } : Jvm.MethodName) "BarrowNights") ∈ lw_tbl := List.mem_of_getElem? (i := 687) (by decide +kernel)
theorem t_689 : (Jvm.Cond.instanceMethod ({ cls := "BarrowNights$Sheets", name := "renew", desc := "(III)V" } : Jvm.MethodName)) ∈ lw_tbl := List.mem_of_getElem? (i := 689) (by decide +kernel)
set_option maxRecDepth 100000 in
theorem t_690 : (Jvm.Cond.code ({ cls := "BarrowNights$Sheets", name := "renew", desc := "(III)V" } : Jvm.MethodName) prog_7_method_8_code (5 : Nat) (Option.none : Option Jvm.ClassFile.FieldType)) ∈ lw_tbl := List.mem_of_getElem? (i := 690) (rfl)
theorem t_691 : (Jvm.Cond.methodLink "BarrowNightsLaw" (95 : Nat) ({ cls := "BarrowNights", name := "lose", desc := "(I)I" } : Jvm.MethodName)) ∈ lw_tbl := List.mem_of_getElem? (i := 691) (by decide +kernel)
theorem t_692 : (Jvm.Cond.instanceMethod ({ cls := "BarrowNights", name := "lose", desc := "(I)I" } : Jvm.MethodName)) ∈ lw_tbl := List.mem_of_getElem? (i := 692) (by decide +kernel)
theorem t_693 : (Jvm.Cond.selects "BarrowNights" ({ cls := "BarrowNights", name := "lose", desc := "(I)I" } : Jvm.MethodName) ({ cls := "BarrowNights", name := "lose", desc := "(I)I" } : Jvm.MethodName)) ∈ lw_tbl := List.mem_of_getElem? (i := 693) (by decide +kernel)
set_option maxRecDepth 100000 in
theorem t_694 : (Jvm.Cond.code ({ cls := "BarrowNights", name := "lose", desc := "(I)I" } : Jvm.MethodName) prog_1_method_21_code (2 : Nat) (Option.some Jvm.ClassFile.FieldType.int)) ∈ lw_tbl := List.mem_of_getElem? (i := 694) (rfl)
theorem t_695 : (Jvm.Cond.methodLinkNest "BarrowNights" (235 : Nat) ({ cls := "BarrowNights$Sheets", name := "hasNothing", desc := "(I)Z" } : Jvm.MethodName) "BarrowNights") ∈ lw_tbl := List.mem_of_getElem? (i := 695) (by decide +kernel)
theorem t_696 : (Jvm.Cond.methodLinkNest "BarrowNights" (238 : Nat) ({ cls := "BarrowNights$Sheets", name := "empty", desc := "(I)V" } : Jvm.MethodName) "BarrowNights") ∈ lw_tbl := List.mem_of_getElem? (i := 696) (by decide +kernel)
theorem t_698 : (Jvm.Cond.instanceMethod ({ cls := "BarrowNights$Sheets", name := "empty", desc := "(I)V" } : Jvm.MethodName)) ∈ lw_tbl := List.mem_of_getElem? (i := 698) (by decide +kernel)
set_option maxRecDepth 100000 in
theorem t_699 : (Jvm.Cond.code ({ cls := "BarrowNights$Sheets", name := "empty", desc := "(I)V" } : Jvm.MethodName) prog_7_method_9_code (2 : Nat) (Option.none : Option Jvm.ClassFile.FieldType)) ∈ lw_tbl := List.mem_of_getElem? (i := 699) (rfl)
theorem t_700 : (Jvm.Cond.methodLink "BarrowNightsLaw" (99 : Nat) ({ cls := "BarrowNights", name := "put", desc := "(III)I" } : Jvm.MethodName)) ∈ lw_tbl := List.mem_of_getElem? (i := 700) (by decide +kernel)
theorem t_701 : (Jvm.Cond.instanceMethod ({ cls := "BarrowNights", name := "put", desc := "(III)I" } : Jvm.MethodName)) ∈ lw_tbl := List.mem_of_getElem? (i := 701) (by decide +kernel)
theorem t_702 : (Jvm.Cond.selects "BarrowNights" ({ cls := "BarrowNights", name := "put", desc := "(III)I" } : Jvm.MethodName) ({ cls := "BarrowNights", name := "put", desc := "(III)I" } : Jvm.MethodName)) ∈ lw_tbl := List.mem_of_getElem? (i := 702) (by decide +kernel)
set_option maxRecDepth 100000 in
theorem t_703 : (Jvm.Cond.code ({ cls := "BarrowNights", name := "put", desc := "(III)I" } : Jvm.MethodName) prog_1_method_22_code (4 : Nat) (Option.some Jvm.ClassFile.FieldType.int)) ∈ lw_tbl := List.mem_of_getElem? (i := 703) (rfl)
theorem t_704 : (Jvm.Cond.methodLinkNest "BarrowNights" (242 : Nat) ({ cls := "BarrowNights$Sheets", name := "faultOfCell", desc := "(II)I" } : Jvm.MethodName) "BarrowNights") ∈ lw_tbl := List.mem_of_getElem? (i := 704) (by decide +kernel)
theorem t_705 : (Jvm.Cond.methodLinkNest "BarrowNights" (245 : Nat) ({ cls := "BarrowNights$Sheets", name := "setAt", desc := "(III)V" } : Jvm.MethodName) "BarrowNights") ∈ lw_tbl := List.mem_of_getElem? (i := 705) (by decide +kernel)
theorem t_707 : (Jvm.Cond.instanceMethod ({ cls := "BarrowNights$Sheets", name := "setAt", desc := "(III)V" } : Jvm.MethodName)) ∈ lw_tbl := List.mem_of_getElem? (i := 707) (by decide +kernel)
set_option maxRecDepth 100000 in
theorem t_708 : (Jvm.Cond.code ({ cls := "BarrowNights$Sheets", name := "setAt", desc := "(III)V" } : Jvm.MethodName) prog_7_method_11_code (4 : Nat) (Option.none : Option Jvm.ClassFile.FieldType)) ∈ lw_tbl := List.mem_of_getElem? (i := 708) (rfl)
theorem t_709 : (Jvm.Cond.methodLink "BarrowNights$Sheets" (32 : Nat) ({ cls := "BarrowNights$Sheets", name := "cut", desc := "(II)I" } : Jvm.MethodName)) ∈ lw_tbl := List.mem_of_getElem? (i := 709) (by decide +kernel)
theorem t_710 : (Jvm.Cond.static ({ cls := "BarrowNights$Sheets", name := "cut", desc := "(II)I" } : Jvm.MethodName)) ∈ lw_tbl := List.mem_of_getElem? (i := 710) (by decide +kernel)
set_option maxRecDepth 100000 in
theorem t_711 : (Jvm.Cond.code ({ cls := "BarrowNights$Sheets", name := "cut", desc := "(II)I" } : Jvm.MethodName) prog_7_method_12_code (2 : Nat) (Option.some Jvm.ClassFile.FieldType.int)) ∈ lw_tbl := List.mem_of_getElem? (i := 711) (rfl)
theorem t_712 : (Jvm.Cond.methodLink "BarrowNightsLaw" (103 : Nat) ({ cls := "BarrowNights", name := "cell", desc := "(III)J" } : Jvm.MethodName)) ∈ lw_tbl := List.mem_of_getElem? (i := 712) (by decide +kernel)
theorem t_713 : (Jvm.Cond.instanceMethod ({ cls := "BarrowNights", name := "cell", desc := "(III)J" } : Jvm.MethodName)) ∈ lw_tbl := List.mem_of_getElem? (i := 713) (by decide +kernel)
theorem t_714 : (Jvm.Cond.selects "BarrowNights" ({ cls := "BarrowNights", name := "cell", desc := "(III)J" } : Jvm.MethodName) ({ cls := "BarrowNights", name := "cell", desc := "(III)J" } : Jvm.MethodName)) ∈ lw_tbl := List.mem_of_getElem? (i := 714) (by decide +kernel)
set_option maxRecDepth 100000 in
theorem t_715 : (Jvm.Cond.code ({ cls := "BarrowNights", name := "cell", desc := "(III)J" } : Jvm.MethodName) prog_1_method_23_code (4 : Nat) (Option.some Jvm.ClassFile.FieldType.long)) ∈ lw_tbl := List.mem_of_getElem? (i := 715) (rfl)
theorem t_716 : (Jvm.Cond.methodLinkNest "BarrowNights" (248 : Nat) ({ cls := "BarrowNights$Sheets", name := "valueAt", desc := "(II)I" } : Jvm.MethodName) "BarrowNights") ∈ lw_tbl := List.mem_of_getElem? (i := 716) (by decide +kernel)
theorem t_717 : (Jvm.Cond.methodLink "BarrowNightsLaw" (108 : Nat) ({ cls := "BarrowNights", name := "copy", desc := "(IIIII)I" } : Jvm.MethodName)) ∈ lw_tbl := List.mem_of_getElem? (i := 717) (by decide +kernel)
theorem t_718 : (Jvm.Cond.instanceMethod ({ cls := "BarrowNights", name := "copy", desc := "(IIIII)I" } : Jvm.MethodName)) ∈ lw_tbl := List.mem_of_getElem? (i := 718) (by decide +kernel)
theorem t_719 : (Jvm.Cond.selects "BarrowNights" ({ cls := "BarrowNights", name := "copy", desc := "(IIIII)I" } : Jvm.MethodName) ({ cls := "BarrowNights", name := "copy", desc := "(IIIII)I" } : Jvm.MethodName)) ∈ lw_tbl := List.mem_of_getElem? (i := 719) (by decide +kernel)
set_option maxRecDepth 100000 in
theorem t_720 : (Jvm.Cond.code ({ cls := "BarrowNights", name := "copy", desc := "(IIIII)I" } : Jvm.MethodName) prog_1_method_24_code (6 : Nat) (Option.some Jvm.ClassFile.FieldType.int)) ∈ lw_tbl := List.mem_of_getElem? (i := 720) (rfl)
theorem t_721 : (Jvm.Cond.methodLinkNest "BarrowNights" (251 : Nat) ({ cls := "BarrowNights$Sheets", name := "faultOfPair", desc := "(II)I" } : Jvm.MethodName) "BarrowNights") ∈ lw_tbl := List.mem_of_getElem? (i := 721) (by decide +kernel)
theorem t_723 : (Jvm.Cond.instanceMethod ({ cls := "BarrowNights$Sheets", name := "faultOfPair", desc := "(II)I" } : Jvm.MethodName)) ∈ lw_tbl := List.mem_of_getElem? (i := 723) (by decide +kernel)
set_option maxRecDepth 100000 in
theorem t_724 : (Jvm.Cond.code ({ cls := "BarrowNights$Sheets", name := "faultOfPair", desc := "(II)I" } : Jvm.MethodName) prog_7_method_5_code (3 : Nat) (Option.some Jvm.ClassFile.FieldType.int)) ∈ lw_tbl := List.mem_of_getElem? (i := 724) (rfl)
theorem t_725 : (Jvm.Cond.methodLinkNest "BarrowNights" (254 : Nat) ({ cls := "BarrowNights$Sheets", name := "move", desc := "(IIIII)V" } : Jvm.MethodName) "BarrowNights") ∈ lw_tbl := List.mem_of_getElem? (i := 725) (by decide +kernel)
theorem t_727 : (Jvm.Cond.instanceMethod ({ cls := "BarrowNights$Sheets", name := "move", desc := "(IIIII)V" } : Jvm.MethodName)) ∈ lw_tbl := List.mem_of_getElem? (i := 727) (by decide +kernel)
set_option maxRecDepth 100000 in
theorem t_728 : (Jvm.Cond.code ({ cls := "BarrowNights$Sheets", name := "move", desc := "(IIIII)V" } : Jvm.MethodName) prog_7_method_13_code (6 : Nat) (Option.none : Option Jvm.ClassFile.FieldType)) ∈ lw_tbl := List.mem_of_getElem? (i := 728) (rfl)
theorem t_729 : (Jvm.Cond.methodLink "BarrowNights$Sheets" (35 : Nat) ({ cls := "BarrowNights$Sheets", name := "faultOfCells", desc := "(III)I" } : Jvm.MethodName)) ∈ lw_tbl := List.mem_of_getElem? (i := 729) (by decide +kernel)
theorem t_733 : (Jvm.Cond.methodLink "BarrowNightsLaw" (112 : Nat) ({ cls := "BarrowNights", name := "tell", desc := "(I)I" } : Jvm.MethodName)) ∈ lw_tbl := List.mem_of_getElem? (i := 733) (by decide +kernel)
theorem t_734 : (Jvm.Cond.instanceMethod ({ cls := "BarrowNights", name := "tell", desc := "(I)I" } : Jvm.MethodName)) ∈ lw_tbl := List.mem_of_getElem? (i := 734) (by decide +kernel)
theorem t_735 : (Jvm.Cond.selects "BarrowNights" ({ cls := "BarrowNights", name := "tell", desc := "(I)I" } : Jvm.MethodName) ({ cls := "BarrowNights", name := "tell", desc := "(I)I" } : Jvm.MethodName)) ∈ lw_tbl := List.mem_of_getElem? (i := 735) (by decide +kernel)
set_option maxRecDepth 100000 in
theorem t_736 : (Jvm.Cond.code ({ cls := "BarrowNights", name := "tell", desc := "(I)I" } : Jvm.MethodName) prog_1_method_25_code (2 : Nat) (Option.some Jvm.ClassFile.FieldType.int)) ∈ lw_tbl := List.mem_of_getElem? (i := 736) (rfl)
theorem t_737 : (Jvm.Cond.methodLink "BarrowNights" (258 : Nat) ({ cls := "BarrowNights", name := "ringBody", desc := "(I)I" } : Jvm.MethodName)) ∈ lw_tbl := List.mem_of_getElem? (i := 737) (by decide +kernel)
theorem t_739 : (Jvm.Cond.instanceMethod ({ cls := "BarrowNights", name := "ringBody", desc := "(I)I" } : Jvm.MethodName)) ∈ lw_tbl := List.mem_of_getElem? (i := 739) (by decide +kernel)
set_option maxRecDepth 100000 in
theorem t_740 : (Jvm.Cond.code ({ cls := "BarrowNights", name := "ringBody", desc := "(I)I" } : Jvm.MethodName) prog_1_method_34_code (3 : Nat) (Option.some Jvm.ClassFile.FieldType.int)) ∈ lw_tbl := List.mem_of_getElem? (i := 740) (rfl)
theorem t_741 : (Jvm.Cond.methodLink "BarrowNights" (279 : Nat) ({ cls := "BarrowNights", name := "begin", desc := "(I)V" } : Jvm.MethodName)) ∈ lw_tbl := List.mem_of_getElem? (i := 741) (by decide +kernel)
theorem t_743 : (Jvm.Cond.instanceMethod ({ cls := "BarrowNights", name := "begin", desc := "(I)V" } : Jvm.MethodName)) ∈ lw_tbl := List.mem_of_getElem? (i := 743) (by decide +kernel)
set_option maxRecDepth 100000 in
theorem t_744 : (Jvm.Cond.code ({ cls := "BarrowNights", name := "begin", desc := "(I)V" } : Jvm.MethodName) prog_1_method_31_code (2 : Nat) (Option.none : Option Jvm.ClassFile.FieldType)) ∈ lw_tbl := List.mem_of_getElem? (i := 744) (rfl)
theorem t_745 : (Jvm.Cond.methodLink "BarrowNights" (261 : Nat) ({ cls := "BarrowNights", name := "longBody", desc := "(I)I" } : Jvm.MethodName)) ∈ lw_tbl := List.mem_of_getElem? (i := 745) (by decide +kernel)
theorem t_747 : (Jvm.Cond.instanceMethod ({ cls := "BarrowNights", name := "longBody", desc := "(I)I" } : Jvm.MethodName)) ∈ lw_tbl := List.mem_of_getElem? (i := 747) (by decide +kernel)
set_option maxRecDepth 100000 in
theorem t_748 : (Jvm.Cond.code ({ cls := "BarrowNights", name := "longBody", desc := "(I)I" } : Jvm.MethodName) prog_1_method_33_code (2 : Nat) (Option.some Jvm.ClassFile.FieldType.int)) ∈ lw_tbl := List.mem_of_getElem? (i := 748) (rfl)
theorem t_749 : (Jvm.Cond.methodLink "BarrowNights" (264 : Nat) ({ cls := "BarrowNights", name := "roundBody", desc := "(I)I" } : Jvm.MethodName)) ∈ lw_tbl := List.mem_of_getElem? (i := 749) (by decide +kernel)
theorem t_751 : (Jvm.Cond.instanceMethod ({ cls := "BarrowNights", name := "roundBody", desc := "(I)I" } : Jvm.MethodName)) ∈ lw_tbl := List.mem_of_getElem? (i := 751) (by decide +kernel)
set_option maxRecDepth 100000 in
theorem t_752 : (Jvm.Cond.code ({ cls := "BarrowNights", name := "roundBody", desc := "(I)I" } : Jvm.MethodName) prog_1_method_32_code (2 : Nat) (Option.some Jvm.ClassFile.FieldType.int)) ∈ lw_tbl := List.mem_of_getElem? (i := 752) (rfl)
theorem t_753 : (Jvm.Cond.methodLink "BarrowNightsLaw" (116 : Nat) ({ cls := "BarrowNights", name := "haunt", desc := "(I)I" } : Jvm.MethodName)) ∈ lw_tbl := List.mem_of_getElem? (i := 753) (by decide +kernel)
theorem t_754 : (Jvm.Cond.instanceMethod ({ cls := "BarrowNights", name := "haunt", desc := "(I)I" } : Jvm.MethodName)) ∈ lw_tbl := List.mem_of_getElem? (i := 754) (by decide +kernel)
theorem t_755 : (Jvm.Cond.selects "BarrowNights" ({ cls := "BarrowNights", name := "haunt", desc := "(I)I" } : Jvm.MethodName) ({ cls := "BarrowNights", name := "haunt", desc := "(I)I" } : Jvm.MethodName)) ∈ lw_tbl := List.mem_of_getElem? (i := 755) (by decide +kernel)
set_option maxRecDepth 100000 in
theorem t_756 : (Jvm.Cond.code ({ cls := "BarrowNights", name := "haunt", desc := "(I)I" } : Jvm.MethodName) prog_1_method_26_code (2 : Nat) (Option.some Jvm.ClassFile.FieldType.int)) ∈ lw_tbl := List.mem_of_getElem? (i := 756) (rfl)
theorem t_757 : (Jvm.Cond.methodLink "BarrowNights" (267 : Nat) ({ cls := "BarrowNights", name := "ringHaunt", desc := "()I" } : Jvm.MethodName)) ∈ lw_tbl := List.mem_of_getElem? (i := 757) (by decide +kernel)
theorem t_759 : (Jvm.Cond.instanceMethod ({ cls := "BarrowNights", name := "ringHaunt", desc := "()I" } : Jvm.MethodName)) ∈ lw_tbl := List.mem_of_getElem? (i := 759) (by decide +kernel)
set_option maxRecDepth 100000 in
theorem t_760 : (Jvm.Cond.code ({ cls := "BarrowNights", name := "ringHaunt", desc := "()I" } : Jvm.MethodName) prog_1_method_36_code (1 : Nat) (Option.some Jvm.ClassFile.FieldType.int)) ∈ lw_tbl := List.mem_of_getElem? (i := 760) (rfl)
theorem t_761 : (Jvm.Cond.methodLink "BarrowNights" (270 : Nat) ({ cls := "BarrowNights", name := "lentHaunt", desc := "(I)I" } : Jvm.MethodName)) ∈ lw_tbl := List.mem_of_getElem? (i := 761) (by decide +kernel)
theorem t_763 : (Jvm.Cond.instanceMethod ({ cls := "BarrowNights", name := "lentHaunt", desc := "(I)I" } : Jvm.MethodName)) ∈ lw_tbl := List.mem_of_getElem? (i := 763) (by decide +kernel)
set_option maxRecDepth 100000 in
theorem t_764 : (Jvm.Cond.code ({ cls := "BarrowNights", name := "lentHaunt", desc := "(I)I" } : Jvm.MethodName) prog_1_method_35_code (2 : Nat) (Option.some Jvm.ClassFile.FieldType.int)) ∈ lw_tbl := List.mem_of_getElem? (i := 764) (rfl)
theorem t_765 : (Jvm.Cond.methodLink "BarrowNightsLaw" (120 : Nat) ({ cls := "BarrowNights", name := "as", desc := "(II)I" } : Jvm.MethodName)) ∈ lw_tbl := List.mem_of_getElem? (i := 765) (by decide +kernel)
theorem t_766 : (Jvm.Cond.instanceMethod ({ cls := "BarrowNights", name := "as", desc := "(II)I" } : Jvm.MethodName)) ∈ lw_tbl := List.mem_of_getElem? (i := 766) (by decide +kernel)
theorem t_767 : (Jvm.Cond.selects "BarrowNights" ({ cls := "BarrowNights", name := "as", desc := "(II)I" } : Jvm.MethodName) ({ cls := "BarrowNights", name := "as", desc := "(II)I" } : Jvm.MethodName)) ∈ lw_tbl := List.mem_of_getElem? (i := 767) (by decide +kernel)
set_option maxRecDepth 100000 in
theorem t_768 : (Jvm.Cond.code ({ cls := "BarrowNights", name := "as", desc := "(II)I" } : Jvm.MethodName) prog_1_method_27_code (3 : Nat) (Option.some Jvm.ClassFile.FieldType.int)) ∈ lw_tbl := List.mem_of_getElem? (i := 768) (rfl)
theorem t_769 : (Jvm.Cond.methodLink "BarrowNightsLaw" (124 : Nat) ({ cls := "BarrowNights", name := "trace", desc := "()I" } : Jvm.MethodName)) ∈ lw_tbl := List.mem_of_getElem? (i := 769) (by decide +kernel)
theorem t_770 : (Jvm.Cond.instanceMethod ({ cls := "BarrowNights", name := "trace", desc := "()I" } : Jvm.MethodName)) ∈ lw_tbl := List.mem_of_getElem? (i := 770) (by decide +kernel)
theorem t_771 : (Jvm.Cond.selects "BarrowNights" ({ cls := "BarrowNights", name := "trace", desc := "()I" } : Jvm.MethodName) ({ cls := "BarrowNights", name := "trace", desc := "()I" } : Jvm.MethodName)) ∈ lw_tbl := List.mem_of_getElem? (i := 771) (by decide +kernel)
set_option maxRecDepth 100000 in
theorem t_772 : (Jvm.Cond.code ({ cls := "BarrowNights", name := "trace", desc := "()I" } : Jvm.MethodName) prog_1_method_28_code (1 : Nat) (Option.some Jvm.ClassFile.FieldType.int)) ∈ lw_tbl := List.mem_of_getElem? (i := 772) (rfl)
theorem t_773 : (Jvm.Cond.methodLink "BarrowNightsLaw" (129 : Nat) ({ cls := "BarrowNights", name := "fault", desc := "()I" } : Jvm.MethodName)) ∈ lw_tbl := List.mem_of_getElem? (i := 773) (by decide +kernel)
theorem t_774 : (Jvm.Cond.instanceMethod ({ cls := "BarrowNights", name := "fault", desc := "()I" } : Jvm.MethodName)) ∈ lw_tbl := List.mem_of_getElem? (i := 774) (by decide +kernel)
theorem t_775 : (Jvm.Cond.selects "BarrowNights" ({ cls := "BarrowNights", name := "fault", desc := "()I" } : Jvm.MethodName) ({ cls := "BarrowNights", name := "fault", desc := "()I" } : Jvm.MethodName)) ∈ lw_tbl := List.mem_of_getElem? (i := 775) (by decide +kernel)
set_option maxRecDepth 100000 in
theorem t_776 : (Jvm.Cond.code ({ cls := "BarrowNights", name := "fault", desc := "()I" } : Jvm.MethodName) prog_1_method_29_code (1 : Nat) (Option.some Jvm.ClassFile.FieldType.int)) ∈ lw_tbl := List.mem_of_getElem? (i := 776) (rfl)
theorem t_777 : (Jvm.Cond.methodLink "BarrowNightsLaw" (133 : Nat) ({ cls := "BarrowNights", name := "many", desc := "(I)I" } : Jvm.MethodName)) ∈ lw_tbl := List.mem_of_getElem? (i := 777) (by decide +kernel)
theorem t_778 : (Jvm.Cond.instanceMethod ({ cls := "BarrowNights", name := "many", desc := "(I)I" } : Jvm.MethodName)) ∈ lw_tbl := List.mem_of_getElem? (i := 778) (by decide +kernel)
theorem t_779 : (Jvm.Cond.selects "BarrowNights" ({ cls := "BarrowNights", name := "many", desc := "(I)I" } : Jvm.MethodName) ({ cls := "BarrowNights", name := "many", desc := "(I)I" } : Jvm.MethodName)) ∈ lw_tbl := List.mem_of_getElem? (i := 779) (by decide +kernel)
set_option maxRecDepth 100000 in
theorem t_780 : (Jvm.Cond.code ({ cls := "BarrowNights", name := "many", desc := "(I)I" } : Jvm.MethodName) prog_1_method_30_code (2 : Nat) (Option.some Jvm.ClassFile.FieldType.int)) ∈ lw_tbl := List.mem_of_getElem? (i := 780) (rfl)
theorem t_781 : (Jvm.Cond.methodLinkNest "BarrowNights" (276 : Nat) ({ cls := "BarrowNights$Down", name := "allLodgers", desc := "()I" } : Jvm.MethodName) "BarrowNights") ∈ lw_tbl := List.mem_of_getElem? (i := 781) (by decide +kernel)
set_option maxRecDepth 100000 in
theorem t_786 : (Jvm.Cond.code ({ cls := "BarrowNightsModel", name := "<init>", desc := "()V" } : Jvm.MethodName) prog_10_method_1_code (1 : Nat) (Option.none : Option Jvm.ClassFile.FieldType)) ∈ lw_tbl := List.mem_of_getElem? (i := 786) (rfl)
theorem t_788 : (Jvm.Cond.fieldLink "BarrowNightsModel" (82 : Nat) "BarrowNightsModel" "fault" "I") ∈ lw_tbl := List.mem_of_getElem? (i := 788) (by decide +kernel)
theorem t_789 : (Jvm.Cond.fieldLink "BarrowNightsModel" (249 : Nat) "BarrowNightsModel" "trace" "I") ∈ lw_tbl := List.mem_of_getElem? (i := 789) (by decide +kernel)
theorem t_790 : (Jvm.Cond.fieldLink "BarrowNightsModel" (9 : Nat) "BarrowNightsModel" "sorts" "[I") ∈ lw_tbl := List.mem_of_getElem? (i := 790) (by decide +kernel)
theorem t_791 : (Jvm.Cond.fieldLink "BarrowNightsModel" (13 : Nat) "BarrowNightsModel" "sheetLong" "[I") ∈ lw_tbl := List.mem_of_getElem? (i := 791) (by decide +kernel)
theorem t_792 : (Jvm.Cond.fieldLink "BarrowNightsModel" (16 : Nat) "BarrowNightsModel" "cells" "[I") ∈ lw_tbl := List.mem_of_getElem? (i := 792) (by decide +kernel)
theorem t_793 : (Jvm.Cond.fieldLink "BarrowNightsModel" (92 : Nat) "BarrowNightsModel" "barrows" "I") ∈ lw_tbl := List.mem_of_getElem? (i := 793) (by decide +kernel)
theorem t_794 : (Jvm.Cond.fieldLink "BarrowNightsModel" (95 : Nat) "BarrowNightsModel" "walkers" "I") ∈ lw_tbl := List.mem_of_getElem? (i := 794) (by decide +kernel)
theorem t_795 : (Jvm.Cond.fieldLink "BarrowNightsModel" (128 : Nat) "BarrowNightsModel" "nights" "I") ∈ lw_tbl := List.mem_of_getElem? (i := 795) (by decide +kernel)
theorem t_796 : (Jvm.Cond.fieldLink "BarrowNightsModel" (19 : Nat) "BarrowNightsModel" "kind" "[I") ∈ lw_tbl := List.mem_of_getElem? (i := 796) (by decide +kernel)
theorem t_797 : (Jvm.Cond.fieldLink "BarrowNightsModel" (22 : Nat) "BarrowNightsModel" "beds" "[I") ∈ lw_tbl := List.mem_of_getElem? (i := 797) (by decide +kernel)
theorem t_798 : (Jvm.Cond.fieldLink "BarrowNightsModel" (25 : Nat) "BarrowNightsModel" "pence" "[I") ∈ lw_tbl := List.mem_of_getElem? (i := 798) (by decide +kernel)
theorem t_799 : (Jvm.Cond.fieldLink "BarrowNightsModel" (28 : Nat) "BarrowNightsModel" "place" "[I") ∈ lw_tbl := List.mem_of_getElem? (i := 799) (by decide +kernel)
theorem t_800 : (Jvm.Cond.fieldLink "BarrowNightsModel" (31 : Nat) "BarrowNightsModel" "means" "[I") ∈ lw_tbl := List.mem_of_getElem? (i := 800) (by decide +kernel)
theorem t_801 : (Jvm.Cond.fieldLink "BarrowNightsModel" (34 : Nat) "BarrowNightsModel" "stands" "[I") ∈ lw_tbl := List.mem_of_getElem? (i := 801) (by decide +kernel)
theorem t_802 : (Jvm.Cond.fieldLink "BarrowNightsModel" (37 : Nat) "BarrowNightsModel" "goesFar" "[I") ∈ lw_tbl := List.mem_of_getElem? (i := 802) (by decide +kernel)
theorem t_803 : (Jvm.Cond.fieldLink "BarrowNightsModel" (40 : Nat) "BarrowNightsModel" "lodgesIn" "[I") ∈ lw_tbl := List.mem_of_getElem? (i := 803) (by decide +kernel)
theorem t_804 : (Jvm.Cond.fieldLink "BarrowNightsModel" (43 : Nat) "BarrowNightsModel" "cold" "[I") ∈ lw_tbl := List.mem_of_getElem? (i := 804) (by decide +kernel)
theorem t_805 : (Jvm.Cond.fieldLink "BarrowNightsModel" (98 : Nat) "BarrowNightsModel" "at" "I") ∈ lw_tbl := List.mem_of_getElem? (i := 805) (by decide +kernel)
theorem t_806 : (Jvm.Cond.fieldLink "BarrowNightsModel" (122 : Nat) "BarrowNightsModel" "readBarrows" "I") ∈ lw_tbl := List.mem_of_getElem? (i := 806) (by decide +kernel)
theorem t_807 : (Jvm.Cond.fieldLink "BarrowNightsModel" (125 : Nat) "BarrowNightsModel" "readWalkers" "I") ∈ lw_tbl := List.mem_of_getElem? (i := 807) (by decide +kernel)
theorem t_808 : (Jvm.Cond.fieldLink "BarrowNightsModel" (46 : Nat) "BarrowNightsModel" "read" "[I") ∈ lw_tbl := List.mem_of_getElem? (i := 808) (by decide +kernel)
theorem t_809 : (Jvm.Cond.fieldLink "BarrowNightsModel" (49 : Nat) "BarrowNightsModel" "readWho" "[I") ∈ lw_tbl := List.mem_of_getElem? (i := 809) (by decide +kernel)
theorem t_810 : (Jvm.Cond.fieldLink "BarrowNightsModel" (52 : Nat) "BarrowNightsModel" "keptMeans" "[I") ∈ lw_tbl := List.mem_of_getElem? (i := 810) (by decide +kernel)
theorem t_811 : (Jvm.Cond.fieldLink "BarrowNightsModel" (55 : Nat) "BarrowNightsModel" "keptStands" "[I") ∈ lw_tbl := List.mem_of_getElem? (i := 811) (by decide +kernel)
theorem t_812 : (Jvm.Cond.fieldLink "BarrowNightsModel" (58 : Nat) "BarrowNightsModel" "keptLodges" "[I") ∈ lw_tbl := List.mem_of_getElem? (i := 812) (by decide +kernel)
theorem t_813 : (Jvm.Cond.fieldLink "BarrowNightsModel" (61 : Nat) "BarrowNightsModel" "keptCold" "[I") ∈ lw_tbl := List.mem_of_getElem? (i := 813) (by decide +kernel)
theorem t_814 : (Jvm.Cond.fieldLink "BarrowNightsModel" (184 : Nat) "BarrowNightsModel" "putOut" "I") ∈ lw_tbl := List.mem_of_getElem? (i := 814) (by decide +kernel)
theorem t_815 : (Jvm.Cond.fieldLink "BarrowNightsModel" (64 : Nat) "BarrowNightsModel" "row" "[I") ∈ lw_tbl := List.mem_of_getElem? (i := 815) (by decide +kernel)
theorem t_816 : (Jvm.Cond.fieldLink "BarrowNightsModel" (67 : Nat) "BarrowNightsModel" "housedIn" "[I") ∈ lw_tbl := List.mem_of_getElem? (i := 816) (by decide +kernel)
theorem t_817 : (Jvm.Cond.fieldLink "BarrowNightsModel" (212 : Nat) "BarrowNightsModel" "housedMany" "I") ∈ lw_tbl := List.mem_of_getElem? (i := 817) (by decide +kernel)
theorem t_818 : (Jvm.Cond.fieldLink "BarrowNightsModel" (222 : Nat) "BarrowNightsModel" "housedPence" "I") ∈ lw_tbl := List.mem_of_getElem? (i := 818) (by decide +kernel)
theorem t_819 : (Jvm.Cond.fieldLink "BarrowNightsModel" (70 : Nat) "BarrowNightsModel" "steps" "[I") ∈ lw_tbl := List.mem_of_getElem? (i := 819) (by decide +kernel)
theorem t_820 : (Jvm.Cond.fieldLink "BarrowNightsModel" (131 : Nat) "BarrowNightsModel" "readings" "I") ∈ lw_tbl := List.mem_of_getElem? (i := 820) (by decide +kernel)
theorem t_821 : (Jvm.Cond.fieldLink "BarrowNightsModel" (73 : Nat) "BarrowNightsModel" "readWhich" "[I") ∈ lw_tbl := List.mem_of_getElem? (i := 821) (by decide +kernel)
theorem t_822 : (Jvm.Cond.fieldLink "BarrowNightsModel" (76 : Nat) "BarrowNightsModel" "readLodgers" "[I") ∈ lw_tbl := List.mem_of_getElem? (i := 822) (by decide +kernel)
theorem t_823 : (Jvm.Cond.fieldLink "BarrowNightsModel" (79 : Nat) "BarrowNightsModel" "readFull" "[I") ∈ lw_tbl := List.mem_of_getElem? (i := 823) (by decide +kernel)
theorem t_897 : (Jvm.Cond.methodLink "BarrowNightsLaw" (17 : Nat) ({ cls := "BarrowNightsModel", name := "down", desc := "(IIII)I" } : Jvm.MethodName)) ∈ lw_tbl := List.mem_of_getElem? (i := 897) (by decide +kernel)
theorem t_898 : (Jvm.Cond.instanceMethod ({ cls := "BarrowNightsModel", name := "down", desc := "(IIII)I" } : Jvm.MethodName)) ∈ lw_tbl := List.mem_of_getElem? (i := 898) (by decide +kernel)
theorem t_899 : (Jvm.Cond.selects "BarrowNightsModel" ({ cls := "BarrowNightsModel", name := "down", desc := "(IIII)I" } : Jvm.MethodName) ({ cls := "BarrowNightsModel", name := "down", desc := "(IIII)I" } : Jvm.MethodName)) ∈ lw_tbl := List.mem_of_getElem? (i := 899) (by decide +kernel)
set_option maxRecDepth 100000 in
theorem t_900 : (Jvm.Cond.code ({ cls := "BarrowNightsModel", name := "down", desc := "(IIII)I" } : Jvm.MethodName) prog_10_method_13_code (7 : Nat) (Option.some Jvm.ClassFile.FieldType.int)) ∈ lw_tbl := List.mem_of_getElem? (i := 900) (rfl)
theorem t_901 : (Jvm.Cond.methodLink "BarrowNightsModel" (101 : Nat) ({ cls := "BarrowNightsModel", name := "isSheet", desc := "(I)Z" } : Jvm.MethodName)) ∈ lw_tbl := List.mem_of_getElem? (i := 901) (by decide +kernel)
theorem t_902 : (Jvm.Cond.static ({ cls := "BarrowNightsModel", name := "isSheet", desc := "(I)Z" } : Jvm.MethodName)) ∈ lw_tbl := List.mem_of_getElem? (i := 902) (by decide +kernel)
set_option maxRecDepth 100000 in
theorem t_903 : (Jvm.Cond.code ({ cls := "BarrowNightsModel", name := "isSheet", desc := "(I)Z" } : Jvm.MethodName) prog_10_method_6_code (1 : Nat) (Option.some Jvm.ClassFile.FieldType.boolean)) ∈ lw_tbl := List.mem_of_getElem? (i := 903) (rfl)
theorem t_904 : (Jvm.Cond.methodLink "BarrowNightsModel" (88 : Nat) ({ cls := "BarrowNightsModel", name := "within", desc := "(III)Z" } : Jvm.MethodName)) ∈ lw_tbl := List.mem_of_getElem? (i := 904) (by decide +kernel)
theorem t_905 : (Jvm.Cond.static ({ cls := "BarrowNightsModel", name := "within", desc := "(III)Z" } : Jvm.MethodName)) ∈ lw_tbl := List.mem_of_getElem? (i := 905) (by decide +kernel)
set_option maxRecDepth 100000 in
theorem t_906 : (Jvm.Cond.code ({ cls := "BarrowNightsModel", name := "within", desc := "(III)Z" } : Jvm.MethodName) prog_10_method_5_code (3 : Nat) (Option.some Jvm.ClassFile.FieldType.boolean)) ∈ lw_tbl := List.mem_of_getElem? (i := 906) (rfl)
theorem t_907 : (Jvm.Cond.methodLink "BarrowNightsModel" (105 : Nat) ({ cls := "BarrowNightsModel", name := "isSort", desc := "(I)Z" } : Jvm.MethodName)) ∈ lw_tbl := List.mem_of_getElem? (i := 907) (by decide +kernel)
theorem t_908 : (Jvm.Cond.static ({ cls := "BarrowNightsModel", name := "isSort", desc := "(I)Z" } : Jvm.MethodName)) ∈ lw_tbl := List.mem_of_getElem? (i := 908) (by decide +kernel)
set_option maxRecDepth 100000 in
theorem t_909 : (Jvm.Cond.code ({ cls := "BarrowNightsModel", name := "isSort", desc := "(I)Z" } : Jvm.MethodName) prog_10_method_7_code (1 : Nat) (Option.some Jvm.ClassFile.FieldType.boolean)) ∈ lw_tbl := List.mem_of_getElem? (i := 909) (rfl)
theorem t_910 : (Jvm.Cond.methodLink "BarrowNightsModel" (108 : Nat) ({ cls := "BarrowNightsModel", name := "against", desc := "(IIII)I" } : Jvm.MethodName)) ∈ lw_tbl := List.mem_of_getElem? (i := 910) (by decide +kernel)
theorem t_912 : (Jvm.Cond.instanceMethod ({ cls := "BarrowNightsModel", name := "against", desc := "(IIII)I" } : Jvm.MethodName)) ∈ lw_tbl := List.mem_of_getElem? (i := 912) (by decide +kernel)
set_option maxRecDepth 100000 in
theorem t_913 : (Jvm.Cond.code ({ cls := "BarrowNightsModel", name := "against", desc := "(IIII)I" } : Jvm.MethodName) prog_10_method_8_code (5 : Nat) (Option.some Jvm.ClassFile.FieldType.int)) ∈ lw_tbl := List.mem_of_getElem? (i := 913) (rfl)
theorem t_914 : (Jvm.Cond.methodLink "BarrowNightsModel" (112 : Nat) ({ cls := "BarrowNightsModel", name := "fails", desc := "(I)I" } : Jvm.MethodName)) ∈ lw_tbl := List.mem_of_getElem? (i := 914) (by decide +kernel)
theorem t_916 : (Jvm.Cond.instanceMethod ({ cls := "BarrowNightsModel", name := "fails", desc := "(I)I" } : Jvm.MethodName)) ∈ lw_tbl := List.mem_of_getElem? (i := 916) (by decide +kernel)
set_option maxRecDepth 100000 in
theorem t_917 : (Jvm.Cond.code ({ cls := "BarrowNightsModel", name := "fails", desc := "(I)I" } : Jvm.MethodName) prog_10_method_3_code (2 : Nat) (Option.some Jvm.ClassFile.FieldType.int)) ∈ lw_tbl := List.mem_of_getElem? (i := 917) (rfl)
theorem t_918 : (Jvm.Cond.methodLink "BarrowNightsModel" (116 : Nat) ({ cls := "BarrowNightsModel", name := "readDown", desc := "(I)Z" } : Jvm.MethodName)) ∈ lw_tbl := List.mem_of_getElem? (i := 918) (by decide +kernel)
theorem t_920 : (Jvm.Cond.instanceMethod ({ cls := "BarrowNightsModel", name := "readDown", desc := "(I)Z" } : Jvm.MethodName)) ∈ lw_tbl := List.mem_of_getElem? (i := 920) (by decide +kernel)
set_option maxRecDepth 100000 in
theorem t_921 : (Jvm.Cond.code ({ cls := "BarrowNightsModel", name := "readDown", desc := "(I)Z" } : Jvm.MethodName) prog_10_method_15_code (2 : Nat) (Option.some Jvm.ClassFile.FieldType.boolean)) ∈ lw_tbl := List.mem_of_getElem? (i := 921) (rfl)
theorem t_922 : (Jvm.Cond.methodLink "BarrowNightsModel" (134 : Nat) ({ cls := "BarrowNightsModel", name := "isSign", desc := "(II)Z" } : Jvm.MethodName)) ∈ lw_tbl := List.mem_of_getElem? (i := 922) (by decide +kernel)
theorem t_924 : (Jvm.Cond.instanceMethod ({ cls := "BarrowNightsModel", name := "isSign", desc := "(II)Z" } : Jvm.MethodName)) ∈ lw_tbl := List.mem_of_getElem? (i := 924) (by decide +kernel)
set_option maxRecDepth 100000 in
theorem t_925 : (Jvm.Cond.code ({ cls := "BarrowNightsModel", name := "isSign", desc := "(II)Z" } : Jvm.MethodName) prog_10_method_12_code (3 : Nat) (Option.some Jvm.ClassFile.FieldType.boolean)) ∈ lw_tbl := List.mem_of_getElem? (i := 925) (rfl)
theorem t_926 : (Jvm.Cond.methodLink "BarrowNightsModel" (138 : Nat) ({ cls := "BarrowNightsModel", name := "readBarrow", desc := "(I)Z" } : Jvm.MethodName)) ∈ lw_tbl := List.mem_of_getElem? (i := 926) (by decide +kernel)
theorem t_928 : (Jvm.Cond.instanceMethod ({ cls := "BarrowNightsModel", name := "readBarrow", desc := "(I)Z" } : Jvm.MethodName)) ∈ lw_tbl := List.mem_of_getElem? (i := 928) (by decide +kernel)
set_option maxRecDepth 100000 in
theorem t_929 : (Jvm.Cond.code ({ cls := "BarrowNightsModel", name := "readBarrow", desc := "(I)Z" } : Jvm.MethodName) prog_10_method_16_code (4 : Nat) (Option.some Jvm.ClassFile.FieldType.boolean)) ∈ lw_tbl := List.mem_of_getElem? (i := 929) (rfl)
theorem t_930 : (Jvm.Cond.methodLink "BarrowNightsModel" (144 : Nat) ({ cls := "BarrowNightsModel", name := "digit", desc := "(III)I" } : Jvm.MethodName)) ∈ lw_tbl := List.mem_of_getElem? (i := 930) (by decide +kernel)
theorem t_932 : (Jvm.Cond.instanceMethod ({ cls := "BarrowNightsModel", name := "digit", desc := "(III)I" } : Jvm.MethodName)) ∈ lw_tbl := List.mem_of_getElem? (i := 932) (by decide +kernel)
set_option maxRecDepth 100000 in
theorem t_933 : (Jvm.Cond.code ({ cls := "BarrowNightsModel", name := "digit", desc := "(III)I" } : Jvm.MethodName) prog_10_method_11_code (4 : Nat) (Option.some Jvm.ClassFile.FieldType.int)) ∈ lw_tbl := List.mem_of_getElem? (i := 933) (rfl)
theorem t_934 : (Jvm.Cond.methodLink "BarrowNightsModel" (141 : Nat) ({ cls := "BarrowNightsModel", name := "readWalker", desc := "(I)Z" } : Jvm.MethodName)) ∈ lw_tbl := List.mem_of_getElem? (i := 934) (by decide +kernel)
theorem t_936 : (Jvm.Cond.instanceMethod ({ cls := "BarrowNightsModel", name := "readWalker", desc := "(I)Z" } : Jvm.MethodName)) ∈ lw_tbl := List.mem_of_getElem? (i := 936) (by decide +kernel)
set_option maxRecDepth 100000 in
theorem t_937 : (Jvm.Cond.code ({ cls := "BarrowNightsModel", name := "readWalker", desc := "(I)Z" } : Jvm.MethodName) prog_10_method_17_code (3 : Nat) (Option.some Jvm.ClassFile.FieldType.boolean)) ∈ lw_tbl := List.mem_of_getElem? (i := 937) (rfl)
theorem t_938 : (Jvm.Cond.methodLink "BarrowNightsModel" (119 : Nat) ({ cls := "BarrowNightsModel", name := "takeDown", desc := "()V" } : Jvm.MethodName)) ∈ lw_tbl := List.mem_of_getElem? (i := 938) (by decide +kernel)
theorem t_940 : (Jvm.Cond.instanceMethod ({ cls := "BarrowNightsModel", name := "takeDown", desc := "()V" } : Jvm.MethodName)) ∈ lw_tbl := List.mem_of_getElem? (i := 940) (by decide +kernel)
set_option maxRecDepth 100000 in
theorem t_941 : (Jvm.Cond.code ({ cls := "BarrowNightsModel", name := "takeDown", desc := "()V" } : Jvm.MethodName) prog_10_method_14_code (2 : Nat) (Option.none : Option Jvm.ClassFile.FieldType)) ∈ lw_tbl := List.mem_of_getElem? (i := 941) (rfl)
theorem t_942 : (Jvm.Cond.methodLink "BarrowNightsLaw" (22 : Nat) ({ cls := "BarrowNightsModel", name := "ofBarrow", desc := "(II)I" } : Jvm.MethodName)) ∈ lw_tbl := List.mem_of_getElem? (i := 942) (by decide +kernel)
theorem t_943 : (Jvm.Cond.instanceMethod ({ cls := "BarrowNightsModel", name := "ofBarrow", desc := "(II)I" } : Jvm.MethodName)) ∈ lw_tbl := List.mem_of_getElem? (i := 943) (by decide +kernel)
theorem t_944 : (Jvm.Cond.selects "BarrowNightsModel" ({ cls := "BarrowNightsModel", name := "ofBarrow", desc := "(II)I" } : Jvm.MethodName) ({ cls := "BarrowNightsModel", name := "ofBarrow", desc := "(II)I" } : Jvm.MethodName)) ∈ lw_tbl := List.mem_of_getElem? (i := 944) (by decide +kernel)
set_option maxRecDepth 100000 in
theorem t_945 : (Jvm.Cond.code ({ cls := "BarrowNightsModel", name := "ofBarrow", desc := "(II)I" } : Jvm.MethodName) prog_10_method_22_code (3 : Nat) (Option.some Jvm.ClassFile.FieldType.int)) ∈ lw_tbl := List.mem_of_getElem? (i := 945) (rfl)
theorem t_946 : (Jvm.Cond.methodLink "BarrowNightsModel" (152 : Nat) ({ cls := "BarrowNightsModel", name := "isBarrow", desc := "(I)Z" } : Jvm.MethodName)) ∈ lw_tbl := List.mem_of_getElem? (i := 946) (by decide +kernel)
theorem t_948 : (Jvm.Cond.instanceMethod ({ cls := "BarrowNightsModel", name := "isBarrow", desc := "(I)Z" } : Jvm.MethodName)) ∈ lw_tbl := List.mem_of_getElem? (i := 948) (by decide +kernel)
set_option maxRecDepth 100000 in
theorem t_949 : (Jvm.Cond.code ({ cls := "BarrowNightsModel", name := "isBarrow", desc := "(I)Z" } : Jvm.MethodName) prog_10_method_9_code (2 : Nat) (Option.some Jvm.ClassFile.FieldType.boolean)) ∈ lw_tbl := List.mem_of_getElem? (i := 949) (rfl)
theorem t_950 : (Jvm.Cond.methodLink "BarrowNightsModel" (155 : Nat) ({ cls := "BarrowNightsModel", name := "holdsOf", desc := "(I)I" } : Jvm.MethodName)) ∈ lw_tbl := List.mem_of_getElem? (i := 950) (by decide +kernel)
theorem t_952 : (Jvm.Cond.instanceMethod ({ cls := "BarrowNightsModel", name := "holdsOf", desc := "(I)I" } : Jvm.MethodName)) ∈ lw_tbl := List.mem_of_getElem? (i := 952) (by decide +kernel)
set_option maxRecDepth 100000 in
theorem t_953 : (Jvm.Cond.code ({ cls := "BarrowNightsModel", name := "holdsOf", desc := "(I)I" } : Jvm.MethodName) prog_10_method_19_code (2 : Nat) (Option.some Jvm.ClassFile.FieldType.int)) ∈ lw_tbl := List.mem_of_getElem? (i := 953) (rfl)
theorem t_954 : (Jvm.Cond.methodLink "BarrowNightsModel" (148 : Nat) ({ cls := "BarrowNightsModel", name := "holdsBy", desc := "(II)I" } : Jvm.MethodName)) ∈ lw_tbl := List.mem_of_getElem? (i := 954) (by decide +kernel)
theorem t_955 : (Jvm.Cond.static ({ cls := "BarrowNightsModel", name := "holdsBy", desc := "(II)I" } : Jvm.MethodName)) ∈ lw_tbl := List.mem_of_getElem? (i := 955) (by decide +kernel)
set_option maxRecDepth 100000 in
theorem t_956 : (Jvm.Cond.code ({ cls := "BarrowNightsModel", name := "holdsBy", desc := "(II)I" } : Jvm.MethodName) prog_10_method_18_code (2 : Nat) (Option.some Jvm.ClassFile.FieldType.int)) ∈ lw_tbl := List.mem_of_getElem? (i := 956) (rfl)
theorem t_957 : (Jvm.Cond.methodLink "BarrowNightsModel" (158 : Nat) ({ cls := "BarrowNightsModel", name := "lodgersOf", desc := "(I)I" } : Jvm.MethodName)) ∈ lw_tbl := List.mem_of_getElem? (i := 957) (by decide +kernel)
theorem t_959 : (Jvm.Cond.instanceMethod ({ cls := "BarrowNightsModel", name := "lodgersOf", desc := "(I)I" } : Jvm.MethodName)) ∈ lw_tbl := List.mem_of_getElem? (i := 959) (by decide +kernel)
set_option maxRecDepth 100000 in
theorem t_960 : (Jvm.Cond.code ({ cls := "BarrowNightsModel", name := "lodgersOf", desc := "(I)I" } : Jvm.MethodName) prog_10_method_20_code (4 : Nat) (Option.some Jvm.ClassFile.FieldType.int)) ∈ lw_tbl := List.mem_of_getElem? (i := 960) (rfl)
theorem t_961 : (Jvm.Cond.methodLink "BarrowNightsLaw" (26 : Nat) ({ cls := "BarrowNightsModel", name := "ofWalker", desc := "(II)I" } : Jvm.MethodName)) ∈ lw_tbl := List.mem_of_getElem? (i := 961) (by decide +kernel)
theorem t_962 : (Jvm.Cond.instanceMethod ({ cls := "BarrowNightsModel", name := "ofWalker", desc := "(II)I" } : Jvm.MethodName)) ∈ lw_tbl := List.mem_of_getElem? (i := 962) (by decide +kernel)
theorem t_963 : (Jvm.Cond.selects "BarrowNightsModel" ({ cls := "BarrowNightsModel", name := "ofWalker", desc := "(II)I" } : Jvm.MethodName) ({ cls := "BarrowNightsModel", name := "ofWalker", desc := "(II)I" } : Jvm.MethodName)) ∈ lw_tbl := List.mem_of_getElem? (i := 963) (by decide +kernel)
set_option maxRecDepth 100000 in
theorem t_964 : (Jvm.Cond.code ({ cls := "BarrowNightsModel", name := "ofWalker", desc := "(II)I" } : Jvm.MethodName) prog_10_method_24_code (3 : Nat) (Option.some Jvm.ClassFile.FieldType.int)) ∈ lw_tbl := List.mem_of_getElem? (i := 964) (rfl)
theorem t_965 : (Jvm.Cond.methodLink "BarrowNightsModel" (161 : Nat) ({ cls := "BarrowNightsModel", name := "isWalker", desc := "(I)Z" } : Jvm.MethodName)) ∈ lw_tbl := List.mem_of_getElem? (i := 965) (by decide +kernel)
theorem t_967 : (Jvm.Cond.instanceMethod ({ cls := "BarrowNightsModel", name := "isWalker", desc := "(I)Z" } : Jvm.MethodName)) ∈ lw_tbl := List.mem_of_getElem? (i := 967) (by decide +kernel)
set_option maxRecDepth 100000 in
theorem t_968 : (Jvm.Cond.code ({ cls := "BarrowNightsModel", name := "isWalker", desc := "(I)Z" } : Jvm.MethodName) prog_10_method_10_code (2 : Nat) (Option.some Jvm.ClassFile.FieldType.boolean)) ∈ lw_tbl := List.mem_of_getElem? (i := 968) (rfl)
theorem t_969 : (Jvm.Cond.methodLink "BarrowNightsModel" (164 : Nat) ({ cls := "BarrowNightsModel", name := "dreamOf", desc := "([II)I" } : Jvm.MethodName)) ∈ lw_tbl := List.mem_of_getElem? (i := 969) (by decide +kernel)
theorem t_970 : (Jvm.Cond.static ({ cls := "BarrowNightsModel", name := "dreamOf", desc := "([II)I" } : Jvm.MethodName)) ∈ lw_tbl := List.mem_of_getElem? (i := 970) (by decide +kernel)
set_option maxRecDepth 100000 in
theorem t_971 : (Jvm.Cond.code ({ cls := "BarrowNightsModel", name := "dreamOf", desc := "([II)I" } : Jvm.MethodName) prog_10_method_23_code (3 : Nat) (Option.some Jvm.ClassFile.FieldType.int)) ∈ lw_tbl := List.mem_of_getElem? (i := 971) (rfl)
theorem t_972 : (Jvm.Cond.methodLink "BarrowNightsLaw" (30 : Nat) ({ cls := "BarrowNightsModel", name := "charge", desc := "(II)I" } : Jvm.MethodName)) ∈ lw_tbl := List.mem_of_getElem? (i := 972) (by decide +kernel)
theorem t_973 : (Jvm.Cond.instanceMethod ({ cls := "BarrowNightsModel", name := "charge", desc := "(II)I" } : Jvm.MethodName)) ∈ lw_tbl := List.mem_of_getElem? (i := 973) (by decide +kernel)
theorem t_974 : (Jvm.Cond.selects "BarrowNightsModel" ({ cls := "BarrowNightsModel", name := "charge", desc := "(II)I" } : Jvm.MethodName) ({ cls := "BarrowNightsModel", name := "charge", desc := "(II)I" } : Jvm.MethodName)) ∈ lw_tbl := List.mem_of_getElem? (i := 974) (by decide +kernel)
set_option maxRecDepth 100000 in
theorem t_975 : (Jvm.Cond.code ({ cls := "BarrowNightsModel", name := "charge", desc := "(II)I" } : Jvm.MethodName) prog_10_method_25_code (4 : Nat) (Option.some Jvm.ClassFile.FieldType.int)) ∈ lw_tbl := List.mem_of_getElem? (i := 975) (rfl)
theorem t_976 : (Jvm.Cond.methodLink "BarrowNightsLaw" (34 : Nat) ({ cls := "BarrowNightsModel", name := "earn", desc := "(II)I" } : Jvm.MethodName)) ∈ lw_tbl := List.mem_of_getElem? (i := 976) (by decide +kernel)
theorem t_977 : (Jvm.Cond.instanceMethod ({ cls := "BarrowNightsModel", name := "earn", desc := "(II)I" } : Jvm.MethodName)) ∈ lw_tbl := List.mem_of_getElem? (i := 977) (by decide +kernel)
theorem t_978 : (Jvm.Cond.selects "BarrowNightsModel" ({ cls := "BarrowNightsModel", name := "earn", desc := "(II)I" } : Jvm.MethodName) ({ cls := "BarrowNightsModel", name := "earn", desc := "(II)I" } : Jvm.MethodName)) ∈ lw_tbl := List.mem_of_getElem? (i := 978) (by decide +kernel)
set_option maxRecDepth 100000 in
theorem t_979 : (Jvm.Cond.code ({ cls := "BarrowNightsModel", name := "earn", desc := "(II)I" } : Jvm.MethodName) prog_10_method_26_code (4 : Nat) (Option.some Jvm.ClassFile.FieldType.int)) ∈ lw_tbl := List.mem_of_getElem? (i := 979) (rfl)
theorem t_980 : (Jvm.Cond.methodLink "BarrowNightsLaw" (38 : Nat) ({ cls := "BarrowNightsModel", name := "lodge", desc := "(II)I" } : Jvm.MethodName)) ∈ lw_tbl := List.mem_of_getElem? (i := 980) (by decide +kernel)
theorem t_981 : (Jvm.Cond.instanceMethod ({ cls := "BarrowNightsModel", name := "lodge", desc := "(II)I" } : Jvm.MethodName)) ∈ lw_tbl := List.mem_of_getElem? (i := 981) (by decide +kernel)
theorem t_982 : (Jvm.Cond.selects "BarrowNightsModel" ({ cls := "BarrowNightsModel", name := "lodge", desc := "(II)I" } : Jvm.MethodName) ({ cls := "BarrowNightsModel", name := "lodge", desc := "(II)I" } : Jvm.MethodName)) ∈ lw_tbl := List.mem_of_getElem? (i := 982) (by decide +kernel)
set_option maxRecDepth 100000 in
theorem t_983 : (Jvm.Cond.code ({ cls := "BarrowNightsModel", name := "lodge", desc := "(II)I" } : Jvm.MethodName) prog_10_method_30_code (3 : Nat) (Option.some Jvm.ClassFile.FieldType.int)) ∈ lw_tbl := List.mem_of_getElem? (i := 983) (rfl)
theorem t_984 : (Jvm.Cond.methodLink "BarrowNightsModel" (177 : Nat) ({ cls := "BarrowNightsModel", name := "doLodge", desc := "(II)Z" } : Jvm.MethodName)) ∈ lw_tbl := List.mem_of_getElem? (i := 984) (by decide +kernel)
theorem t_986 : (Jvm.Cond.instanceMethod ({ cls := "BarrowNightsModel", name := "doLodge", desc := "(II)Z" } : Jvm.MethodName)) ∈ lw_tbl := List.mem_of_getElem? (i := 986) (by decide +kernel)
set_option maxRecDepth 100000 in
theorem t_987 : (Jvm.Cond.code ({ cls := "BarrowNightsModel", name := "doLodge", desc := "(II)Z" } : Jvm.MethodName) prog_10_method_29_code (3 : Nat) (Option.some Jvm.ClassFile.FieldType.boolean)) ∈ lw_tbl := List.mem_of_getElem? (i := 987) (rfl)
theorem t_988 : (Jvm.Cond.methodLink "BarrowNightsModel" (171 : Nat) ({ cls := "BarrowNightsModel", name := "mayGo", desc := "(II)Z" } : Jvm.MethodName)) ∈ lw_tbl := List.mem_of_getElem? (i := 988) (by decide +kernel)
theorem t_990 : (Jvm.Cond.instanceMethod ({ cls := "BarrowNightsModel", name := "mayGo", desc := "(II)Z" } : Jvm.MethodName)) ∈ lw_tbl := List.mem_of_getElem? (i := 990) (by decide +kernel)
set_option maxRecDepth 100000 in
theorem t_991 : (Jvm.Cond.code ({ cls := "BarrowNightsModel", name := "mayGo", desc := "(II)Z" } : Jvm.MethodName) prog_10_method_28_code (3 : Nat) (Option.some Jvm.ClassFile.FieldType.boolean)) ∈ lw_tbl := List.mem_of_getElem? (i := 991) (rfl)
theorem t_992 : (Jvm.Cond.methodLink "BarrowNightsModel" (168 : Nat) ({ cls := "BarrowNightsModel", name := "apart", desc := "(II)I" } : Jvm.MethodName)) ∈ lw_tbl := List.mem_of_getElem? (i := 992) (by decide +kernel)
theorem t_993 : (Jvm.Cond.static ({ cls := "BarrowNightsModel", name := "apart", desc := "(II)I" } : Jvm.MethodName)) ∈ lw_tbl := List.mem_of_getElem? (i := 993) (by decide +kernel)
set_option maxRecDepth 100000 in
theorem t_994 : (Jvm.Cond.code ({ cls := "BarrowNightsModel", name := "apart", desc := "(II)I" } : Jvm.MethodName) prog_10_method_27_code (2 : Nat) (Option.some Jvm.ClassFile.FieldType.int)) ∈ lw_tbl := List.mem_of_getElem? (i := 994) (rfl)
theorem t_995 : (Jvm.Cond.methodLink "BarrowNightsModel" (174 : Nat) ({ cls := "BarrowNightsModel", name := "size", desc := "(I)I" } : Jvm.MethodName)) ∈ lw_tbl := List.mem_of_getElem? (i := 995) (by decide +kernel)
theorem t_996 : (Jvm.Cond.static ({ cls := "BarrowNightsModel", name := "size", desc := "(I)I" } : Jvm.MethodName)) ∈ lw_tbl := List.mem_of_getElem? (i := 996) (by decide +kernel)
set_option maxRecDepth 100000 in
theorem t_997 : (Jvm.Cond.code ({ cls := "BarrowNightsModel", name := "size", desc := "(I)I" } : Jvm.MethodName) prog_10_method_21_code (3 : Nat) (Option.some Jvm.ClassFile.FieldType.int)) ∈ lw_tbl := List.mem_of_getElem? (i := 997) (rfl)
theorem t_998 : (Jvm.Cond.methodLink "BarrowNightsLaw" (43 : Nat) ({ cls := "BarrowNightsModel", name := "leave", desc := "(I)I" } : Jvm.MethodName)) ∈ lw_tbl := List.mem_of_getElem? (i := 998) (by decide +kernel)
theorem t_999 : (Jvm.Cond.instanceMethod ({ cls := "BarrowNightsModel", name := "leave", desc := "(I)I" } : Jvm.MethodName)) ∈ lw_tbl := List.mem_of_getElem? (i := 999) (by decide +kernel)
theorem t_1000 : (Jvm.Cond.selects "BarrowNightsModel" ({ cls := "BarrowNightsModel", name := "leave", desc := "(I)I" } : Jvm.MethodName) ({ cls := "BarrowNightsModel", name := "leave", desc := "(I)I" } : Jvm.MethodName)) ∈ lw_tbl := List.mem_of_getElem? (i := 1000) (by decide +kernel)
set_option maxRecDepth 100000 in
theorem t_1001 : (Jvm.Cond.code ({ cls := "BarrowNightsModel", name := "leave", desc := "(I)I" } : Jvm.MethodName) prog_10_method_31_code (3 : Nat) (Option.some Jvm.ClassFile.FieldType.int)) ∈ lw_tbl := List.mem_of_getElem? (i := 1001) (rfl)
theorem t_1002 : (Jvm.Cond.methodLink "BarrowNightsLaw" (47 : Nat) ({ cls := "BarrowNightsModel", name := "night", desc := "(I)I" } : Jvm.MethodName)) ∈ lw_tbl := List.mem_of_getElem? (i := 1002) (by decide +kernel)
theorem t_1003 : (Jvm.Cond.instanceMethod ({ cls := "BarrowNightsModel", name := "night", desc := "(I)I" } : Jvm.MethodName)) ∈ lw_tbl := List.mem_of_getElem? (i := 1003) (by decide +kernel)
theorem t_1004 : (Jvm.Cond.selects "BarrowNightsModel" ({ cls := "BarrowNightsModel", name := "night", desc := "(I)I" } : Jvm.MethodName) ({ cls := "BarrowNightsModel", name := "night", desc := "(I)I" } : Jvm.MethodName)) ∈ lw_tbl := List.mem_of_getElem? (i := 1004) (by decide +kernel)
set_option maxRecDepth 100000 in
theorem t_1005 : (Jvm.Cond.code ({ cls := "BarrowNightsModel", name := "night", desc := "(I)I" } : Jvm.MethodName) prog_10_method_33_code (4 : Nat) (Option.some Jvm.ClassFile.FieldType.int)) ∈ lw_tbl := List.mem_of_getElem? (i := 1005) (rfl)
theorem t_1006 : (Jvm.Cond.methodLink "BarrowNightsModel" (180 : Nat) ({ cls := "BarrowNightsModel", name := "goNight", desc := "()I" } : Jvm.MethodName)) ∈ lw_tbl := List.mem_of_getElem? (i := 1006) (by decide +kernel)
theorem t_1008 : (Jvm.Cond.instanceMethod ({ cls := "BarrowNightsModel", name := "goNight", desc := "()I" } : Jvm.MethodName)) ∈ lw_tbl := List.mem_of_getElem? (i := 1008) (by decide +kernel)
set_option maxRecDepth 100000 in
theorem t_1009 : (Jvm.Cond.code ({ cls := "BarrowNightsModel", name := "goNight", desc := "()I" } : Jvm.MethodName) prog_10_method_32_code (4 : Nat) (Option.some Jvm.ClassFile.FieldType.int)) ∈ lw_tbl := List.mem_of_getElem? (i := 1009) (rfl)
theorem t_1010 : (Jvm.Cond.methodLink "BarrowNightsLaw" (52 : Nat) ({ cls := "BarrowNightsModel", name := "season", desc := "(IIIII)I" } : Jvm.MethodName)) ∈ lw_tbl := List.mem_of_getElem? (i := 1010) (by decide +kernel)
theorem t_1011 : (Jvm.Cond.instanceMethod ({ cls := "BarrowNightsModel", name := "season", desc := "(IIIII)I" } : Jvm.MethodName)) ∈ lw_tbl := List.mem_of_getElem? (i := 1011) (by decide +kernel)
theorem t_1012 : (Jvm.Cond.selects "BarrowNightsModel" ({ cls := "BarrowNightsModel", name := "season", desc := "(IIIII)I" } : Jvm.MethodName) ({ cls := "BarrowNightsModel", name := "season", desc := "(IIIII)I" } : Jvm.MethodName)) ∈ lw_tbl := List.mem_of_getElem? (i := 1012) (by decide +kernel)
set_option maxRecDepth 100000 in
theorem t_1013 : (Jvm.Cond.code ({ cls := "BarrowNightsModel", name := "season", desc := "(IIIII)I" } : Jvm.MethodName) prog_10_method_39_code (10 : Nat) (Option.some Jvm.ClassFile.FieldType.int)) ∈ lw_tbl := List.mem_of_getElem? (i := 1013) (rfl)
theorem t_1014 : (Jvm.Cond.methodLink "BarrowNightsModel" (190 : Nat) ({ cls := "BarrowNightsModel", name := "refusesPair", desc := "(II)I" } : Jvm.MethodName)) ∈ lw_tbl := List.mem_of_getElem? (i := 1014) (by decide +kernel)
theorem t_1016 : (Jvm.Cond.instanceMethod ({ cls := "BarrowNightsModel", name := "refusesPair", desc := "(II)I" } : Jvm.MethodName)) ∈ lw_tbl := List.mem_of_getElem? (i := 1016) (by decide +kernel)
set_option maxRecDepth 100000 in
theorem t_1017 : (Jvm.Cond.code ({ cls := "BarrowNightsModel", name := "refusesPair", desc := "(II)I" } : Jvm.MethodName) prog_10_method_38_code (3 : Nat) (Option.some Jvm.ClassFile.FieldType.int)) ∈ lw_tbl := List.mem_of_getElem? (i := 1017) (rfl)
theorem t_1018 : (Jvm.Cond.methodLink "BarrowNightsModel" (193 : Nat) ({ cls := "BarrowNightsModel", name := "keep", desc := "()V" } : Jvm.MethodName)) ∈ lw_tbl := List.mem_of_getElem? (i := 1018) (by decide +kernel)
theorem t_1020 : (Jvm.Cond.instanceMethod ({ cls := "BarrowNightsModel", name := "keep", desc := "()V" } : Jvm.MethodName)) ∈ lw_tbl := List.mem_of_getElem? (i := 1020) (by decide +kernel)
set_option maxRecDepth 100000 in
theorem t_1021 : (Jvm.Cond.code ({ cls := "BarrowNightsModel", name := "keep", desc := "()V" } : Jvm.MethodName) prog_10_method_34_code (2 : Nat) (Option.none : Option Jvm.ClassFile.FieldType)) ∈ lw_tbl := List.mem_of_getElem? (i := 1021) (rfl)
theorem t_1022 : (Jvm.Cond.methodLink "BarrowNightsModel" (196 : Nat) ({ cls := "BarrowNightsModel", name := "goSeason", desc := "(II)I" } : Jvm.MethodName)) ∈ lw_tbl := List.mem_of_getElem? (i := 1022) (by decide +kernel)
theorem t_1024 : (Jvm.Cond.instanceMethod ({ cls := "BarrowNightsModel", name := "goSeason", desc := "(II)I" } : Jvm.MethodName)) ∈ lw_tbl := List.mem_of_getElem? (i := 1024) (by decide +kernel)
set_option maxRecDepth 100000 in
theorem t_1025 : (Jvm.Cond.code ({ cls := "BarrowNightsModel", name := "goSeason", desc := "(II)I" } : Jvm.MethodName) prog_10_method_37_code (4 : Nat) (Option.some Jvm.ClassFile.FieldType.int)) ∈ lw_tbl := List.mem_of_getElem? (i := 1025) (rfl)
theorem t_1026 : (Jvm.Cond.methodLink "BarrowNightsModel" (187 : Nat) ({ cls := "BarrowNightsModel", name := "does", desc := "(II)Z" } : Jvm.MethodName)) ∈ lw_tbl := List.mem_of_getElem? (i := 1026) (by decide +kernel)
theorem t_1028 : (Jvm.Cond.instanceMethod ({ cls := "BarrowNightsModel", name := "does", desc := "(II)Z" } : Jvm.MethodName)) ∈ lw_tbl := List.mem_of_getElem? (i := 1028) (by decide +kernel)
set_option maxRecDepth 100000 in
theorem t_1029 : (Jvm.Cond.code ({ cls := "BarrowNightsModel", name := "does", desc := "(II)Z" } : Jvm.MethodName) prog_10_method_36_code (4 : Nat) (Option.some Jvm.ClassFile.FieldType.boolean)) ∈ lw_tbl := List.mem_of_getElem? (i := 1029) (rfl)
theorem t_1030 : (Jvm.Cond.methodLink "BarrowNightsModel" (199 : Nat) ({ cls := "BarrowNightsModel", name := "tellSeason", desc := "(I)I" } : Jvm.MethodName)) ∈ lw_tbl := List.mem_of_getElem? (i := 1030) (by decide +kernel)
theorem t_1032 : (Jvm.Cond.instanceMethod ({ cls := "BarrowNightsModel", name := "tellSeason", desc := "(I)I" } : Jvm.MethodName)) ∈ lw_tbl := List.mem_of_getElem? (i := 1032) (by decide +kernel)
set_option maxRecDepth 100000 in
theorem t_1033 : (Jvm.Cond.code ({ cls := "BarrowNightsModel", name := "tellSeason", desc := "(I)I" } : Jvm.MethodName) prog_10_method_41_code (4 : Nat) (Option.some Jvm.ClassFile.FieldType.int)) ∈ lw_tbl := List.mem_of_getElem? (i := 1033) (rfl)
theorem t_1034 : (Jvm.Cond.methodLink "BarrowNightsModel" (205 : Nat) ({ cls := "BarrowNightsModel", name := "whoLodges", desc := "()I" } : Jvm.MethodName)) ∈ lw_tbl := List.mem_of_getElem? (i := 1034) (by decide +kernel)
theorem t_1036 : (Jvm.Cond.instanceMethod ({ cls := "BarrowNightsModel", name := "whoLodges", desc := "()I" } : Jvm.MethodName)) ∈ lw_tbl := List.mem_of_getElem? (i := 1036) (by decide +kernel)
set_option maxRecDepth 100000 in
theorem t_1037 : (Jvm.Cond.code ({ cls := "BarrowNightsModel", name := "whoLodges", desc := "()I" } : Jvm.MethodName) prog_10_method_40_code (3 : Nat) (Option.some Jvm.ClassFile.FieldType.int)) ∈ lw_tbl := List.mem_of_getElem? (i := 1037) (rfl)
theorem t_1038 : (Jvm.Cond.methodLink "BarrowNightsModel" (202 : Nat) ({ cls := "BarrowNightsModel", name := "putBack", desc := "()V" } : Jvm.MethodName)) ∈ lw_tbl := List.mem_of_getElem? (i := 1038) (by decide +kernel)
theorem t_1040 : (Jvm.Cond.instanceMethod ({ cls := "BarrowNightsModel", name := "putBack", desc := "()V" } : Jvm.MethodName)) ∈ lw_tbl := List.mem_of_getElem? (i := 1040) (by decide +kernel)
set_option maxRecDepth 100000 in
theorem t_1041 : (Jvm.Cond.code ({ cls := "BarrowNightsModel", name := "putBack", desc := "()V" } : Jvm.MethodName) prog_10_method_35_code (2 : Nat) (Option.none : Option Jvm.ClassFile.FieldType)) ∈ lw_tbl := List.mem_of_getElem? (i := 1041) (rfl)
theorem t_1042 : (Jvm.Cond.methodLink "BarrowNightsLaw" (56 : Nat) ({ cls := "BarrowNightsModel", name := "housed", desc := "(I)I" } : Jvm.MethodName)) ∈ lw_tbl := List.mem_of_getElem? (i := 1042) (by decide +kernel)
theorem t_1043 : (Jvm.Cond.instanceMethod ({ cls := "BarrowNightsModel", name := "housed", desc := "(I)I" } : Jvm.MethodName)) ∈ lw_tbl := List.mem_of_getElem? (i := 1043) (by decide +kernel)
theorem t_1044 : (Jvm.Cond.selects "BarrowNightsModel" ({ cls := "BarrowNightsModel", name := "housed", desc := "(I)I" } : Jvm.MethodName) ({ cls := "BarrowNightsModel", name := "housed", desc := "(I)I" } : Jvm.MethodName)) ∈ lw_tbl := List.mem_of_getElem? (i := 1044) (by decide +kernel)
set_option maxRecDepth 100000 in
theorem t_1045 : (Jvm.Cond.code ({ cls := "BarrowNightsModel", name := "housed", desc := "(I)I" } : Jvm.MethodName) prog_10_method_47_code (2 : Nat) (Option.some Jvm.ClassFile.FieldType.int)) ∈ lw_tbl := List.mem_of_getElem? (i := 1045) (rfl)
theorem t_1046 : (Jvm.Cond.methodLink "BarrowNightsModel" (228 : Nat) ({ cls := "BarrowNightsModel", name := "findHoused", desc := "(I)V" } : Jvm.MethodName)) ∈ lw_tbl := List.mem_of_getElem? (i := 1046) (by decide +kernel)
theorem t_1048 : (Jvm.Cond.instanceMethod ({ cls := "BarrowNightsModel", name := "findHoused", desc := "(I)V" } : Jvm.MethodName)) ∈ lw_tbl := List.mem_of_getElem? (i := 1048) (by decide +kernel)
set_option maxRecDepth 100000 in
theorem t_1049 : (Jvm.Cond.code ({ cls := "BarrowNightsModel", name := "findHoused", desc := "(I)V" } : Jvm.MethodName) prog_10_method_46_code (7 : Nat) (Option.none : Option Jvm.ClassFile.FieldType)) ∈ lw_tbl := List.mem_of_getElem? (i := 1049) (rfl)
theorem t_1050 : (Jvm.Cond.methodLink "BarrowNightsModel" (215 : Nat) ({ cls := "BarrowNightsModel", name := "rowsOf", desc := "()I" } : Jvm.MethodName)) ∈ lw_tbl := List.mem_of_getElem? (i := 1050) (by decide +kernel)
theorem t_1052 : (Jvm.Cond.instanceMethod ({ cls := "BarrowNightsModel", name := "rowsOf", desc := "()I" } : Jvm.MethodName)) ∈ lw_tbl := List.mem_of_getElem? (i := 1052) (by decide +kernel)
set_option maxRecDepth 100000 in
theorem t_1053 : (Jvm.Cond.code ({ cls := "BarrowNightsModel", name := "rowsOf", desc := "()I" } : Jvm.MethodName) prog_10_method_42_code (3 : Nat) (Option.some Jvm.ClassFile.FieldType.int)) ∈ lw_tbl := List.mem_of_getElem? (i := 1053) (rfl)
theorem t_1054 : (Jvm.Cond.methodLink "BarrowNightsModel" (218 : Nat) ({ cls := "BarrowNightsModel", name := "rowOf", desc := "(I)V" } : Jvm.MethodName)) ∈ lw_tbl := List.mem_of_getElem? (i := 1054) (by decide +kernel)
theorem t_1056 : (Jvm.Cond.instanceMethod ({ cls := "BarrowNightsModel", name := "rowOf", desc := "(I)V" } : Jvm.MethodName)) ∈ lw_tbl := List.mem_of_getElem? (i := 1056) (by decide +kernel)
set_option maxRecDepth 100000 in
theorem t_1057 : (Jvm.Cond.code ({ cls := "BarrowNightsModel", name := "rowOf", desc := "(I)V" } : Jvm.MethodName) prog_10_method_43_code (4 : Nat) (Option.none : Option Jvm.ClassFile.FieldType)) ∈ lw_tbl := List.mem_of_getElem? (i := 1057) (rfl)
theorem t_1058 : (Jvm.Cond.methodLink "BarrowNightsModel" (225 : Nat) ({ cls := "BarrowNightsModel", name := "canRow", desc := "(I)Z" } : Jvm.MethodName)) ∈ lw_tbl := List.mem_of_getElem? (i := 1058) (by decide +kernel)
theorem t_1060 : (Jvm.Cond.instanceMethod ({ cls := "BarrowNightsModel", name := "canRow", desc := "(I)Z" } : Jvm.MethodName)) ∈ lw_tbl := List.mem_of_getElem? (i := 1060) (by decide +kernel)
set_option maxRecDepth 100000 in
theorem t_1061 : (Jvm.Cond.code ({ cls := "BarrowNightsModel", name := "canRow", desc := "(I)Z" } : Jvm.MethodName) prog_10_method_45_code (3 : Nat) (Option.some Jvm.ClassFile.FieldType.boolean)) ∈ lw_tbl := List.mem_of_getElem? (i := 1061) (rfl)
theorem t_1062 : (Jvm.Cond.methodLink "BarrowNightsModel" (208 : Nat) ({ cls := "BarrowNightsModel", name := "isHeld", desc := "()Z" } : Jvm.MethodName)) ∈ lw_tbl := List.mem_of_getElem? (i := 1062) (by decide +kernel)
theorem t_1064 : (Jvm.Cond.instanceMethod ({ cls := "BarrowNightsModel", name := "isHeld", desc := "()Z" } : Jvm.MethodName)) ∈ lw_tbl := List.mem_of_getElem? (i := 1064) (by decide +kernel)
set_option maxRecDepth 100000 in
theorem t_1065 : (Jvm.Cond.code ({ cls := "BarrowNightsModel", name := "isHeld", desc := "()Z" } : Jvm.MethodName) prog_10_method_44_code (4 : Nat) (Option.some Jvm.ClassFile.FieldType.boolean)) ∈ lw_tbl := List.mem_of_getElem? (i := 1065) (rfl)
theorem t_1066 : (Jvm.Cond.methodLink "BarrowNightsLaw" (60 : Nat) ({ cls := "BarrowNightsModel", name := "ploughed", desc := "(I)I" } : Jvm.MethodName)) ∈ lw_tbl := List.mem_of_getElem? (i := 1066) (by decide +kernel)
theorem t_1067 : (Jvm.Cond.instanceMethod ({ cls := "BarrowNightsModel", name := "ploughed", desc := "(I)I" } : Jvm.MethodName)) ∈ lw_tbl := List.mem_of_getElem? (i := 1067) (by decide +kernel)
theorem t_1068 : (Jvm.Cond.selects "BarrowNightsModel" ({ cls := "BarrowNightsModel", name := "ploughed", desc := "(I)I" } : Jvm.MethodName) ({ cls := "BarrowNightsModel", name := "ploughed", desc := "(I)I" } : Jvm.MethodName)) ∈ lw_tbl := List.mem_of_getElem? (i := 1068) (by decide +kernel)
set_option maxRecDepth 100000 in
theorem t_1069 : (Jvm.Cond.code ({ cls := "BarrowNightsModel", name := "ploughed", desc := "(I)I" } : Jvm.MethodName) prog_10_method_48_code (2 : Nat) (Option.some Jvm.ClassFile.FieldType.int)) ∈ lw_tbl := List.mem_of_getElem? (i := 1069) (rfl)
theorem t_1070 : (Jvm.Cond.methodLink "BarrowNightsLaw" (64 : Nat) ({ cls := "BarrowNightsModel", name := "way", desc := "(II)I" } : Jvm.MethodName)) ∈ lw_tbl := List.mem_of_getElem? (i := 1070) (by decide +kernel)
theorem t_1071 : (Jvm.Cond.instanceMethod ({ cls := "BarrowNightsModel", name := "way", desc := "(II)I" } : Jvm.MethodName)) ∈ lw_tbl := List.mem_of_getElem? (i := 1071) (by decide +kernel)
theorem t_1072 : (Jvm.Cond.selects "BarrowNightsModel" ({ cls := "BarrowNightsModel", name := "way", desc := "(II)I" } : Jvm.MethodName) ({ cls := "BarrowNightsModel", name := "way", desc := "(II)I" } : Jvm.MethodName)) ∈ lw_tbl := List.mem_of_getElem? (i := 1072) (by decide +kernel)
set_option maxRecDepth 100000 in
theorem t_1073 : (Jvm.Cond.code ({ cls := "BarrowNightsModel", name := "way", desc := "(II)I" } : Jvm.MethodName) prog_10_method_49_code (5 : Nat) (Option.some Jvm.ClassFile.FieldType.int)) ∈ lw_tbl := List.mem_of_getElem? (i := 1073) (rfl)
theorem t_1074 : (Jvm.Cond.methodLink "BarrowNightsModel" (231 : Nat) ({ cls := "BarrowNightsModel", name := "stepOn", desc := "(II)V" } : Jvm.MethodName)) ∈ lw_tbl := List.mem_of_getElem? (i := 1074) (by decide +kernel)
theorem t_1076 : (Jvm.Cond.instanceMethod ({ cls := "BarrowNightsModel", name := "stepOn", desc := "(II)V" } : Jvm.MethodName)) ∈ lw_tbl := List.mem_of_getElem? (i := 1076) (by decide +kernel)
set_option maxRecDepth 100000 in
theorem t_1077 : (Jvm.Cond.code ({ cls := "BarrowNightsModel", name := "stepOn", desc := "(II)V" } : Jvm.MethodName) prog_10_method_50_code (6 : Nat) (Option.none : Option Jvm.ClassFile.FieldType)) ∈ lw_tbl := List.mem_of_getElem? (i := 1077) (rfl)
theorem t_1078 : (Jvm.Cond.methodLink "BarrowNightsLaw" (68 : Nat) ({ cls := "BarrowNightsModel", name := "lain", desc := "(IIII)I" } : Jvm.MethodName)) ∈ lw_tbl := List.mem_of_getElem? (i := 1078) (by decide +kernel)
theorem t_1079 : (Jvm.Cond.instanceMethod ({ cls := "BarrowNightsModel", name := "lain", desc := "(IIII)I" } : Jvm.MethodName)) ∈ lw_tbl := List.mem_of_getElem? (i := 1079) (by decide +kernel)
theorem t_1080 : (Jvm.Cond.selects "BarrowNightsModel" ({ cls := "BarrowNightsModel", name := "lain", desc := "(IIII)I" } : Jvm.MethodName) ({ cls := "BarrowNightsModel", name := "lain", desc := "(IIII)I" } : Jvm.MethodName)) ∈ lw_tbl := List.mem_of_getElem? (i := 1080) (by decide +kernel)
set_option maxRecDepth 100000 in
theorem t_1081 : (Jvm.Cond.code ({ cls := "BarrowNightsModel", name := "lain", desc := "(IIII)I" } : Jvm.MethodName) prog_10_method_52_code (9 : Nat) (Option.some Jvm.ClassFile.FieldType.int)) ∈ lw_tbl := List.mem_of_getElem? (i := 1081) (rfl)
theorem t_1082 : (Jvm.Cond.methodLink "BarrowNightsModel" (235 : Nat) ({ cls := "BarrowNightsModel", name := "areDreams", desc := "(I)Z" } : Jvm.MethodName)) ∈ lw_tbl := List.mem_of_getElem? (i := 1082) (by decide +kernel)
theorem t_1084 : (Jvm.Cond.instanceMethod ({ cls := "BarrowNightsModel", name := "areDreams", desc := "(I)Z" } : Jvm.MethodName)) ∈ lw_tbl := List.mem_of_getElem? (i := 1084) (by decide +kernel)
set_option maxRecDepth 100000 in
theorem t_1085 : (Jvm.Cond.code ({ cls := "BarrowNightsModel", name := "areDreams", desc := "(I)Z" } : Jvm.MethodName) prog_10_method_51_code (5 : Nat) (Option.some Jvm.ClassFile.FieldType.boolean)) ∈ lw_tbl := List.mem_of_getElem? (i := 1085) (rfl)
theorem t_1086 : (Jvm.Cond.methodLink "BarrowNightsLaw" (73 : Nat) ({ cls := "BarrowNightsModel", name := "reading", desc := "(III)I" } : Jvm.MethodName)) ∈ lw_tbl := List.mem_of_getElem? (i := 1086) (by decide +kernel)
theorem t_1087 : (Jvm.Cond.instanceMethod ({ cls := "BarrowNightsModel", name := "reading", desc := "(III)I" } : Jvm.MethodName)) ∈ lw_tbl := List.mem_of_getElem? (i := 1087) (by decide +kernel)
theorem t_1088 : (Jvm.Cond.selects "BarrowNightsModel" ({ cls := "BarrowNightsModel", name := "reading", desc := "(III)I" } : Jvm.MethodName) ({ cls := "BarrowNightsModel", name := "reading", desc := "(III)I" } : Jvm.MethodName)) ∈ lw_tbl := List.mem_of_getElem? (i := 1088) (by decide +kernel)
set_option maxRecDepth 100000 in
theorem t_1089 : (Jvm.Cond.code ({ cls := "BarrowNightsModel", name := "reading", desc := "(III)I" } : Jvm.MethodName) prog_10_method_53_code (4 : Nat) (Option.some Jvm.ClassFile.FieldType.int)) ∈ lw_tbl := List.mem_of_getElem? (i := 1089) (rfl)
theorem t_1090 : (Jvm.Cond.methodLink "BarrowNightsLaw" (77 : Nat) ({ cls := "BarrowNightsModel", name := "back", desc := "(I)I" } : Jvm.MethodName)) ∈ lw_tbl := List.mem_of_getElem? (i := 1090) (by decide +kernel)
theorem t_1091 : (Jvm.Cond.instanceMethod ({ cls := "BarrowNightsModel", name := "back", desc := "(I)I" } : Jvm.MethodName)) ∈ lw_tbl := List.mem_of_getElem? (i := 1091) (by decide +kernel)
theorem t_1092 : (Jvm.Cond.selects "BarrowNightsModel" ({ cls := "BarrowNightsModel", name := "back", desc := "(I)I" } : Jvm.MethodName) ({ cls := "BarrowNightsModel", name := "back", desc := "(I)I" } : Jvm.MethodName)) ∈ lw_tbl := List.mem_of_getElem? (i := 1092) (by decide +kernel)
set_option maxRecDepth 100000 in
theorem t_1093 : (Jvm.Cond.code ({ cls := "BarrowNightsModel", name := "back", desc := "(I)I" } : Jvm.MethodName) prog_10_method_54_code (2 : Nat) (Option.some Jvm.ClassFile.FieldType.int)) ∈ lw_tbl := List.mem_of_getElem? (i := 1093) (rfl)
theorem t_1094 : (Jvm.Cond.methodLink "BarrowNightsLaw" (81 : Nat) ({ cls := "BarrowNightsModel", name := "rooms", desc := "(I)I" } : Jvm.MethodName)) ∈ lw_tbl := List.mem_of_getElem? (i := 1094) (by decide +kernel)
theorem t_1095 : (Jvm.Cond.instanceMethod ({ cls := "BarrowNightsModel", name := "rooms", desc := "(I)I" } : Jvm.MethodName)) ∈ lw_tbl := List.mem_of_getElem? (i := 1095) (by decide +kernel)
theorem t_1096 : (Jvm.Cond.selects "BarrowNightsModel" ({ cls := "BarrowNightsModel", name := "rooms", desc := "(I)I" } : Jvm.MethodName) ({ cls := "BarrowNightsModel", name := "rooms", desc := "(I)I" } : Jvm.MethodName)) ∈ lw_tbl := List.mem_of_getElem? (i := 1096) (by decide +kernel)
set_option maxRecDepth 100000 in
theorem t_1097 : (Jvm.Cond.code ({ cls := "BarrowNightsModel", name := "rooms", desc := "(I)I" } : Jvm.MethodName) prog_10_method_56_code (5 : Nat) (Option.some Jvm.ClassFile.FieldType.int)) ∈ lw_tbl := List.mem_of_getElem? (i := 1097) (rfl)
theorem t_1098 : (Jvm.Cond.methodLink "BarrowNightsModel" (238 : Nat) ({ cls := "BarrowNightsModel", name := "areSo", desc := "()Z" } : Jvm.MethodName)) ∈ lw_tbl := List.mem_of_getElem? (i := 1098) (by decide +kernel)
theorem t_1100 : (Jvm.Cond.instanceMethod ({ cls := "BarrowNightsModel", name := "areSo", desc := "()Z" } : Jvm.MethodName)) ∈ lw_tbl := List.mem_of_getElem? (i := 1100) (by decide +kernel)
set_option maxRecDepth 100000 in
theorem t_1101 : (Jvm.Cond.code ({ cls := "BarrowNightsModel", name := "areSo", desc := "()Z" } : Jvm.MethodName) prog_10_method_55_code (3 : Nat) (Option.some Jvm.ClassFile.FieldType.boolean)) ∈ lw_tbl := List.mem_of_getElem? (i := 1101) (rfl)
theorem t_1102 : (Jvm.Cond.methodLink "BarrowNightsLaw" (85 : Nat) ({ cls := "BarrowNightsModel", name := "kinds", desc := "(I)I" } : Jvm.MethodName)) ∈ lw_tbl := List.mem_of_getElem? (i := 1102) (by decide +kernel)
theorem t_1103 : (Jvm.Cond.instanceMethod ({ cls := "BarrowNightsModel", name := "kinds", desc := "(I)I" } : Jvm.MethodName)) ∈ lw_tbl := List.mem_of_getElem? (i := 1103) (by decide +kernel)
theorem t_1104 : (Jvm.Cond.selects "BarrowNightsModel" ({ cls := "BarrowNightsModel", name := "kinds", desc := "(I)I" } : Jvm.MethodName) ({ cls := "BarrowNightsModel", name := "kinds", desc := "(I)I" } : Jvm.MethodName)) ∈ lw_tbl := List.mem_of_getElem? (i := 1104) (by decide +kernel)
set_option maxRecDepth 100000 in
theorem t_1105 : (Jvm.Cond.code ({ cls := "BarrowNightsModel", name := "kinds", desc := "(I)I" } : Jvm.MethodName) prog_10_method_57_code (5 : Nat) (Option.some Jvm.ClassFile.FieldType.int)) ∈ lw_tbl := List.mem_of_getElem? (i := 1105) (rfl)
theorem t_1106 : (Jvm.Cond.methodLink "BarrowNightsLaw" (90 : Nat) ({ cls := "BarrowNightsModel", name := "odds", desc := "(II)J" } : Jvm.MethodName)) ∈ lw_tbl := List.mem_of_getElem? (i := 1106) (by decide +kernel)
theorem t_1107 : (Jvm.Cond.instanceMethod ({ cls := "BarrowNightsModel", name := "odds", desc := "(II)J" } : Jvm.MethodName)) ∈ lw_tbl := List.mem_of_getElem? (i := 1107) (by decide +kernel)
theorem t_1108 : (Jvm.Cond.selects "BarrowNightsModel" ({ cls := "BarrowNightsModel", name := "odds", desc := "(II)J" } : Jvm.MethodName) ({ cls := "BarrowNightsModel", name := "odds", desc := "(II)J" } : Jvm.MethodName)) ∈ lw_tbl := List.mem_of_getElem? (i := 1108) (by decide +kernel)
set_option maxRecDepth 100000 in
theorem t_1109 : (Jvm.Cond.code ({ cls := "BarrowNightsModel", name := "odds", desc := "(II)J" } : Jvm.MethodName) prog_10_method_59_code (7 : Nat) (Option.some Jvm.ClassFile.FieldType.long)) ∈ lw_tbl := List.mem_of_getElem? (i := 1109) (rfl)
theorem t_1110 : (Jvm.Cond.constantLong "BarrowNightsModel" (86 : Nat) (-9223372036854775808 : Int64)) ∈ lw_tbl := List.mem_of_getElem? (i := 1110) (by decide +kernel)
theorem t_1111 : (Jvm.Cond.methodLink "BarrowNightsModel" (241 : Nat) ({ cls := "BarrowNightsModel", name := "inLeastTerms", desc := "(JJI)J" } : Jvm.MethodName)) ∈ lw_tbl := List.mem_of_getElem? (i := 1111) (by decide +kernel)
theorem t_1112 : (Jvm.Cond.static ({ cls := "BarrowNightsModel", name := "inLeastTerms", desc := "(JJI)J" } : Jvm.MethodName)) ∈ lw_tbl := List.mem_of_getElem? (i := 1112) (by decide +kernel)
set_option maxRecDepth 100000 in
theorem t_1113 : (Jvm.Cond.code ({ cls := "BarrowNightsModel", name := "inLeastTerms", desc := "(JJI)J" } : Jvm.MethodName) prog_10_method_58_code (11 : Nat) (Option.some Jvm.ClassFile.FieldType.long)) ∈ lw_tbl := List.mem_of_getElem? (i := 1113) (rfl)
theorem t_1114 : (Jvm.Cond.methodLink "BarrowNightsLaw" (94 : Nat) ({ cls := "BarrowNightsModel", name := "sheet", desc := "(III)I" } : Jvm.MethodName)) ∈ lw_tbl := List.mem_of_getElem? (i := 1114) (by decide +kernel)
theorem t_1115 : (Jvm.Cond.instanceMethod ({ cls := "BarrowNightsModel", name := "sheet", desc := "(III)I" } : Jvm.MethodName)) ∈ lw_tbl := List.mem_of_getElem? (i := 1115) (by decide +kernel)
theorem t_1116 : (Jvm.Cond.selects "BarrowNightsModel" ({ cls := "BarrowNightsModel", name := "sheet", desc := "(III)I" } : Jvm.MethodName) ({ cls := "BarrowNightsModel", name := "sheet", desc := "(III)I" } : Jvm.MethodName)) ∈ lw_tbl := List.mem_of_getElem? (i := 1116) (by decide +kernel)
set_option maxRecDepth 100000 in
theorem t_1117 : (Jvm.Cond.code ({ cls := "BarrowNightsModel", name := "sheet", desc := "(III)I" } : Jvm.MethodName) prog_10_method_60_code (5 : Nat) (Option.some Jvm.ClassFile.FieldType.int)) ∈ lw_tbl := List.mem_of_getElem? (i := 1117) (rfl)
theorem t_1118 : (Jvm.Cond.methodLink "BarrowNightsLaw" (98 : Nat) ({ cls := "BarrowNightsModel", name := "lose", desc := "(I)I" } : Jvm.MethodName)) ∈ lw_tbl := List.mem_of_getElem? (i := 1118) (by decide +kernel)
theorem t_1119 : (Jvm.Cond.instanceMethod ({ cls := "BarrowNightsModel", name := "lose", desc := "(I)I" } : Jvm.MethodName)) ∈ lw_tbl := List.mem_of_getElem? (i := 1119) (by decide +kernel)
theorem t_1120 : (Jvm.Cond.selects "BarrowNightsModel" ({ cls := "BarrowNightsModel", name := "lose", desc := "(I)I" } : Jvm.MethodName) ({ cls := "BarrowNightsModel", name := "lose", desc := "(I)I" } : Jvm.MethodName)) ∈ lw_tbl := List.mem_of_getElem? (i := 1120) (by decide +kernel)
set_option maxRecDepth 100000 in
theorem t_1121 : (Jvm.Cond.code ({ cls := "BarrowNightsModel", name := "lose", desc := "(I)I" } : Jvm.MethodName) prog_10_method_61_code (3 : Nat) (Option.some Jvm.ClassFile.FieldType.int)) ∈ lw_tbl := List.mem_of_getElem? (i := 1121) (rfl)
theorem t_1122 : (Jvm.Cond.methodLink "BarrowNightsLaw" (102 : Nat) ({ cls := "BarrowNightsModel", name := "put", desc := "(III)I" } : Jvm.MethodName)) ∈ lw_tbl := List.mem_of_getElem? (i := 1122) (by decide +kernel)
theorem t_1123 : (Jvm.Cond.instanceMethod ({ cls := "BarrowNightsModel", name := "put", desc := "(III)I" } : Jvm.MethodName)) ∈ lw_tbl := List.mem_of_getElem? (i := 1123) (by decide +kernel)
theorem t_1124 : (Jvm.Cond.selects "BarrowNightsModel" ({ cls := "BarrowNightsModel", name := "put", desc := "(III)I" } : Jvm.MethodName) ({ cls := "BarrowNightsModel", name := "put", desc := "(III)I" } : Jvm.MethodName)) ∈ lw_tbl := List.mem_of_getElem? (i := 1124) (by decide +kernel)
set_option maxRecDepth 100000 in
theorem t_1125 : (Jvm.Cond.code ({ cls := "BarrowNightsModel", name := "put", desc := "(III)I" } : Jvm.MethodName) prog_10_method_62_code (4 : Nat) (Option.some Jvm.ClassFile.FieldType.int)) ∈ lw_tbl := List.mem_of_getElem? (i := 1125) (rfl)
theorem t_1126 : (Jvm.Cond.methodLink "BarrowNightsLaw" (107 : Nat) ({ cls := "BarrowNightsModel", name := "cell", desc := "(III)J" } : Jvm.MethodName)) ∈ lw_tbl := List.mem_of_getElem? (i := 1126) (by decide +kernel)
theorem t_1127 : (Jvm.Cond.instanceMethod ({ cls := "BarrowNightsModel", name := "cell", desc := "(III)J" } : Jvm.MethodName)) ∈ lw_tbl := List.mem_of_getElem? (i := 1127) (by decide +kernel)
theorem t_1128 : (Jvm.Cond.selects "BarrowNightsModel" ({ cls := "BarrowNightsModel", name := "cell", desc := "(III)J" } : Jvm.MethodName) ({ cls := "BarrowNightsModel", name := "cell", desc := "(III)J" } : Jvm.MethodName)) ∈ lw_tbl := List.mem_of_getElem? (i := 1128) (by decide +kernel)
set_option maxRecDepth 100000 in
theorem t_1129 : (Jvm.Cond.code ({ cls := "BarrowNightsModel", name := "cell", desc := "(III)J" } : Jvm.MethodName) prog_10_method_63_code (4 : Nat) (Option.some Jvm.ClassFile.FieldType.long)) ∈ lw_tbl := List.mem_of_getElem? (i := 1129) (rfl)
theorem t_1130 : (Jvm.Cond.methodLink "BarrowNightsModel" (245 : Nat) ({ cls := "BarrowNightsModel", name := "lost", desc := "(I)J" } : Jvm.MethodName)) ∈ lw_tbl := List.mem_of_getElem? (i := 1130) (by decide +kernel)
theorem t_1132 : (Jvm.Cond.instanceMethod ({ cls := "BarrowNightsModel", name := "lost", desc := "(I)J" } : Jvm.MethodName)) ∈ lw_tbl := List.mem_of_getElem? (i := 1132) (by decide +kernel)
set_option maxRecDepth 100000 in
theorem t_1133 : (Jvm.Cond.code ({ cls := "BarrowNightsModel", name := "lost", desc := "(I)J" } : Jvm.MethodName) prog_10_method_4_code (2 : Nat) (Option.some Jvm.ClassFile.FieldType.long)) ∈ lw_tbl := List.mem_of_getElem? (i := 1133) (rfl)
theorem t_1134 : (Jvm.Cond.methodLink "BarrowNightsLaw" (111 : Nat) ({ cls := "BarrowNightsModel", name := "copy", desc := "(IIIII)I" } : Jvm.MethodName)) ∈ lw_tbl := List.mem_of_getElem? (i := 1134) (by decide +kernel)
theorem t_1135 : (Jvm.Cond.instanceMethod ({ cls := "BarrowNightsModel", name := "copy", desc := "(IIIII)I" } : Jvm.MethodName)) ∈ lw_tbl := List.mem_of_getElem? (i := 1135) (by decide +kernel)
theorem t_1136 : (Jvm.Cond.selects "BarrowNightsModel" ({ cls := "BarrowNightsModel", name := "copy", desc := "(IIIII)I" } : Jvm.MethodName) ({ cls := "BarrowNightsModel", name := "copy", desc := "(IIIII)I" } : Jvm.MethodName)) ∈ lw_tbl := List.mem_of_getElem? (i := 1136) (by decide +kernel)
set_option maxRecDepth 100000 in
theorem t_1137 : (Jvm.Cond.code ({ cls := "BarrowNightsModel", name := "copy", desc := "(IIIII)I" } : Jvm.MethodName) prog_10_method_64_code (10 : Nat) (Option.some Jvm.ClassFile.FieldType.int)) ∈ lw_tbl := List.mem_of_getElem? (i := 1137) (rfl)
theorem t_1138 : (Jvm.Cond.methodLink "BarrowNightsLaw" (115 : Nat) ({ cls := "BarrowNightsModel", name := "tell", desc := "(I)I" } : Jvm.MethodName)) ∈ lw_tbl := List.mem_of_getElem? (i := 1138) (by decide +kernel)
theorem t_1139 : (Jvm.Cond.instanceMethod ({ cls := "BarrowNightsModel", name := "tell", desc := "(I)I" } : Jvm.MethodName)) ∈ lw_tbl := List.mem_of_getElem? (i := 1139) (by decide +kernel)
theorem t_1140 : (Jvm.Cond.selects "BarrowNightsModel" ({ cls := "BarrowNightsModel", name := "tell", desc := "(I)I" } : Jvm.MethodName) ({ cls := "BarrowNightsModel", name := "tell", desc := "(I)I" } : Jvm.MethodName)) ∈ lw_tbl := List.mem_of_getElem? (i := 1140) (by decide +kernel)
set_option maxRecDepth 100000 in
theorem t_1141 : (Jvm.Cond.code ({ cls := "BarrowNightsModel", name := "tell", desc := "(I)I" } : Jvm.MethodName) prog_10_method_66_code (3 : Nat) (Option.some Jvm.ClassFile.FieldType.int)) ∈ lw_tbl := List.mem_of_getElem? (i := 1141) (rfl)
theorem t_1142 : (Jvm.Cond.methodLink "BarrowNightsModel" (252 : Nat) ({ cls := "BarrowNightsModel", name := "begins", desc := "(I)V" } : Jvm.MethodName)) ∈ lw_tbl := List.mem_of_getElem? (i := 1142) (by decide +kernel)
theorem t_1144 : (Jvm.Cond.instanceMethod ({ cls := "BarrowNightsModel", name := "begins", desc := "(I)V" } : Jvm.MethodName)) ∈ lw_tbl := List.mem_of_getElem? (i := 1144) (by decide +kernel)
set_option maxRecDepth 100000 in
theorem t_1145 : (Jvm.Cond.code ({ cls := "BarrowNightsModel", name := "begins", desc := "(I)V" } : Jvm.MethodName) prog_10_method_65_code (2 : Nat) (Option.none : Option Jvm.ClassFile.FieldType)) ∈ lw_tbl := List.mem_of_getElem? (i := 1145) (rfl)
theorem t_1146 : (Jvm.Cond.methodLink "BarrowNightsLaw" (119 : Nat) ({ cls := "BarrowNightsModel", name := "haunt", desc := "(I)I" } : Jvm.MethodName)) ∈ lw_tbl := List.mem_of_getElem? (i := 1146) (by decide +kernel)
theorem t_1147 : (Jvm.Cond.instanceMethod ({ cls := "BarrowNightsModel", name := "haunt", desc := "(I)I" } : Jvm.MethodName)) ∈ lw_tbl := List.mem_of_getElem? (i := 1147) (by decide +kernel)
theorem t_1148 : (Jvm.Cond.selects "BarrowNightsModel" ({ cls := "BarrowNightsModel", name := "haunt", desc := "(I)I" } : Jvm.MethodName) ({ cls := "BarrowNightsModel", name := "haunt", desc := "(I)I" } : Jvm.MethodName)) ∈ lw_tbl := List.mem_of_getElem? (i := 1148) (by decide +kernel)
set_option maxRecDepth 100000 in
theorem t_1149 : (Jvm.Cond.code ({ cls := "BarrowNightsModel", name := "haunt", desc := "(I)I" } : Jvm.MethodName) prog_10_method_67_code (2 : Nat) (Option.some Jvm.ClassFile.FieldType.int)) ∈ lw_tbl := List.mem_of_getElem? (i := 1149) (rfl)
theorem t_1150 : (Jvm.Cond.methodLink "BarrowNightsLaw" (123 : Nat) ({ cls := "BarrowNightsModel", name := "as", desc := "(II)I" } : Jvm.MethodName)) ∈ lw_tbl := List.mem_of_getElem? (i := 1150) (by decide +kernel)
theorem t_1151 : (Jvm.Cond.instanceMethod ({ cls := "BarrowNightsModel", name := "as", desc := "(II)I" } : Jvm.MethodName)) ∈ lw_tbl := List.mem_of_getElem? (i := 1151) (by decide +kernel)
theorem t_1152 : (Jvm.Cond.selects "BarrowNightsModel" ({ cls := "BarrowNightsModel", name := "as", desc := "(II)I" } : Jvm.MethodName) ({ cls := "BarrowNightsModel", name := "as", desc := "(II)I" } : Jvm.MethodName)) ∈ lw_tbl := List.mem_of_getElem? (i := 1152) (by decide +kernel)
set_option maxRecDepth 100000 in
theorem t_1153 : (Jvm.Cond.code ({ cls := "BarrowNightsModel", name := "as", desc := "(II)I" } : Jvm.MethodName) prog_10_method_68_code (3 : Nat) (Option.some Jvm.ClassFile.FieldType.int)) ∈ lw_tbl := List.mem_of_getElem? (i := 1153) (rfl)
theorem t_1154 : (Jvm.Cond.methodLink "BarrowNightsLaw" (128 : Nat) ({ cls := "BarrowNightsModel", name := "trace", desc := "()I" } : Jvm.MethodName)) ∈ lw_tbl := List.mem_of_getElem? (i := 1154) (by decide +kernel)
theorem t_1155 : (Jvm.Cond.instanceMethod ({ cls := "BarrowNightsModel", name := "trace", desc := "()I" } : Jvm.MethodName)) ∈ lw_tbl := List.mem_of_getElem? (i := 1155) (by decide +kernel)
theorem t_1156 : (Jvm.Cond.selects "BarrowNightsModel" ({ cls := "BarrowNightsModel", name := "trace", desc := "()I" } : Jvm.MethodName) ({ cls := "BarrowNightsModel", name := "trace", desc := "()I" } : Jvm.MethodName)) ∈ lw_tbl := List.mem_of_getElem? (i := 1156) (by decide +kernel)
set_option maxRecDepth 100000 in
theorem t_1157 : (Jvm.Cond.code ({ cls := "BarrowNightsModel", name := "trace", desc := "()I" } : Jvm.MethodName) prog_10_method_69_code (1 : Nat) (Option.some Jvm.ClassFile.FieldType.int)) ∈ lw_tbl := List.mem_of_getElem? (i := 1157) (rfl)
theorem t_1158 : (Jvm.Cond.methodLink "BarrowNightsLaw" (132 : Nat) ({ cls := "BarrowNightsModel", name := "fault", desc := "()I" } : Jvm.MethodName)) ∈ lw_tbl := List.mem_of_getElem? (i := 1158) (by decide +kernel)
theorem t_1159 : (Jvm.Cond.instanceMethod ({ cls := "BarrowNightsModel", name := "fault", desc := "()I" } : Jvm.MethodName)) ∈ lw_tbl := List.mem_of_getElem? (i := 1159) (by decide +kernel)
theorem t_1160 : (Jvm.Cond.selects "BarrowNightsModel" ({ cls := "BarrowNightsModel", name := "fault", desc := "()I" } : Jvm.MethodName) ({ cls := "BarrowNightsModel", name := "fault", desc := "()I" } : Jvm.MethodName)) ∈ lw_tbl := List.mem_of_getElem? (i := 1160) (by decide +kernel)
set_option maxRecDepth 100000 in
theorem t_1161 : (Jvm.Cond.code ({ cls := "BarrowNightsModel", name := "fault", desc := "()I" } : Jvm.MethodName) prog_10_method_70_code (1 : Nat) (Option.some Jvm.ClassFile.FieldType.int)) ∈ lw_tbl := List.mem_of_getElem? (i := 1161) (rfl)
theorem t_1162 : (Jvm.Cond.methodLink "BarrowNightsLaw" (136 : Nat) ({ cls := "BarrowNightsModel", name := "many", desc := "(I)I" } : Jvm.MethodName)) ∈ lw_tbl := List.mem_of_getElem? (i := 1162) (by decide +kernel)
theorem t_1163 : (Jvm.Cond.instanceMethod ({ cls := "BarrowNightsModel", name := "many", desc := "(I)I" } : Jvm.MethodName)) ∈ lw_tbl := List.mem_of_getElem? (i := 1163) (by decide +kernel)
theorem t_1164 : (Jvm.Cond.selects "BarrowNightsModel" ({ cls := "BarrowNightsModel", name := "many", desc := "(I)I" } : Jvm.MethodName) ({ cls := "BarrowNightsModel", name := "many", desc := "(I)I" } : Jvm.MethodName)) ∈ lw_tbl := List.mem_of_getElem? (i := 1164) (by decide +kernel)
set_option maxRecDepth 100000 in
theorem t_1165 : (Jvm.Cond.code ({ cls := "BarrowNightsModel", name := "many", desc := "(I)I" } : Jvm.MethodName) prog_10_method_71_code (2 : Nat) (Option.some Jvm.ClassFile.FieldType.int)) ∈ lw_tbl := List.mem_of_getElem? (i := 1165) (rfl)
end
section
set_option maxRecDepth 20000 in
theorem inX0 : ∀ w ∈ u_ws RX0 TX0 12, w ∈ mTT := by decide +kernel
set_option maxRecDepth 20000 in
theorem inX1 : ∀ w ∈ u_ws RX1 TX1 5, w ∈ mTT := by decide +kernel
set_option maxRecDepth 20000 in
theorem inX2 : ∀ w ∈ u_ws RX2 TX2 7, w ∈ mTT := by decide +kernel
set_option maxRecDepth 20000 in
theorem inX3 : ∀ w ∈ u_ws RX3 TX3 4, w ∈ mTT := by decide +kernel
set_option maxRecDepth 20000 in
theorem inX4 : ∀ w ∈ u_ws RX4 TX4 6, w ∈ mTT := by decide +kernel
set_option maxRecDepth 20000 in
theorem inX5 : ∀ w ∈ u_ws RX5 TX5 3, w ∈ mTT := by decide +kernel
set_option maxRecDepth 20000 in
theorem inX6 : ∀ w ∈ u_ws RX6 TX6 4, w ∈ mTT := by decide +kernel
set_option maxRecDepth 20000 in
theorem inX7 : ∀ w ∈ u_ws RX7 TX7 9, w ∈ mTT := by decide +kernel
set_option maxRecDepth 20000 in
theorem inX8 : ∀ w ∈ u_ws RX8 TX8 36, w ∈ mTT := by decide +kernel
theorem okX0_init : mOK kX0_init := ⟨t_152, by decide, t_95, by decide, by decide⟩
theorem okX0_isThere : mOK kX0_isThere := ⟨t_508, by decide, t_95, by decide, by decide⟩
theorem okX0_hasBarrow : mOK kX0_hasBarrow := ⟨t_432, by decide, t_95, by decide, by decide⟩
theorem okX0_hasWalker : mOK kX0_hasWalker := ⟨t_452, by decide, t_95, by decide, by decide⟩
theorem okX0_become : mOK kX0_become := ⟨t_531, by decide, t_95, by decide, by decide⟩
theorem okX0_holdsOf : mOK kX0_holdsOf := ⟨t_436, by decide, t_95, by decide, by decide⟩
theorem okX0_lodgersOf : mOK kX0_lodgersOf := ⟨t_444, by decide, t_95, by decide, by decide⟩
theorem okX0_allLodgers : mOK kX0_allLodgers := ⟨t_559, by decide, t_95, by decide, by decide⟩
theorem okX0_dreamOf : mOK kX0_dreamOf := ⟨t_456, by decide, t_95, by decide, by decide⟩
theorem okX0_suits : mOK kX0_suits := ⟨t_477, by decide, t_95, by decide, by decide⟩
theorem okX0_enter : mOK kX0_enter := ⟨t_473, by decide, t_95, by decide, by decide⟩
theorem okX0_goOut : mOK kX0_goOut := ⟨t_500, by decide, t_95, by decide, by decide⟩
theorem okX0_passNights : mOK kX0_passNights := ⟨t_512, by decide, t_95, by decide, by decide⟩
theorem okX0_paysOrGoes : mOK kX0_paysOrGoes := ⟨t_516, by decide, t_95, by decide, by decide⟩
theorem okX0_meansOfAll : mOK kX0_meansOfAll := ⟨t_563, by decide, t_95, by decide, by decide⟩
theorem okX0_fewestTo : mOK kX0_fewestTo := ⟨t_594, by decide, t_95, by decide, by decide⟩
theorem okX0_sitesNear : mOK kX0_sitesNear := ⟨t_601, by decide, t_95, by decide, by decide⟩
theorem okX0_isNearAny : mOK kX0_isNearAny := ⟨t_597, by decide, t_95, by decide, by decide⟩
theorem okX0_waysToFill : mOK kX0_waysToFill := ⟨t_672, by decide, t_95, by decide, by decide⟩
theorem okX1_init : mOK kX1_init := ⟨t_253, by decide, t_97, by decide, by decide⟩
theorem okX1_search : mOK kX1_search := ⟨t_571, by decide, t_97, by decide, by decide⟩
theorem okX1_place : mOK kX1_place := ⟨t_576, by decide, t_97, by decide, by decide⟩
theorem okX1_keep : mOK kX1_keep := ⟨t_581, by decide, t_97, by decide, by decide⟩
theorem okX2_init : mOK kX2_init := ⟨t_278, by decide, t_98, by decide, by decide⟩
theorem okX2_load : mOK kX2_load := ⟨t_609, by decide, t_98, by decide, by decide⟩
theorem okX2_search : mOK kX2_search := ⟨t_614, by decide, t_98, by decide, by decide⟩
theorem okX2_lay : mOK kX2_lay := ⟨t_619, by decide, t_98, by decide, by decide⟩
theorem okX2_layIn : mOK kX2_layIn := ⟨t_632, by decide, t_98, by decide, by decide⟩
theorem okX2_isTold : mOK kX2_isTold := ⟨t_628, by decide, t_98, by decide, by decide⟩
theorem okX2_keep : mOK kX2_keep := ⟨t_624, by decide, t_98, by decide, by decide⟩
theorem okX3_init : mOK kX3_init := ⟨t_308, by decide, t_99, by decide, by decide⟩
theorem okX3_hasRoom : mOK kX3_hasRoom := ⟨t_640, by decide, t_99, by decide, by decide⟩
theorem okX3_note : mOK kX3_note := ⟨t_644, by decide, t_99, by decide, by decide⟩
theorem okX3_areSo : mOK kX3_areSo := ⟨t_658, by decide, t_99, by decide, by decide⟩
theorem okX4_init : mOK kX4_init := ⟨t_226, by decide, t_96, by decide, by decide⟩
theorem okX4_isWhat : mOK kX4_isWhat := ⟨t_523, by decide, t_96, by decide, by decide⟩
theorem okX4_load : mOK kX4_load := ⟨t_527, by decide, t_96, by decide, by decide⟩
theorem okX4_refusalOf : mOK kX4_refusalOf := ⟨t_538, by decide, t_96, by decide, by decide⟩
theorem okX4_play : mOK kX4_play := ⟨t_544, by decide, t_96, by decide, by decide⟩
theorem okX4_canDo : mOK kX4_canDo := ⟨t_548, by decide, t_96, by decide, by decide⟩
theorem okX4_answerTo : mOK kX4_answerTo := ⟨t_555, by decide, t_96, by decide, by decide⟩
theorem okX5_init : mOK kX5_init := ⟨t_116, by decide, t_93, by decide, by decide⟩
theorem okX5_isSheet : mOK kX5_isSheet := ⟨t_358, by decide, t_93, by decide, by decide⟩
theorem okX5_hasNothing : mOK kX5_hasNothing := ⟨t_369, by decide, t_93, by decide, by decide⟩
theorem okX5_faultOfRow : mOK kX5_faultOfRow := ⟨t_365, by decide, t_93, by decide, by decide⟩
theorem okX5_faultOfPair : mOK kX5_faultOfPair := ⟨t_724, by decide, t_93, by decide, by decide⟩
theorem okX5_faultOfCell : mOK kX5_faultOfCell := ⟨t_392, by decide, t_93, by decide, by decide⟩
theorem okX5_faultOfCells : mOK kX5_faultOfCells := ⟨t_374, by decide, t_93, by decide, by decide⟩
theorem okX5_renew : mOK kX5_renew := ⟨t_690, by decide, t_93, by decide, by decide⟩
theorem okX5_empty : mOK kX5_empty := ⟨t_699, by decide, t_93, by decide, by decide⟩
theorem okX5_valueAt : mOK kX5_valueAt := ⟨t_388, by decide, t_93, by decide, by decide⟩
theorem okX5_setAt : mOK kX5_setAt := ⟨t_708, by decide, t_93, by decide, by decide⟩
theorem okX5_cut : mOK kX5_cut := ⟨t_711, by decide, t_93, by decide, by decide⟩
theorem okX5_move : mOK kX5_move := ⟨t_728, by decide, t_93, by decide, by decide⟩
theorem okX6_init : mOK kX6_init := ⟨t_133, by decide, t_94, by decide, by decide⟩
theorem okX6_load : mOK kX6_load := ⟨t_378, by decide, t_94, by decide, by decide⟩
theorem okX6_codeAt : mOK kX6_codeAt := ⟨t_400, by decide, t_94, by decide, by decide⟩
theorem okX6_isDigit : mOK kX6_isDigit := ⟨t_412, by decide, t_94, by decide, by decide⟩
theorem okX6_digitAt : mOK kX6_digitAt := ⟨t_424, by decide, t_94, by decide, by decide⟩
theorem okX6_kindAt : mOK kX6_kindAt := ⟨t_408, by decide, t_94, by decide, by decide⟩
theorem okX6_firstFault : mOK kX6_firstFault := ⟨t_396, by decide, t_94, by decide, by decide⟩
theorem okX6_stopInBarrow : mOK kX6_stopInBarrow := ⟨t_404, by decide, t_94, by decide, by decide⟩
theorem okX6_stopInWalker : mOK kX6_stopInWalker := ⟨t_416, by decide, t_94, by decide, by decide⟩
theorem okX6_makeAnew : mOK kX6_makeAnew := ⟨t_420, by decide, t_94, by decide, by decide⟩
theorem okX7_init : mOK kX7_init := ⟨t_108, by decide, t_92, by decide, by decide⟩
theorem okX7_down : mOK kX7_down := ⟨t_355, by decide, t_92, by decide, by decide⟩
theorem okX7_ofBarrow : mOK kX7_ofBarrow := ⟨t_428, by decide, t_92, by decide, by decide⟩
theorem okX7_ofWalker : mOK kX7_ofWalker := ⟨t_448, by decide, t_92, by decide, by decide⟩
theorem okX7_charge : mOK kX7_charge := ⟨t_461, by decide, t_92, by decide, by decide⟩
theorem okX7_earn : mOK kX7_earn := ⟨t_465, by decide, t_92, by decide, by decide⟩
theorem okX7_lodge : mOK kX7_lodge := ⟨t_469, by decide, t_92, by decide, by decide⟩
theorem okX7_leave : mOK kX7_leave := ⟨t_496, by decide, t_92, by decide, by decide⟩
theorem okX7_night : mOK kX7_night := ⟨t_504, by decide, t_92, by decide, by decide⟩
theorem okX7_season : mOK kX7_season := ⟨t_520, by decide, t_92, by decide, by decide⟩
theorem okX7_housed : mOK kX7_housed := ⟨t_567, by decide, t_92, by decide, by decide⟩
theorem okX7_ploughed : mOK kX7_ploughed := ⟨t_586, by decide, t_92, by decide, by decide⟩
theorem okX7_way : mOK kX7_way := ⟨t_590, by decide, t_92, by decide, by decide⟩
theorem okX7_lain : mOK kX7_lain := ⟨t_605, by decide, t_92, by decide, by decide⟩
theorem okX7_reading : mOK kX7_reading := ⟨t_636, by decide, t_92, by decide, by decide⟩
theorem okX7_back : mOK kX7_back := ⟨t_649, by decide, t_92, by decide, by decide⟩
theorem okX7_rooms : mOK kX7_rooms := ⟨t_653, by decide, t_92, by decide, by decide⟩
theorem okX7_kinds : mOK kX7_kinds := ⟨t_663, by decide, t_92, by decide, by decide⟩
theorem okX7_odds : mOK kX7_odds := ⟨t_667, by decide, t_92, by decide, by decide⟩
theorem okX7_sheet : mOK kX7_sheet := ⟨t_686, by decide, t_92, by decide, by decide⟩
theorem okX7_lose : mOK kX7_lose := ⟨t_694, by decide, t_92, by decide, by decide⟩
theorem okX7_put : mOK kX7_put := ⟨t_703, by decide, t_92, by decide, by decide⟩
theorem okX7_cell : mOK kX7_cell := ⟨t_715, by decide, t_92, by decide, by decide⟩
theorem okX7_copy : mOK kX7_copy := ⟨t_720, by decide, t_92, by decide, by decide⟩
theorem okX7_tell : mOK kX7_tell := ⟨t_736, by decide, t_92, by decide, by decide⟩
theorem okX7_haunt : mOK kX7_haunt := ⟨t_756, by decide, t_92, by decide, by decide⟩
theorem okX7_as : mOK kX7_as := ⟨t_768, by decide, t_92, by decide, by decide⟩
theorem okX7_trace : mOK kX7_trace := ⟨t_772, by decide, t_92, by decide, by decide⟩
theorem okX7_fault : mOK kX7_fault := ⟨t_776, by decide, t_92, by decide, by decide⟩
theorem okX7_many : mOK kX7_many := ⟨t_780, by decide, t_92, by decide, by decide⟩
theorem okX7_begin : mOK kX7_begin := ⟨t_744, by decide, t_92, by decide, by decide⟩
theorem okX7_roundBody : mOK kX7_roundBody := ⟨t_752, by decide, t_92, by decide, by decide⟩
theorem okX7_longBody : mOK kX7_longBody := ⟨t_748, by decide, t_92, by decide, by decide⟩
theorem okX7_ringBody : mOK kX7_ringBody := ⟨t_740, by decide, t_92, by decide, by decide⟩
theorem okX7_lentHaunt : mOK kX7_lentHaunt := ⟨t_764, by decide, t_92, by decide, by decide⟩
theorem okX7_ringHaunt : mOK kX7_ringHaunt := ⟨t_760, by decide, t_92, by decide, by decide⟩
theorem okX7_isLane : mOK kX7_isLane := ⟨t_361, by decide, t_92, by decide, by decide⟩
theorem okX7_holdsAs : mOK kX7_holdsAs := ⟨t_440, by decide, t_92, by decide, by decide⟩
theorem okX7_isNear : mOK kX7_isNear := ⟨t_480, by decide, t_92, by decide, by decide⟩
theorem okX7_power : mOK kX7_power := ⟨t_678, by decide, t_92, by decide, by decide⟩
theorem okX7_choices : mOK kX7_choices := ⟨t_675, by decide, t_92, by decide, by decide⟩
theorem okX7_commonPart : mOK kX7_commonPart := ⟨t_682, by decide, t_92, by decide, by decide⟩
theorem okX8_init : mOK kX8_init := ⟨t_786, by decide, t_100, by decide, by decide⟩
theorem okX8_fails : mOK kX8_fails := ⟨t_917, by decide, t_100, by decide, by decide⟩
theorem okX8_lost : mOK kX8_lost := ⟨t_1133, by decide, t_100, by decide, by decide⟩
theorem okX8_within : mOK kX8_within := ⟨t_906, by decide, t_100, by decide, by decide⟩
theorem okX8_isSheet : mOK kX8_isSheet := ⟨t_903, by decide, t_100, by decide, by decide⟩
theorem okX8_isSort : mOK kX8_isSort := ⟨t_909, by decide, t_100, by decide, by decide⟩
theorem okX8_against : mOK kX8_against := ⟨t_913, by decide, t_100, by decide, by decide⟩
theorem okX8_isBarrow : mOK kX8_isBarrow := ⟨t_949, by decide, t_100, by decide, by decide⟩
theorem okX8_isWalker : mOK kX8_isWalker := ⟨t_968, by decide, t_100, by decide, by decide⟩
theorem okX8_digit : mOK kX8_digit := ⟨t_933, by decide, t_100, by decide, by decide⟩
theorem okX8_isSign : mOK kX8_isSign := ⟨t_925, by decide, t_100, by decide, by decide⟩
theorem okX8_down : mOK kX8_down := ⟨t_900, by decide, t_100, by decide, by decide⟩
theorem okX8_takeDown : mOK kX8_takeDown := ⟨t_941, by decide, t_100, by decide, by decide⟩
theorem okX8_readDown : mOK kX8_readDown := ⟨t_921, by decide, t_100, by decide, by decide⟩
theorem okX8_readBarrow : mOK kX8_readBarrow := ⟨t_929, by decide, t_100, by decide, by decide⟩
theorem okX8_readWalker : mOK kX8_readWalker := ⟨t_937, by decide, t_100, by decide, by decide⟩
theorem okX8_holdsBy : mOK kX8_holdsBy := ⟨t_956, by decide, t_100, by decide, by decide⟩
theorem okX8_holdsOf : mOK kX8_holdsOf := ⟨t_953, by decide, t_100, by decide, by decide⟩
theorem okX8_lodgersOf : mOK kX8_lodgersOf := ⟨t_960, by decide, t_100, by decide, by decide⟩
theorem okX8_size : mOK kX8_size := ⟨t_997, by decide, t_100, by decide, by decide⟩
theorem okX8_ofBarrow : mOK kX8_ofBarrow := ⟨t_945, by decide, t_100, by decide, by decide⟩
theorem okX8_dreamOf : mOK kX8_dreamOf := ⟨t_971, by decide, t_100, by decide, by decide⟩
theorem okX8_ofWalker : mOK kX8_ofWalker := ⟨t_964, by decide, t_100, by decide, by decide⟩
theorem okX8_charge : mOK kX8_charge := ⟨t_975, by decide, t_100, by decide, by decide⟩
theorem okX8_earn : mOK kX8_earn := ⟨t_979, by decide, t_100, by decide, by decide⟩
theorem okX8_apart : mOK kX8_apart := ⟨t_994, by decide, t_100, by decide, by decide⟩
theorem okX8_mayGo : mOK kX8_mayGo := ⟨t_991, by decide, t_100, by decide, by decide⟩
theorem okX8_doLodge : mOK kX8_doLodge := ⟨t_987, by decide, t_100, by decide, by decide⟩
theorem okX8_lodge : mOK kX8_lodge := ⟨t_983, by decide, t_100, by decide, by decide⟩
theorem okX8_leave : mOK kX8_leave := ⟨t_1001, by decide, t_100, by decide, by decide⟩
theorem okX8_goNight : mOK kX8_goNight := ⟨t_1009, by decide, t_100, by decide, by decide⟩
theorem okX8_night : mOK kX8_night := ⟨t_1005, by decide, t_100, by decide, by decide⟩
theorem okX8_keep : mOK kX8_keep := ⟨t_1021, by decide, t_100, by decide, by decide⟩
theorem okX8_putBack : mOK kX8_putBack := ⟨t_1041, by decide, t_100, by decide, by decide⟩
theorem okX8_does : mOK kX8_does := ⟨t_1029, by decide, t_100, by decide, by decide⟩
theorem okX8_goSeason : mOK kX8_goSeason := ⟨t_1025, by decide, t_100, by decide, by decide⟩
theorem okX8_refusesPair : mOK kX8_refusesPair := ⟨t_1017, by decide, t_100, by decide, by decide⟩
theorem okX8_season : mOK kX8_season := ⟨t_1013, by decide, t_100, by decide, by decide⟩
theorem okX8_whoLodges : mOK kX8_whoLodges := ⟨t_1037, by decide, t_100, by decide, by decide⟩
theorem okX8_tellSeason : mOK kX8_tellSeason := ⟨t_1033, by decide, t_100, by decide, by decide⟩
theorem okX8_rowsOf : mOK kX8_rowsOf := ⟨t_1053, by decide, t_100, by decide, by decide⟩
theorem okX8_rowOf : mOK kX8_rowOf := ⟨t_1057, by decide, t_100, by decide, by decide⟩
theorem okX8_isHeld : mOK kX8_isHeld := ⟨t_1065, by decide, t_100, by decide, by decide⟩
theorem okX8_canRow : mOK kX8_canRow := ⟨t_1061, by decide, t_100, by decide, by decide⟩
theorem okX8_findHoused : mOK kX8_findHoused := ⟨t_1049, by decide, t_100, by decide, by decide⟩
theorem okX8_housed : mOK kX8_housed := ⟨t_1045, by decide, t_100, by decide, by decide⟩
theorem okX8_ploughed : mOK kX8_ploughed := ⟨t_1069, by decide, t_100, by decide, by decide⟩
theorem okX8_way : mOK kX8_way := ⟨t_1073, by decide, t_100, by decide, by decide⟩
theorem okX8_stepOn : mOK kX8_stepOn := ⟨t_1077, by decide, t_100, by decide, by decide⟩
theorem okX8_areDreams : mOK kX8_areDreams := ⟨t_1085, by decide, t_100, by decide, by decide⟩
theorem okX8_lain : mOK kX8_lain := ⟨t_1081, by decide, t_100, by decide, by decide⟩
theorem okX8_reading : mOK kX8_reading := ⟨t_1089, by decide, t_100, by decide, by decide⟩
theorem okX8_back : mOK kX8_back := ⟨t_1093, by decide, t_100, by decide, by decide⟩
theorem okX8_areSo : mOK kX8_areSo := ⟨t_1101, by decide, t_100, by decide, by decide⟩
theorem okX8_rooms : mOK kX8_rooms := ⟨t_1097, by decide, t_100, by decide, by decide⟩
theorem okX8_kinds : mOK kX8_kinds := ⟨t_1105, by decide, t_100, by decide, by decide⟩
theorem okX8_inLeastTerms : mOK kX8_inLeastTerms := ⟨t_1113, by decide, t_100, by decide, by decide⟩
theorem okX8_odds : mOK kX8_odds := ⟨t_1109, by decide, t_100, by decide, by decide⟩
theorem okX8_sheet : mOK kX8_sheet := ⟨t_1117, by decide, t_100, by decide, by decide⟩
theorem okX8_lose : mOK kX8_lose := ⟨t_1121, by decide, t_100, by decide, by decide⟩
theorem okX8_put : mOK kX8_put := ⟨t_1125, by decide, t_100, by decide, by decide⟩
theorem okX8_cell : mOK kX8_cell := ⟨t_1129, by decide, t_100, by decide, by decide⟩
theorem okX8_copy : mOK kX8_copy := ⟨t_1137, by decide, t_100, by decide, by decide⟩
theorem okX8_begins : mOK kX8_begins := ⟨t_1145, by decide, t_100, by decide, by decide⟩
theorem okX8_tell : mOK kX8_tell := ⟨t_1141, by decide, t_100, by decide, by decide⟩
theorem okX8_haunt : mOK kX8_haunt := ⟨t_1149, by decide, t_100, by decide, by decide⟩
theorem okX8_as : mOK kX8_as := ⟨t_1153, by decide, t_100, by decide, by decide⟩
theorem okX8_trace : mOK kX8_trace := ⟨t_1157, by decide, t_100, by decide, by decide⟩
theorem okX8_fault : mOK kX8_fault := ⟨t_1161, by decide, t_100, by decide, by decide⟩
theorem okX8_many : mOK kX8_many := ⟨t_1165, by decide, t_100, by decide, by decide⟩
theorem okJ6_bitCount_0f7a4 : mOK kJ6_bitCount_0f7a4 := ⟨t_487, by decide, t_102, by decide, by decide⟩
theorem fX5_11 : mSite RX5 11 5 0 true (.array .int) := ⟨RX5, TX5, 3, tyX5, rfl, inX5, by decide, tyX5_ok, nmX5, rfl, rfl, by decide +kernel, Or.inl (mTT_mem t_118 rfl)⟩
theorem fX5_15 : mSite RX5 15 5 1 true (.array .int) := ⟨RX5, TX5, 3, tyX5, rfl, inX5, by decide, tyX5_ok, nmX5, rfl, rfl, by decide +kernel, Or.inl (mTT_mem t_119 rfl)⟩
theorem fX5_18 : mSite RX5 18 5 2 true (.array .int) := ⟨RX5, TX5, 3, tyX5, rfl, inX5, by decide, tyX5_ok, nmX5, rfl, rfl, by decide +kernel, Or.inl (mTT_mem t_120 rfl)⟩
theorem fX6_11 : mSite RX6 11 6 0 true (.array .int) := ⟨RX6, TX6, 4, tyX6, rfl, inX6, by decide, tyX6_ok, nmX6, rfl, rfl, by decide +kernel, Or.inl (mTT_mem t_135 rfl)⟩
theorem fX6_26 : mSite RX6 26 6 1 false .int := ⟨RX6, TX6, 4, tyX6, rfl, inX6, by decide, tyX6_ok, nmX6, rfl, rfl, by decide +kernel, Or.inl (mTT_mem t_136 rfl)⟩
theorem fX6_37 : mSite RX6 37 6 2 false .int := ⟨RX6, TX6, 4, tyX6, rfl, inX6, by decide, tyX6_ok, nmX6, rfl, rfl, by decide +kernel, Or.inl (mTT_mem t_137 rfl)⟩
theorem fX6_40 : mSite RX6 40 6 3 false .int := ⟨RX6, TX6, 4, tyX6, rfl, inX6, by decide, tyX6_ok, nmX6, rfl, rfl, by decide +kernel, Or.inl (mTT_mem t_138 rfl)⟩
theorem fX0_39 : mSite RX0 39 0 0 false .int := ⟨RX0, TX0, 12, tyX0, rfl, inX0, by decide, tyX0_ok, nmX0, rfl, rfl, by decide +kernel, Or.inl (mTT_mem t_154 rfl)⟩
theorem fX0_43 : mSite RX0 43 0 1 false .int := ⟨RX0, TX0, 12, tyX0, rfl, inX0, by decide, tyX0_ok, nmX0, rfl, rfl, by decide +kernel, Or.inl (mTT_mem t_160 rfl)⟩
theorem fX0_46 : mSite RX0 46 0 2 false .int := ⟨RX0, TX0, 12, tyX0, rfl, inX0, by decide, tyX0_ok, nmX0, rfl, rfl, by decide +kernel, Or.inl (mTT_mem t_164 rfl)⟩
theorem fX0_9 : mSite RX0 9 0 3 true (.array .int) := ⟨RX0, TX0, 12, tyX0, rfl, inX0, by decide, tyX0_ok, nmX0, rfl, rfl, by decide +kernel, Or.inl (mTT_mem t_167 rfl)⟩
theorem fX0_15 : mSite RX0 15 0 4 true (.array .int) := ⟨RX0, TX0, 12, tyX0, rfl, inX0, by decide, tyX0_ok, nmX0, rfl, rfl, by decide +kernel, Or.inl (mTT_mem t_170 rfl)⟩
theorem fX0_18 : mSite RX0 18 0 5 true (.array .int) := ⟨RX0, TX0, 12, tyX0, rfl, inX0, by decide, tyX0_ok, nmX0, rfl, rfl, by decide +kernel, Or.inl (mTT_mem t_173 rfl)⟩
theorem fX0_21 : mSite RX0 21 0 6 true (.array .int) := ⟨RX0, TX0, 12, tyX0, rfl, inX0, by decide, tyX0_ok, nmX0, rfl, rfl, by decide +kernel, Or.inl (mTT_mem t_177 rfl)⟩
theorem fX0_24 : mSite RX0 24 0 7 true (.array .int) := ⟨RX0, TX0, 12, tyX0, rfl, inX0, by decide, tyX0_ok, nmX0, rfl, rfl, by decide +kernel, Or.inl (mTT_mem t_180 rfl)⟩
theorem fX0_27 : mSite RX0 27 0 8 true (.array .int) := ⟨RX0, TX0, 12, tyX0, rfl, inX0, by decide, tyX0_ok, nmX0, rfl, rfl, by decide +kernel, Or.inl (mTT_mem t_183 rfl)⟩
theorem fX0_30 : mSite RX0 30 0 9 true (.array .int) := ⟨RX0, TX0, 12, tyX0, rfl, inX0, by decide, tyX0_ok, nmX0, rfl, rfl, by decide +kernel, Or.inl (mTT_mem t_186 rfl)⟩
theorem fX0_33 : mSite RX0 33 0 10 true (.array .int) := ⟨RX0, TX0, 12, tyX0, rfl, inX0, by decide, tyX0_ok, nmX0, rfl, rfl, by decide +kernel, Or.inl (mTT_mem t_189 rfl)⟩
theorem fX0_36 : mSite RX0 36 0 11 true (.array .int) := ⟨RX0, TX0, 12, tyX0, rfl, inX0, by decide, tyX0_ok, nmX0, rfl, rfl, by decide +kernel, Or.inl (mTT_mem t_193 rfl)⟩
theorem fX4_12 : mSite RX4 12 4 0 true (.object "BarrowNights$Down") := ⟨RX4, TX4, 6, tyX4, rfl, inX4, by decide, tyX4_ok, nmX4, rfl, rfl, by decide +kernel, Or.inl (mTT_mem t_230 rfl)⟩
theorem fX4_18 : mSite RX4 18 4 1 true (.array .int) := ⟨RX4, TX4, 6, tyX4, rfl, inX4, by decide, tyX4_ok, nmX4, rfl, rfl, by decide +kernel, Or.inl (mTT_mem t_231 rfl)⟩
theorem fX4_22 : mSite RX4 22 4 2 true (.array .int) := ⟨RX4, TX4, 6, tyX4, rfl, inX4, by decide, tyX4_ok, nmX4, rfl, rfl, by decide +kernel, Or.inl (mTT_mem t_232 rfl)⟩
theorem fX4_38 : mSite RX4 38 4 3 false .int := ⟨RX4, TX4, 6, tyX4, rfl, inX4, by decide, tyX4_ok, nmX4, rfl, rfl, by decide +kernel, Or.inl (mTT_mem t_233 rfl)⟩
theorem fX4_57 : mSite RX4 57 4 4 false .int := ⟨RX4, TX4, 6, tyX4, rfl, inX4, by decide, tyX4_ok, nmX4, rfl, rfl, by decide +kernel, Or.inl (mTT_mem t_234 rfl)⟩
theorem fX4_60 : mSite RX4 60 4 5 false .int := ⟨RX4, TX4, 6, tyX4, rfl, inX4, by decide, tyX4_ok, nmX4, rfl, rfl, by decide +kernel, Or.inl (mTT_mem t_235 rfl)⟩
theorem fX1_9 : mSite RX1 9 1 0 true (.array .int) := ⟨RX1, TX1, 5, tyX1, rfl, inX1, by decide, tyX1_ok, nmX1, rfl, rfl, by decide +kernel, Or.inl (mTT_mem t_255 rfl)⟩
theorem fX1_15 : mSite RX1 15 1 1 true (.array .int) := ⟨RX1, TX1, 5, tyX1, rfl, inX1, by decide, tyX1_ok, nmX1, rfl, rfl, by decide +kernel, Or.inl (mTT_mem t_256 rfl)⟩
theorem fX1_18 : mSite RX1 18 1 2 true (.array .int) := ⟨RX1, TX1, 5, tyX1, rfl, inX1, by decide, tyX1_ok, nmX1, rfl, rfl, by decide +kernel, Or.inl (mTT_mem t_258 rfl)⟩
theorem fX1_31 : mSite RX1 31 1 3 false .int := ⟨RX1, TX1, 5, tyX1, rfl, inX1, by decide, tyX1_ok, nmX1, rfl, rfl, by decide +kernel, Or.inl (mTT_mem t_259 rfl)⟩
theorem fX1_34 : mSite RX1 34 1 4 false .int := ⟨RX1, TX1, 5, tyX1, rfl, inX1, by decide, tyX1_ok, nmX1, rfl, rfl, by decide +kernel, Or.inl (mTT_mem t_261 rfl)⟩
theorem fX2_9 : mSite RX2 9 2 0 true (.array .int) := ⟨RX2, TX2, 7, tyX2, rfl, inX2, by decide, tyX2_ok, nmX2, rfl, rfl, by decide +kernel, Or.inl (mTT_mem t_280 rfl)⟩
theorem fX2_15 : mSite RX2 15 2 1 true (.array .int) := ⟨RX2, TX2, 7, tyX2, rfl, inX2, by decide, tyX2_ok, nmX2, rfl, rfl, by decide +kernel, Or.inl (mTT_mem t_281 rfl)⟩
theorem fX2_18 : mSite RX2 18 2 2 true (.array .int) := ⟨RX2, TX2, 7, tyX2, rfl, inX2, by decide, tyX2_ok, nmX2, rfl, rfl, by decide +kernel, Or.inl (mTT_mem t_282 rfl)⟩
theorem fX2_21 : mSite RX2 21 2 3 true (.array .int) := ⟨RX2, TX2, 7, tyX2, rfl, inX2, by decide, tyX2_ok, nmX2, rfl, rfl, by decide +kernel, Or.inl (mTT_mem t_284 rfl)⟩
theorem fX2_24 : mSite RX2 24 2 4 true (.array .int) := ⟨RX2, TX2, 7, tyX2, rfl, inX2, by decide, tyX2_ok, nmX2, rfl, rfl, by decide +kernel, Or.inl (mTT_mem t_285 rfl)⟩
theorem fX2_43 : mSite RX2 43 2 5 false .int := ⟨RX2, TX2, 7, tyX2, rfl, inX2, by decide, tyX2_ok, nmX2, rfl, rfl, by decide +kernel, Or.inl (mTT_mem t_286 rfl)⟩
theorem fX2_46 : mSite RX2 46 2 6 false .boolean := ⟨RX2, TX2, 7, tyX2, rfl, inX2, by decide, tyX2_ok, nmX2, rfl, rfl, by decide +kernel, Or.inl (mTT_mem t_288 rfl)⟩
theorem fX3_11 : mSite RX3 11 3 0 true (.array .int) := ⟨RX3, TX3, 4, tyX3, rfl, inX3, by decide, tyX3_ok, nmX3, rfl, rfl, by decide +kernel, Or.inl (mTT_mem t_310 rfl)⟩
theorem fX3_15 : mSite RX3 15 3 1 true (.array .int) := ⟨RX3, TX3, 4, tyX3, rfl, inX3, by decide, tyX3_ok, nmX3, rfl, rfl, by decide +kernel, Or.inl (mTT_mem t_311 rfl)⟩
theorem fX3_18 : mSite RX3 18 3 2 true (.array .int) := ⟨RX3, TX3, 4, tyX3, rfl, inX3, by decide, tyX3_ok, nmX3, rfl, rfl, by decide +kernel, Or.inl (mTT_mem t_312 rfl)⟩
theorem fX3_21 : mSite RX3 21 3 3 false .int := ⟨RX3, TX3, 4, tyX3, rfl, inX3, by decide, tyX3_ok, nmX3, rfl, rfl, by decide +kernel, Or.inl (mTT_mem t_313 rfl)⟩
theorem fX7_12 : mSite RX7 12 7 0 true (.object "BarrowNights$Sheets") := ⟨RX7, TX7, 9, tyX7, rfl, inX7, by decide, tyX7_ok, nmX7, rfl, rfl, by decide +kernel, Or.inl (mTT_mem t_324 rfl)⟩
theorem fX7_21 : mSite RX7 21 7 1 true (.object "BarrowNights$Text") := ⟨RX7, TX7, 9, tyX7, rfl, inX7, by decide, tyX7_ok, nmX7, rfl, rfl, by decide +kernel, Or.inl (mTT_mem t_325 rfl)⟩
theorem fX7_28 : mSite RX7 28 7 2 true (.object "BarrowNights$Down") := ⟨RX7, TX7, 9, tyX7, rfl, inX7, by decide, tyX7_ok, nmX7, rfl, rfl, by decide +kernel, Or.inl (mTT_mem t_326 rfl)⟩
theorem fX7_35 : mSite RX7 35 7 3 true (.object "BarrowNights$Season") := ⟨RX7, TX7, 9, tyX7, rfl, inX7, by decide, tyX7_ok, nmX7, rfl, rfl, by decide +kernel, Or.inl (mTT_mem t_327 rfl)⟩
theorem fX7_42 : mSite RX7 42 7 4 true (.object "BarrowNights$Housing") := ⟨RX7, TX7, 9, tyX7, rfl, inX7, by decide, tyX7_ok, nmX7, rfl, rfl, by decide +kernel, Or.inl (mTT_mem t_328 rfl)⟩
theorem fX7_49 : mSite RX7 49 7 5 true (.object "BarrowNights$Lying") := ⟨RX7, TX7, 9, tyX7, rfl, inX7, by decide, tyX7_ok, nmX7, rfl, rfl, by decide +kernel, Or.inl (mTT_mem t_329 rfl)⟩
theorem fX7_56 : mSite RX7 56 7 6 true (.object "BarrowNights$Readings") := ⟨RX7, TX7, 9, tyX7, rfl, inX7, by decide, tyX7_ok, nmX7, rfl, rfl, by decide +kernel, Or.inl (mTT_mem t_330 rfl)⟩
theorem fX7_60 : mSite RX7 60 7 7 false .int := ⟨RX7, TX7, 9, tyX7, rfl, inX7, by decide, tyX7_ok, nmX7, rfl, rfl, by decide +kernel, Or.inl (mTT_mem t_331 rfl)⟩
theorem fX7_64 : mSite RX7 64 7 8 false .int := ⟨RX7, TX7, 9, tyX7, rfl, inX7, by decide, tyX7_ok, nmX7, rfl, rfl, by decide +kernel, Or.inl (mTT_mem t_332 rfl)⟩
theorem fX8_82 : mSite RX8 82 8 0 false .int := ⟨RX8, TX8, 36, tyX8, rfl, inX8, by decide, tyX8_ok, nmX8, rfl, rfl, by decide +kernel, Or.inl (mTT_mem t_788 rfl)⟩
theorem fX8_249 : mSite RX8 249 8 1 false .int := ⟨RX8, TX8, 36, tyX8, rfl, inX8, by decide, tyX8_ok, nmX8, rfl, rfl, by decide +kernel, Or.inl (mTT_mem t_789 rfl)⟩
theorem fX8_9 : mSite RX8 9 8 2 true (.array .int) := ⟨RX8, TX8, 36, tyX8, rfl, inX8, by decide, tyX8_ok, nmX8, rfl, rfl, by decide +kernel, Or.inl (mTT_mem t_790 rfl)⟩
theorem fX8_13 : mSite RX8 13 8 3 true (.array .int) := ⟨RX8, TX8, 36, tyX8, rfl, inX8, by decide, tyX8_ok, nmX8, rfl, rfl, by decide +kernel, Or.inl (mTT_mem t_791 rfl)⟩
theorem fX8_16 : mSite RX8 16 8 4 true (.array .int) := ⟨RX8, TX8, 36, tyX8, rfl, inX8, by decide, tyX8_ok, nmX8, rfl, rfl, by decide +kernel, Or.inl (mTT_mem t_792 rfl)⟩
theorem fX8_92 : mSite RX8 92 8 5 false .int := ⟨RX8, TX8, 36, tyX8, rfl, inX8, by decide, tyX8_ok, nmX8, rfl, rfl, by decide +kernel, Or.inl (mTT_mem t_793 rfl)⟩
theorem fX8_95 : mSite RX8 95 8 6 false .int := ⟨RX8, TX8, 36, tyX8, rfl, inX8, by decide, tyX8_ok, nmX8, rfl, rfl, by decide +kernel, Or.inl (mTT_mem t_794 rfl)⟩
theorem fX8_128 : mSite RX8 128 8 7 false .int := ⟨RX8, TX8, 36, tyX8, rfl, inX8, by decide, tyX8_ok, nmX8, rfl, rfl, by decide +kernel, Or.inl (mTT_mem t_795 rfl)⟩
theorem fX8_19 : mSite RX8 19 8 8 true (.array .int) := ⟨RX8, TX8, 36, tyX8, rfl, inX8, by decide, tyX8_ok, nmX8, rfl, rfl, by decide +kernel, Or.inl (mTT_mem t_796 rfl)⟩
theorem fX8_22 : mSite RX8 22 8 9 true (.array .int) := ⟨RX8, TX8, 36, tyX8, rfl, inX8, by decide, tyX8_ok, nmX8, rfl, rfl, by decide +kernel, Or.inl (mTT_mem t_797 rfl)⟩
theorem fX8_25 : mSite RX8 25 8 10 true (.array .int) := ⟨RX8, TX8, 36, tyX8, rfl, inX8, by decide, tyX8_ok, nmX8, rfl, rfl, by decide +kernel, Or.inl (mTT_mem t_798 rfl)⟩
theorem fX8_28 : mSite RX8 28 8 11 true (.array .int) := ⟨RX8, TX8, 36, tyX8, rfl, inX8, by decide, tyX8_ok, nmX8, rfl, rfl, by decide +kernel, Or.inl (mTT_mem t_799 rfl)⟩
theorem fX8_31 : mSite RX8 31 8 12 true (.array .int) := ⟨RX8, TX8, 36, tyX8, rfl, inX8, by decide, tyX8_ok, nmX8, rfl, rfl, by decide +kernel, Or.inl (mTT_mem t_800 rfl)⟩
theorem fX8_34 : mSite RX8 34 8 13 true (.array .int) := ⟨RX8, TX8, 36, tyX8, rfl, inX8, by decide, tyX8_ok, nmX8, rfl, rfl, by decide +kernel, Or.inl (mTT_mem t_801 rfl)⟩
theorem fX8_37 : mSite RX8 37 8 14 true (.array .int) := ⟨RX8, TX8, 36, tyX8, rfl, inX8, by decide, tyX8_ok, nmX8, rfl, rfl, by decide +kernel, Or.inl (mTT_mem t_802 rfl)⟩
theorem fX8_40 : mSite RX8 40 8 15 true (.array .int) := ⟨RX8, TX8, 36, tyX8, rfl, inX8, by decide, tyX8_ok, nmX8, rfl, rfl, by decide +kernel, Or.inl (mTT_mem t_803 rfl)⟩
theorem fX8_43 : mSite RX8 43 8 16 true (.array .int) := ⟨RX8, TX8, 36, tyX8, rfl, inX8, by decide, tyX8_ok, nmX8, rfl, rfl, by decide +kernel, Or.inl (mTT_mem t_804 rfl)⟩
theorem fX8_98 : mSite RX8 98 8 17 false .int := ⟨RX8, TX8, 36, tyX8, rfl, inX8, by decide, tyX8_ok, nmX8, rfl, rfl, by decide +kernel, Or.inl (mTT_mem t_805 rfl)⟩
theorem fX8_122 : mSite RX8 122 8 18 false .int := ⟨RX8, TX8, 36, tyX8, rfl, inX8, by decide, tyX8_ok, nmX8, rfl, rfl, by decide +kernel, Or.inl (mTT_mem t_806 rfl)⟩
theorem fX8_125 : mSite RX8 125 8 19 false .int := ⟨RX8, TX8, 36, tyX8, rfl, inX8, by decide, tyX8_ok, nmX8, rfl, rfl, by decide +kernel, Or.inl (mTT_mem t_807 rfl)⟩
theorem fX8_46 : mSite RX8 46 8 20 true (.array .int) := ⟨RX8, TX8, 36, tyX8, rfl, inX8, by decide, tyX8_ok, nmX8, rfl, rfl, by decide +kernel, Or.inl (mTT_mem t_808 rfl)⟩
theorem fX8_49 : mSite RX8 49 8 21 true (.array .int) := ⟨RX8, TX8, 36, tyX8, rfl, inX8, by decide, tyX8_ok, nmX8, rfl, rfl, by decide +kernel, Or.inl (mTT_mem t_809 rfl)⟩
theorem fX8_52 : mSite RX8 52 8 22 true (.array .int) := ⟨RX8, TX8, 36, tyX8, rfl, inX8, by decide, tyX8_ok, nmX8, rfl, rfl, by decide +kernel, Or.inl (mTT_mem t_810 rfl)⟩
theorem fX8_55 : mSite RX8 55 8 23 true (.array .int) := ⟨RX8, TX8, 36, tyX8, rfl, inX8, by decide, tyX8_ok, nmX8, rfl, rfl, by decide +kernel, Or.inl (mTT_mem t_811 rfl)⟩
theorem fX8_58 : mSite RX8 58 8 24 true (.array .int) := ⟨RX8, TX8, 36, tyX8, rfl, inX8, by decide, tyX8_ok, nmX8, rfl, rfl, by decide +kernel, Or.inl (mTT_mem t_812 rfl)⟩
theorem fX8_61 : mSite RX8 61 8 25 true (.array .int) := ⟨RX8, TX8, 36, tyX8, rfl, inX8, by decide, tyX8_ok, nmX8, rfl, rfl, by decide +kernel, Or.inl (mTT_mem t_813 rfl)⟩
theorem fX8_184 : mSite RX8 184 8 26 false .int := ⟨RX8, TX8, 36, tyX8, rfl, inX8, by decide, tyX8_ok, nmX8, rfl, rfl, by decide +kernel, Or.inl (mTT_mem t_814 rfl)⟩
theorem fX8_64 : mSite RX8 64 8 27 true (.array .int) := ⟨RX8, TX8, 36, tyX8, rfl, inX8, by decide, tyX8_ok, nmX8, rfl, rfl, by decide +kernel, Or.inl (mTT_mem t_815 rfl)⟩
theorem fX8_67 : mSite RX8 67 8 28 true (.array .int) := ⟨RX8, TX8, 36, tyX8, rfl, inX8, by decide, tyX8_ok, nmX8, rfl, rfl, by decide +kernel, Or.inl (mTT_mem t_816 rfl)⟩
theorem fX8_212 : mSite RX8 212 8 29 false .int := ⟨RX8, TX8, 36, tyX8, rfl, inX8, by decide, tyX8_ok, nmX8, rfl, rfl, by decide +kernel, Or.inl (mTT_mem t_817 rfl)⟩
theorem fX8_222 : mSite RX8 222 8 30 false .int := ⟨RX8, TX8, 36, tyX8, rfl, inX8, by decide, tyX8_ok, nmX8, rfl, rfl, by decide +kernel, Or.inl (mTT_mem t_818 rfl)⟩
theorem fX8_70 : mSite RX8 70 8 31 true (.array .int) := ⟨RX8, TX8, 36, tyX8, rfl, inX8, by decide, tyX8_ok, nmX8, rfl, rfl, by decide +kernel, Or.inl (mTT_mem t_819 rfl)⟩
theorem fX8_131 : mSite RX8 131 8 32 false .int := ⟨RX8, TX8, 36, tyX8, rfl, inX8, by decide, tyX8_ok, nmX8, rfl, rfl, by decide +kernel, Or.inl (mTT_mem t_820 rfl)⟩
theorem fX8_73 : mSite RX8 73 8 33 true (.array .int) := ⟨RX8, TX8, 36, tyX8, rfl, inX8, by decide, tyX8_ok, nmX8, rfl, rfl, by decide +kernel, Or.inl (mTT_mem t_821 rfl)⟩
theorem fX8_76 : mSite RX8 76 8 34 true (.array .int) := ⟨RX8, TX8, 36, tyX8, rfl, inX8, by decide, tyX8_ok, nmX8, rfl, rfl, by decide +kernel, Or.inl (mTT_mem t_822 rfl)⟩
theorem fX8_79 : mSite RX8 79 8 35 true (.array .int) := ⟨RX8, TX8, 36, tyX8, rfl, inX8, by decide, tyX8_ok, nmX8, rfl, rfl, by decide +kernel, Or.inl (mTT_mem t_823 rfl)⟩
theorem fX1_21 : mSite RX1 21 0 0 false .int := ⟨RX0, TX0, 12, tyX0, rfl, inX0, by decide, tyX0_ok, nmX0, rfl, rfl, by decide +kernel, Or.inr ⟨_, t_155⟩⟩
theorem fX7_97 : mSite RX7 97 0 0 false .int := ⟨RX0, TX0, 12, tyX0, rfl, inX0, by decide, tyX0_ok, nmX0, rfl, rfl, by decide +kernel, Or.inr ⟨_, t_156⟩⟩
theorem fX2_33 : mSite RX2 33 0 0 false .int := ⟨RX0, TX0, 12, tyX0, rfl, inX0, by decide, tyX0_ok, nmX0, rfl, rfl, by decide +kernel, Or.inr ⟨_, t_157⟩⟩
theorem fX6_56 : mSite RX6 56 0 0 false .int := ⟨RX0, TX0, 12, tyX0, rfl, inX0, by decide, tyX0_ok, nmX0, rfl, rfl, by decide +kernel, Or.inr ⟨_, t_158⟩⟩
theorem fX1_41 : mSite RX1 41 0 1 false .int := ⟨RX0, TX0, 12, tyX0, rfl, inX0, by decide, tyX0_ok, nmX0, rfl, rfl, by decide +kernel, Or.inr ⟨_, t_159⟩⟩
theorem fX2_58 : mSite RX2 58 0 1 false .int := ⟨RX0, TX0, 12, tyX0, rfl, inX0, by decide, tyX0_ok, nmX0, rfl, rfl, by decide +kernel, Or.inr ⟨_, t_161⟩⟩
theorem fX6_59 : mSite RX6 59 0 1 false .int := ⟨RX0, TX0, 12, tyX0, rfl, inX0, by decide, tyX0_ok, nmX0, rfl, rfl, by decide +kernel, Or.inr ⟨_, t_162⟩⟩
theorem fX7_191 : mSite RX7 191 0 1 false .int := ⟨RX0, TX0, 12, tyX0, rfl, inX0, by decide, tyX0_ok, nmX0, rfl, rfl, by decide +kernel, Or.inr ⟨_, t_163⟩⟩
theorem fX6_60 : mSite RX6 60 0 2 false .int := ⟨RX0, TX0, 12, tyX0, rfl, inX0, by decide, tyX0_ok, nmX0, rfl, rfl, by decide +kernel, Or.inr ⟨_, t_165⟩⟩
theorem fX7_273 : mSite RX7 273 0 2 false .int := ⟨RX0, TX0, 12, tyX0, rfl, inX0, by decide, tyX0_ok, nmX0, rfl, rfl, by decide +kernel, Or.inr ⟨_, t_166⟩⟩
theorem fX7_103 : mSite RX7 103 0 3 true (.array .int) := ⟨RX0, TX0, 12, tyX0, rfl, inX0, by decide, tyX0_ok, nmX0, rfl, rfl, by decide +kernel, Or.inr ⟨_, t_168⟩⟩
theorem fX6_63 : mSite RX6 63 0 3 true (.array .int) := ⟨RX0, TX0, 12, tyX0, rfl, inX0, by decide, tyX0_ok, nmX0, rfl, rfl, by decide +kernel, Or.inr ⟨_, t_169⟩⟩
theorem fX7_107 : mSite RX7 107 0 4 true (.array .int) := ⟨RX0, TX0, 12, tyX0, rfl, inX0, by decide, tyX0_ok, nmX0, rfl, rfl, by decide +kernel, Or.inr ⟨_, t_171⟩⟩
theorem fX6_66 : mSite RX6 66 0 4 true (.array .int) := ⟨RX0, TX0, 12, tyX0, rfl, inX0, by decide, tyX0_ok, nmX0, rfl, rfl, by decide +kernel, Or.inr ⟨_, t_172⟩⟩
theorem fX7_110 : mSite RX7 110 0 5 true (.array .int) := ⟨RX0, TX0, 12, tyX0, rfl, inX0, by decide, tyX0_ok, nmX0, rfl, rfl, by decide +kernel, Or.inr ⟨_, t_174⟩⟩
theorem fX1_56 : mSite RX1 56 0 5 true (.array .int) := ⟨RX0, TX0, 12, tyX0, rfl, inX0, by decide, tyX0_ok, nmX0, rfl, rfl, by decide +kernel, Or.inr ⟨_, t_175⟩⟩
theorem fX6_72 : mSite RX6 72 0 5 true (.array .int) := ⟨RX0, TX0, 12, tyX0, rfl, inX0, by decide, tyX0_ok, nmX0, rfl, rfl, by decide +kernel, Or.inr ⟨_, t_176⟩⟩
theorem fX7_113 : mSite RX7 113 0 6 true (.array .int) := ⟨RX0, TX0, 12, tyX0, rfl, inX0, by decide, tyX0_ok, nmX0, rfl, rfl, by decide +kernel, Or.inr ⟨_, t_178⟩⟩
theorem fX6_75 : mSite RX6 75 0 6 true (.array .int) := ⟨RX0, TX0, 12, tyX0, rfl, inX0, by decide, tyX0_ok, nmX0, rfl, rfl, by decide +kernel, Or.inr ⟨_, t_179⟩⟩
theorem fX7_126 : mSite RX7 126 0 7 true (.array .int) := ⟨RX0, TX0, 12, tyX0, rfl, inX0, by decide, tyX0_ok, nmX0, rfl, rfl, by decide +kernel, Or.inr ⟨_, t_181⟩⟩
theorem fX6_78 : mSite RX6 78 0 7 true (.array .int) := ⟨RX0, TX0, 12, tyX0, rfl, inX0, by decide, tyX0_ok, nmX0, rfl, rfl, by decide +kernel, Or.inr ⟨_, t_182⟩⟩
theorem fX7_129 : mSite RX7 129 0 8 true (.array .int) := ⟨RX0, TX0, 12, tyX0, rfl, inX0, by decide, tyX0_ok, nmX0, rfl, rfl, by decide +kernel, Or.inr ⟨_, t_184⟩⟩
theorem fX6_81 : mSite RX6 81 0 8 true (.array .int) := ⟨RX0, TX0, 12, tyX0, rfl, inX0, by decide, tyX0_ok, nmX0, rfl, rfl, by decide +kernel, Or.inr ⟨_, t_185⟩⟩
theorem fX7_132 : mSite RX7 132 0 9 true (.array .int) := ⟨RX0, TX0, 12, tyX0, rfl, inX0, by decide, tyX0_ok, nmX0, rfl, rfl, by decide +kernel, Or.inr ⟨_, t_187⟩⟩
theorem fX6_84 : mSite RX6 84 0 9 true (.array .int) := ⟨RX0, TX0, 12, tyX0, rfl, inX0, by decide, tyX0_ok, nmX0, rfl, rfl, by decide +kernel, Or.inr ⟨_, t_188⟩⟩
theorem fX7_135 : mSite RX7 135 0 10 true (.array .int) := ⟨RX0, TX0, 12, tyX0, rfl, inX0, by decide, tyX0_ok, nmX0, rfl, rfl, by decide +kernel, Or.inr ⟨_, t_190⟩⟩
theorem fX4_84 : mSite RX4 84 0 10 true (.array .int) := ⟨RX0, TX0, 12, tyX0, rfl, inX0, by decide, tyX0_ok, nmX0, rfl, rfl, by decide +kernel, Or.inr ⟨_, t_191⟩⟩
theorem fX6_87 : mSite RX6 87 0 10 true (.array .int) := ⟨RX0, TX0, 12, tyX0, rfl, inX0, by decide, tyX0_ok, nmX0, rfl, rfl, by decide +kernel, Or.inr ⟨_, t_192⟩⟩
theorem fX7_138 : mSite RX7 138 0 11 true (.array .int) := ⟨RX0, TX0, 12, tyX0, rfl, inX0, by decide, tyX0_ok, nmX0, rfl, rfl, by decide +kernel, Or.inr ⟨_, t_194⟩⟩
theorem fX4_87 : mSite RX4 87 0 11 true (.array .int) := ⟨RX0, TX0, 12, tyX0, rfl, inX0, by decide, tyX0_ok, nmX0, rfl, rfl, by decide +kernel, Or.inr ⟨_, t_195⟩⟩
theorem fX6_90 : mSite RX6 90 0 11 true (.array .int) := ⟨RX0, TX0, 12, tyX0, rfl, inX0, by decide, tyX0_ok, nmX0, rfl, rfl, by decide +kernel, Or.inr ⟨_, t_196⟩⟩
theorem fX7_185 : mSite RX7 185 1 1 true (.array .int) := ⟨RX1, TX1, 5, tyX1, rfl, inX1, by decide, tyX1_ok, nmX1, rfl, rfl, by decide +kernel, Or.inr ⟨_, t_257⟩⟩
theorem fX7_179 : mSite RX7 179 1 3 false .int := ⟨RX1, TX1, 5, tyX1, rfl, inX1, by decide, tyX1_ok, nmX1, rfl, rfl, by decide +kernel, Or.inr ⟨_, t_260⟩⟩
theorem fX7_182 : mSite RX7 182 1 4 false .int := ⟨RX1, TX1, 5, tyX1, rfl, inX1, by decide, tyX1_ok, nmX1, rfl, rfl, by decide +kernel, Or.inr ⟨_, t_262⟩⟩
theorem fX7_201 : mSite RX7 201 2 2 true (.array .int) := ⟨RX2, TX2, 7, tyX2, rfl, inX2, by decide, tyX2_ok, nmX2, rfl, rfl, by decide +kernel, Or.inr ⟨_, t_283⟩⟩
theorem fX7_198 : mSite RX7 198 2 5 false .int := ⟨RX2, TX2, 7, tyX2, rfl, inX2, by decide, tyX2_ok, nmX2, rfl, rfl, by decide +kernel, Or.inr ⟨_, t_287⟩⟩
theorem fX7_94 : mSite RX7 94 3 3 false .int := ⟨RX3, TX3, 4, tyX3, rfl, inX3, by decide, tyX3_ok, nmX3, rfl, rfl, by decide +kernel, Or.inr ⟨_, t_314⟩⟩
theorem lL_13 : mVirt RL 13 kX7_down 7 4 := ⟨okX7_down, Or.inl (mTT_mem t_352 rfl), mTT_mem t_353 rfl, mTT_mem t_354 rfl, by decide +kernel, _, rfl, rfl⟩
theorem lX7_71 : mStat RX7 71 kX7_isLane 1 := ⟨okX7_isLane, Or.inl (mTT_mem t_359 rfl), mTT_mem t_360 rfl, by decide +kernel⟩
theorem lX5_25 : mVirt RX5 25 kX5_hasNothing 5 1 := ⟨okX5_hasNothing, Or.inl (mTT_mem t_366 rfl), mTT_mem t_368 rfl, mTT_mem t_1 rfl, by decide +kernel, _, rfl, rfl⟩
theorem lX5_21 : mStat RX5 21 kX5_isSheet 1 := ⟨okX5_isSheet, Or.inl (mTT_mem t_370 rfl), mTT_mem t_357 rfl, by decide +kernel⟩
theorem lX6_17 : Cond.methodLink RX6 17 Lib.Math.min.name ∈ mTT := mTT_mem t_379 rfl
theorem lX6_23 : Cond.methodLink RX6 23 Lib.Math.max.name ∈ mTT := mTT_mem t_382 rfl
theorem lX5_28 : mVirt RX5 28 kX5_faultOfCell 5 2 := ⟨okX5_faultOfCell, Or.inl (mTT_mem t_389 rfl), mTT_mem t_391 rfl, mTT_mem t_5 rfl, by decide +kernel, _, rfl, rfl⟩
theorem lX6_33 : mVirt RX6 33 kX6_codeAt 6 1 := ⟨okX6_codeAt, Or.inl (mTT_mem t_397 rfl), mTT_mem t_399 rfl, mTT_mem t_7 rfl, by decide +kernel, _, rfl, rfl⟩
theorem lX6_43 : mVirt RX6 43 kX6_stopInBarrow 6 1 := ⟨okX6_stopInBarrow, Or.inl (mTT_mem t_401 rfl), mTT_mem t_403 rfl, mTT_mem t_8 rfl, by decide +kernel, _, rfl, rfl⟩
theorem lX6_49 : mVirt RX6 49 kX6_kindAt 6 1 := ⟨okX6_kindAt, Or.inl (mTT_mem t_405 rfl), mTT_mem t_407 rfl, mTT_mem t_9 rfl, by decide +kernel, _, rfl, rfl⟩
theorem lX6_52 : mVirt RX6 52 kX6_isDigit 6 3 := ⟨okX6_isDigit, Or.inl (mTT_mem t_409 rfl), mTT_mem t_411 rfl, mTT_mem t_10 rfl, by decide +kernel, _, rfl, rfl⟩
theorem lX6_46 : mVirt RX6 46 kX6_stopInWalker 6 1 := ⟨okX6_stopInWalker, Or.inl (mTT_mem t_413 rfl), mTT_mem t_415 rfl, mTT_mem t_11 rfl, by decide +kernel, _, rfl, rfl⟩
theorem lX6_69 : mVirt RX6 69 kX6_digitAt 6 1 := ⟨okX6_digitAt, Or.inl (mTT_mem t_421 rfl), mTT_mem t_423 rfl, mTT_mem t_13 rfl, by decide +kernel, _, rfl, rfl⟩
theorem lL_18 : mVirt RL 18 kX7_ofBarrow 7 2 := ⟨okX7_ofBarrow, Or.inl (mTT_mem t_425 rfl), mTT_mem t_426 rfl, mTT_mem t_427 rfl, by decide +kernel, _, rfl, rfl⟩
theorem lX0_49 : mVirt RX0 49 kX0_hasBarrow 0 1 := ⟨okX0_hasBarrow, Or.inl (mTT_mem t_437 rfl), mTT_mem t_431 rfl, mTT_mem t_14 rfl, by decide +kernel, _, rfl, rfl⟩
theorem lL_23 : mVirt RL 23 kX7_ofWalker 7 2 := ⟨okX7_ofWalker, Or.inl (mTT_mem t_445 rfl), mTT_mem t_446 rfl, mTT_mem t_447 rfl, by decide +kernel, _, rfl, rfl⟩
theorem lX0_57 : mVirt RX0 57 kX0_hasWalker 0 1 := ⟨okX0_hasWalker, Or.inl (mTT_mem t_457 rfl), mTT_mem t_451 rfl, mTT_mem t_17 rfl, by decide +kernel, _, rfl, rfl⟩
theorem lL_27 : mVirt RL 27 kX7_charge 7 2 := ⟨okX7_charge, Or.inl (mTT_mem t_458 rfl), mTT_mem t_459 rfl, mTT_mem t_460 rfl, by decide +kernel, _, rfl, rfl⟩
theorem lL_31 : mVirt RL 31 kX7_earn 7 2 := ⟨okX7_earn, Or.inl (mTT_mem t_462 rfl), mTT_mem t_463 rfl, mTT_mem t_464 rfl, by decide +kernel, _, rfl, rfl⟩
theorem lL_35 : mVirt RL 35 kX7_lodge 7 2 := ⟨okX7_lodge, Or.inl (mTT_mem t_466 rfl), mTT_mem t_467 rfl, mTT_mem t_468 rfl, by decide +kernel, _, rfl, rfl⟩
theorem lX0_64 : mVirt RX0 64 kX0_suits 0 2 := ⟨okX0_suits, Or.inl (mTT_mem t_474 rfl), mTT_mem t_476 rfl, mTT_mem t_20 rfl, by decide +kernel, _, rfl, rfl⟩
theorem lX7_282 : Cond.methodLink RX7 282 Lib.Math.abs.name ∈ mTT := mTT_mem t_481 rfl
theorem lX0_68 : mVirt RX0 68 kX0_lodgersOf 0 1 := ⟨okX0_lodgersOf, Or.inl (mTT_mem t_484 rfl), mTT_mem t_443 rfl, mTT_mem t_16 rfl, by decide +kernel, _, rfl, rfl⟩
theorem lX0_72 : mStat RX0 72 kJ6_bitCount_0f7a4 1 := ⟨okJ6_bitCount_0f7a4, Or.inl (mTT_mem t_485 rfl), mTT_mem t_486 rfl, by decide +kernel⟩
theorem lX0_77 : mVirt RX0 77 kX0_holdsOf 0 1 := ⟨okX0_holdsOf, Or.inl (mTT_mem t_491 rfl), mTT_mem t_435 rfl, mTT_mem t_15 rfl, by decide +kernel, _, rfl, rfl⟩
theorem lX7_148 : mStat RX7 148 kJ6_bitCount_0f7a4 1 := ⟨okJ6_bitCount_0f7a4, Or.inl (mTT_mem t_492 rfl), mTT_mem t_486 rfl, by decide +kernel⟩
theorem lL_39 : mVirt RL 39 kX7_leave 7 1 := ⟨okX7_leave, Or.inl (mTT_mem t_493 rfl), mTT_mem t_494 rfl, mTT_mem t_495 rfl, by decide +kernel, _, rfl, rfl⟩
theorem lL_44 : mVirt RL 44 kX7_night 7 1 := ⟨okX7_night, Or.inl (mTT_mem t_501 rfl), mTT_mem t_502 rfl, mTT_mem t_503 rfl, by decide +kernel, _, rfl, rfl⟩
theorem lX0_80 : mVirt RX0 80 kX0_paysOrGoes 0 1 := ⟨okX0_paysOrGoes, Or.inl (mTT_mem t_513 rfl), mTT_mem t_515 rfl, mTT_mem t_24 rfl, by decide +kernel, _, rfl, rfl⟩
theorem lL_48 : mVirt RL 48 kX7_season 7 5 := ⟨okX7_season, Or.inl (mTT_mem t_517 rfl), mTT_mem t_518 rfl, mTT_mem t_519 rfl, by decide +kernel, _, rfl, rfl⟩
theorem lX4_29 : Cond.methodLink RX4 29 Lib.Math.min.name ∈ mTT := mTT_mem t_532 rfl
theorem lX4_35 : Cond.methodLink RX4 35 Lib.Math.max.name ∈ mTT := mTT_mem t_533 rfl
theorem lX4_47 : mVirt RX4 47 kX4_refusalOf 4 2 := ⟨okX4_refusalOf, Or.inl (mTT_mem t_535 rfl), mTT_mem t_537 rfl, mTT_mem t_27 rfl, by decide +kernel, _, rfl, rfl⟩
theorem lX4_63 : mVirt RX4 63 kX4_canDo 4 2 := ⟨okX4_canDo, Or.inl (mTT_mem t_545 rfl), mTT_mem t_547 rfl, mTT_mem t_29 rfl, by decide +kernel, _, rfl, rfl⟩
theorem lL_53 : mVirt RL 53 kX7_housed 7 1 := ⟨okX7_housed, Or.inl (mTT_mem t_564 rfl), mTT_mem t_565 rfl, mTT_mem t_566 rfl, by decide +kernel, _, rfl, rfl⟩
theorem lX1_37 : mVirt RX1 37 kX1_place 1 4 := ⟨okX1_place, Or.inl (mTT_mem t_573 rfl), mTT_mem t_575 rfl, mTT_mem t_34 rfl, by decide +kernel, _, rfl, rfl⟩
theorem lX1_48 : mVirt RX1 48 kX1_keep 1 3 := ⟨okX1_keep, Or.inl (mTT_mem t_578 rfl), mTT_mem t_580 rfl, mTT_mem t_35 rfl, by decide +kernel, _, rfl, rfl⟩
theorem lL_57 : mVirt RL 57 kX7_ploughed 7 1 := ⟨okX7_ploughed, Or.inl (mTT_mem t_583 rfl), mTT_mem t_584 rfl, mTT_mem t_585 rfl, by decide +kernel, _, rfl, rfl⟩
theorem lL_61 : mVirt RL 61 kX7_way 7 2 := ⟨okX7_way, Or.inl (mTT_mem t_587 rfl), mTT_mem t_588 rfl, mTT_mem t_589 rfl, by decide +kernel, _, rfl, rfl⟩
theorem lX0_83 : mStat RX0 83 kX0_isNearAny 3 := ⟨okX0_isNearAny, Or.inl (mTT_mem t_595 rfl), mTT_mem t_596 rfl, by decide +kernel⟩
theorem lX0_86 : mVirt RX0 86 kX0_sitesNear 0 2 := ⟨okX0_sitesNear, Or.inl (mTT_mem t_598 rfl), mTT_mem t_600 rfl, mTT_mem t_37 rfl, by decide +kernel, _, rfl, rfl⟩
theorem lL_65 : mVirt RL 65 kX7_lain 7 4 := ⟨okX7_lain, Or.inl (mTT_mem t_602 rfl), mTT_mem t_603 rfl, mTT_mem t_604 rfl, by decide +kernel, _, rfl, rfl⟩
theorem lX2_50 : mVirt RX2 50 kX2_lay 2 2 := ⟨okX2_lay, Or.inl (mTT_mem t_616 rfl), mTT_mem t_618 rfl, mTT_mem t_40 rfl, by decide +kernel, _, rfl, rfl⟩
theorem lX2_61 : mVirt RX2 61 kX2_keep 2 1 := ⟨okX2_keep, Or.inl (mTT_mem t_621 rfl), mTT_mem t_623 rfl, mTT_mem t_41 rfl, by decide +kernel, _, rfl, rfl⟩
theorem lX2_65 : mVirt RX2 65 kX2_isTold 2 2 := ⟨okX2_isTold, Or.inl (mTT_mem t_625 rfl), mTT_mem t_627 rfl, mTT_mem t_42 rfl, by decide +kernel, _, rfl, rfl⟩
theorem lX2_69 : mVirt RX2 69 kX2_layIn 2 3 := ⟨okX2_layIn, Or.inl (mTT_mem t_629 rfl), mTT_mem t_631 rfl, mTT_mem t_43 rfl, by decide +kernel, _, rfl, rfl⟩
theorem lL_69 : mVirt RL 69 kX7_reading 7 3 := ⟨okX7_reading, Or.inl (mTT_mem t_633 rfl), mTT_mem t_634 rfl, mTT_mem t_635 rfl, by decide +kernel, _, rfl, rfl⟩
theorem lX3_25 : mVirt RX3 25 kX3_hasRoom 3 0 := ⟨okX3_hasRoom, Or.inl (mTT_mem t_645 rfl), mTT_mem t_639 rfl, mTT_mem t_44 rfl, by decide +kernel, _, rfl, rfl⟩
theorem lL_74 : mVirt RL 74 kX7_back 7 1 := ⟨okX7_back, Or.inl (mTT_mem t_646 rfl), mTT_mem t_647 rfl, mTT_mem t_648 rfl, by decide +kernel, _, rfl, rfl⟩
theorem lL_78 : mVirt RL 78 kX7_rooms 7 1 := ⟨okX7_rooms, Or.inl (mTT_mem t_650 rfl), mTT_mem t_651 rfl, mTT_mem t_652 rfl, by decide +kernel, _, rfl, rfl⟩
theorem lX7_210 : mStat RX7 210 kX7_holdsAs 2 := ⟨okX7_holdsAs, Or.inl (mTT_mem t_654 rfl), mTT_mem t_439 rfl, by decide +kernel⟩
theorem lL_82 : mVirt RL 82 kX7_kinds 7 1 := ⟨okX7_kinds, Or.inl (mTT_mem t_660 rfl), mTT_mem t_661 rfl, mTT_mem t_662 rfl, by decide +kernel, _, rfl, rfl⟩
theorem lL_86 : mVirt RL 86 kX7_odds 7 2 := ⟨okX7_odds, Or.inl (mTT_mem t_664 rfl), mTT_mem t_665 rfl, mTT_mem t_666 rfl, by decide +kernel, _, rfl, rfl⟩
theorem lX7_223 : mStat RX7 223 kX7_power 2 := ⟨okX7_power, Or.inl (mTT_mem t_679 rfl), mTT_mem t_677 rfl, by decide +kernel⟩
theorem lX7_227 : mStat RX7 227 kX7_commonPart 2 := ⟨okX7_commonPart, Or.inl (mTT_mem t_680 rfl), mTT_mem t_681 rfl, by decide +kernel⟩
theorem lL_91 : mVirt RL 91 kX7_sheet 7 3 := ⟨okX7_sheet, Or.inl (mTT_mem t_683 rfl), mTT_mem t_684 rfl, mTT_mem t_685 rfl, by decide +kernel, _, rfl, rfl⟩
theorem lL_95 : mVirt RL 95 kX7_lose 7 1 := ⟨okX7_lose, Or.inl (mTT_mem t_691 rfl), mTT_mem t_692 rfl, mTT_mem t_693 rfl, by decide +kernel, _, rfl, rfl⟩
theorem lL_99 : mVirt RL 99 kX7_put 7 3 := ⟨okX7_put, Or.inl (mTT_mem t_700 rfl), mTT_mem t_701 rfl, mTT_mem t_702 rfl, by decide +kernel, _, rfl, rfl⟩
theorem lX5_32 : mStat RX5 32 kX5_cut 2 := ⟨okX5_cut, Or.inl (mTT_mem t_709 rfl), mTT_mem t_710 rfl, by decide +kernel⟩
theorem lL_103 : mVirt RL 103 kX7_cell 7 3 := ⟨okX7_cell, Or.inl (mTT_mem t_712 rfl), mTT_mem t_713 rfl, mTT_mem t_714 rfl, by decide +kernel, _, rfl, rfl⟩
theorem lL_108 : mVirt RL 108 kX7_copy 7 5 := ⟨okX7_copy, Or.inl (mTT_mem t_717 rfl), mTT_mem t_718 rfl, mTT_mem t_719 rfl, by decide +kernel, _, rfl, rfl⟩
theorem lX5_35 : mVirt RX5 35 kX5_faultOfCells 5 3 := ⟨okX5_faultOfCells, Or.inl (mTT_mem t_729 rfl), mTT_mem t_373 rfl, mTT_mem t_2 rfl, by decide +kernel, _, rfl, rfl⟩
theorem lL_112 : mVirt RL 112 kX7_tell 7 1 := ⟨okX7_tell, Or.inl (mTT_mem t_733 rfl), mTT_mem t_734 rfl, mTT_mem t_735 rfl, by decide +kernel, _, rfl, rfl⟩
theorem lX7_258 : mVirt RX7 258 kX7_ringBody 7 1 := ⟨okX7_ringBody, Or.inl (mTT_mem t_737 rfl), mTT_mem t_739 rfl, mTT_mem t_53 rfl, by decide +kernel, _, rfl, rfl⟩
theorem lX7_279 : mVirt RX7 279 kX7_begin 7 1 := ⟨okX7_begin, Or.inl (mTT_mem t_741 rfl), mTT_mem t_743 rfl, mTT_mem t_54 rfl, by decide +kernel, _, rfl, rfl⟩
theorem lX7_261 : mVirt RX7 261 kX7_longBody 7 1 := ⟨okX7_longBody, Or.inl (mTT_mem t_745 rfl), mTT_mem t_747 rfl, mTT_mem t_55 rfl, by decide +kernel, _, rfl, rfl⟩
theorem lX7_264 : mVirt RX7 264 kX7_roundBody 7 1 := ⟨okX7_roundBody, Or.inl (mTT_mem t_749 rfl), mTT_mem t_751 rfl, mTT_mem t_56 rfl, by decide +kernel, _, rfl, rfl⟩
theorem lL_116 : mVirt RL 116 kX7_haunt 7 1 := ⟨okX7_haunt, Or.inl (mTT_mem t_753 rfl), mTT_mem t_754 rfl, mTT_mem t_755 rfl, by decide +kernel, _, rfl, rfl⟩
theorem lX7_267 : mVirt RX7 267 kX7_ringHaunt 7 0 := ⟨okX7_ringHaunt, Or.inl (mTT_mem t_757 rfl), mTT_mem t_759 rfl, mTT_mem t_57 rfl, by decide +kernel, _, rfl, rfl⟩
theorem lX7_270 : mVirt RX7 270 kX7_lentHaunt 7 1 := ⟨okX7_lentHaunt, Or.inl (mTT_mem t_761 rfl), mTT_mem t_763 rfl, mTT_mem t_58 rfl, by decide +kernel, _, rfl, rfl⟩
theorem lL_120 : mVirt RL 120 kX7_as 7 2 := ⟨okX7_as, Or.inl (mTT_mem t_765 rfl), mTT_mem t_766 rfl, mTT_mem t_767 rfl, by decide +kernel, _, rfl, rfl⟩
theorem lL_124 : mVirt RL 124 kX7_trace 7 0 := ⟨okX7_trace, Or.inl (mTT_mem t_769 rfl), mTT_mem t_770 rfl, mTT_mem t_771 rfl, by decide +kernel, _, rfl, rfl⟩
theorem lL_129 : mVirt RL 129 kX7_fault 7 0 := ⟨okX7_fault, Or.inl (mTT_mem t_773 rfl), mTT_mem t_774 rfl, mTT_mem t_775 rfl, by decide +kernel, _, rfl, rfl⟩
theorem lL_133 : mVirt RL 133 kX7_many 7 1 := ⟨okX7_many, Or.inl (mTT_mem t_777 rfl), mTT_mem t_778 rfl, mTT_mem t_779 rfl, by decide +kernel, _, rfl, rfl⟩
theorem lL_17 : mVirt RL 17 kX8_down 8 4 := ⟨okX8_down, Or.inl (mTT_mem t_897 rfl), mTT_mem t_898 rfl, mTT_mem t_899 rfl, by decide +kernel, _, rfl, rfl⟩
theorem lX8_101 : mStat RX8 101 kX8_isSheet 1 := ⟨okX8_isSheet, Or.inl (mTT_mem t_901 rfl), mTT_mem t_902 rfl, by decide +kernel⟩
theorem lX8_88 : mStat RX8 88 kX8_within 3 := ⟨okX8_within, Or.inl (mTT_mem t_904 rfl), mTT_mem t_905 rfl, by decide +kernel⟩
theorem lX8_105 : mStat RX8 105 kX8_isSort 1 := ⟨okX8_isSort, Or.inl (mTT_mem t_907 rfl), mTT_mem t_908 rfl, by decide +kernel⟩
theorem lX8_108 : mVirt RX8 108 kX8_against 8 4 := ⟨okX8_against, Or.inl (mTT_mem t_910 rfl), mTT_mem t_912 rfl, mTT_mem t_59 rfl, by decide +kernel, _, rfl, rfl⟩
theorem lX8_112 : mVirt RX8 112 kX8_fails 8 1 := ⟨okX8_fails, Or.inl (mTT_mem t_914 rfl), mTT_mem t_916 rfl, mTT_mem t_60 rfl, by decide +kernel, _, rfl, rfl⟩
theorem lX8_116 : mVirt RX8 116 kX8_readDown 8 1 := ⟨okX8_readDown, Or.inl (mTT_mem t_918 rfl), mTT_mem t_920 rfl, mTT_mem t_61 rfl, by decide +kernel, _, rfl, rfl⟩
theorem lX8_134 : mVirt RX8 134 kX8_isSign 8 2 := ⟨okX8_isSign, Or.inl (mTT_mem t_922 rfl), mTT_mem t_924 rfl, mTT_mem t_62 rfl, by decide +kernel, _, rfl, rfl⟩
theorem lX8_138 : mVirt RX8 138 kX8_readBarrow 8 1 := ⟨okX8_readBarrow, Or.inl (mTT_mem t_926 rfl), mTT_mem t_928 rfl, mTT_mem t_63 rfl, by decide +kernel, _, rfl, rfl⟩
theorem lX8_144 : mVirt RX8 144 kX8_digit 8 3 := ⟨okX8_digit, Or.inl (mTT_mem t_930 rfl), mTT_mem t_932 rfl, mTT_mem t_64 rfl, by decide +kernel, _, rfl, rfl⟩
theorem lX8_141 : mVirt RX8 141 kX8_readWalker 8 1 := ⟨okX8_readWalker, Or.inl (mTT_mem t_934 rfl), mTT_mem t_936 rfl, mTT_mem t_65 rfl, by decide +kernel, _, rfl, rfl⟩
theorem lX8_119 : mVirt RX8 119 kX8_takeDown 8 0 := ⟨okX8_takeDown, Or.inl (mTT_mem t_938 rfl), mTT_mem t_940 rfl, mTT_mem t_66 rfl, by decide +kernel, _, rfl, rfl⟩
theorem lL_22 : mVirt RL 22 kX8_ofBarrow 8 2 := ⟨okX8_ofBarrow, Or.inl (mTT_mem t_942 rfl), mTT_mem t_943 rfl, mTT_mem t_944 rfl, by decide +kernel, _, rfl, rfl⟩
theorem lX8_152 : mVirt RX8 152 kX8_isBarrow 8 1 := ⟨okX8_isBarrow, Or.inl (mTT_mem t_946 rfl), mTT_mem t_948 rfl, mTT_mem t_67 rfl, by decide +kernel, _, rfl, rfl⟩
theorem lX8_155 : mVirt RX8 155 kX8_holdsOf 8 1 := ⟨okX8_holdsOf, Or.inl (mTT_mem t_950 rfl), mTT_mem t_952 rfl, mTT_mem t_68 rfl, by decide +kernel, _, rfl, rfl⟩
theorem lX8_148 : mStat RX8 148 kX8_holdsBy 2 := ⟨okX8_holdsBy, Or.inl (mTT_mem t_954 rfl), mTT_mem t_955 rfl, by decide +kernel⟩
theorem lX8_158 : mVirt RX8 158 kX8_lodgersOf 8 1 := ⟨okX8_lodgersOf, Or.inl (mTT_mem t_957 rfl), mTT_mem t_959 rfl, mTT_mem t_69 rfl, by decide +kernel, _, rfl, rfl⟩
theorem lL_26 : mVirt RL 26 kX8_ofWalker 8 2 := ⟨okX8_ofWalker, Or.inl (mTT_mem t_961 rfl), mTT_mem t_962 rfl, mTT_mem t_963 rfl, by decide +kernel, _, rfl, rfl⟩
theorem lX8_161 : mVirt RX8 161 kX8_isWalker 8 1 := ⟨okX8_isWalker, Or.inl (mTT_mem t_965 rfl), mTT_mem t_967 rfl, mTT_mem t_70 rfl, by decide +kernel, _, rfl, rfl⟩
theorem lX8_164 : mStat RX8 164 kX8_dreamOf 2 := ⟨okX8_dreamOf, Or.inl (mTT_mem t_969 rfl), mTT_mem t_970 rfl, by decide +kernel⟩
theorem lL_30 : mVirt RL 30 kX8_charge 8 2 := ⟨okX8_charge, Or.inl (mTT_mem t_972 rfl), mTT_mem t_973 rfl, mTT_mem t_974 rfl, by decide +kernel, _, rfl, rfl⟩
theorem lL_34 : mVirt RL 34 kX8_earn 8 2 := ⟨okX8_earn, Or.inl (mTT_mem t_976 rfl), mTT_mem t_977 rfl, mTT_mem t_978 rfl, by decide +kernel, _, rfl, rfl⟩
theorem lL_38 : mVirt RL 38 kX8_lodge 8 2 := ⟨okX8_lodge, Or.inl (mTT_mem t_980 rfl), mTT_mem t_981 rfl, mTT_mem t_982 rfl, by decide +kernel, _, rfl, rfl⟩
theorem lX8_177 : mVirt RX8 177 kX8_doLodge 8 2 := ⟨okX8_doLodge, Or.inl (mTT_mem t_984 rfl), mTT_mem t_986 rfl, mTT_mem t_71 rfl, by decide +kernel, _, rfl, rfl⟩
theorem lX8_171 : mVirt RX8 171 kX8_mayGo 8 2 := ⟨okX8_mayGo, Or.inl (mTT_mem t_988 rfl), mTT_mem t_990 rfl, mTT_mem t_72 rfl, by decide +kernel, _, rfl, rfl⟩
theorem lX8_168 : mStat RX8 168 kX8_apart 2 := ⟨okX8_apart, Or.inl (mTT_mem t_992 rfl), mTT_mem t_993 rfl, by decide +kernel⟩
theorem lX8_174 : mStat RX8 174 kX8_size 1 := ⟨okX8_size, Or.inl (mTT_mem t_995 rfl), mTT_mem t_996 rfl, by decide +kernel⟩
theorem lL_43 : mVirt RL 43 kX8_leave 8 1 := ⟨okX8_leave, Or.inl (mTT_mem t_998 rfl), mTT_mem t_999 rfl, mTT_mem t_1000 rfl, by decide +kernel, _, rfl, rfl⟩
theorem lL_47 : mVirt RL 47 kX8_night 8 1 := ⟨okX8_night, Or.inl (mTT_mem t_1002 rfl), mTT_mem t_1003 rfl, mTT_mem t_1004 rfl, by decide +kernel, _, rfl, rfl⟩
theorem lX8_180 : mVirt RX8 180 kX8_goNight 8 0 := ⟨okX8_goNight, Or.inl (mTT_mem t_1006 rfl), mTT_mem t_1008 rfl, mTT_mem t_73 rfl, by decide +kernel, _, rfl, rfl⟩
theorem lL_52 : mVirt RL 52 kX8_season 8 5 := ⟨okX8_season, Or.inl (mTT_mem t_1010 rfl), mTT_mem t_1011 rfl, mTT_mem t_1012 rfl, by decide +kernel, _, rfl, rfl⟩
theorem lX8_190 : mVirt RX8 190 kX8_refusesPair 8 2 := ⟨okX8_refusesPair, Or.inl (mTT_mem t_1014 rfl), mTT_mem t_1016 rfl, mTT_mem t_74 rfl, by decide +kernel, _, rfl, rfl⟩
theorem lX8_193 : mVirt RX8 193 kX8_keep 8 0 := ⟨okX8_keep, Or.inl (mTT_mem t_1018 rfl), mTT_mem t_1020 rfl, mTT_mem t_75 rfl, by decide +kernel, _, rfl, rfl⟩
theorem lX8_196 : mVirt RX8 196 kX8_goSeason 8 2 := ⟨okX8_goSeason, Or.inl (mTT_mem t_1022 rfl), mTT_mem t_1024 rfl, mTT_mem t_76 rfl, by decide +kernel, _, rfl, rfl⟩
theorem lX8_187 : mVirt RX8 187 kX8_does 8 2 := ⟨okX8_does, Or.inl (mTT_mem t_1026 rfl), mTT_mem t_1028 rfl, mTT_mem t_77 rfl, by decide +kernel, _, rfl, rfl⟩
theorem lX8_199 : mVirt RX8 199 kX8_tellSeason 8 1 := ⟨okX8_tellSeason, Or.inl (mTT_mem t_1030 rfl), mTT_mem t_1032 rfl, mTT_mem t_78 rfl, by decide +kernel, _, rfl, rfl⟩
theorem lX8_205 : mVirt RX8 205 kX8_whoLodges 8 0 := ⟨okX8_whoLodges, Or.inl (mTT_mem t_1034 rfl), mTT_mem t_1036 rfl, mTT_mem t_79 rfl, by decide +kernel, _, rfl, rfl⟩
theorem lX8_202 : mVirt RX8 202 kX8_putBack 8 0 := ⟨okX8_putBack, Or.inl (mTT_mem t_1038 rfl), mTT_mem t_1040 rfl, mTT_mem t_80 rfl, by decide +kernel, _, rfl, rfl⟩
theorem lL_56 : mVirt RL 56 kX8_housed 8 1 := ⟨okX8_housed, Or.inl (mTT_mem t_1042 rfl), mTT_mem t_1043 rfl, mTT_mem t_1044 rfl, by decide +kernel, _, rfl, rfl⟩
theorem lX8_228 : mVirt RX8 228 kX8_findHoused 8 1 := ⟨okX8_findHoused, Or.inl (mTT_mem t_1046 rfl), mTT_mem t_1048 rfl, mTT_mem t_81 rfl, by decide +kernel, _, rfl, rfl⟩
theorem lX8_215 : mVirt RX8 215 kX8_rowsOf 8 0 := ⟨okX8_rowsOf, Or.inl (mTT_mem t_1050 rfl), mTT_mem t_1052 rfl, mTT_mem t_82 rfl, by decide +kernel, _, rfl, rfl⟩
theorem lX8_218 : mVirt RX8 218 kX8_rowOf 8 1 := ⟨okX8_rowOf, Or.inl (mTT_mem t_1054 rfl), mTT_mem t_1056 rfl, mTT_mem t_83 rfl, by decide +kernel, _, rfl, rfl⟩
theorem lX8_225 : mVirt RX8 225 kX8_canRow 8 1 := ⟨okX8_canRow, Or.inl (mTT_mem t_1058 rfl), mTT_mem t_1060 rfl, mTT_mem t_84 rfl, by decide +kernel, _, rfl, rfl⟩
theorem lX8_208 : mVirt RX8 208 kX8_isHeld 8 0 := ⟨okX8_isHeld, Or.inl (mTT_mem t_1062 rfl), mTT_mem t_1064 rfl, mTT_mem t_85 rfl, by decide +kernel, _, rfl, rfl⟩
theorem lL_60 : mVirt RL 60 kX8_ploughed 8 1 := ⟨okX8_ploughed, Or.inl (mTT_mem t_1066 rfl), mTT_mem t_1067 rfl, mTT_mem t_1068 rfl, by decide +kernel, _, rfl, rfl⟩
theorem lL_64 : mVirt RL 64 kX8_way 8 2 := ⟨okX8_way, Or.inl (mTT_mem t_1070 rfl), mTT_mem t_1071 rfl, mTT_mem t_1072 rfl, by decide +kernel, _, rfl, rfl⟩
theorem lX8_231 : mVirt RX8 231 kX8_stepOn 8 2 := ⟨okX8_stepOn, Or.inl (mTT_mem t_1074 rfl), mTT_mem t_1076 rfl, mTT_mem t_86 rfl, by decide +kernel, _, rfl, rfl⟩
theorem lL_68 : mVirt RL 68 kX8_lain 8 4 := ⟨okX8_lain, Or.inl (mTT_mem t_1078 rfl), mTT_mem t_1079 rfl, mTT_mem t_1080 rfl, by decide +kernel, _, rfl, rfl⟩
theorem lX8_235 : mVirt RX8 235 kX8_areDreams 8 1 := ⟨okX8_areDreams, Or.inl (mTT_mem t_1082 rfl), mTT_mem t_1084 rfl, mTT_mem t_87 rfl, by decide +kernel, _, rfl, rfl⟩
theorem lL_73 : mVirt RL 73 kX8_reading 8 3 := ⟨okX8_reading, Or.inl (mTT_mem t_1086 rfl), mTT_mem t_1087 rfl, mTT_mem t_1088 rfl, by decide +kernel, _, rfl, rfl⟩
theorem lL_77 : mVirt RL 77 kX8_back 8 1 := ⟨okX8_back, Or.inl (mTT_mem t_1090 rfl), mTT_mem t_1091 rfl, mTT_mem t_1092 rfl, by decide +kernel, _, rfl, rfl⟩
theorem lL_81 : mVirt RL 81 kX8_rooms 8 1 := ⟨okX8_rooms, Or.inl (mTT_mem t_1094 rfl), mTT_mem t_1095 rfl, mTT_mem t_1096 rfl, by decide +kernel, _, rfl, rfl⟩
theorem lX8_238 : mVirt RX8 238 kX8_areSo 8 0 := ⟨okX8_areSo, Or.inl (mTT_mem t_1098 rfl), mTT_mem t_1100 rfl, mTT_mem t_88 rfl, by decide +kernel, _, rfl, rfl⟩
theorem lL_85 : mVirt RL 85 kX8_kinds 8 1 := ⟨okX8_kinds, Or.inl (mTT_mem t_1102 rfl), mTT_mem t_1103 rfl, mTT_mem t_1104 rfl, by decide +kernel, _, rfl, rfl⟩
theorem lL_90 : mVirt RL 90 kX8_odds 8 2 := ⟨okX8_odds, Or.inl (mTT_mem t_1106 rfl), mTT_mem t_1107 rfl, mTT_mem t_1108 rfl, by decide +kernel, _, rfl, rfl⟩
theorem lX8_241 : mStat RX8 241 kX8_inLeastTerms 3 := ⟨okX8_inLeastTerms, Or.inl (mTT_mem t_1111 rfl), mTT_mem t_1112 rfl, by decide +kernel⟩
theorem lL_94 : mVirt RL 94 kX8_sheet 8 3 := ⟨okX8_sheet, Or.inl (mTT_mem t_1114 rfl), mTT_mem t_1115 rfl, mTT_mem t_1116 rfl, by decide +kernel, _, rfl, rfl⟩
theorem lL_98 : mVirt RL 98 kX8_lose 8 1 := ⟨okX8_lose, Or.inl (mTT_mem t_1118 rfl), mTT_mem t_1119 rfl, mTT_mem t_1120 rfl, by decide +kernel, _, rfl, rfl⟩
theorem lL_102 : mVirt RL 102 kX8_put 8 3 := ⟨okX8_put, Or.inl (mTT_mem t_1122 rfl), mTT_mem t_1123 rfl, mTT_mem t_1124 rfl, by decide +kernel, _, rfl, rfl⟩
theorem lL_107 : mVirt RL 107 kX8_cell 8 3 := ⟨okX8_cell, Or.inl (mTT_mem t_1126 rfl), mTT_mem t_1127 rfl, mTT_mem t_1128 rfl, by decide +kernel, _, rfl, rfl⟩
theorem lX8_245 : mVirt RX8 245 kX8_lost 8 1 := ⟨okX8_lost, Or.inl (mTT_mem t_1130 rfl), mTT_mem t_1132 rfl, mTT_mem t_89 rfl, by decide +kernel, _, rfl, rfl⟩
theorem lL_111 : mVirt RL 111 kX8_copy 8 5 := ⟨okX8_copy, Or.inl (mTT_mem t_1134 rfl), mTT_mem t_1135 rfl, mTT_mem t_1136 rfl, by decide +kernel, _, rfl, rfl⟩
theorem lL_115 : mVirt RL 115 kX8_tell 8 1 := ⟨okX8_tell, Or.inl (mTT_mem t_1138 rfl), mTT_mem t_1139 rfl, mTT_mem t_1140 rfl, by decide +kernel, _, rfl, rfl⟩
theorem lX8_252 : mVirt RX8 252 kX8_begins 8 1 := ⟨okX8_begins, Or.inl (mTT_mem t_1142 rfl), mTT_mem t_1144 rfl, mTT_mem t_90 rfl, by decide +kernel, _, rfl, rfl⟩
theorem lL_119 : mVirt RL 119 kX8_haunt 8 1 := ⟨okX8_haunt, Or.inl (mTT_mem t_1146 rfl), mTT_mem t_1147 rfl, mTT_mem t_1148 rfl, by decide +kernel, _, rfl, rfl⟩
theorem lL_123 : mVirt RL 123 kX8_as 8 2 := ⟨okX8_as, Or.inl (mTT_mem t_1150 rfl), mTT_mem t_1151 rfl, mTT_mem t_1152 rfl, by decide +kernel, _, rfl, rfl⟩
theorem lL_128 : mVirt RL 128 kX8_trace 8 0 := ⟨okX8_trace, Or.inl (mTT_mem t_1154 rfl), mTT_mem t_1155 rfl, mTT_mem t_1156 rfl, by decide +kernel, _, rfl, rfl⟩
theorem lL_132 : mVirt RL 132 kX8_fault 8 0 := ⟨okX8_fault, Or.inl (mTT_mem t_1158 rfl), mTT_mem t_1159 rfl, mTT_mem t_1160 rfl, by decide +kernel, _, rfl, rfl⟩
theorem lL_136 : mVirt RL 136 kX8_many 8 1 := ⟨okX8_many, Or.inl (mTT_mem t_1162 rfl), mTT_mem t_1163 rfl, mTT_mem t_1164 rfl, by decide +kernel, _, rfl, rfl⟩
theorem lX7_67 : mStat RX7 67 kX5_isSheet 1 := ⟨okX5_isSheet, Or.inr ⟨_, t_356⟩, mTT_mem t_357 rfl, by decide +kernel⟩
theorem lX7_74 : mVirt RX7 74 kX5_faultOfRow 5 2 := ⟨okX5_faultOfRow, Or.inr ⟨_, t_362⟩, mTT_mem t_364 rfl, mTT_mem t_0 rfl, by decide +kernel, _, rfl, rfl⟩
theorem lX7_78 : mVirt RX7 78 kX5_faultOfCells 5 3 := ⟨okX5_faultOfCells, Or.inr ⟨_, t_371⟩, mTT_mem t_373 rfl, mTT_mem t_2 rfl, by decide +kernel, _, rfl, rfl⟩
theorem lX7_82 : mVirt RX7 82 kX6_load 6 4 := ⟨okX6_load, Or.inr ⟨_, t_375⟩, mTT_mem t_377 rfl, mTT_mem t_3 rfl, by decide +kernel, _, rfl, rfl⟩
theorem lX6_30 : mVirt RX6 30 kX5_valueAt 5 2 := ⟨okX5_valueAt, Or.inr ⟨_, t_385⟩, mTT_mem t_387 rfl, mTT_mem t_4 rfl, by decide +kernel, _, rfl, rfl⟩
theorem lX7_86 : mVirt RX7 86 kX6_firstFault 6 0 := ⟨okX6_firstFault, Or.inr ⟨_, t_393⟩, mTT_mem t_395 rfl, mTT_mem t_6 rfl, by decide +kernel, _, rfl, rfl⟩
theorem lX7_90 : mVirt RX7 90 kX6_makeAnew 6 1 := ⟨okX6_makeAnew, Or.inr ⟨_, t_417⟩, mTT_mem t_419 rfl, mTT_mem t_12 rfl, by decide +kernel, _, rfl, rfl⟩
theorem lX7_100 : mVirt RX7 100 kX0_hasBarrow 0 1 := ⟨okX0_hasBarrow, Or.inr ⟨_, t_429⟩, mTT_mem t_431 rfl, mTT_mem t_14 rfl, by decide +kernel, _, rfl, rfl⟩
theorem lX7_116 : mVirt RX7 116 kX0_holdsOf 0 1 := ⟨okX0_holdsOf, Or.inr ⟨_, t_433⟩, mTT_mem t_435 rfl, mTT_mem t_15 rfl, by decide +kernel, _, rfl, rfl⟩
theorem lX0_53 : mStat RX0 53 kX7_holdsAs 2 := ⟨okX7_holdsAs, Or.inr ⟨_, t_438⟩, mTT_mem t_439 rfl, by decide +kernel⟩
theorem lX7_120 : mVirt RX7 120 kX0_lodgersOf 0 1 := ⟨okX0_lodgersOf, Or.inr ⟨_, t_441⟩, mTT_mem t_443 rfl, mTT_mem t_16 rfl, by decide +kernel, _, rfl, rfl⟩
theorem lX7_123 : mVirt RX7 123 kX0_hasWalker 0 1 := ⟨okX0_hasWalker, Or.inr ⟨_, t_449⟩, mTT_mem t_451 rfl, mTT_mem t_17 rfl, by decide +kernel, _, rfl, rfl⟩
theorem lX7_141 : mVirt RX7 141 kX0_dreamOf 0 1 := ⟨okX0_dreamOf, Or.inr ⟨_, t_453⟩, mTT_mem t_455 rfl, mTT_mem t_18 rfl, by decide +kernel, _, rfl, rfl⟩
theorem lX7_144 : mVirt RX7 144 kX0_enter 0 2 := ⟨okX0_enter, Or.inr ⟨_, t_470⟩, mTT_mem t_472 rfl, mTT_mem t_19 rfl, by decide +kernel, _, rfl, rfl⟩
theorem lX0_60 : mStat RX0 60 kX7_isNear 3 := ⟨okX7_isNear, Or.inr ⟨_, t_478⟩, mTT_mem t_479 rfl, by decide +kernel⟩
theorem lX7_153 : mVirt RX7 153 kX0_goOut 0 1 := ⟨okX0_goOut, Or.inr ⟨_, t_497⟩, mTT_mem t_499 rfl, mTT_mem t_21 rfl, by decide +kernel, _, rfl, rfl⟩
theorem lX7_156 : mVirt RX7 156 kX0_isThere 0 0 := ⟨okX0_isThere, Or.inr ⟨_, t_505⟩, mTT_mem t_507 rfl, mTT_mem t_22 rfl, by decide +kernel, _, rfl, rfl⟩
theorem lX7_160 : mVirt RX7 160 kX0_passNights 0 1 := ⟨okX0_passNights, Or.inr ⟨_, t_509⟩, mTT_mem t_511 rfl, mTT_mem t_23 rfl, by decide +kernel, _, rfl, rfl⟩
theorem lX7_163 : mStat RX7 163 kX4_isWhat 1 := ⟨okX4_isWhat, Or.inr ⟨_, t_521⟩, mTT_mem t_522 rfl, by decide +kernel⟩
theorem lX7_166 : mVirt RX7 166 kX4_load 4 5 := ⟨okX4_load, Or.inr ⟨_, t_524⟩, mTT_mem t_526 rfl, mTT_mem t_25 rfl, by decide +kernel, _, rfl, rfl⟩
theorem lX4_25 : mVirt RX4 25 kX0_become 0 1 := ⟨okX0_become, Or.inr ⟨_, t_528⟩, mTT_mem t_530 rfl, mTT_mem t_26 rfl, by decide +kernel, _, rfl, rfl⟩
theorem lX4_42 : mVirt RX4 42 kX5_valueAt 5 2 := ⟨okX5_valueAt, Or.inr ⟨_, t_534⟩, mTT_mem t_387 rfl, mTT_mem t_4 rfl, by decide +kernel, _, rfl, rfl⟩
theorem lX4_50 : mVirt RX4 50 kX0_hasBarrow 0 1 := ⟨okX0_hasBarrow, Or.inr ⟨_, t_539⟩, mTT_mem t_431 rfl, mTT_mem t_14 rfl, by decide +kernel, _, rfl, rfl⟩
theorem lX4_54 : mVirt RX4 54 kX0_hasWalker 0 1 := ⟨okX0_hasWalker, Or.inr ⟨_, t_540⟩, mTT_mem t_451 rfl, mTT_mem t_17 rfl, by decide +kernel, _, rfl, rfl⟩
theorem lX7_169 : mVirt RX7 169 kX4_play 4 0 := ⟨okX4_play, Or.inr ⟨_, t_541⟩, mTT_mem t_543 rfl, mTT_mem t_28 rfl, by decide +kernel, _, rfl, rfl⟩
theorem lX4_67 : mVirt RX4 67 kX0_goOut 0 1 := ⟨okX0_goOut, Or.inr ⟨_, t_549⟩, mTT_mem t_499 rfl, mTT_mem t_21 rfl, by decide +kernel, _, rfl, rfl⟩
theorem lX4_70 : mVirt RX4 70 kX0_enter 0 2 := ⟨okX0_enter, Or.inr ⟨_, t_550⟩, mTT_mem t_472 rfl, mTT_mem t_19 rfl, by decide +kernel, _, rfl, rfl⟩
theorem lX4_73 : mVirt RX4 73 kX0_passNights 0 1 := ⟨okX0_passNights, Or.inr ⟨_, t_551⟩, mTT_mem t_511 rfl, mTT_mem t_23 rfl, by decide +kernel, _, rfl, rfl⟩
theorem lX7_172 : mVirt RX7 172 kX4_answerTo 4 1 := ⟨okX4_answerTo, Or.inr ⟨_, t_552⟩, mTT_mem t_554 rfl, mTT_mem t_30 rfl, by decide +kernel, _, rfl, rfl⟩
theorem lX4_77 : mVirt RX4 77 kX0_allLodgers 0 0 := ⟨okX0_allLodgers, Or.inr ⟨_, t_556⟩, mTT_mem t_558 rfl, mTT_mem t_31 rfl, by decide +kernel, _, rfl, rfl⟩
theorem lX4_81 : mVirt RX4 81 kX0_meansOfAll 0 0 := ⟨okX0_meansOfAll, Or.inr ⟨_, t_560⟩, mTT_mem t_562 rfl, mTT_mem t_32 rfl, by decide +kernel, _, rfl, rfl⟩
theorem lX7_175 : mVirt RX7 175 kX1_search 1 2 := ⟨okX1_search, Or.inr ⟨_, t_568⟩, mTT_mem t_570 rfl, mTT_mem t_33 rfl, by decide +kernel, _, rfl, rfl⟩
theorem lX1_27 : mVirt RX1 27 kX0_holdsOf 0 1 := ⟨okX0_holdsOf, Or.inr ⟨_, t_572⟩, mTT_mem t_435 rfl, mTT_mem t_15 rfl, by decide +kernel, _, rfl, rfl⟩
theorem lX1_44 : mVirt RX1 44 kX0_hasWalker 0 1 := ⟨okX0_hasWalker, Or.inr ⟨_, t_577⟩, mTT_mem t_451 rfl, mTT_mem t_17 rfl, by decide +kernel, _, rfl, rfl⟩
theorem lX1_52 : mVirt RX1 52 kX0_suits 0 2 := ⟨okX0_suits, Or.inr ⟨_, t_582⟩, mTT_mem t_476 rfl, mTT_mem t_20 rfl, by decide +kernel, _, rfl, rfl⟩
theorem lX7_188 : mVirt RX7 188 kX0_fewestTo 0 2 := ⟨okX0_fewestTo, Or.inr ⟨_, t_591⟩, mTT_mem t_593 rfl, mTT_mem t_36 rfl, by decide +kernel, _, rfl, rfl⟩
theorem lX7_194 : mVirt RX7 194 kX2_load 2 4 := ⟨okX2_load, Or.inr ⟨_, t_606⟩, mTT_mem t_608 rfl, mTT_mem t_38 rfl, by decide +kernel, _, rfl, rfl⟩
theorem lX2_27 : mVirt RX2 27 kX5_valueAt 5 2 := ⟨okX5_valueAt, Or.inr ⟨_, t_610⟩, mTT_mem t_387 rfl, mTT_mem t_4 rfl, by decide +kernel, _, rfl, rfl⟩
theorem lX7_195 : mVirt RX7 195 kX2_search 2 2 := ⟨okX2_search, Or.inr ⟨_, t_611⟩, mTT_mem t_613 rfl, mTT_mem t_39 rfl, by decide +kernel, _, rfl, rfl⟩
theorem lX2_39 : mVirt RX2 39 kX0_holdsOf 0 1 := ⟨okX0_holdsOf, Or.inr ⟨_, t_615⟩, mTT_mem t_435 rfl, mTT_mem t_15 rfl, by decide +kernel, _, rfl, rfl⟩
theorem lX2_54 : mVirt RX2 54 kX0_hasWalker 0 1 := ⟨okX0_hasWalker, Or.inr ⟨_, t_620⟩, mTT_mem t_451 rfl, mTT_mem t_17 rfl, by decide +kernel, _, rfl, rfl⟩
theorem lX7_204 : mVirt RX7 204 kX3_hasRoom 3 0 := ⟨okX3_hasRoom, Or.inr ⟨_, t_637⟩, mTT_mem t_639 rfl, mTT_mem t_44 rfl, by decide +kernel, _, rfl, rfl⟩
theorem lX7_207 : mVirt RX7 207 kX3_note 3 3 := ⟨okX3_note, Or.inr ⟨_, t_641⟩, mTT_mem t_643 rfl, mTT_mem t_45 rfl, by decide +kernel, _, rfl, rfl⟩
theorem lX7_213 : mVirt RX7 213 kX3_areSo 3 3 := ⟨okX3_areSo, Or.inr ⟨_, t_655⟩, mTT_mem t_657 rfl, mTT_mem t_46 rfl, by decide +kernel, _, rfl, rfl⟩
theorem lX3_29 : mVirt RX3 29 kX0_holdsOf 0 1 := ⟨okX0_holdsOf, Or.inr ⟨_, t_659⟩, mTT_mem t_435 rfl, mTT_mem t_15 rfl, by decide +kernel, _, rfl, rfl⟩
theorem lX7_219 : mVirt RX7 219 kX0_waysToFill 0 1 := ⟨okX0_waysToFill, Or.inr ⟨_, t_669⟩, mTT_mem t_671 rfl, mTT_mem t_47 rfl, by decide +kernel, _, rfl, rfl⟩
theorem lX0_89 : mStat RX0 89 kX7_choices 2 := ⟨okX7_choices, Or.inr ⟨_, t_673⟩, mTT_mem t_674 rfl, by decide +kernel⟩
theorem lX0_93 : mStat RX0 93 kX7_power 2 := ⟨okX7_power, Or.inr ⟨_, t_676⟩, mTT_mem t_677 rfl, by decide +kernel⟩
theorem lX7_231 : mVirt RX7 231 kX5_renew 5 3 := ⟨okX5_renew, Or.inr ⟨_, t_687⟩, mTT_mem t_689 rfl, mTT_mem t_48 rfl, by decide +kernel, _, rfl, rfl⟩
theorem lX7_235 : mVirt RX7 235 kX5_hasNothing 5 1 := ⟨okX5_hasNothing, Or.inr ⟨_, t_695⟩, mTT_mem t_368 rfl, mTT_mem t_1 rfl, by decide +kernel, _, rfl, rfl⟩
theorem lX7_238 : mVirt RX7 238 kX5_empty 5 1 := ⟨okX5_empty, Or.inr ⟨_, t_696⟩, mTT_mem t_698 rfl, mTT_mem t_49 rfl, by decide +kernel, _, rfl, rfl⟩
theorem lX7_242 : mVirt RX7 242 kX5_faultOfCell 5 2 := ⟨okX5_faultOfCell, Or.inr ⟨_, t_704⟩, mTT_mem t_391 rfl, mTT_mem t_5 rfl, by decide +kernel, _, rfl, rfl⟩
theorem lX7_245 : mVirt RX7 245 kX5_setAt 5 3 := ⟨okX5_setAt, Or.inr ⟨_, t_705⟩, mTT_mem t_707 rfl, mTT_mem t_50 rfl, by decide +kernel, _, rfl, rfl⟩
theorem lX7_248 : mVirt RX7 248 kX5_valueAt 5 2 := ⟨okX5_valueAt, Or.inr ⟨_, t_716⟩, mTT_mem t_387 rfl, mTT_mem t_4 rfl, by decide +kernel, _, rfl, rfl⟩
theorem lX7_251 : mVirt RX7 251 kX5_faultOfPair 5 2 := ⟨okX5_faultOfPair, Or.inr ⟨_, t_721⟩, mTT_mem t_723 rfl, mTT_mem t_51 rfl, by decide +kernel, _, rfl, rfl⟩
theorem lX7_254 : mVirt RX7 254 kX5_move 5 5 := ⟨okX5_move, Or.inr ⟨_, t_725⟩, mTT_mem t_727 rfl, mTT_mem t_52 rfl, by decide +kernel, _, rfl, rfl⟩
theorem lX7_276 : mVirt RX7 276 kX0_allLodgers 0 0 := ⟨okX0_allLodgers, Or.inr ⟨_, t_781⟩, mTT_mem t_558 rfl, mTT_mem t_31 rfl, by decide +kernel, _, rfl, rfl⟩
theorem qJ6_265 : (Jvm.Cond.constant "java/lang/Integer" (265 : Nat) (1431655765 : Int32)) ∈ mTT := mTT_mem t_488 rfl
theorem qJ6_266 : (Jvm.Cond.constant "java/lang/Integer" (266 : Nat) (858993459 : Int32)) ∈ mTT := mTT_mem t_489 rfl
theorem qJ6_267 : (Jvm.Cond.constant "java/lang/Integer" (267 : Nat) (252645135 : Int32)) ∈ mTT := mTT_mem t_490 rfl
theorem qX7_217 : (Jvm.Cond.constantLong "BarrowNights" (217 : Nat) (-9223372036854775808 : Int64)) ∈ mTT := mTT_mem t_668 rfl
theorem qX8_86 : (Jvm.Cond.constantLong "BarrowNightsModel" (86 : Nat) (-9223372036854775808 : Int64)) ∈ mTT := mTT_mem t_1110 rfl
end
section
-- Math, System.arraycopy
theorem tc_m : (Jvm.Cond.initialized "java/lang/Math") ∈ lw_tbl := List.mem_of_getElem? (i := 101) (by decide +kernel)
theorem x_mmax {X : mX} {d : Nat} {M : mM} {Q : Option Value → mW → Prop} {pc : Nat} {L st : List Value} {w : mW} {x y : Int32} {idx : Nat} (hk : Cond.methodLink M.1.cls idx Lib.Math.max.name ∈ mTT) (hd : decode M.2.1 pc = .ok (.invokestatic idx, 3)) (hr : (st.map fun v => v.category).sum ≤ 8) (k : mJ X (d + 1) M Q (pc + 3) L (.int (if x < y then y else x) :: st) w) : mJ X (d + 1) M Q pc L (.int y :: .int x :: st) w := by
  intro p l e R s m args below meth c D cy as A H0 cells slots Z hC hX hE H locs ls hP hD hS hl
  have hts := hC.2.2.2.2.1
  have hrest : ((st.map (mTr as)).map fun v => v.category).sum ≤ 8 := by rw [List.map_map]; simpa [Function.comp_def, mTr_cat] using hr
  have h1 := hC.2.2.2.2.2.2.2.2.1
  have h2 := hC.2.2.2.2.2.2.2.2.2.1
  exact va_mmax hC.1 hC.2.1 (hC.2.2.1.trans hl.1.symm) hC.2.2.2.1 (hts _ hk) (hts _ (mTT_mem t_383 rfl)) (hts _ (mTT_mem tc_m rfl)) (hts _ (mTT_mem t_384 rfl)) (by omega) (by omega) hC.2.2.2.2.2.2.2.2.2.2.1 hC.2.2.2.2.2.2.2.2.2.2.2 hd (k p l e R s m args below meth c D cy as A H0 cells slots Z hC hX hE H locs ls hP hD hS hl)
theorem x_mmin {X : mX} {d : Nat} {M : mM} {Q : Option Value → mW → Prop} {pc : Nat} {L st : List Value} {w : mW} {x y : Int32} {idx : Nat} (hk : Cond.methodLink M.1.cls idx Lib.Math.min.name ∈ mTT) (hd : decode M.2.1 pc = .ok (.invokestatic idx, 3)) (hr : (st.map fun v => v.category).sum ≤ 8) (k : mJ X (d + 1) M Q (pc + 3) L (.int (if y < x then y else x) :: st) w) : mJ X (d + 1) M Q pc L (.int y :: .int x :: st) w := by
  intro p l e R s m args below meth c D cy as A H0 cells slots Z hC hX hE H locs ls hP hD hS hl
  have hts := hC.2.2.2.2.1
  have hrest : ((st.map (mTr as)).map fun v => v.category).sum ≤ 8 := by rw [List.map_map]; simpa [Function.comp_def, mTr_cat] using hr
  have h1 := hC.2.2.2.2.2.2.2.2.1
  have h2 := hC.2.2.2.2.2.2.2.2.2.1
  exact va_mmin hC.1 hC.2.1 (hC.2.2.1.trans hl.1.symm) hC.2.2.2.1 (hts _ hk) (hts _ (mTT_mem t_380 rfl)) (hts _ (mTT_mem tc_m rfl)) (hts _ (mTT_mem t_381 rfl)) (by omega) (by omega) hC.2.2.2.2.2.2.2.2.2.2.1 hC.2.2.2.2.2.2.2.2.2.2.2 hd (k p l e R s m args below meth c D cy as A H0 cells slots Z hC hX hE H locs ls hP hD hS hl)
theorem x_mabs {X : mX} {d : Nat} {M : mM} {Q : Option Value → mW → Prop} {pc : Nat} {L st : List Value} {w : mW} {x : Int32} {idx : Nat} (hk : Cond.methodLink M.1.cls idx Lib.Math.abs.name ∈ mTT) (hd : decode M.2.1 pc = .ok (.invokestatic idx, 3)) (hr : (st.map fun v => v.category).sum ≤ 8) (k : mJ X (d + 1) M Q (pc + 3) L (.int (if 0 ≤ x then x else 0 - x) :: st) w) : mJ X (d + 1) M Q pc L (.int x :: st) w := by
  intro p l e R s m args below meth c D cy as A H0 cells slots Z hC hX hE H locs ls hP hD hS hl
  have hts := hC.2.2.2.2.1
  have hrest : ((st.map (mTr as)).map fun v => v.category).sum ≤ 8 := by rw [List.map_map]; simpa [Function.comp_def, mTr_cat] using hr
  have h1 := hC.2.2.2.2.2.2.2.2.1
  have h2 := hC.2.2.2.2.2.2.2.2.2.1
  exact va_mabs hC.1 hC.2.1 (hC.2.2.1.trans hl.1.symm) hC.2.2.2.1 (hts _ hk) (hts _ (mTT_mem t_482 rfl)) (hts _ (mTT_mem tc_m rfl)) (hts _ (mTT_mem t_483 rfl)) (by omega) (by omega) hC.2.2.2.2.2.2.2.2.2.2.1 hC.2.2.2.2.2.2.2.2.2.2.2 hd (k p l e R s m args below meth c D cy as A H0 cells slots Z hC hX hE H locs ls hP hD hS hl)
theorem tc_a : (Jvm.Cond.methodLink "BarrowNights$Sheets" (39 : Nat) ({ cls := "java/lang/System", name := "arraycopy", desc := "(Ljava/lang/Object;ILjava/lang/Object;II)V" } : Jvm.MethodName)) ∈ lw_tbl := List.mem_of_getElem? (i := 730) (by decide +kernel)
theorem tc_b : (Jvm.Cond.native ({ cls := "java/lang/System", name := "arraycopy", desc := "(Ljava/lang/Object;ILjava/lang/Object;II)V" } : Jvm.MethodName)) ∈ lw_tbl := List.mem_of_getElem? (i := 732) (by decide +kernel)
theorem tc_c : (Jvm.Cond.static ({ cls := "java/lang/System", name := "arraycopy", desc := "(Ljava/lang/Object;ILjava/lang/Object;II)V" } : Jvm.MethodName)) ∈ lw_tbl := List.mem_of_getElem? (i := 731) (by decide +kernel)
theorem tc_d : (Jvm.Cond.initialized "java/lang/System") ∈ lw_tbl := List.mem_of_getElem? (i := 103) (by decide +kernel)
theorem x_copy {X : mX} {d : Nat} {M : mM} {Q : Option Value → mW → Prop} {pc : Nat} {L st : List Value} {w : mW} {a b n0 n1 : Nat} {f g : Nat → Int32} {sp dp n : Int32} (hM : M.1.cls = RX5) (hd : decode M.2.1 pc = .ok (.invokestatic 39, 3)) (ha : a < mCells) (hb : b < mCells) (hwa : w a = .inl (n0, f)) (hwb : w b = .inl (n1, g)) (h1 : ¬ sp < 0) (h2 : ¬ dp < 0) (h3 : ¬ n < 0) (h4 : sp.toNatClampNeg + n.toNatClampNeg ≤ n0) (h5 : dp.toNatClampNeg + n.toNatClampNeg ≤ n1) (hr : (st.map fun v => v.category).sum ≤ 8) (kk : mJ X (d + 1) M Q (pc + 3) L st (mUp w b (.inl (n1, va_cpy f g sp.toNatClampNeg dp.toNatClampNeg n.toNatClampNeg)))) : mJ X (d + 1) M Q pc L (.int n :: .int dp :: .ref b :: .int sp :: .ref a :: st) w := by
  intro p l e R s m args below meth c D cy as A H0 cells slots Z hC hX hE H locs ls hP hD hS hl
  have hts := hC.2.2.2.2.1
  have hrest : ((st.map (mTr as)).map fun v => v.category).sum ≤ 8 := by rw [List.map_map]; simpa [Function.comp_def, mTr_cat] using hr
  have h6 := hC.2.2.2.2.2.2.2.2.1
  have h7 := hC.2.2.2.2.2.2.2.2.2.1
  have hown : s.vm.findClass RX5 = some m.cls := by rw [← hM]; exact hC.2.2.2.1
  have hnf : nativeFrameWords "java/lang/System" "arraycopy" 5 = 7 := by decide +kernel
  refine va_copyi hC.1 hC.2.1 (hC.2.2.1.trans hl.1.symm) hown (hts _ (mTT_mem tc_a rfl)) (hts _ (mTT_mem tc_b rfl)) (hts _ (mTT_mem tc_c rfl)) (hts _ (mTT_mem tc_d rfl)) hC.2.2.2.2.2.2.1 hP hD hS a b 0 0 (mE_inl cy as ha hwa) (mE_inl cy as hb hwb) rfl rfl rfl h1 h2 h3 h4 h5 (fun _ _ => rfl) (by omega) (by rw [hnf]; omega) hd (fun H1 locs1 hP1 hD1 hS1 => ?_)
  have hset : (mWs cy as w).set b (as b, .inl (cy, n1, .inl (va_cpy f g sp.toNatClampNeg dp.toNatClampNeg n.toNatClampNeg))) = mWs cy as (mUp w b (.inl (n1, va_cpy f g sp.toNatClampNeg dp.toNatClampNeg n.toNatClampNeg))) := mWs_set cy as w hb (.inl (n1, va_cpy f g sp.toNatClampNeg dp.toNatClampNeg n.toNatClampNeg))
  rw [hset] at hP1 hD1
  exact kk p l e R s m args below meth c D cy as A H0 cells slots Z hC hX hE H1 locs1 ls hP1 hD1 hS1 hl
end
section
theorem dJ6_bitCount_0f7a4_0 : decode cJ6_bitCount_0f7a4 0 = .ok (.iload_n 0, 1) := by decide +kernel
theorem dJ6_bitCount_0f7a4_1 : decode cJ6_bitCount_0f7a4 1 = .ok (.iload_n 0, 1) := by decide +kernel
theorem dJ6_bitCount_0f7a4_2 : decode cJ6_bitCount_0f7a4 2 = .ok (.iconst 1, 1) := by decide +kernel
theorem dJ6_bitCount_0f7a4_3 : decode cJ6_bitCount_0f7a4 3 = .ok (.iushr, 1) := by decide +kernel
theorem dJ6_bitCount_0f7a4_4 : decode cJ6_bitCount_0f7a4 4 = .ok (.ldc_w 265, 3) := by decide +kernel
theorem dJ6_bitCount_0f7a4_7 : decode cJ6_bitCount_0f7a4 7 = .ok (.iand, 1) := by decide +kernel
theorem dJ6_bitCount_0f7a4_8 : decode cJ6_bitCount_0f7a4 8 = .ok (.isub, 1) := by decide +kernel
theorem dJ6_bitCount_0f7a4_9 : decode cJ6_bitCount_0f7a4 9 = .ok (.istore_n 0, 1) := by decide +kernel
theorem dJ6_bitCount_0f7a4_10 : decode cJ6_bitCount_0f7a4 10 = .ok (.iload_n 0, 1) := by decide +kernel
theorem dJ6_bitCount_0f7a4_11 : decode cJ6_bitCount_0f7a4 11 = .ok (.ldc_w 266, 3) := by decide +kernel
theorem dJ6_bitCount_0f7a4_14 : decode cJ6_bitCount_0f7a4 14 = .ok (.iand, 1) := by decide +kernel
theorem dJ6_bitCount_0f7a4_15 : decode cJ6_bitCount_0f7a4 15 = .ok (.iload_n 0, 1) := by decide +kernel
theorem dJ6_bitCount_0f7a4_16 : decode cJ6_bitCount_0f7a4 16 = .ok (.iconst 2, 1) := by decide +kernel
theorem dJ6_bitCount_0f7a4_17 : decode cJ6_bitCount_0f7a4 17 = .ok (.iushr, 1) := by decide +kernel
theorem dJ6_bitCount_0f7a4_18 : decode cJ6_bitCount_0f7a4 18 = .ok (.ldc_w 266, 3) := by decide +kernel
theorem dJ6_bitCount_0f7a4_21 : decode cJ6_bitCount_0f7a4 21 = .ok (.iand, 1) := by decide +kernel
theorem dJ6_bitCount_0f7a4_22 : decode cJ6_bitCount_0f7a4 22 = .ok (.iadd, 1) := by decide +kernel
theorem dJ6_bitCount_0f7a4_23 : decode cJ6_bitCount_0f7a4 23 = .ok (.istore_n 0, 1) := by decide +kernel
theorem dJ6_bitCount_0f7a4_24 : decode cJ6_bitCount_0f7a4 24 = .ok (.iload_n 0, 1) := by decide +kernel
theorem dJ6_bitCount_0f7a4_25 : decode cJ6_bitCount_0f7a4 25 = .ok (.iload_n 0, 1) := by decide +kernel
theorem dJ6_bitCount_0f7a4_26 : decode cJ6_bitCount_0f7a4 26 = .ok (.iconst 4, 1) := by decide +kernel
theorem dJ6_bitCount_0f7a4_27 : decode cJ6_bitCount_0f7a4 27 = .ok (.iushr, 1) := by decide +kernel
theorem dJ6_bitCount_0f7a4_28 : decode cJ6_bitCount_0f7a4 28 = .ok (.iadd, 1) := by decide +kernel
theorem dJ6_bitCount_0f7a4_29 : decode cJ6_bitCount_0f7a4 29 = .ok (.ldc_w 267, 3) := by decide +kernel
theorem dJ6_bitCount_0f7a4_32 : decode cJ6_bitCount_0f7a4 32 = .ok (.iand, 1) := by decide +kernel
theorem dJ6_bitCount_0f7a4_33 : decode cJ6_bitCount_0f7a4 33 = .ok (.istore_n 0, 1) := by decide +kernel
theorem dJ6_bitCount_0f7a4_34 : decode cJ6_bitCount_0f7a4 34 = .ok (.iload_n 0, 1) := by decide +kernel
theorem dJ6_bitCount_0f7a4_35 : decode cJ6_bitCount_0f7a4 35 = .ok (.iload_n 0, 1) := by decide +kernel
theorem dJ6_bitCount_0f7a4_36 : decode cJ6_bitCount_0f7a4 36 = .ok (.bipush 8, 2) := by decide +kernel
theorem dJ6_bitCount_0f7a4_38 : decode cJ6_bitCount_0f7a4 38 = .ok (.iushr, 1) := by decide +kernel
theorem dJ6_bitCount_0f7a4_39 : decode cJ6_bitCount_0f7a4 39 = .ok (.iadd, 1) := by decide +kernel
theorem dJ6_bitCount_0f7a4_40 : decode cJ6_bitCount_0f7a4 40 = .ok (.istore_n 0, 1) := by decide +kernel
theorem dJ6_bitCount_0f7a4_41 : decode cJ6_bitCount_0f7a4 41 = .ok (.iload_n 0, 1) := by decide +kernel
theorem dJ6_bitCount_0f7a4_42 : decode cJ6_bitCount_0f7a4 42 = .ok (.iload_n 0, 1) := by decide +kernel
theorem dJ6_bitCount_0f7a4_43 : decode cJ6_bitCount_0f7a4 43 = .ok (.bipush 16, 2) := by decide +kernel
theorem dJ6_bitCount_0f7a4_45 : decode cJ6_bitCount_0f7a4 45 = .ok (.iushr, 1) := by decide +kernel
theorem dJ6_bitCount_0f7a4_46 : decode cJ6_bitCount_0f7a4 46 = .ok (.iadd, 1) := by decide +kernel
theorem dJ6_bitCount_0f7a4_47 : decode cJ6_bitCount_0f7a4 47 = .ok (.istore_n 0, 1) := by decide +kernel
theorem dJ6_bitCount_0f7a4_48 : decode cJ6_bitCount_0f7a4 48 = .ok (.iload_n 0, 1) := by decide +kernel
theorem dJ6_bitCount_0f7a4_49 : decode cJ6_bitCount_0f7a4 49 = .ok (.bipush 63, 2) := by decide +kernel
theorem dJ6_bitCount_0f7a4_51 : decode cJ6_bitCount_0f7a4 51 = .ok (.iand, 1) := by decide +kernel
theorem dJ6_bitCount_0f7a4_52 : decode cJ6_bitCount_0f7a4 52 = .ok (.ireturn, 1) := by decide +kernel
end
section
theorem dX0_init_0 : decode cX0_init 0 = .ok (.aload_n 0, 1) := by decide +kernel
theorem dX0_init_1 : decode cX0_init 1 = .ok (.invokespecial 3, 3) := by decide +kernel
theorem dX0_init_4 : decode cX0_init 4 = .ok (.aload_n 0, 1) := by decide +kernel
theorem dX0_init_5 : decode cX0_init 5 = .ok (.iconst 5, 1) := by decide +kernel
theorem dX0_init_6 : decode cX0_init 6 = .ok (.newarray .int, 2) := by decide +kernel
theorem dX0_init_8 : decode cX0_init 8 = .ok (.putfield 9, 3) := by decide +kernel
theorem dX0_init_11 : decode cX0_init 11 = .ok (.aload_n 0, 1) := by decide +kernel
theorem dX0_init_12 : decode cX0_init 12 = .ok (.iconst 5, 1) := by decide +kernel
theorem dX0_init_13 : decode cX0_init 13 = .ok (.newarray .int, 2) := by decide +kernel
theorem dX0_init_15 : decode cX0_init 15 = .ok (.putfield 15, 3) := by decide +kernel
theorem dX0_init_18 : decode cX0_init 18 = .ok (.aload_n 0, 1) := by decide +kernel
theorem dX0_init_19 : decode cX0_init 19 = .ok (.iconst 5, 1) := by decide +kernel
theorem dX0_init_20 : decode cX0_init 20 = .ok (.newarray .int, 2) := by decide +kernel
theorem dX0_init_22 : decode cX0_init 22 = .ok (.putfield 18, 3) := by decide +kernel
theorem dX0_init_25 : decode cX0_init 25 = .ok (.aload_n 0, 1) := by decide +kernel
theorem dX0_init_26 : decode cX0_init 26 = .ok (.iconst 5, 1) := by decide +kernel
theorem dX0_init_27 : decode cX0_init 27 = .ok (.newarray .int, 2) := by decide +kernel
theorem dX0_init_29 : decode cX0_init 29 = .ok (.putfield 21, 3) := by decide +kernel
theorem dX0_init_32 : decode cX0_init 32 = .ok (.aload_n 0, 1) := by decide +kernel
theorem dX0_init_33 : decode cX0_init 33 = .ok (.iconst 5, 1) := by decide +kernel
theorem dX0_init_34 : decode cX0_init 34 = .ok (.newarray .int, 2) := by decide +kernel
theorem dX0_init_36 : decode cX0_init 36 = .ok (.putfield 24, 3) := by decide +kernel
theorem dX0_init_39 : decode cX0_init 39 = .ok (.aload_n 0, 1) := by decide +kernel
theorem dX0_init_40 : decode cX0_init 40 = .ok (.iconst 5, 1) := by decide +kernel
theorem dX0_init_41 : decode cX0_init 41 = .ok (.newarray .int, 2) := by decide +kernel
theorem dX0_init_43 : decode cX0_init 43 = .ok (.putfield 27, 3) := by decide +kernel
theorem dX0_init_46 : decode cX0_init 46 = .ok (.aload_n 0, 1) := by decide +kernel
theorem dX0_init_47 : decode cX0_init 47 = .ok (.iconst 5, 1) := by decide +kernel
theorem dX0_init_48 : decode cX0_init 48 = .ok (.newarray .int, 2) := by decide +kernel
theorem dX0_init_50 : decode cX0_init 50 = .ok (.putfield 30, 3) := by decide +kernel
theorem dX0_init_53 : decode cX0_init 53 = .ok (.aload_n 0, 1) := by decide +kernel
theorem dX0_init_54 : decode cX0_init 54 = .ok (.iconst 5, 1) := by decide +kernel
theorem dX0_init_55 : decode cX0_init 55 = .ok (.newarray .int, 2) := by decide +kernel
theorem dX0_init_57 : decode cX0_init 57 = .ok (.putfield 33, 3) := by decide +kernel
theorem dX0_init_60 : decode cX0_init 60 = .ok (.aload_n 0, 1) := by decide +kernel
theorem dX0_init_61 : decode cX0_init 61 = .ok (.iconst 5, 1) := by decide +kernel
theorem dX0_init_62 : decode cX0_init 62 = .ok (.newarray .int, 2) := by decide +kernel
theorem dX0_init_64 : decode cX0_init 64 = .ok (.putfield 36, 3) := by decide +kernel
theorem dX0_init_67 : decode cX0_init 67 = .ok (.return_, 1) := by decide +kernel
theorem dX0_isThere_0 : decode cX0_isThere 0 = .ok (.aload_n 0, 1) := by decide +kernel
theorem dX0_isThere_1 : decode cX0_isThere 1 = .ok (.getfield 39, 3) := by decide +kernel
theorem dX0_isThere_4 : decode cX0_isThere 4 = .ok (.ifCond .le 7, 3) := by decide +kernel
theorem dX0_isThere_7 : decode cX0_isThere 7 = .ok (.iconst 1, 1) := by decide +kernel
theorem dX0_isThere_8 : decode cX0_isThere 8 = .ok (.goto 4, 3) := by decide +kernel
theorem dX0_isThere_11 : decode cX0_isThere 11 = .ok (.iconst 0, 1) := by decide +kernel
theorem dX0_isThere_12 : decode cX0_isThere 12 = .ok (.ireturn, 1) := by decide +kernel
theorem dX0_hasBarrow_0 : decode cX0_hasBarrow 0 = .ok (.iload_n 1, 1) := by decide +kernel
theorem dX0_hasBarrow_1 : decode cX0_hasBarrow 1 = .ok (.ifCond .lt 15, 3) := by decide +kernel
theorem dX0_hasBarrow_4 : decode cX0_hasBarrow 4 = .ok (.iload_n 1, 1) := by decide +kernel
theorem dX0_hasBarrow_5 : decode cX0_hasBarrow 5 = .ok (.aload_n 0, 1) := by decide +kernel
theorem dX0_hasBarrow_6 : decode cX0_hasBarrow 6 = .ok (.getfield 39, 3) := by decide +kernel
theorem dX0_hasBarrow_9 : decode cX0_hasBarrow 9 = .ok (.if_icmp .ge 7, 3) := by decide +kernel
theorem dX0_hasBarrow_12 : decode cX0_hasBarrow 12 = .ok (.iconst 1, 1) := by decide +kernel
theorem dX0_hasBarrow_13 : decode cX0_hasBarrow 13 = .ok (.goto 4, 3) := by decide +kernel
theorem dX0_hasBarrow_16 : decode cX0_hasBarrow 16 = .ok (.iconst 0, 1) := by decide +kernel
theorem dX0_hasBarrow_17 : decode cX0_hasBarrow 17 = .ok (.ireturn, 1) := by decide +kernel
theorem dX0_hasWalker_0 : decode cX0_hasWalker 0 = .ok (.iload_n 1, 1) := by decide +kernel
theorem dX0_hasWalker_1 : decode cX0_hasWalker 1 = .ok (.ifCond .lt 15, 3) := by decide +kernel
theorem dX0_hasWalker_4 : decode cX0_hasWalker 4 = .ok (.iload_n 1, 1) := by decide +kernel
theorem dX0_hasWalker_5 : decode cX0_hasWalker 5 = .ok (.aload_n 0, 1) := by decide +kernel
theorem dX0_hasWalker_6 : decode cX0_hasWalker 6 = .ok (.getfield 43, 3) := by decide +kernel
theorem dX0_hasWalker_9 : decode cX0_hasWalker 9 = .ok (.if_icmp .ge 7, 3) := by decide +kernel
theorem dX0_hasWalker_12 : decode cX0_hasWalker 12 = .ok (.iconst 1, 1) := by decide +kernel
theorem dX0_hasWalker_13 : decode cX0_hasWalker 13 = .ok (.goto 4, 3) := by decide +kernel
theorem dX0_hasWalker_16 : decode cX0_hasWalker 16 = .ok (.iconst 0, 1) := by decide +kernel
theorem dX0_hasWalker_17 : decode cX0_hasWalker 17 = .ok (.ireturn, 1) := by decide +kernel
theorem dX0_become_0 : decode cX0_become 0 = .ok (.aload_n 0, 1) := by decide +kernel
theorem dX0_become_1 : decode cX0_become 1 = .ok (.aload_n 1, 1) := by decide +kernel
theorem dX0_become_2 : decode cX0_become 2 = .ok (.getfield 39, 3) := by decide +kernel
theorem dX0_become_5 : decode cX0_become 5 = .ok (.putfield 39, 3) := by decide +kernel
theorem dX0_become_8 : decode cX0_become 8 = .ok (.aload_n 0, 1) := by decide +kernel
theorem dX0_become_9 : decode cX0_become 9 = .ok (.aload_n 1, 1) := by decide +kernel
theorem dX0_become_10 : decode cX0_become 10 = .ok (.getfield 43, 3) := by decide +kernel
theorem dX0_become_13 : decode cX0_become 13 = .ok (.putfield 43, 3) := by decide +kernel
theorem dX0_become_16 : decode cX0_become 16 = .ok (.aload_n 0, 1) := by decide +kernel
theorem dX0_become_17 : decode cX0_become 17 = .ok (.aload_n 1, 1) := by decide +kernel
theorem dX0_become_18 : decode cX0_become 18 = .ok (.getfield 46, 3) := by decide +kernel
theorem dX0_become_21 : decode cX0_become 21 = .ok (.putfield 46, 3) := by decide +kernel
theorem dX0_become_24 : decode cX0_become 24 = .ok (.iconst 0, 1) := by decide +kernel
theorem dX0_become_25 : decode cX0_become 25 = .ok (.istore_n 2, 1) := by decide +kernel
theorem dX0_become_26 : decode cX0_become 26 = .ok (.iload_n 2, 1) := by decide +kernel
theorem dX0_become_27 : decode cX0_become 27 = .ok (.aload_n 0, 1) := by decide +kernel
theorem dX0_become_28 : decode cX0_become 28 = .ok (.getfield 39, 3) := by decide +kernel
theorem dX0_become_31 : decode cX0_become 31 = .ok (.if_icmp .ge 57, 3) := by decide +kernel
theorem dX0_become_34 : decode cX0_become 34 = .ok (.aload_n 0, 1) := by decide +kernel
theorem dX0_become_35 : decode cX0_become 35 = .ok (.getfield 9, 3) := by decide +kernel
theorem dX0_become_38 : decode cX0_become 38 = .ok (.iload_n 2, 1) := by decide +kernel
theorem dX0_become_39 : decode cX0_become 39 = .ok (.aload_n 1, 1) := by decide +kernel
theorem dX0_become_40 : decode cX0_become 40 = .ok (.getfield 9, 3) := by decide +kernel
theorem dX0_become_43 : decode cX0_become 43 = .ok (.iload_n 2, 1) := by decide +kernel
theorem dX0_become_44 : decode cX0_become 44 = .ok (.iaload, 1) := by decide +kernel
theorem dX0_become_45 : decode cX0_become 45 = .ok (.iastore, 1) := by decide +kernel
theorem dX0_become_46 : decode cX0_become 46 = .ok (.aload_n 0, 1) := by decide +kernel
theorem dX0_become_47 : decode cX0_become 47 = .ok (.getfield 15, 3) := by decide +kernel
theorem dX0_become_50 : decode cX0_become 50 = .ok (.iload_n 2, 1) := by decide +kernel
theorem dX0_become_51 : decode cX0_become 51 = .ok (.aload_n 1, 1) := by decide +kernel
theorem dX0_become_52 : decode cX0_become 52 = .ok (.getfield 15, 3) := by decide +kernel
theorem dX0_become_55 : decode cX0_become 55 = .ok (.iload_n 2, 1) := by decide +kernel
theorem dX0_become_56 : decode cX0_become 56 = .ok (.iaload, 1) := by decide +kernel
theorem dX0_become_57 : decode cX0_become 57 = .ok (.iastore, 1) := by decide +kernel
theorem dX0_become_58 : decode cX0_become 58 = .ok (.aload_n 0, 1) := by decide +kernel
theorem dX0_become_59 : decode cX0_become 59 = .ok (.getfield 18, 3) := by decide +kernel
theorem dX0_become_62 : decode cX0_become 62 = .ok (.iload_n 2, 1) := by decide +kernel
theorem dX0_become_63 : decode cX0_become 63 = .ok (.aload_n 1, 1) := by decide +kernel
theorem dX0_become_64 : decode cX0_become 64 = .ok (.getfield 18, 3) := by decide +kernel
theorem dX0_become_67 : decode cX0_become 67 = .ok (.iload_n 2, 1) := by decide +kernel
theorem dX0_become_68 : decode cX0_become 68 = .ok (.iaload, 1) := by decide +kernel
theorem dX0_become_69 : decode cX0_become 69 = .ok (.iastore, 1) := by decide +kernel
theorem dX0_become_70 : decode cX0_become 70 = .ok (.aload_n 0, 1) := by decide +kernel
theorem dX0_become_71 : decode cX0_become 71 = .ok (.getfield 21, 3) := by decide +kernel
theorem dX0_become_74 : decode cX0_become 74 = .ok (.iload_n 2, 1) := by decide +kernel
theorem dX0_become_75 : decode cX0_become 75 = .ok (.aload_n 1, 1) := by decide +kernel
theorem dX0_become_76 : decode cX0_become 76 = .ok (.getfield 21, 3) := by decide +kernel
theorem dX0_become_79 : decode cX0_become 79 = .ok (.iload_n 2, 1) := by decide +kernel
theorem dX0_become_80 : decode cX0_become 80 = .ok (.iaload, 1) := by decide +kernel
theorem dX0_become_81 : decode cX0_become 81 = .ok (.iastore, 1) := by decide +kernel
theorem dX0_become_82 : decode cX0_become 82 = .ok (.iinc 2 1, 3) := by decide +kernel
theorem dX0_become_85 : decode cX0_become 85 = .ok (.goto (-59), 3) := by decide +kernel
theorem dX0_become_88 : decode cX0_become 88 = .ok (.iconst 0, 1) := by decide +kernel
theorem dX0_become_89 : decode cX0_become 89 = .ok (.istore_n 2, 1) := by decide +kernel
theorem dX0_become_90 : decode cX0_become 90 = .ok (.iload_n 2, 1) := by decide +kernel
theorem dX0_become_91 : decode cX0_become 91 = .ok (.aload_n 0, 1) := by decide +kernel
theorem dX0_become_92 : decode cX0_become 92 = .ok (.getfield 43, 3) := by decide +kernel
theorem dX0_become_95 : decode cX0_become 95 = .ok (.if_icmp .ge 69, 3) := by decide +kernel
theorem dX0_become_98 : decode cX0_become 98 = .ok (.aload_n 0, 1) := by decide +kernel
theorem dX0_become_99 : decode cX0_become 99 = .ok (.getfield 24, 3) := by decide +kernel
theorem dX0_become_102 : decode cX0_become 102 = .ok (.iload_n 2, 1) := by decide +kernel
theorem dX0_become_103 : decode cX0_become 103 = .ok (.aload_n 1, 1) := by decide +kernel
theorem dX0_become_104 : decode cX0_become 104 = .ok (.getfield 24, 3) := by decide +kernel
theorem dX0_become_107 : decode cX0_become 107 = .ok (.iload_n 2, 1) := by decide +kernel
theorem dX0_become_108 : decode cX0_become 108 = .ok (.iaload, 1) := by decide +kernel
theorem dX0_become_109 : decode cX0_become 109 = .ok (.iastore, 1) := by decide +kernel
theorem dX0_become_110 : decode cX0_become 110 = .ok (.aload_n 0, 1) := by decide +kernel
theorem dX0_become_111 : decode cX0_become 111 = .ok (.getfield 27, 3) := by decide +kernel
theorem dX0_become_114 : decode cX0_become 114 = .ok (.iload_n 2, 1) := by decide +kernel
theorem dX0_become_115 : decode cX0_become 115 = .ok (.aload_n 1, 1) := by decide +kernel
theorem dX0_become_116 : decode cX0_become 116 = .ok (.getfield 27, 3) := by decide +kernel
theorem dX0_become_119 : decode cX0_become 119 = .ok (.iload_n 2, 1) := by decide +kernel
theorem dX0_become_120 : decode cX0_become 120 = .ok (.iaload, 1) := by decide +kernel
theorem dX0_become_121 : decode cX0_become 121 = .ok (.iastore, 1) := by decide +kernel
theorem dX0_become_122 : decode cX0_become 122 = .ok (.aload_n 0, 1) := by decide +kernel
theorem dX0_become_123 : decode cX0_become 123 = .ok (.getfield 30, 3) := by decide +kernel
theorem dX0_become_126 : decode cX0_become 126 = .ok (.iload_n 2, 1) := by decide +kernel
theorem dX0_become_127 : decode cX0_become 127 = .ok (.aload_n 1, 1) := by decide +kernel
theorem dX0_become_128 : decode cX0_become 128 = .ok (.getfield 30, 3) := by decide +kernel
theorem dX0_become_131 : decode cX0_become 131 = .ok (.iload_n 2, 1) := by decide +kernel
theorem dX0_become_132 : decode cX0_become 132 = .ok (.iaload, 1) := by decide +kernel
theorem dX0_become_133 : decode cX0_become 133 = .ok (.iastore, 1) := by decide +kernel
theorem dX0_become_134 : decode cX0_become 134 = .ok (.aload_n 0, 1) := by decide +kernel
theorem dX0_become_135 : decode cX0_become 135 = .ok (.getfield 33, 3) := by decide +kernel
theorem dX0_become_138 : decode cX0_become 138 = .ok (.iload_n 2, 1) := by decide +kernel
theorem dX0_become_139 : decode cX0_become 139 = .ok (.aload_n 1, 1) := by decide +kernel
theorem dX0_become_140 : decode cX0_become 140 = .ok (.getfield 33, 3) := by decide +kernel
theorem dX0_become_143 : decode cX0_become 143 = .ok (.iload_n 2, 1) := by decide +kernel
theorem dX0_become_144 : decode cX0_become 144 = .ok (.iaload, 1) := by decide +kernel
theorem dX0_become_145 : decode cX0_become 145 = .ok (.iastore, 1) := by decide +kernel
theorem dX0_become_146 : decode cX0_become 146 = .ok (.aload_n 0, 1) := by decide +kernel
theorem dX0_become_147 : decode cX0_become 147 = .ok (.getfield 36, 3) := by decide +kernel
theorem dX0_become_150 : decode cX0_become 150 = .ok (.iload_n 2, 1) := by decide +kernel
theorem dX0_become_151 : decode cX0_become 151 = .ok (.aload_n 1, 1) := by decide +kernel
theorem dX0_become_152 : decode cX0_become 152 = .ok (.getfield 36, 3) := by decide +kernel
theorem dX0_become_155 : decode cX0_become 155 = .ok (.iload_n 2, 1) := by decide +kernel
theorem dX0_become_156 : decode cX0_become 156 = .ok (.iaload, 1) := by decide +kernel
theorem dX0_become_157 : decode cX0_become 157 = .ok (.iastore, 1) := by decide +kernel
theorem dX0_become_158 : decode cX0_become 158 = .ok (.iinc 2 1, 3) := by decide +kernel
theorem dX0_become_161 : decode cX0_become 161 = .ok (.goto (-71), 3) := by decide +kernel
theorem dX0_become_164 : decode cX0_become 164 = .ok (.return_, 1) := by decide +kernel
theorem dX0_holdsOf_0 : decode cX0_holdsOf 0 = .ok (.aload_n 0, 1) := by decide +kernel
theorem dX0_holdsOf_1 : decode cX0_holdsOf 1 = .ok (.iload_n 1, 1) := by decide +kernel
theorem dX0_holdsOf_2 : decode cX0_holdsOf 2 = .ok (.invokevirtual 49, 3) := by decide +kernel
theorem dX0_holdsOf_5 : decode cX0_holdsOf 5 = .ok (.ifCond .eq 21, 3) := by decide +kernel
theorem dX0_holdsOf_8 : decode cX0_holdsOf 8 = .ok (.aload_n 0, 1) := by decide +kernel
theorem dX0_holdsOf_9 : decode cX0_holdsOf 9 = .ok (.getfield 9, 3) := by decide +kernel
theorem dX0_holdsOf_12 : decode cX0_holdsOf 12 = .ok (.iload_n 1, 1) := by decide +kernel
theorem dX0_holdsOf_13 : decode cX0_holdsOf 13 = .ok (.iaload, 1) := by decide +kernel
theorem dX0_holdsOf_14 : decode cX0_holdsOf 14 = .ok (.aload_n 0, 1) := by decide +kernel
theorem dX0_holdsOf_15 : decode cX0_holdsOf 15 = .ok (.getfield 15, 3) := by decide +kernel
theorem dX0_holdsOf_18 : decode cX0_holdsOf 18 = .ok (.iload_n 1, 1) := by decide +kernel
theorem dX0_holdsOf_19 : decode cX0_holdsOf 19 = .ok (.iaload, 1) := by decide +kernel
theorem dX0_holdsOf_20 : decode cX0_holdsOf 20 = .ok (.invokestatic 53, 3) := by decide +kernel
theorem dX0_holdsOf_23 : decode cX0_holdsOf 23 = .ok (.goto 4, 3) := by decide +kernel
theorem dX0_holdsOf_26 : decode cX0_holdsOf 26 = .ok (.iconst 0, 1) := by decide +kernel
theorem dX0_holdsOf_27 : decode cX0_holdsOf 27 = .ok (.ireturn, 1) := by decide +kernel
theorem dX0_lodgersOf_0 : decode cX0_lodgersOf 0 = .ok (.iconst 0, 1) := by decide +kernel
theorem dX0_lodgersOf_1 : decode cX0_lodgersOf 1 = .ok (.istore_n 2, 1) := by decide +kernel
theorem dX0_lodgersOf_2 : decode cX0_lodgersOf 2 = .ok (.iconst 0, 1) := by decide +kernel
theorem dX0_lodgersOf_3 : decode cX0_lodgersOf 3 = .ok (.istore_n 3, 1) := by decide +kernel
theorem dX0_lodgersOf_4 : decode cX0_lodgersOf 4 = .ok (.iload_n 3, 1) := by decide +kernel
theorem dX0_lodgersOf_5 : decode cX0_lodgersOf 5 = .ok (.aload_n 0, 1) := by decide +kernel
theorem dX0_lodgersOf_6 : decode cX0_lodgersOf 6 = .ok (.getfield 43, 3) := by decide +kernel
theorem dX0_lodgersOf_9 : decode cX0_lodgersOf 9 = .ok (.if_icmp .ge 25, 3) := by decide +kernel
theorem dX0_lodgersOf_12 : decode cX0_lodgersOf 12 = .ok (.aload_n 0, 1) := by decide +kernel
theorem dX0_lodgersOf_13 : decode cX0_lodgersOf 13 = .ok (.getfield 33, 3) := by decide +kernel
theorem dX0_lodgersOf_16 : decode cX0_lodgersOf 16 = .ok (.iload_n 3, 1) := by decide +kernel
theorem dX0_lodgersOf_17 : decode cX0_lodgersOf 17 = .ok (.iaload, 1) := by decide +kernel
theorem dX0_lodgersOf_18 : decode cX0_lodgersOf 18 = .ok (.iload_n 1, 1) := by decide +kernel
theorem dX0_lodgersOf_19 : decode cX0_lodgersOf 19 = .ok (.if_icmp .ne 9, 3) := by decide +kernel
theorem dX0_lodgersOf_22 : decode cX0_lodgersOf 22 = .ok (.iload_n 2, 1) := by decide +kernel
theorem dX0_lodgersOf_23 : decode cX0_lodgersOf 23 = .ok (.iconst 1, 1) := by decide +kernel
theorem dX0_lodgersOf_24 : decode cX0_lodgersOf 24 = .ok (.iload_n 3, 1) := by decide +kernel
theorem dX0_lodgersOf_25 : decode cX0_lodgersOf 25 = .ok (.ishl, 1) := by decide +kernel
theorem dX0_lodgersOf_26 : decode cX0_lodgersOf 26 = .ok (.ior, 1) := by decide +kernel
theorem dX0_lodgersOf_27 : decode cX0_lodgersOf 27 = .ok (.istore_n 2, 1) := by decide +kernel
theorem dX0_lodgersOf_28 : decode cX0_lodgersOf 28 = .ok (.iinc 3 1, 3) := by decide +kernel
theorem dX0_lodgersOf_31 : decode cX0_lodgersOf 31 = .ok (.goto (-27), 3) := by decide +kernel
theorem dX0_lodgersOf_34 : decode cX0_lodgersOf 34 = .ok (.iload_n 2, 1) := by decide +kernel
theorem dX0_lodgersOf_35 : decode cX0_lodgersOf 35 = .ok (.ireturn, 1) := by decide +kernel
theorem dX0_allLodgers_0 : decode cX0_allLodgers 0 = .ok (.iconst 0, 1) := by decide +kernel
theorem dX0_allLodgers_1 : decode cX0_allLodgers 1 = .ok (.istore_n 1, 1) := by decide +kernel
theorem dX0_allLodgers_2 : decode cX0_allLodgers 2 = .ok (.iconst 0, 1) := by decide +kernel
theorem dX0_allLodgers_3 : decode cX0_allLodgers 3 = .ok (.istore_n 2, 1) := by decide +kernel
theorem dX0_allLodgers_4 : decode cX0_allLodgers 4 = .ok (.iload_n 2, 1) := by decide +kernel
theorem dX0_allLodgers_5 : decode cX0_allLodgers 5 = .ok (.aload_n 0, 1) := by decide +kernel
theorem dX0_allLodgers_6 : decode cX0_allLodgers 6 = .ok (.getfield 43, 3) := by decide +kernel
theorem dX0_allLodgers_9 : decode cX0_allLodgers 9 = .ok (.if_icmp .ge 28, 3) := by decide +kernel
theorem dX0_allLodgers_12 : decode cX0_allLodgers 12 = .ok (.aload_n 0, 1) := by decide +kernel
theorem dX0_allLodgers_13 : decode cX0_allLodgers 13 = .ok (.aload_n 0, 1) := by decide +kernel
theorem dX0_allLodgers_14 : decode cX0_allLodgers 14 = .ok (.getfield 33, 3) := by decide +kernel
theorem dX0_allLodgers_17 : decode cX0_allLodgers 17 = .ok (.iload_n 2, 1) := by decide +kernel
theorem dX0_allLodgers_18 : decode cX0_allLodgers 18 = .ok (.iaload, 1) := by decide +kernel
theorem dX0_allLodgers_19 : decode cX0_allLodgers 19 = .ok (.invokevirtual 49, 3) := by decide +kernel
theorem dX0_allLodgers_22 : decode cX0_allLodgers 22 = .ok (.ifCond .eq 9, 3) := by decide +kernel
theorem dX0_allLodgers_25 : decode cX0_allLodgers 25 = .ok (.iload_n 1, 1) := by decide +kernel
theorem dX0_allLodgers_26 : decode cX0_allLodgers 26 = .ok (.iconst 1, 1) := by decide +kernel
theorem dX0_allLodgers_27 : decode cX0_allLodgers 27 = .ok (.iload_n 2, 1) := by decide +kernel
theorem dX0_allLodgers_28 : decode cX0_allLodgers 28 = .ok (.ishl, 1) := by decide +kernel
theorem dX0_allLodgers_29 : decode cX0_allLodgers 29 = .ok (.ior, 1) := by decide +kernel
theorem dX0_allLodgers_30 : decode cX0_allLodgers 30 = .ok (.istore_n 1, 1) := by decide +kernel
theorem dX0_allLodgers_31 : decode cX0_allLodgers 31 = .ok (.iinc 2 1, 3) := by decide +kernel
theorem dX0_allLodgers_34 : decode cX0_allLodgers 34 = .ok (.goto (-30), 3) := by decide +kernel
theorem dX0_allLodgers_37 : decode cX0_allLodgers 37 = .ok (.iload_n 1, 1) := by decide +kernel
theorem dX0_allLodgers_38 : decode cX0_allLodgers 38 = .ok (.ireturn, 1) := by decide +kernel
theorem dX0_dreamOf_0 : decode cX0_dreamOf 0 = .ok (.aload_n 0, 1) := by decide +kernel
theorem dX0_dreamOf_1 : decode cX0_dreamOf 1 = .ok (.iload_n 1, 1) := by decide +kernel
theorem dX0_dreamOf_2 : decode cX0_dreamOf 2 = .ok (.invokevirtual 57, 3) := by decide +kernel
theorem dX0_dreamOf_5 : decode cX0_dreamOf 5 = .ok (.ifCond .eq 16, 3) := by decide +kernel
theorem dX0_dreamOf_8 : decode cX0_dreamOf 8 = .ok (.aload_n 0, 1) := by decide +kernel
theorem dX0_dreamOf_9 : decode cX0_dreamOf 9 = .ok (.aload_n 0, 1) := by decide +kernel
theorem dX0_dreamOf_10 : decode cX0_dreamOf 10 = .ok (.getfield 33, 3) := by decide +kernel
theorem dX0_dreamOf_13 : decode cX0_dreamOf 13 = .ok (.iload_n 1, 1) := by decide +kernel
theorem dX0_dreamOf_14 : decode cX0_dreamOf 14 = .ok (.iaload, 1) := by decide +kernel
theorem dX0_dreamOf_15 : decode cX0_dreamOf 15 = .ok (.invokevirtual 49, 3) := by decide +kernel
theorem dX0_dreamOf_18 : decode cX0_dreamOf 18 = .ok (.ifCond .ne 6, 3) := by decide +kernel
theorem dX0_dreamOf_21 : decode cX0_dreamOf 21 = .ok (.bipush (-9), 2) := by decide +kernel
theorem dX0_dreamOf_23 : decode cX0_dreamOf 23 = .ok (.ireturn, 1) := by decide +kernel
theorem dX0_dreamOf_24 : decode cX0_dreamOf 24 = .ok (.iload_n 1, 1) := by decide +kernel
theorem dX0_dreamOf_25 : decode cX0_dreamOf 25 = .ok (.iconst 1, 1) := by decide +kernel
theorem dX0_dreamOf_26 : decode cX0_dreamOf 26 = .ok (.isub, 1) := by decide +kernel
theorem dX0_dreamOf_27 : decode cX0_dreamOf 27 = .ok (.istore_n 2, 1) := by decide +kernel
theorem dX0_dreamOf_28 : decode cX0_dreamOf 28 = .ok (.iload_n 2, 1) := by decide +kernel
theorem dX0_dreamOf_29 : decode cX0_dreamOf 29 = .ok (.ifCond .lt 26, 3) := by decide +kernel
theorem dX0_dreamOf_32 : decode cX0_dreamOf 32 = .ok (.aload_n 0, 1) := by decide +kernel
theorem dX0_dreamOf_33 : decode cX0_dreamOf 33 = .ok (.getfield 33, 3) := by decide +kernel
theorem dX0_dreamOf_36 : decode cX0_dreamOf 36 = .ok (.iload_n 2, 1) := by decide +kernel
theorem dX0_dreamOf_37 : decode cX0_dreamOf 37 = .ok (.iaload, 1) := by decide +kernel
theorem dX0_dreamOf_38 : decode cX0_dreamOf 38 = .ok (.aload_n 0, 1) := by decide +kernel
theorem dX0_dreamOf_39 : decode cX0_dreamOf 39 = .ok (.getfield 33, 3) := by decide +kernel
theorem dX0_dreamOf_42 : decode cX0_dreamOf 42 = .ok (.iload_n 1, 1) := by decide +kernel
theorem dX0_dreamOf_43 : decode cX0_dreamOf 43 = .ok (.iaload, 1) := by decide +kernel
theorem dX0_dreamOf_44 : decode cX0_dreamOf 44 = .ok (.if_icmp .ne 5, 3) := by decide +kernel
theorem dX0_dreamOf_47 : decode cX0_dreamOf 47 = .ok (.iload_n 2, 1) := by decide +kernel
theorem dX0_dreamOf_48 : decode cX0_dreamOf 48 = .ok (.ireturn, 1) := by decide +kernel
theorem dX0_dreamOf_49 : decode cX0_dreamOf 49 = .ok (.iinc 2 (-1), 3) := by decide +kernel
theorem dX0_dreamOf_52 : decode cX0_dreamOf 52 = .ok (.goto (-24), 3) := by decide +kernel
theorem dX0_dreamOf_55 : decode cX0_dreamOf 55 = .ok (.bipush 10, 2) := by decide +kernel
theorem dX0_dreamOf_57 : decode cX0_dreamOf 57 = .ok (.aload_n 0, 1) := by decide +kernel
theorem dX0_dreamOf_58 : decode cX0_dreamOf 58 = .ok (.getfield 33, 3) := by decide +kernel
theorem dX0_dreamOf_61 : decode cX0_dreamOf 61 = .ok (.iload_n 1, 1) := by decide +kernel
theorem dX0_dreamOf_62 : decode cX0_dreamOf 62 = .ok (.iaload, 1) := by decide +kernel
theorem dX0_dreamOf_63 : decode cX0_dreamOf 63 = .ok (.iadd, 1) := by decide +kernel
theorem dX0_dreamOf_64 : decode cX0_dreamOf 64 = .ok (.ireturn, 1) := by decide +kernel
theorem dX0_suits_0 : decode cX0_suits 0 = .ok (.aload_n 0, 1) := by decide +kernel
theorem dX0_suits_1 : decode cX0_suits 1 = .ok (.iload_n 1, 1) := by decide +kernel
theorem dX0_suits_2 : decode cX0_suits 2 = .ok (.invokevirtual 57, 3) := by decide +kernel
theorem dX0_suits_5 : decode cX0_suits 5 = .ok (.ifCond .eq 11, 3) := by decide +kernel
theorem dX0_suits_8 : decode cX0_suits 8 = .ok (.aload_n 0, 1) := by decide +kernel
theorem dX0_suits_9 : decode cX0_suits 9 = .ok (.iload_n 2, 1) := by decide +kernel
theorem dX0_suits_10 : decode cX0_suits 10 = .ok (.invokevirtual 49, 3) := by decide +kernel
theorem dX0_suits_13 : decode cX0_suits 13 = .ok (.ifCond .ne 5, 3) := by decide +kernel
theorem dX0_suits_16 : decode cX0_suits 16 = .ok (.iconst 0, 1) := by decide +kernel
theorem dX0_suits_17 : decode cX0_suits 17 = .ok (.ireturn, 1) := by decide +kernel
theorem dX0_suits_18 : decode cX0_suits 18 = .ok (.aload_n 0, 1) := by decide +kernel
theorem dX0_suits_19 : decode cX0_suits 19 = .ok (.getfield 27, 3) := by decide +kernel
theorem dX0_suits_22 : decode cX0_suits 22 = .ok (.iload_n 1, 1) := by decide +kernel
theorem dX0_suits_23 : decode cX0_suits 23 = .ok (.iaload, 1) := by decide +kernel
theorem dX0_suits_24 : decode cX0_suits 24 = .ok (.aload_n 0, 1) := by decide +kernel
theorem dX0_suits_25 : decode cX0_suits 25 = .ok (.getfield 21, 3) := by decide +kernel
theorem dX0_suits_28 : decode cX0_suits 28 = .ok (.iload_n 2, 1) := by decide +kernel
theorem dX0_suits_29 : decode cX0_suits 29 = .ok (.iaload, 1) := by decide +kernel
theorem dX0_suits_30 : decode cX0_suits 30 = .ok (.aload_n 0, 1) := by decide +kernel
theorem dX0_suits_31 : decode cX0_suits 31 = .ok (.getfield 30, 3) := by decide +kernel
theorem dX0_suits_34 : decode cX0_suits 34 = .ok (.iload_n 1, 1) := by decide +kernel
theorem dX0_suits_35 : decode cX0_suits 35 = .ok (.iaload, 1) := by decide +kernel
theorem dX0_suits_36 : decode cX0_suits 36 = .ok (.invokestatic 60, 3) := by decide +kernel
theorem dX0_suits_39 : decode cX0_suits 39 = .ok (.ifCond .eq 22, 3) := by decide +kernel
theorem dX0_suits_42 : decode cX0_suits 42 = .ok (.aload_n 0, 1) := by decide +kernel
theorem dX0_suits_43 : decode cX0_suits 43 = .ok (.getfield 18, 3) := by decide +kernel
theorem dX0_suits_46 : decode cX0_suits 46 = .ok (.iload_n 2, 1) := by decide +kernel
theorem dX0_suits_47 : decode cX0_suits 47 = .ok (.iaload, 1) := by decide +kernel
theorem dX0_suits_48 : decode cX0_suits 48 = .ok (.aload_n 0, 1) := by decide +kernel
theorem dX0_suits_49 : decode cX0_suits 49 = .ok (.getfield 24, 3) := by decide +kernel
theorem dX0_suits_52 : decode cX0_suits 52 = .ok (.iload_n 1, 1) := by decide +kernel
theorem dX0_suits_53 : decode cX0_suits 53 = .ok (.iaload, 1) := by decide +kernel
theorem dX0_suits_54 : decode cX0_suits 54 = .ok (.if_icmp .gt 7, 3) := by decide +kernel
theorem dX0_suits_57 : decode cX0_suits 57 = .ok (.iconst 1, 1) := by decide +kernel
theorem dX0_suits_58 : decode cX0_suits 58 = .ok (.goto 4, 3) := by decide +kernel
theorem dX0_suits_61 : decode cX0_suits 61 = .ok (.iconst 0, 1) := by decide +kernel
theorem dX0_suits_62 : decode cX0_suits 62 = .ok (.ireturn, 1) := by decide +kernel
theorem dX0_enter_0 : decode cX0_enter 0 = .ok (.aload_n 0, 1) := by decide +kernel
theorem dX0_enter_1 : decode cX0_enter 1 = .ok (.iload_n 1, 1) := by decide +kernel
theorem dX0_enter_2 : decode cX0_enter 2 = .ok (.iload_n 2, 1) := by decide +kernel
theorem dX0_enter_3 : decode cX0_enter 3 = .ok (.invokevirtual 64, 3) := by decide +kernel
theorem dX0_enter_6 : decode cX0_enter 6 = .ok (.ifCond .eq 16, 3) := by decide +kernel
theorem dX0_enter_9 : decode cX0_enter 9 = .ok (.aload_n 0, 1) := by decide +kernel
theorem dX0_enter_10 : decode cX0_enter 10 = .ok (.aload_n 0, 1) := by decide +kernel
theorem dX0_enter_11 : decode cX0_enter 11 = .ok (.getfield 33, 3) := by decide +kernel
theorem dX0_enter_14 : decode cX0_enter 14 = .ok (.iload_n 1, 1) := by decide +kernel
theorem dX0_enter_15 : decode cX0_enter 15 = .ok (.iaload, 1) := by decide +kernel
theorem dX0_enter_16 : decode cX0_enter 16 = .ok (.invokevirtual 49, 3) := by decide +kernel
theorem dX0_enter_19 : decode cX0_enter 19 = .ok (.ifCond .eq 5, 3) := by decide +kernel
theorem dX0_enter_22 : decode cX0_enter 22 = .ok (.iconst 0, 1) := by decide +kernel
theorem dX0_enter_23 : decode cX0_enter 23 = .ok (.ireturn, 1) := by decide +kernel
theorem dX0_enter_24 : decode cX0_enter 24 = .ok (.aload_n 0, 1) := by decide +kernel
theorem dX0_enter_25 : decode cX0_enter 25 = .ok (.iload_n 2, 1) := by decide +kernel
theorem dX0_enter_26 : decode cX0_enter 26 = .ok (.invokevirtual 68, 3) := by decide +kernel
theorem dX0_enter_29 : decode cX0_enter 29 = .ok (.invokestatic 72, 3) := by decide +kernel
theorem dX0_enter_32 : decode cX0_enter 32 = .ok (.aload_n 0, 1) := by decide +kernel
theorem dX0_enter_33 : decode cX0_enter 33 = .ok (.iload_n 2, 1) := by decide +kernel
theorem dX0_enter_34 : decode cX0_enter 34 = .ok (.invokevirtual 77, 3) := by decide +kernel
theorem dX0_enter_37 : decode cX0_enter 37 = .ok (.if_icmp .lt 5, 3) := by decide +kernel
theorem dX0_enter_40 : decode cX0_enter 40 = .ok (.iconst 0, 1) := by decide +kernel
theorem dX0_enter_41 : decode cX0_enter 41 = .ok (.ireturn, 1) := by decide +kernel
theorem dX0_enter_42 : decode cX0_enter 42 = .ok (.aload_n 0, 1) := by decide +kernel
theorem dX0_enter_43 : decode cX0_enter 43 = .ok (.getfield 33, 3) := by decide +kernel
theorem dX0_enter_46 : decode cX0_enter 46 = .ok (.iload_n 1, 1) := by decide +kernel
theorem dX0_enter_47 : decode cX0_enter 47 = .ok (.iload_n 2, 1) := by decide +kernel
theorem dX0_enter_48 : decode cX0_enter 48 = .ok (.iastore, 1) := by decide +kernel
theorem dX0_enter_49 : decode cX0_enter 49 = .ok (.aload_n 0, 1) := by decide +kernel
theorem dX0_enter_50 : decode cX0_enter 50 = .ok (.getfield 27, 3) := by decide +kernel
theorem dX0_enter_53 : decode cX0_enter 53 = .ok (.iload_n 1, 1) := by decide +kernel
theorem dX0_enter_54 : decode cX0_enter 54 = .ok (.aload_n 0, 1) := by decide +kernel
theorem dX0_enter_55 : decode cX0_enter 55 = .ok (.getfield 21, 3) := by decide +kernel
theorem dX0_enter_58 : decode cX0_enter 58 = .ok (.iload_n 2, 1) := by decide +kernel
theorem dX0_enter_59 : decode cX0_enter 59 = .ok (.iaload, 1) := by decide +kernel
theorem dX0_enter_60 : decode cX0_enter 60 = .ok (.iastore, 1) := by decide +kernel
theorem dX0_enter_61 : decode cX0_enter 61 = .ok (.iconst 1, 1) := by decide +kernel
theorem dX0_enter_62 : decode cX0_enter 62 = .ok (.ireturn, 1) := by decide +kernel
theorem dX0_goOut_0 : decode cX0_goOut 0 = .ok (.aload_n 0, 1) := by decide +kernel
theorem dX0_goOut_1 : decode cX0_goOut 1 = .ok (.iload_n 1, 1) := by decide +kernel
theorem dX0_goOut_2 : decode cX0_goOut 2 = .ok (.invokevirtual 57, 3) := by decide +kernel
theorem dX0_goOut_5 : decode cX0_goOut 5 = .ok (.ifCond .eq 16, 3) := by decide +kernel
theorem dX0_goOut_8 : decode cX0_goOut 8 = .ok (.aload_n 0, 1) := by decide +kernel
theorem dX0_goOut_9 : decode cX0_goOut 9 = .ok (.aload_n 0, 1) := by decide +kernel
theorem dX0_goOut_10 : decode cX0_goOut 10 = .ok (.getfield 33, 3) := by decide +kernel
theorem dX0_goOut_13 : decode cX0_goOut 13 = .ok (.iload_n 1, 1) := by decide +kernel
theorem dX0_goOut_14 : decode cX0_goOut 14 = .ok (.iaload, 1) := by decide +kernel
theorem dX0_goOut_15 : decode cX0_goOut 15 = .ok (.invokevirtual 49, 3) := by decide +kernel
theorem dX0_goOut_18 : decode cX0_goOut 18 = .ok (.ifCond .ne 5, 3) := by decide +kernel
theorem dX0_goOut_21 : decode cX0_goOut 21 = .ok (.iconst 0, 1) := by decide +kernel
theorem dX0_goOut_22 : decode cX0_goOut 22 = .ok (.ireturn, 1) := by decide +kernel
theorem dX0_goOut_23 : decode cX0_goOut 23 = .ok (.aload_n 0, 1) := by decide +kernel
theorem dX0_goOut_24 : decode cX0_goOut 24 = .ok (.getfield 33, 3) := by decide +kernel
theorem dX0_goOut_27 : decode cX0_goOut 27 = .ok (.iload_n 1, 1) := by decide +kernel
theorem dX0_goOut_28 : decode cX0_goOut 28 = .ok (.bipush (-9), 2) := by decide +kernel
theorem dX0_goOut_30 : decode cX0_goOut 30 = .ok (.iastore, 1) := by decide +kernel
theorem dX0_goOut_31 : decode cX0_goOut 31 = .ok (.iconst 1, 1) := by decide +kernel
theorem dX0_goOut_32 : decode cX0_goOut 32 = .ok (.ireturn, 1) := by decide +kernel
theorem dX0_passNights_0 : decode cX0_passNights 0 = .ok (.iconst 0, 1) := by decide +kernel
theorem dX0_passNights_1 : decode cX0_passNights 1 = .ok (.istore_n 2, 1) := by decide +kernel
theorem dX0_passNights_2 : decode cX0_passNights 2 = .ok (.iconst 0, 1) := by decide +kernel
theorem dX0_passNights_3 : decode cX0_passNights 3 = .ok (.istore_n 3, 1) := by decide +kernel
theorem dX0_passNights_4 : decode cX0_passNights 4 = .ok (.iload_n 3, 1) := by decide +kernel
theorem dX0_passNights_5 : decode cX0_passNights 5 = .ok (.iload_n 1, 1) := by decide +kernel
theorem dX0_passNights_6 : decode cX0_passNights 6 = .ok (.if_icmp .ge 49, 3) := by decide +kernel
theorem dX0_passNights_9 : decode cX0_passNights 9 = .ok (.iconst 0, 1) := by decide +kernel
theorem dX0_passNights_10 : decode cX0_passNights 10 = .ok (.istore 4, 2) := by decide +kernel
theorem dX0_passNights_12 : decode cX0_passNights 12 = .ok (.iload 4, 2) := by decide +kernel
theorem dX0_passNights_14 : decode cX0_passNights 14 = .ok (.aload_n 0, 1) := by decide +kernel
theorem dX0_passNights_15 : decode cX0_passNights 15 = .ok (.getfield 43, 3) := by decide +kernel
theorem dX0_passNights_18 : decode cX0_passNights 18 = .ok (.if_icmp .ge 21, 3) := by decide +kernel
theorem dX0_passNights_21 : decode cX0_passNights 21 = .ok (.aload_n 0, 1) := by decide +kernel
theorem dX0_passNights_22 : decode cX0_passNights 22 = .ok (.iload 4, 2) := by decide +kernel
theorem dX0_passNights_24 : decode cX0_passNights 24 = .ok (.invokevirtual 80, 3) := by decide +kernel
theorem dX0_passNights_27 : decode cX0_passNights 27 = .ok (.ifCond .ne 6, 3) := by decide +kernel
theorem dX0_passNights_30 : decode cX0_passNights 30 = .ok (.iinc 2 1, 3) := by decide +kernel
theorem dX0_passNights_33 : decode cX0_passNights 33 = .ok (.iinc 4 1, 3) := by decide +kernel
theorem dX0_passNights_36 : decode cX0_passNights 36 = .ok (.goto (-24), 3) := by decide +kernel
theorem dX0_passNights_39 : decode cX0_passNights 39 = .ok (.aload_n 0, 1) := by decide +kernel
theorem dX0_passNights_40 : decode cX0_passNights 40 = .ok (.dup, 1) := by decide +kernel
theorem dX0_passNights_41 : decode cX0_passNights 41 = .ok (.getfield 46, 3) := by decide +kernel
theorem dX0_passNights_44 : decode cX0_passNights 44 = .ok (.iconst 1, 1) := by decide +kernel
theorem dX0_passNights_45 : decode cX0_passNights 45 = .ok (.iadd, 1) := by decide +kernel
theorem dX0_passNights_46 : decode cX0_passNights 46 = .ok (.putfield 46, 3) := by decide +kernel
theorem dX0_passNights_49 : decode cX0_passNights 49 = .ok (.iinc 3 1, 3) := by decide +kernel
theorem dX0_passNights_52 : decode cX0_passNights 52 = .ok (.goto (-48), 3) := by decide +kernel
theorem dX0_passNights_55 : decode cX0_passNights 55 = .ok (.iload_n 2, 1) := by decide +kernel
theorem dX0_passNights_56 : decode cX0_passNights 56 = .ok (.ireturn, 1) := by decide +kernel
theorem dX0_paysOrGoes_0 : decode cX0_paysOrGoes 0 = .ok (.aload_n 0, 1) := by decide +kernel
theorem dX0_paysOrGoes_1 : decode cX0_paysOrGoes 1 = .ok (.iload_n 1, 1) := by decide +kernel
theorem dX0_paysOrGoes_2 : decode cX0_paysOrGoes 2 = .ok (.invokevirtual 57, 3) := by decide +kernel
theorem dX0_paysOrGoes_5 : decode cX0_paysOrGoes 5 = .ok (.ifCond .ne 5, 3) := by decide +kernel
theorem dX0_paysOrGoes_8 : decode cX0_paysOrGoes 8 = .ok (.iconst 1, 1) := by decide +kernel
theorem dX0_paysOrGoes_9 : decode cX0_paysOrGoes 9 = .ok (.ireturn, 1) := by decide +kernel
theorem dX0_paysOrGoes_10 : decode cX0_paysOrGoes 10 = .ok (.aload_n 0, 1) := by decide +kernel
theorem dX0_paysOrGoes_11 : decode cX0_paysOrGoes 11 = .ok (.getfield 33, 3) := by decide +kernel
theorem dX0_paysOrGoes_14 : decode cX0_paysOrGoes 14 = .ok (.iload_n 1, 1) := by decide +kernel
theorem dX0_paysOrGoes_15 : decode cX0_paysOrGoes 15 = .ok (.iaload, 1) := by decide +kernel
theorem dX0_paysOrGoes_16 : decode cX0_paysOrGoes 16 = .ok (.istore_n 2, 1) := by decide +kernel
theorem dX0_paysOrGoes_17 : decode cX0_paysOrGoes 17 = .ok (.aload_n 0, 1) := by decide +kernel
theorem dX0_paysOrGoes_18 : decode cX0_paysOrGoes 18 = .ok (.iload_n 2, 1) := by decide +kernel
theorem dX0_paysOrGoes_19 : decode cX0_paysOrGoes 19 = .ok (.invokevirtual 49, 3) := by decide +kernel
theorem dX0_paysOrGoes_22 : decode cX0_paysOrGoes 22 = .ok (.istore_n 3, 1) := by decide +kernel
theorem dX0_paysOrGoes_23 : decode cX0_paysOrGoes 23 = .ok (.iload_n 3, 1) := by decide +kernel
theorem dX0_paysOrGoes_24 : decode cX0_paysOrGoes 24 = .ok (.ifCond .eq 22, 3) := by decide +kernel
theorem dX0_paysOrGoes_27 : decode cX0_paysOrGoes 27 = .ok (.aload_n 0, 1) := by decide +kernel
theorem dX0_paysOrGoes_28 : decode cX0_paysOrGoes 28 = .ok (.getfield 24, 3) := by decide +kernel
theorem dX0_paysOrGoes_31 : decode cX0_paysOrGoes 31 = .ok (.iload_n 1, 1) := by decide +kernel
theorem dX0_paysOrGoes_32 : decode cX0_paysOrGoes 32 = .ok (.iaload, 1) := by decide +kernel
theorem dX0_paysOrGoes_33 : decode cX0_paysOrGoes 33 = .ok (.aload_n 0, 1) := by decide +kernel
theorem dX0_paysOrGoes_34 : decode cX0_paysOrGoes 34 = .ok (.getfield 18, 3) := by decide +kernel
theorem dX0_paysOrGoes_37 : decode cX0_paysOrGoes 37 = .ok (.iload_n 2, 1) := by decide +kernel
theorem dX0_paysOrGoes_38 : decode cX0_paysOrGoes 38 = .ok (.iaload, 1) := by decide +kernel
theorem dX0_paysOrGoes_39 : decode cX0_paysOrGoes 39 = .ok (.if_icmp .lt 7, 3) := by decide +kernel
theorem dX0_paysOrGoes_42 : decode cX0_paysOrGoes 42 = .ok (.iconst 1, 1) := by decide +kernel
theorem dX0_paysOrGoes_43 : decode cX0_paysOrGoes 43 = .ok (.goto 4, 3) := by decide +kernel
theorem dX0_paysOrGoes_46 : decode cX0_paysOrGoes 46 = .ok (.iconst 0, 1) := by decide +kernel
theorem dX0_paysOrGoes_47 : decode cX0_paysOrGoes 47 = .ok (.istore 4, 2) := by decide +kernel
theorem dX0_paysOrGoes_49 : decode cX0_paysOrGoes 49 = .ok (.iload 4, 2) := by decide +kernel
theorem dX0_paysOrGoes_51 : decode cX0_paysOrGoes 51 = .ok (.ifCond .eq 21, 3) := by decide +kernel
theorem dX0_paysOrGoes_54 : decode cX0_paysOrGoes 54 = .ok (.aload_n 0, 1) := by decide +kernel
theorem dX0_paysOrGoes_55 : decode cX0_paysOrGoes 55 = .ok (.getfield 24, 3) := by decide +kernel
theorem dX0_paysOrGoes_58 : decode cX0_paysOrGoes 58 = .ok (.iload_n 1, 1) := by decide +kernel
theorem dX0_paysOrGoes_59 : decode cX0_paysOrGoes 59 = .ok (.dup2, 1) := by decide +kernel
theorem dX0_paysOrGoes_60 : decode cX0_paysOrGoes 60 = .ok (.iaload, 1) := by decide +kernel
theorem dX0_paysOrGoes_61 : decode cX0_paysOrGoes 61 = .ok (.aload_n 0, 1) := by decide +kernel
theorem dX0_paysOrGoes_62 : decode cX0_paysOrGoes 62 = .ok (.getfield 18, 3) := by decide +kernel
theorem dX0_paysOrGoes_65 : decode cX0_paysOrGoes 65 = .ok (.iload_n 2, 1) := by decide +kernel
theorem dX0_paysOrGoes_66 : decode cX0_paysOrGoes 66 = .ok (.iaload, 1) := by decide +kernel
theorem dX0_paysOrGoes_67 : decode cX0_paysOrGoes 67 = .ok (.isub, 1) := by decide +kernel
theorem dX0_paysOrGoes_68 : decode cX0_paysOrGoes 68 = .ok (.iastore, 1) := by decide +kernel
theorem dX0_paysOrGoes_69 : decode cX0_paysOrGoes 69 = .ok (.goto 21, 3) := by decide +kernel
theorem dX0_paysOrGoes_72 : decode cX0_paysOrGoes 72 = .ok (.aload_n 0, 1) := by decide +kernel
theorem dX0_paysOrGoes_73 : decode cX0_paysOrGoes 73 = .ok (.getfield 33, 3) := by decide +kernel
theorem dX0_paysOrGoes_76 : decode cX0_paysOrGoes 76 = .ok (.iload_n 1, 1) := by decide +kernel
theorem dX0_paysOrGoes_77 : decode cX0_paysOrGoes 77 = .ok (.bipush (-9), 2) := by decide +kernel
theorem dX0_paysOrGoes_79 : decode cX0_paysOrGoes 79 = .ok (.iastore, 1) := by decide +kernel
theorem dX0_paysOrGoes_80 : decode cX0_paysOrGoes 80 = .ok (.aload_n 0, 1) := by decide +kernel
theorem dX0_paysOrGoes_81 : decode cX0_paysOrGoes 81 = .ok (.getfield 36, 3) := by decide +kernel
theorem dX0_paysOrGoes_84 : decode cX0_paysOrGoes 84 = .ok (.iload_n 1, 1) := by decide +kernel
theorem dX0_paysOrGoes_85 : decode cX0_paysOrGoes 85 = .ok (.dup2, 1) := by decide +kernel
theorem dX0_paysOrGoes_86 : decode cX0_paysOrGoes 86 = .ok (.iaload, 1) := by decide +kernel
theorem dX0_paysOrGoes_87 : decode cX0_paysOrGoes 87 = .ok (.iconst 1, 1) := by decide +kernel
theorem dX0_paysOrGoes_88 : decode cX0_paysOrGoes 88 = .ok (.iadd, 1) := by decide +kernel
theorem dX0_paysOrGoes_89 : decode cX0_paysOrGoes 89 = .ok (.iastore, 1) := by decide +kernel
theorem dX0_paysOrGoes_90 : decode cX0_paysOrGoes 90 = .ok (.iload 4, 2) := by decide +kernel
theorem dX0_paysOrGoes_92 : decode cX0_paysOrGoes 92 = .ok (.ifCond .ne 7, 3) := by decide +kernel
theorem dX0_paysOrGoes_95 : decode cX0_paysOrGoes 95 = .ok (.iload_n 3, 1) := by decide +kernel
theorem dX0_paysOrGoes_96 : decode cX0_paysOrGoes 96 = .ok (.ifCond .ne 7, 3) := by decide +kernel
theorem dX0_paysOrGoes_99 : decode cX0_paysOrGoes 99 = .ok (.iconst 1, 1) := by decide +kernel
theorem dX0_paysOrGoes_100 : decode cX0_paysOrGoes 100 = .ok (.goto 4, 3) := by decide +kernel
theorem dX0_paysOrGoes_103 : decode cX0_paysOrGoes 103 = .ok (.iconst 0, 1) := by decide +kernel
theorem dX0_paysOrGoes_104 : decode cX0_paysOrGoes 104 = .ok (.ireturn, 1) := by decide +kernel
theorem dX0_meansOfAll_0 : decode cX0_meansOfAll 0 = .ok (.iconst 0, 1) := by decide +kernel
theorem dX0_meansOfAll_1 : decode cX0_meansOfAll 1 = .ok (.istore_n 1, 1) := by decide +kernel
theorem dX0_meansOfAll_2 : decode cX0_meansOfAll 2 = .ok (.iconst 0, 1) := by decide +kernel
theorem dX0_meansOfAll_3 : decode cX0_meansOfAll 3 = .ok (.istore_n 2, 1) := by decide +kernel
theorem dX0_meansOfAll_4 : decode cX0_meansOfAll 4 = .ok (.iload_n 2, 1) := by decide +kernel
theorem dX0_meansOfAll_5 : decode cX0_meansOfAll 5 = .ok (.aload_n 0, 1) := by decide +kernel
theorem dX0_meansOfAll_6 : decode cX0_meansOfAll 6 = .ok (.getfield 43, 3) := by decide +kernel
theorem dX0_meansOfAll_9 : decode cX0_meansOfAll 9 = .ok (.if_icmp .ge 18, 3) := by decide +kernel
theorem dX0_meansOfAll_12 : decode cX0_meansOfAll 12 = .ok (.iload_n 1, 1) := by decide +kernel
theorem dX0_meansOfAll_13 : decode cX0_meansOfAll 13 = .ok (.aload_n 0, 1) := by decide +kernel
theorem dX0_meansOfAll_14 : decode cX0_meansOfAll 14 = .ok (.getfield 24, 3) := by decide +kernel
theorem dX0_meansOfAll_17 : decode cX0_meansOfAll 17 = .ok (.iload_n 2, 1) := by decide +kernel
theorem dX0_meansOfAll_18 : decode cX0_meansOfAll 18 = .ok (.iaload, 1) := by decide +kernel
theorem dX0_meansOfAll_19 : decode cX0_meansOfAll 19 = .ok (.iadd, 1) := by decide +kernel
theorem dX0_meansOfAll_20 : decode cX0_meansOfAll 20 = .ok (.istore_n 1, 1) := by decide +kernel
theorem dX0_meansOfAll_21 : decode cX0_meansOfAll 21 = .ok (.iinc 2 1, 3) := by decide +kernel
theorem dX0_meansOfAll_24 : decode cX0_meansOfAll 24 = .ok (.goto (-20), 3) := by decide +kernel
theorem dX0_meansOfAll_27 : decode cX0_meansOfAll 27 = .ok (.iload_n 1, 1) := by decide +kernel
theorem dX0_meansOfAll_28 : decode cX0_meansOfAll 28 = .ok (.ireturn, 1) := by decide +kernel
theorem dX0_fewestTo_0 : decode cX0_fewestTo 0 = .ok (.aload_n 0, 1) := by decide +kernel
theorem dX0_fewestTo_1 : decode cX0_fewestTo 1 = .ok (.iload_n 1, 1) := by decide +kernel
theorem dX0_fewestTo_2 : decode cX0_fewestTo 2 = .ok (.invokevirtual 57, 3) := by decide +kernel
theorem dX0_fewestTo_5 : decode cX0_fewestTo 5 = .ok (.ifCond .ne 6, 3) := by decide +kernel
theorem dX0_fewestTo_8 : decode cX0_fewestTo 8 = .ok (.bipush (-9), 2) := by decide +kernel
theorem dX0_fewestTo_10 : decode cX0_fewestTo 10 = .ok (.ireturn, 1) := by decide +kernel
theorem dX0_fewestTo_11 : decode cX0_fewestTo 11 = .ok (.iconst 1, 1) := by decide +kernel
theorem dX0_fewestTo_12 : decode cX0_fewestTo 12 = .ok (.aload_n 0, 1) := by decide +kernel
theorem dX0_fewestTo_13 : decode cX0_fewestTo 13 = .ok (.getfield 27, 3) := by decide +kernel
theorem dX0_fewestTo_16 : decode cX0_fewestTo 16 = .ok (.iload_n 1, 1) := by decide +kernel
theorem dX0_fewestTo_17 : decode cX0_fewestTo 17 = .ok (.iaload, 1) := by decide +kernel
theorem dX0_fewestTo_18 : decode cX0_fewestTo 18 = .ok (.ishl, 1) := by decide +kernel
theorem dX0_fewestTo_19 : decode cX0_fewestTo 19 = .ok (.istore_n 3, 1) := by decide +kernel
theorem dX0_fewestTo_20 : decode cX0_fewestTo 20 = .ok (.iconst 0, 1) := by decide +kernel
theorem dX0_fewestTo_21 : decode cX0_fewestTo 21 = .ok (.istore 4, 2) := by decide +kernel
theorem dX0_fewestTo_23 : decode cX0_fewestTo 23 = .ok (.iload 4, 2) := by decide +kernel
theorem dX0_fewestTo_25 : decode cX0_fewestTo 25 = .ok (.aload_n 0, 1) := by decide +kernel
theorem dX0_fewestTo_26 : decode cX0_fewestTo 26 = .ok (.getfield 39, 3) := by decide +kernel
theorem dX0_fewestTo_29 : decode cX0_fewestTo 29 = .ok (.if_icmp .gt 40, 3) := by decide +kernel
theorem dX0_fewestTo_32 : decode cX0_fewestTo 32 = .ok (.iload_n 3, 1) := by decide +kernel
theorem dX0_fewestTo_33 : decode cX0_fewestTo 33 = .ok (.iload_n 2, 1) := by decide +kernel
theorem dX0_fewestTo_34 : decode cX0_fewestTo 34 = .ok (.aload_n 0, 1) := by decide +kernel
theorem dX0_fewestTo_35 : decode cX0_fewestTo 35 = .ok (.getfield 30, 3) := by decide +kernel
theorem dX0_fewestTo_38 : decode cX0_fewestTo 38 = .ok (.iload_n 1, 1) := by decide +kernel
theorem dX0_fewestTo_39 : decode cX0_fewestTo 39 = .ok (.iaload, 1) := by decide +kernel
theorem dX0_fewestTo_40 : decode cX0_fewestTo 40 = .ok (.invokestatic 83, 3) := by decide +kernel
theorem dX0_fewestTo_43 : decode cX0_fewestTo 43 = .ok (.ifCond .eq 6, 3) := by decide +kernel
theorem dX0_fewestTo_46 : decode cX0_fewestTo 46 = .ok (.iload 4, 2) := by decide +kernel
theorem dX0_fewestTo_48 : decode cX0_fewestTo 48 = .ok (.ireturn, 1) := by decide +kernel
theorem dX0_fewestTo_49 : decode cX0_fewestTo 49 = .ok (.iload_n 3, 1) := by decide +kernel
theorem dX0_fewestTo_50 : decode cX0_fewestTo 50 = .ok (.aload_n 0, 1) := by decide +kernel
theorem dX0_fewestTo_51 : decode cX0_fewestTo 51 = .ok (.iload_n 3, 1) := by decide +kernel
theorem dX0_fewestTo_52 : decode cX0_fewestTo 52 = .ok (.aload_n 0, 1) := by decide +kernel
theorem dX0_fewestTo_53 : decode cX0_fewestTo 53 = .ok (.getfield 30, 3) := by decide +kernel
theorem dX0_fewestTo_56 : decode cX0_fewestTo 56 = .ok (.iload_n 1, 1) := by decide +kernel
theorem dX0_fewestTo_57 : decode cX0_fewestTo 57 = .ok (.iaload, 1) := by decide +kernel
theorem dX0_fewestTo_58 : decode cX0_fewestTo 58 = .ok (.invokevirtual 86, 3) := by decide +kernel
theorem dX0_fewestTo_61 : decode cX0_fewestTo 61 = .ok (.ior, 1) := by decide +kernel
theorem dX0_fewestTo_62 : decode cX0_fewestTo 62 = .ok (.istore_n 3, 1) := by decide +kernel
theorem dX0_fewestTo_63 : decode cX0_fewestTo 63 = .ok (.iinc 4 1, 3) := by decide +kernel
theorem dX0_fewestTo_66 : decode cX0_fewestTo 66 = .ok (.goto (-43), 3) := by decide +kernel
theorem dX0_fewestTo_69 : decode cX0_fewestTo 69 = .ok (.bipush (-9), 2) := by decide +kernel
theorem dX0_fewestTo_71 : decode cX0_fewestTo 71 = .ok (.ireturn, 1) := by decide +kernel
theorem dX0_sitesNear_0 : decode cX0_sitesNear 0 = .ok (.iconst 0, 1) := by decide +kernel
theorem dX0_sitesNear_1 : decode cX0_sitesNear 1 = .ok (.istore_n 3, 1) := by decide +kernel
theorem dX0_sitesNear_2 : decode cX0_sitesNear 2 = .ok (.iconst 0, 1) := by decide +kernel
theorem dX0_sitesNear_3 : decode cX0_sitesNear 3 = .ok (.istore 4, 2) := by decide +kernel
theorem dX0_sitesNear_5 : decode cX0_sitesNear 5 = .ok (.iload 4, 2) := by decide +kernel
theorem dX0_sitesNear_7 : decode cX0_sitesNear 7 = .ok (.aload_n 0, 1) := by decide +kernel
theorem dX0_sitesNear_8 : decode cX0_sitesNear 8 = .ok (.getfield 39, 3) := by decide +kernel
theorem dX0_sitesNear_11 : decode cX0_sitesNear 11 = .ok (.if_icmp .ge 36, 3) := by decide +kernel
theorem dX0_sitesNear_14 : decode cX0_sitesNear 14 = .ok (.iload_n 1, 1) := by decide +kernel
theorem dX0_sitesNear_15 : decode cX0_sitesNear 15 = .ok (.aload_n 0, 1) := by decide +kernel
theorem dX0_sitesNear_16 : decode cX0_sitesNear 16 = .ok (.getfield 21, 3) := by decide +kernel
theorem dX0_sitesNear_19 : decode cX0_sitesNear 19 = .ok (.iload 4, 2) := by decide +kernel
theorem dX0_sitesNear_21 : decode cX0_sitesNear 21 = .ok (.iaload, 1) := by decide +kernel
theorem dX0_sitesNear_22 : decode cX0_sitesNear 22 = .ok (.iload_n 2, 1) := by decide +kernel
theorem dX0_sitesNear_23 : decode cX0_sitesNear 23 = .ok (.invokestatic 83, 3) := by decide +kernel
theorem dX0_sitesNear_26 : decode cX0_sitesNear 26 = .ok (.ifCond .eq 15, 3) := by decide +kernel
theorem dX0_sitesNear_29 : decode cX0_sitesNear 29 = .ok (.iload_n 3, 1) := by decide +kernel
theorem dX0_sitesNear_30 : decode cX0_sitesNear 30 = .ok (.iconst 1, 1) := by decide +kernel
theorem dX0_sitesNear_31 : decode cX0_sitesNear 31 = .ok (.aload_n 0, 1) := by decide +kernel
theorem dX0_sitesNear_32 : decode cX0_sitesNear 32 = .ok (.getfield 21, 3) := by decide +kernel
theorem dX0_sitesNear_35 : decode cX0_sitesNear 35 = .ok (.iload 4, 2) := by decide +kernel
theorem dX0_sitesNear_37 : decode cX0_sitesNear 37 = .ok (.iaload, 1) := by decide +kernel
theorem dX0_sitesNear_38 : decode cX0_sitesNear 38 = .ok (.ishl, 1) := by decide +kernel
theorem dX0_sitesNear_39 : decode cX0_sitesNear 39 = .ok (.ior, 1) := by decide +kernel
theorem dX0_sitesNear_40 : decode cX0_sitesNear 40 = .ok (.istore_n 3, 1) := by decide +kernel
theorem dX0_sitesNear_41 : decode cX0_sitesNear 41 = .ok (.iinc 4 1, 3) := by decide +kernel
theorem dX0_sitesNear_44 : decode cX0_sitesNear 44 = .ok (.goto (-39), 3) := by decide +kernel
theorem dX0_sitesNear_47 : decode cX0_sitesNear 47 = .ok (.iload_n 3, 1) := by decide +kernel
theorem dX0_sitesNear_48 : decode cX0_sitesNear 48 = .ok (.ireturn, 1) := by decide +kernel
theorem dX0_isNearAny_0 : decode cX0_isNearAny 0 = .ok (.iconst 0, 1) := by decide +kernel
theorem dX0_isNearAny_1 : decode cX0_isNearAny 1 = .ok (.istore_n 3, 1) := by decide +kernel
theorem dX0_isNearAny_2 : decode cX0_isNearAny 2 = .ok (.iload_n 3, 1) := by decide +kernel
theorem dX0_isNearAny_3 : decode cX0_isNearAny 3 = .ok (.bipush 9, 2) := by decide +kernel
theorem dX0_isNearAny_5 : decode cX0_isNearAny 5 = .ok (.if_icmp .gt 29, 3) := by decide +kernel
theorem dX0_isNearAny_8 : decode cX0_isNearAny 8 = .ok (.iload_n 0, 1) := by decide +kernel
theorem dX0_isNearAny_9 : decode cX0_isNearAny 9 = .ok (.iload_n 3, 1) := by decide +kernel
theorem dX0_isNearAny_10 : decode cX0_isNearAny 10 = .ok (.ishr, 1) := by decide +kernel
theorem dX0_isNearAny_11 : decode cX0_isNearAny 11 = .ok (.iconst 1, 1) := by decide +kernel
theorem dX0_isNearAny_12 : decode cX0_isNearAny 12 = .ok (.iand, 1) := by decide +kernel
theorem dX0_isNearAny_13 : decode cX0_isNearAny 13 = .ok (.iconst 1, 1) := by decide +kernel
theorem dX0_isNearAny_14 : decode cX0_isNearAny 14 = .ok (.if_icmp .ne 14, 3) := by decide +kernel
theorem dX0_isNearAny_17 : decode cX0_isNearAny 17 = .ok (.iload_n 3, 1) := by decide +kernel
theorem dX0_isNearAny_18 : decode cX0_isNearAny 18 = .ok (.iload_n 1, 1) := by decide +kernel
theorem dX0_isNearAny_19 : decode cX0_isNearAny 19 = .ok (.iload_n 2, 1) := by decide +kernel
theorem dX0_isNearAny_20 : decode cX0_isNearAny 20 = .ok (.invokestatic 60, 3) := by decide +kernel
theorem dX0_isNearAny_23 : decode cX0_isNearAny 23 = .ok (.ifCond .eq 5, 3) := by decide +kernel
theorem dX0_isNearAny_26 : decode cX0_isNearAny 26 = .ok (.iconst 1, 1) := by decide +kernel
theorem dX0_isNearAny_27 : decode cX0_isNearAny 27 = .ok (.ireturn, 1) := by decide +kernel
theorem dX0_isNearAny_28 : decode cX0_isNearAny 28 = .ok (.iinc 3 1, 3) := by decide +kernel
theorem dX0_isNearAny_31 : decode cX0_isNearAny 31 = .ok (.goto (-29), 3) := by decide +kernel
theorem dX0_isNearAny_34 : decode cX0_isNearAny 34 = .ok (.iconst 0, 1) := by decide +kernel
theorem dX0_isNearAny_35 : decode cX0_isNearAny 35 = .ok (.ireturn, 1) := by decide +kernel
theorem dX0_waysToFill_0 : decode cX0_waysToFill 0 = .ok (.lconst 0, 1) := by decide +kernel
theorem dX0_waysToFill_1 : decode cX0_waysToFill 1 = .ok (.lstore_n 2, 1) := by decide +kernel
theorem dX0_waysToFill_2 : decode cX0_waysToFill 2 = .ok (.aload_n 0, 1) := by decide +kernel
theorem dX0_waysToFill_3 : decode cX0_waysToFill 3 = .ok (.iload_n 1, 1) := by decide +kernel
theorem dX0_waysToFill_4 : decode cX0_waysToFill 4 = .ok (.invokevirtual 77, 3) := by decide +kernel
theorem dX0_waysToFill_7 : decode cX0_waysToFill 7 = .ok (.istore 4, 2) := by decide +kernel
theorem dX0_waysToFill_9 : decode cX0_waysToFill 9 = .ok (.iload 4, 2) := by decide +kernel
theorem dX0_waysToFill_11 : decode cX0_waysToFill 11 = .ok (.aload_n 0, 1) := by decide +kernel
theorem dX0_waysToFill_12 : decode cX0_waysToFill 12 = .ok (.getfield 43, 3) := by decide +kernel
theorem dX0_waysToFill_15 : decode cX0_waysToFill 15 = .ok (.if_icmp .gt 37, 3) := by decide +kernel
theorem dX0_waysToFill_18 : decode cX0_waysToFill 18 = .ok (.lload_n 2, 1) := by decide +kernel
theorem dX0_waysToFill_19 : decode cX0_waysToFill 19 = .ok (.aload_n 0, 1) := by decide +kernel
theorem dX0_waysToFill_20 : decode cX0_waysToFill 20 = .ok (.getfield 43, 3) := by decide +kernel
theorem dX0_waysToFill_23 : decode cX0_waysToFill 23 = .ok (.iload 4, 2) := by decide +kernel
theorem dX0_waysToFill_25 : decode cX0_waysToFill 25 = .ok (.invokestatic 89, 3) := by decide +kernel
theorem dX0_waysToFill_28 : decode cX0_waysToFill 28 = .ok (.aload_n 0, 1) := by decide +kernel
theorem dX0_waysToFill_29 : decode cX0_waysToFill 29 = .ok (.getfield 39, 3) := by decide +kernel
theorem dX0_waysToFill_32 : decode cX0_waysToFill 32 = .ok (.i2l, 1) := by decide +kernel
theorem dX0_waysToFill_33 : decode cX0_waysToFill 33 = .ok (.aload_n 0, 1) := by decide +kernel
theorem dX0_waysToFill_34 : decode cX0_waysToFill 34 = .ok (.getfield 43, 3) := by decide +kernel
theorem dX0_waysToFill_37 : decode cX0_waysToFill 37 = .ok (.iload 4, 2) := by decide +kernel
theorem dX0_waysToFill_39 : decode cX0_waysToFill 39 = .ok (.isub, 1) := by decide +kernel
theorem dX0_waysToFill_40 : decode cX0_waysToFill 40 = .ok (.invokestatic 93, 3) := by decide +kernel
theorem dX0_waysToFill_43 : decode cX0_waysToFill 43 = .ok (.lmul, 1) := by decide +kernel
theorem dX0_waysToFill_44 : decode cX0_waysToFill 44 = .ok (.ladd, 1) := by decide +kernel
theorem dX0_waysToFill_45 : decode cX0_waysToFill 45 = .ok (.lstore_n 2, 1) := by decide +kernel
theorem dX0_waysToFill_46 : decode cX0_waysToFill 46 = .ok (.iinc 4 1, 3) := by decide +kernel
theorem dX0_waysToFill_49 : decode cX0_waysToFill 49 = .ok (.goto (-40), 3) := by decide +kernel
theorem dX0_waysToFill_52 : decode cX0_waysToFill 52 = .ok (.lload_n 2, 1) := by decide +kernel
theorem dX0_waysToFill_53 : decode cX0_waysToFill 53 = .ok (.lreturn, 1) := by decide +kernel
end
section
theorem dX1_init_0 : decode cX1_init 0 = .ok (.aload_n 0, 1) := by decide +kernel
theorem dX1_init_1 : decode cX1_init 1 = .ok (.invokespecial 3, 3) := by decide +kernel
theorem dX1_init_4 : decode cX1_init 4 = .ok (.aload_n 0, 1) := by decide +kernel
theorem dX1_init_5 : decode cX1_init 5 = .ok (.iconst 5, 1) := by decide +kernel
theorem dX1_init_6 : decode cX1_init 6 = .ok (.newarray .int, 2) := by decide +kernel
theorem dX1_init_8 : decode cX1_init 8 = .ok (.putfield 9, 3) := by decide +kernel
theorem dX1_init_11 : decode cX1_init 11 = .ok (.aload_n 0, 1) := by decide +kernel
theorem dX1_init_12 : decode cX1_init 12 = .ok (.iconst 5, 1) := by decide +kernel
theorem dX1_init_13 : decode cX1_init 13 = .ok (.newarray .int, 2) := by decide +kernel
theorem dX1_init_15 : decode cX1_init 15 = .ok (.putfield 15, 3) := by decide +kernel
theorem dX1_init_18 : decode cX1_init 18 = .ok (.aload_n 0, 1) := by decide +kernel
theorem dX1_init_19 : decode cX1_init 19 = .ok (.iconst 5, 1) := by decide +kernel
theorem dX1_init_20 : decode cX1_init 20 = .ok (.newarray .int, 2) := by decide +kernel
theorem dX1_init_22 : decode cX1_init 22 = .ok (.putfield 18, 3) := by decide +kernel
theorem dX1_init_25 : decode cX1_init 25 = .ok (.return_, 1) := by decide +kernel
theorem dX1_search_0 : decode cX1_search 0 = .ok (.iconst 0, 1) := by decide +kernel
theorem dX1_search_1 : decode cX1_search 1 = .ok (.istore_n 3, 1) := by decide +kernel
theorem dX1_search_2 : decode cX1_search 2 = .ok (.iload_n 3, 1) := by decide +kernel
theorem dX1_search_3 : decode cX1_search 3 = .ok (.aload_n 1, 1) := by decide +kernel
theorem dX1_search_4 : decode cX1_search 4 = .ok (.getfield 21, 3) := by decide +kernel
theorem dX1_search_7 : decode cX1_search 7 = .ok (.if_icmp .ge 29, 3) := by decide +kernel
theorem dX1_search_10 : decode cX1_search 10 = .ok (.aload_n 0, 1) := by decide +kernel
theorem dX1_search_11 : decode cX1_search 11 = .ok (.getfield 18, 3) := by decide +kernel
theorem dX1_search_14 : decode cX1_search 14 = .ok (.iload_n 3, 1) := by decide +kernel
theorem dX1_search_15 : decode cX1_search 15 = .ok (.iload_n 3, 1) := by decide +kernel
theorem dX1_search_16 : decode cX1_search 16 = .ok (.iload_n 2, 1) := by decide +kernel
theorem dX1_search_17 : decode cX1_search 17 = .ok (.if_icmp .ne 7, 3) := by decide +kernel
theorem dX1_search_20 : decode cX1_search 20 = .ok (.iconst 0, 1) := by decide +kernel
theorem dX1_search_21 : decode cX1_search 21 = .ok (.goto 8, 3) := by decide +kernel
theorem dX1_search_24 : decode cX1_search 24 = .ok (.aload_n 1, 1) := by decide +kernel
theorem dX1_search_25 : decode cX1_search 25 = .ok (.iload_n 3, 1) := by decide +kernel
theorem dX1_search_26 : decode cX1_search 26 = .ok (.invokevirtual 27, 3) := by decide +kernel
theorem dX1_search_29 : decode cX1_search 29 = .ok (.iastore, 1) := by decide +kernel
theorem dX1_search_30 : decode cX1_search 30 = .ok (.iinc 3 1, 3) := by decide +kernel
theorem dX1_search_33 : decode cX1_search 33 = .ok (.goto (-31), 3) := by decide +kernel
theorem dX1_search_36 : decode cX1_search 36 = .ok (.aload_n 0, 1) := by decide +kernel
theorem dX1_search_37 : decode cX1_search 37 = .ok (.bipush (-9), 2) := by decide +kernel
theorem dX1_search_39 : decode cX1_search 39 = .ok (.putfield 31, 3) := by decide +kernel
theorem dX1_search_42 : decode cX1_search 42 = .ok (.aload_n 0, 1) := by decide +kernel
theorem dX1_search_43 : decode cX1_search 43 = .ok (.iconst 0, 1) := by decide +kernel
theorem dX1_search_44 : decode cX1_search 44 = .ok (.putfield 34, 3) := by decide +kernel
theorem dX1_search_47 : decode cX1_search 47 = .ok (.aload_n 0, 1) := by decide +kernel
theorem dX1_search_48 : decode cX1_search 48 = .ok (.aload_n 1, 1) := by decide +kernel
theorem dX1_search_49 : decode cX1_search 49 = .ok (.iconst 0, 1) := by decide +kernel
theorem dX1_search_50 : decode cX1_search 50 = .ok (.iconst 0, 1) := by decide +kernel
theorem dX1_search_51 : decode cX1_search 51 = .ok (.iconst 0, 1) := by decide +kernel
theorem dX1_search_52 : decode cX1_search 52 = .ok (.invokevirtual 37, 3) := by decide +kernel
theorem dX1_search_55 : decode cX1_search 55 = .ok (.return_, 1) := by decide +kernel
theorem dX1_place_0 : decode cX1_place 0 = .ok (.iload_n 3, 1) := by decide +kernel
theorem dX1_place_1 : decode cX1_place 1 = .ok (.aload_n 1, 1) := by decide +kernel
theorem dX1_place_2 : decode cX1_place 2 = .ok (.getfield 41, 3) := by decide +kernel
theorem dX1_place_5 : decode cX1_place 5 = .ok (.iadd, 1) := by decide +kernel
theorem dX1_place_6 : decode cX1_place 6 = .ok (.iload_n 2, 1) := by decide +kernel
theorem dX1_place_7 : decode cX1_place 7 = .ok (.isub, 1) := by decide +kernel
theorem dX1_place_8 : decode cX1_place 8 = .ok (.istore 5, 2) := by decide +kernel
theorem dX1_place_10 : decode cX1_place 10 = .ok (.iload 5, 2) := by decide +kernel
theorem dX1_place_12 : decode cX1_place 12 = .ok (.aload_n 0, 1) := by decide +kernel
theorem dX1_place_13 : decode cX1_place 13 = .ok (.getfield 31, 3) := by decide +kernel
theorem dX1_place_16 : decode cX1_place 16 = .ok (.if_icmp .lt 21, 3) := by decide +kernel
theorem dX1_place_19 : decode cX1_place 19 = .ok (.iload 5, 2) := by decide +kernel
theorem dX1_place_21 : decode cX1_place 21 = .ok (.aload_n 0, 1) := by decide +kernel
theorem dX1_place_22 : decode cX1_place 22 = .ok (.getfield 31, 3) := by decide +kernel
theorem dX1_place_25 : decode cX1_place 25 = .ok (.if_icmp .ne 13, 3) := by decide +kernel
theorem dX1_place_28 : decode cX1_place 28 = .ok (.iload 4, 2) := by decide +kernel
theorem dX1_place_30 : decode cX1_place 30 = .ok (.aload_n 0, 1) := by decide +kernel
theorem dX1_place_31 : decode cX1_place 31 = .ok (.getfield 34, 3) := by decide +kernel
theorem dX1_place_34 : decode cX1_place 34 = .ok (.if_icmp .lt 4, 3) := by decide +kernel
theorem dX1_place_37 : decode cX1_place 37 = .ok (.return_, 1) := by decide +kernel
theorem dX1_place_38 : decode cX1_place 38 = .ok (.aload_n 1, 1) := by decide +kernel
theorem dX1_place_39 : decode cX1_place 39 = .ok (.iload_n 2, 1) := by decide +kernel
theorem dX1_place_40 : decode cX1_place 40 = .ok (.invokevirtual 44, 3) := by decide +kernel
theorem dX1_place_43 : decode cX1_place 43 = .ok (.ifCond .ne 15, 3) := by decide +kernel
theorem dX1_place_46 : decode cX1_place 46 = .ok (.aload_n 0, 1) := by decide +kernel
theorem dX1_place_47 : decode cX1_place 47 = .ok (.aload_n 1, 1) := by decide +kernel
theorem dX1_place_48 : decode cX1_place 48 = .ok (.getfield 41, 3) := by decide +kernel
theorem dX1_place_51 : decode cX1_place 51 = .ok (.iload_n 3, 1) := by decide +kernel
theorem dX1_place_52 : decode cX1_place 52 = .ok (.iload 4, 2) := by decide +kernel
theorem dX1_place_54 : decode cX1_place 54 = .ok (.invokevirtual 48, 3) := by decide +kernel
theorem dX1_place_57 : decode cX1_place 57 = .ok (.return_, 1) := by decide +kernel
theorem dX1_place_58 : decode cX1_place 58 = .ok (.iconst 0, 1) := by decide +kernel
theorem dX1_place_59 : decode cX1_place 59 = .ok (.istore 6, 2) := by decide +kernel
theorem dX1_place_61 : decode cX1_place 61 = .ok (.iload 6, 2) := by decide +kernel
theorem dX1_place_63 : decode cX1_place 63 = .ok (.aload_n 1, 1) := by decide +kernel
theorem dX1_place_64 : decode cX1_place 64 = .ok (.getfield 21, 3) := by decide +kernel
theorem dX1_place_67 : decode cX1_place 67 = .ok (.if_icmp .ge 80, 3) := by decide +kernel
theorem dX1_place_70 : decode cX1_place 70 = .ok (.aload_n 0, 1) := by decide +kernel
theorem dX1_place_71 : decode cX1_place 71 = .ok (.getfield 18, 3) := by decide +kernel
theorem dX1_place_74 : decode cX1_place 74 = .ok (.iload 6, 2) := by decide +kernel
theorem dX1_place_76 : decode cX1_place 76 = .ok (.iaload, 1) := by decide +kernel
theorem dX1_place_77 : decode cX1_place 77 = .ok (.ifCond .le 64, 3) := by decide +kernel
theorem dX1_place_80 : decode cX1_place 80 = .ok (.aload_n 1, 1) := by decide +kernel
theorem dX1_place_81 : decode cX1_place 81 = .ok (.iload_n 2, 1) := by decide +kernel
theorem dX1_place_82 : decode cX1_place 82 = .ok (.iload 6, 2) := by decide +kernel
theorem dX1_place_84 : decode cX1_place 84 = .ok (.invokevirtual 52, 3) := by decide +kernel
theorem dX1_place_87 : decode cX1_place 87 = .ok (.ifCond .eq 54, 3) := by decide +kernel
theorem dX1_place_90 : decode cX1_place 90 = .ok (.aload_n 0, 1) := by decide +kernel
theorem dX1_place_91 : decode cX1_place 91 = .ok (.getfield 18, 3) := by decide +kernel
theorem dX1_place_94 : decode cX1_place 94 = .ok (.iload 6, 2) := by decide +kernel
theorem dX1_place_96 : decode cX1_place 96 = .ok (.dup2, 1) := by decide +kernel
theorem dX1_place_97 : decode cX1_place 97 = .ok (.iaload, 1) := by decide +kernel
theorem dX1_place_98 : decode cX1_place 98 = .ok (.iconst 1, 1) := by decide +kernel
theorem dX1_place_99 : decode cX1_place 99 = .ok (.isub, 1) := by decide +kernel
theorem dX1_place_100 : decode cX1_place 100 = .ok (.iastore, 1) := by decide +kernel
theorem dX1_place_101 : decode cX1_place 101 = .ok (.aload_n 0, 1) := by decide +kernel
theorem dX1_place_102 : decode cX1_place 102 = .ok (.getfield 9, 3) := by decide +kernel
theorem dX1_place_105 : decode cX1_place 105 = .ok (.iload_n 2, 1) := by decide +kernel
theorem dX1_place_106 : decode cX1_place 106 = .ok (.iload 6, 2) := by decide +kernel
theorem dX1_place_108 : decode cX1_place 108 = .ok (.iastore, 1) := by decide +kernel
theorem dX1_place_109 : decode cX1_place 109 = .ok (.aload_n 0, 1) := by decide +kernel
theorem dX1_place_110 : decode cX1_place 110 = .ok (.aload_n 1, 1) := by decide +kernel
theorem dX1_place_111 : decode cX1_place 111 = .ok (.iload_n 2, 1) := by decide +kernel
theorem dX1_place_112 : decode cX1_place 112 = .ok (.iconst 1, 1) := by decide +kernel
theorem dX1_place_113 : decode cX1_place 113 = .ok (.iadd, 1) := by decide +kernel
theorem dX1_place_114 : decode cX1_place 114 = .ok (.iload_n 3, 1) := by decide +kernel
theorem dX1_place_115 : decode cX1_place 115 = .ok (.iconst 1, 1) := by decide +kernel
theorem dX1_place_116 : decode cX1_place 116 = .ok (.iadd, 1) := by decide +kernel
theorem dX1_place_117 : decode cX1_place 117 = .ok (.iload 4, 2) := by decide +kernel
theorem dX1_place_119 : decode cX1_place 119 = .ok (.aload_n 1, 1) := by decide +kernel
theorem dX1_place_120 : decode cX1_place 120 = .ok (.getfield 56, 3) := by decide +kernel
theorem dX1_place_123 : decode cX1_place 123 = .ok (.iload 6, 2) := by decide +kernel
theorem dX1_place_125 : decode cX1_place 125 = .ok (.iaload, 1) := by decide +kernel
theorem dX1_place_126 : decode cX1_place 126 = .ok (.iadd, 1) := by decide +kernel
theorem dX1_place_127 : decode cX1_place 127 = .ok (.invokevirtual 37, 3) := by decide +kernel
theorem dX1_place_130 : decode cX1_place 130 = .ok (.aload_n 0, 1) := by decide +kernel
theorem dX1_place_131 : decode cX1_place 131 = .ok (.getfield 18, 3) := by decide +kernel
theorem dX1_place_134 : decode cX1_place 134 = .ok (.iload 6, 2) := by decide +kernel
theorem dX1_place_136 : decode cX1_place 136 = .ok (.dup2, 1) := by decide +kernel
theorem dX1_place_137 : decode cX1_place 137 = .ok (.iaload, 1) := by decide +kernel
theorem dX1_place_138 : decode cX1_place 138 = .ok (.iconst 1, 1) := by decide +kernel
theorem dX1_place_139 : decode cX1_place 139 = .ok (.iadd, 1) := by decide +kernel
theorem dX1_place_140 : decode cX1_place 140 = .ok (.iastore, 1) := by decide +kernel
theorem dX1_place_141 : decode cX1_place 141 = .ok (.iinc 6 1, 3) := by decide +kernel
theorem dX1_place_144 : decode cX1_place 144 = .ok (.goto (-83), 3) := by decide +kernel
theorem dX1_place_147 : decode cX1_place 147 = .ok (.aload_n 0, 1) := by decide +kernel
theorem dX1_place_148 : decode cX1_place 148 = .ok (.getfield 9, 3) := by decide +kernel
theorem dX1_place_151 : decode cX1_place 151 = .ok (.iload_n 2, 1) := by decide +kernel
theorem dX1_place_152 : decode cX1_place 152 = .ok (.aload_n 1, 1) := by decide +kernel
theorem dX1_place_153 : decode cX1_place 153 = .ok (.getfield 21, 3) := by decide +kernel
theorem dX1_place_156 : decode cX1_place 156 = .ok (.iastore, 1) := by decide +kernel
theorem dX1_place_157 : decode cX1_place 157 = .ok (.aload_n 0, 1) := by decide +kernel
theorem dX1_place_158 : decode cX1_place 158 = .ok (.aload_n 1, 1) := by decide +kernel
theorem dX1_place_159 : decode cX1_place 159 = .ok (.iload_n 2, 1) := by decide +kernel
theorem dX1_place_160 : decode cX1_place 160 = .ok (.iconst 1, 1) := by decide +kernel
theorem dX1_place_161 : decode cX1_place 161 = .ok (.iadd, 1) := by decide +kernel
theorem dX1_place_162 : decode cX1_place 162 = .ok (.iload_n 3, 1) := by decide +kernel
theorem dX1_place_163 : decode cX1_place 163 = .ok (.iload 4, 2) := by decide +kernel
theorem dX1_place_165 : decode cX1_place 165 = .ok (.invokevirtual 37, 3) := by decide +kernel
theorem dX1_place_168 : decode cX1_place 168 = .ok (.return_, 1) := by decide +kernel
theorem dX1_keep_0 : decode cX1_keep 0 = .ok (.aload_n 0, 1) := by decide +kernel
theorem dX1_keep_1 : decode cX1_keep 1 = .ok (.iload_n 2, 1) := by decide +kernel
theorem dX1_keep_2 : decode cX1_keep 2 = .ok (.putfield 31, 3) := by decide +kernel
theorem dX1_keep_5 : decode cX1_keep 5 = .ok (.aload_n 0, 1) := by decide +kernel
theorem dX1_keep_6 : decode cX1_keep 6 = .ok (.iload_n 3, 1) := by decide +kernel
theorem dX1_keep_7 : decode cX1_keep 7 = .ok (.putfield 34, 3) := by decide +kernel
theorem dX1_keep_10 : decode cX1_keep 10 = .ok (.iconst 0, 1) := by decide +kernel
theorem dX1_keep_11 : decode cX1_keep 11 = .ok (.istore 4, 2) := by decide +kernel
theorem dX1_keep_13 : decode cX1_keep 13 = .ok (.iload 4, 2) := by decide +kernel
theorem dX1_keep_15 : decode cX1_keep 15 = .ok (.iload_n 1, 1) := by decide +kernel
theorem dX1_keep_16 : decode cX1_keep 16 = .ok (.if_icmp .ge 23, 3) := by decide +kernel
theorem dX1_keep_19 : decode cX1_keep 19 = .ok (.aload_n 0, 1) := by decide +kernel
theorem dX1_keep_20 : decode cX1_keep 20 = .ok (.getfield 15, 3) := by decide +kernel
theorem dX1_keep_23 : decode cX1_keep 23 = .ok (.iload 4, 2) := by decide +kernel
theorem dX1_keep_25 : decode cX1_keep 25 = .ok (.aload_n 0, 1) := by decide +kernel
theorem dX1_keep_26 : decode cX1_keep 26 = .ok (.getfield 9, 3) := by decide +kernel
theorem dX1_keep_29 : decode cX1_keep 29 = .ok (.iload 4, 2) := by decide +kernel
theorem dX1_keep_31 : decode cX1_keep 31 = .ok (.iaload, 1) := by decide +kernel
theorem dX1_keep_32 : decode cX1_keep 32 = .ok (.iastore, 1) := by decide +kernel
theorem dX1_keep_33 : decode cX1_keep 33 = .ok (.iinc 4 1, 3) := by decide +kernel
theorem dX1_keep_36 : decode cX1_keep 36 = .ok (.goto (-23), 3) := by decide +kernel
theorem dX1_keep_39 : decode cX1_keep 39 = .ok (.return_, 1) := by decide +kernel
end
section
theorem dX2_init_0 : decode cX2_init 0 = .ok (.aload_n 0, 1) := by decide +kernel
theorem dX2_init_1 : decode cX2_init 1 = .ok (.invokespecial 3, 3) := by decide +kernel
theorem dX2_init_4 : decode cX2_init 4 = .ok (.aload_n 0, 1) := by decide +kernel
theorem dX2_init_5 : decode cX2_init 5 = .ok (.iconst 5, 1) := by decide +kernel
theorem dX2_init_6 : decode cX2_init 6 = .ok (.newarray .int, 2) := by decide +kernel
theorem dX2_init_8 : decode cX2_init 8 = .ok (.putfield 9, 3) := by decide +kernel
theorem dX2_init_11 : decode cX2_init 11 = .ok (.aload_n 0, 1) := by decide +kernel
theorem dX2_init_12 : decode cX2_init 12 = .ok (.iconst 5, 1) := by decide +kernel
theorem dX2_init_13 : decode cX2_init 13 = .ok (.newarray .int, 2) := by decide +kernel
theorem dX2_init_15 : decode cX2_init 15 = .ok (.putfield 15, 3) := by decide +kernel
theorem dX2_init_18 : decode cX2_init 18 = .ok (.aload_n 0, 1) := by decide +kernel
theorem dX2_init_19 : decode cX2_init 19 = .ok (.iconst 5, 1) := by decide +kernel
theorem dX2_init_20 : decode cX2_init 20 = .ok (.newarray .int, 2) := by decide +kernel
theorem dX2_init_22 : decode cX2_init 22 = .ok (.putfield 18, 3) := by decide +kernel
theorem dX2_init_25 : decode cX2_init 25 = .ok (.aload_n 0, 1) := by decide +kernel
theorem dX2_init_26 : decode cX2_init 26 = .ok (.iconst 5, 1) := by decide +kernel
theorem dX2_init_27 : decode cX2_init 27 = .ok (.newarray .int, 2) := by decide +kernel
theorem dX2_init_29 : decode cX2_init 29 = .ok (.putfield 21, 3) := by decide +kernel
theorem dX2_init_32 : decode cX2_init 32 = .ok (.aload_n 0, 1) := by decide +kernel
theorem dX2_init_33 : decode cX2_init 33 = .ok (.iconst 5, 1) := by decide +kernel
theorem dX2_init_34 : decode cX2_init 34 = .ok (.newarray .int, 2) := by decide +kernel
theorem dX2_init_36 : decode cX2_init 36 = .ok (.putfield 24, 3) := by decide +kernel
theorem dX2_init_39 : decode cX2_init 39 = .ok (.return_, 1) := by decide +kernel
theorem dX2_load_0 : decode cX2_load 0 = .ok (.iconst 0, 1) := by decide +kernel
theorem dX2_load_1 : decode cX2_load 1 = .ok (.istore 5, 2) := by decide +kernel
theorem dX2_load_3 : decode cX2_load 3 = .ok (.iload 5, 2) := by decide +kernel
theorem dX2_load_5 : decode cX2_load 5 = .ok (.iload 4, 2) := by decide +kernel
theorem dX2_load_7 : decode cX2_load 7 = .ok (.if_icmp .ge 31, 3) := by decide +kernel
theorem dX2_load_10 : decode cX2_load 10 = .ok (.iload 5, 2) := by decide +kernel
theorem dX2_load_12 : decode cX2_load 12 = .ok (.iconst 5, 1) := by decide +kernel
theorem dX2_load_13 : decode cX2_load 13 = .ok (.if_icmp .ge 25, 3) := by decide +kernel
theorem dX2_load_16 : decode cX2_load 16 = .ok (.aload_n 0, 1) := by decide +kernel
theorem dX2_load_17 : decode cX2_load 17 = .ok (.getfield 9, 3) := by decide +kernel
theorem dX2_load_20 : decode cX2_load 20 = .ok (.iload 5, 2) := by decide +kernel
theorem dX2_load_22 : decode cX2_load 22 = .ok (.aload_n 1, 1) := by decide +kernel
theorem dX2_load_23 : decode cX2_load 23 = .ok (.iload_n 2, 1) := by decide +kernel
theorem dX2_load_24 : decode cX2_load 24 = .ok (.iload_n 3, 1) := by decide +kernel
theorem dX2_load_25 : decode cX2_load 25 = .ok (.iload 5, 2) := by decide +kernel
theorem dX2_load_27 : decode cX2_load 27 = .ok (.iadd, 1) := by decide +kernel
theorem dX2_load_28 : decode cX2_load 28 = .ok (.invokevirtual 27, 3) := by decide +kernel
theorem dX2_load_31 : decode cX2_load 31 = .ok (.iastore, 1) := by decide +kernel
theorem dX2_load_32 : decode cX2_load 32 = .ok (.iinc 5 1, 3) := by decide +kernel
theorem dX2_load_35 : decode cX2_load 35 = .ok (.goto (-32), 3) := by decide +kernel
theorem dX2_load_38 : decode cX2_load 38 = .ok (.return_, 1) := by decide +kernel
theorem dX2_search_0 : decode cX2_search 0 = .ok (.iconst 0, 1) := by decide +kernel
theorem dX2_search_1 : decode cX2_search 1 = .ok (.istore_n 3, 1) := by decide +kernel
theorem dX2_search_2 : decode cX2_search 2 = .ok (.iload_n 3, 1) := by decide +kernel
theorem dX2_search_3 : decode cX2_search 3 = .ok (.aload_n 1, 1) := by decide +kernel
theorem dX2_search_4 : decode cX2_search 4 = .ok (.getfield 33, 3) := by decide +kernel
theorem dX2_search_7 : decode cX2_search 7 = .ok (.if_icmp .ge 30, 3) := by decide +kernel
theorem dX2_search_10 : decode cX2_search 10 = .ok (.aload_n 0, 1) := by decide +kernel
theorem dX2_search_11 : decode cX2_search 11 = .ok (.getfield 21, 3) := by decide +kernel
theorem dX2_search_14 : decode cX2_search 14 = .ok (.iload_n 3, 1) := by decide +kernel
theorem dX2_search_15 : decode cX2_search 15 = .ok (.aload_n 1, 1) := by decide +kernel
theorem dX2_search_16 : decode cX2_search 16 = .ok (.iload_n 3, 1) := by decide +kernel
theorem dX2_search_17 : decode cX2_search 17 = .ok (.invokevirtual 39, 3) := by decide +kernel
theorem dX2_search_20 : decode cX2_search 20 = .ok (.iastore, 1) := by decide +kernel
theorem dX2_search_21 : decode cX2_search 21 = .ok (.aload_n 0, 1) := by decide +kernel
theorem dX2_search_22 : decode cX2_search 22 = .ok (.getfield 24, 3) := by decide +kernel
theorem dX2_search_25 : decode cX2_search 25 = .ok (.iload_n 3, 1) := by decide +kernel
theorem dX2_search_26 : decode cX2_search 26 = .ok (.bipush 10, 2) := by decide +kernel
theorem dX2_search_28 : decode cX2_search 28 = .ok (.iload_n 3, 1) := by decide +kernel
theorem dX2_search_29 : decode cX2_search 29 = .ok (.iadd, 1) := by decide +kernel
theorem dX2_search_30 : decode cX2_search 30 = .ok (.iastore, 1) := by decide +kernel
theorem dX2_search_31 : decode cX2_search 31 = .ok (.iinc 3 1, 3) := by decide +kernel
theorem dX2_search_34 : decode cX2_search 34 = .ok (.goto (-32), 3) := by decide +kernel
theorem dX2_search_37 : decode cX2_search 37 = .ok (.aload_n 0, 1) := by decide +kernel
theorem dX2_search_38 : decode cX2_search 38 = .ok (.iconst 0, 1) := by decide +kernel
theorem dX2_search_39 : decode cX2_search 39 = .ok (.putfield 43, 3) := by decide +kernel
theorem dX2_search_42 : decode cX2_search 42 = .ok (.aload_n 0, 1) := by decide +kernel
theorem dX2_search_43 : decode cX2_search 43 = .ok (.iload_n 2, 1) := by decide +kernel
theorem dX2_search_44 : decode cX2_search 44 = .ok (.putfield 46, 3) := by decide +kernel
theorem dX2_search_47 : decode cX2_search 47 = .ok (.aload_n 0, 1) := by decide +kernel
theorem dX2_search_48 : decode cX2_search 48 = .ok (.aload_n 1, 1) := by decide +kernel
theorem dX2_search_49 : decode cX2_search 49 = .ok (.iconst 0, 1) := by decide +kernel
theorem dX2_search_50 : decode cX2_search 50 = .ok (.invokevirtual 50, 3) := by decide +kernel
theorem dX2_search_53 : decode cX2_search 53 = .ok (.return_, 1) := by decide +kernel
theorem dX2_lay_0 : decode cX2_lay 0 = .ok (.aload_n 0, 1) := by decide +kernel
theorem dX2_lay_1 : decode cX2_lay 1 = .ok (.getfield 46, 3) := by decide +kernel
theorem dX2_lay_4 : decode cX2_lay 4 = .ok (.ifCond .eq 11, 3) := by decide +kernel
theorem dX2_lay_7 : decode cX2_lay 7 = .ok (.aload_n 0, 1) := by decide +kernel
theorem dX2_lay_8 : decode cX2_lay 8 = .ok (.getfield 43, 3) := by decide +kernel
theorem dX2_lay_11 : decode cX2_lay 11 = .ok (.ifCond .le 4, 3) := by decide +kernel
theorem dX2_lay_14 : decode cX2_lay 14 = .ok (.return_, 1) := by decide +kernel
theorem dX2_lay_15 : decode cX2_lay 15 = .ok (.aload_n 1, 1) := by decide +kernel
theorem dX2_lay_16 : decode cX2_lay 16 = .ok (.iload_n 2, 1) := by decide +kernel
theorem dX2_lay_17 : decode cX2_lay 17 = .ok (.invokevirtual 54, 3) := by decide +kernel
theorem dX2_lay_20 : decode cX2_lay 20 = .ok (.ifCond .ne 12, 3) := by decide +kernel
theorem dX2_lay_23 : decode cX2_lay 23 = .ok (.aload_n 0, 1) := by decide +kernel
theorem dX2_lay_24 : decode cX2_lay 24 = .ok (.aload_n 1, 1) := by decide +kernel
theorem dX2_lay_25 : decode cX2_lay 25 = .ok (.getfield 58, 3) := by decide +kernel
theorem dX2_lay_28 : decode cX2_lay 28 = .ok (.invokevirtual 61, 3) := by decide +kernel
theorem dX2_lay_31 : decode cX2_lay 31 = .ok (.return_, 1) := by decide +kernel
theorem dX2_lay_32 : decode cX2_lay 32 = .ok (.iconst 0, 1) := by decide +kernel
theorem dX2_lay_33 : decode cX2_lay 33 = .ok (.istore_n 3, 1) := by decide +kernel
theorem dX2_lay_34 : decode cX2_lay 34 = .ok (.iload_n 3, 1) := by decide +kernel
theorem dX2_lay_35 : decode cX2_lay 35 = .ok (.aload_n 1, 1) := by decide +kernel
theorem dX2_lay_36 : decode cX2_lay 36 = .ok (.getfield 33, 3) := by decide +kernel
theorem dX2_lay_39 : decode cX2_lay 39 = .ok (.if_icmp .ge 39, 3) := by decide +kernel
theorem dX2_lay_42 : decode cX2_lay 42 = .ok (.aload_n 0, 1) := by decide +kernel
theorem dX2_lay_43 : decode cX2_lay 43 = .ok (.getfield 21, 3) := by decide +kernel
theorem dX2_lay_46 : decode cX2_lay 46 = .ok (.iload_n 3, 1) := by decide +kernel
theorem dX2_lay_47 : decode cX2_lay 47 = .ok (.iaload, 1) := by decide +kernel
theorem dX2_lay_48 : decode cX2_lay 48 = .ok (.ifCond .le 24, 3) := by decide +kernel
theorem dX2_lay_51 : decode cX2_lay 51 = .ok (.aload_n 0, 1) := by decide +kernel
theorem dX2_lay_52 : decode cX2_lay 52 = .ok (.iload_n 2, 1) := by decide +kernel
theorem dX2_lay_53 : decode cX2_lay 53 = .ok (.aload_n 0, 1) := by decide +kernel
theorem dX2_lay_54 : decode cX2_lay 54 = .ok (.getfield 24, 3) := by decide +kernel
theorem dX2_lay_57 : decode cX2_lay 57 = .ok (.iload_n 3, 1) := by decide +kernel
theorem dX2_lay_58 : decode cX2_lay 58 = .ok (.iaload, 1) := by decide +kernel
theorem dX2_lay_59 : decode cX2_lay 59 = .ok (.invokevirtual 65, 3) := by decide +kernel
theorem dX2_lay_62 : decode cX2_lay 62 = .ok (.ifCond .eq 10, 3) := by decide +kernel
theorem dX2_lay_65 : decode cX2_lay 65 = .ok (.aload_n 0, 1) := by decide +kernel
theorem dX2_lay_66 : decode cX2_lay 66 = .ok (.aload_n 1, 1) := by decide +kernel
theorem dX2_lay_67 : decode cX2_lay 67 = .ok (.iload_n 2, 1) := by decide +kernel
theorem dX2_lay_68 : decode cX2_lay 68 = .ok (.iload_n 3, 1) := by decide +kernel
theorem dX2_lay_69 : decode cX2_lay 69 = .ok (.invokevirtual 69, 3) := by decide +kernel
theorem dX2_lay_72 : decode cX2_lay 72 = .ok (.iinc 3 1, 3) := by decide +kernel
theorem dX2_lay_75 : decode cX2_lay 75 = .ok (.goto (-41), 3) := by decide +kernel
theorem dX2_lay_78 : decode cX2_lay 78 = .ok (.aload_n 0, 1) := by decide +kernel
theorem dX2_lay_79 : decode cX2_lay 79 = .ok (.iload_n 2, 1) := by decide +kernel
theorem dX2_lay_80 : decode cX2_lay 80 = .ok (.bipush 99, 2) := by decide +kernel
theorem dX2_lay_82 : decode cX2_lay 82 = .ok (.invokevirtual 65, 3) := by decide +kernel
theorem dX2_lay_85 : decode cX2_lay 85 = .ok (.ifCond .eq 21, 3) := by decide +kernel
theorem dX2_lay_88 : decode cX2_lay 88 = .ok (.aload_n 0, 1) := by decide +kernel
theorem dX2_lay_89 : decode cX2_lay 89 = .ok (.getfield 15, 3) := by decide +kernel
theorem dX2_lay_92 : decode cX2_lay 92 = .ok (.iload_n 2, 1) := by decide +kernel
theorem dX2_lay_93 : decode cX2_lay 93 = .ok (.aload_n 1, 1) := by decide +kernel
theorem dX2_lay_94 : decode cX2_lay 94 = .ok (.getfield 33, 3) := by decide +kernel
theorem dX2_lay_97 : decode cX2_lay 97 = .ok (.iastore, 1) := by decide +kernel
theorem dX2_lay_98 : decode cX2_lay 98 = .ok (.aload_n 0, 1) := by decide +kernel
theorem dX2_lay_99 : decode cX2_lay 99 = .ok (.aload_n 1, 1) := by decide +kernel
theorem dX2_lay_100 : decode cX2_lay 100 = .ok (.iload_n 2, 1) := by decide +kernel
theorem dX2_lay_101 : decode cX2_lay 101 = .ok (.iconst 1, 1) := by decide +kernel
theorem dX2_lay_102 : decode cX2_lay 102 = .ok (.iadd, 1) := by decide +kernel
theorem dX2_lay_103 : decode cX2_lay 103 = .ok (.invokevirtual 50, 3) := by decide +kernel
theorem dX2_lay_106 : decode cX2_lay 106 = .ok (.return_, 1) := by decide +kernel
theorem dX2_layIn_0 : decode cX2_layIn 0 = .ok (.aload_n 0, 1) := by decide +kernel
theorem dX2_layIn_1 : decode cX2_layIn 1 = .ok (.getfield 24, 3) := by decide +kernel
theorem dX2_layIn_4 : decode cX2_layIn 4 = .ok (.iload_n 3, 1) := by decide +kernel
theorem dX2_layIn_5 : decode cX2_layIn 5 = .ok (.iaload, 1) := by decide +kernel
theorem dX2_layIn_6 : decode cX2_layIn 6 = .ok (.istore 4, 2) := by decide +kernel
theorem dX2_layIn_8 : decode cX2_layIn 8 = .ok (.aload_n 0, 1) := by decide +kernel
theorem dX2_layIn_9 : decode cX2_layIn 9 = .ok (.getfield 21, 3) := by decide +kernel
theorem dX2_layIn_12 : decode cX2_layIn 12 = .ok (.iload_n 3, 1) := by decide +kernel
theorem dX2_layIn_13 : decode cX2_layIn 13 = .ok (.dup2, 1) := by decide +kernel
theorem dX2_layIn_14 : decode cX2_layIn 14 = .ok (.iaload, 1) := by decide +kernel
theorem dX2_layIn_15 : decode cX2_layIn 15 = .ok (.iconst 1, 1) := by decide +kernel
theorem dX2_layIn_16 : decode cX2_layIn 16 = .ok (.isub, 1) := by decide +kernel
theorem dX2_layIn_17 : decode cX2_layIn 17 = .ok (.iastore, 1) := by decide +kernel
theorem dX2_layIn_18 : decode cX2_layIn 18 = .ok (.aload_n 0, 1) := by decide +kernel
theorem dX2_layIn_19 : decode cX2_layIn 19 = .ok (.getfield 24, 3) := by decide +kernel
theorem dX2_layIn_22 : decode cX2_layIn 22 = .ok (.iload_n 3, 1) := by decide +kernel
theorem dX2_layIn_23 : decode cX2_layIn 23 = .ok (.iload_n 2, 1) := by decide +kernel
theorem dX2_layIn_24 : decode cX2_layIn 24 = .ok (.iastore, 1) := by decide +kernel
theorem dX2_layIn_25 : decode cX2_layIn 25 = .ok (.aload_n 0, 1) := by decide +kernel
theorem dX2_layIn_26 : decode cX2_layIn 26 = .ok (.getfield 15, 3) := by decide +kernel
theorem dX2_layIn_29 : decode cX2_layIn 29 = .ok (.iload_n 2, 1) := by decide +kernel
theorem dX2_layIn_30 : decode cX2_layIn 30 = .ok (.iload_n 3, 1) := by decide +kernel
theorem dX2_layIn_31 : decode cX2_layIn 31 = .ok (.iastore, 1) := by decide +kernel
theorem dX2_layIn_32 : decode cX2_layIn 32 = .ok (.aload_n 0, 1) := by decide +kernel
theorem dX2_layIn_33 : decode cX2_layIn 33 = .ok (.aload_n 1, 1) := by decide +kernel
theorem dX2_layIn_34 : decode cX2_layIn 34 = .ok (.iload_n 2, 1) := by decide +kernel
theorem dX2_layIn_35 : decode cX2_layIn 35 = .ok (.iconst 1, 1) := by decide +kernel
theorem dX2_layIn_36 : decode cX2_layIn 36 = .ok (.iadd, 1) := by decide +kernel
theorem dX2_layIn_37 : decode cX2_layIn 37 = .ok (.invokevirtual 50, 3) := by decide +kernel
theorem dX2_layIn_40 : decode cX2_layIn 40 = .ok (.aload_n 0, 1) := by decide +kernel
theorem dX2_layIn_41 : decode cX2_layIn 41 = .ok (.getfield 24, 3) := by decide +kernel
theorem dX2_layIn_44 : decode cX2_layIn 44 = .ok (.iload_n 3, 1) := by decide +kernel
theorem dX2_layIn_45 : decode cX2_layIn 45 = .ok (.iload 4, 2) := by decide +kernel
theorem dX2_layIn_47 : decode cX2_layIn 47 = .ok (.iastore, 1) := by decide +kernel
theorem dX2_layIn_48 : decode cX2_layIn 48 = .ok (.aload_n 0, 1) := by decide +kernel
theorem dX2_layIn_49 : decode cX2_layIn 49 = .ok (.getfield 21, 3) := by decide +kernel
theorem dX2_layIn_52 : decode cX2_layIn 52 = .ok (.iload_n 3, 1) := by decide +kernel
theorem dX2_layIn_53 : decode cX2_layIn 53 = .ok (.dup2, 1) := by decide +kernel
theorem dX2_layIn_54 : decode cX2_layIn 54 = .ok (.iaload, 1) := by decide +kernel
theorem dX2_layIn_55 : decode cX2_layIn 55 = .ok (.iconst 1, 1) := by decide +kernel
theorem dX2_layIn_56 : decode cX2_layIn 56 = .ok (.iadd, 1) := by decide +kernel
theorem dX2_layIn_57 : decode cX2_layIn 57 = .ok (.iastore, 1) := by decide +kernel
theorem dX2_layIn_58 : decode cX2_layIn 58 = .ok (.return_, 1) := by decide +kernel
theorem dX2_isTold_0 : decode cX2_isTold 0 = .ok (.aload_n 0, 1) := by decide +kernel
theorem dX2_isTold_1 : decode cX2_isTold 1 = .ok (.getfield 9, 3) := by decide +kernel
theorem dX2_isTold_4 : decode cX2_isTold 4 = .ok (.iload_n 1, 1) := by decide +kernel
theorem dX2_isTold_5 : decode cX2_isTold 5 = .ok (.iaload, 1) := by decide +kernel
theorem dX2_isTold_6 : decode cX2_isTold 6 = .ok (.bipush (-9), 2) := by decide +kernel
theorem dX2_isTold_8 : decode cX2_isTold 8 = .ok (.if_icmp .eq 13, 3) := by decide +kernel
theorem dX2_isTold_11 : decode cX2_isTold 11 = .ok (.aload_n 0, 1) := by decide +kernel
theorem dX2_isTold_12 : decode cX2_isTold 12 = .ok (.getfield 9, 3) := by decide +kernel
theorem dX2_isTold_15 : decode cX2_isTold 15 = .ok (.iload_n 1, 1) := by decide +kernel
theorem dX2_isTold_16 : decode cX2_isTold 16 = .ok (.iaload, 1) := by decide +kernel
theorem dX2_isTold_17 : decode cX2_isTold 17 = .ok (.iload_n 2, 1) := by decide +kernel
theorem dX2_isTold_18 : decode cX2_isTold 18 = .ok (.if_icmp .ne 7, 3) := by decide +kernel
theorem dX2_isTold_21 : decode cX2_isTold 21 = .ok (.iconst 1, 1) := by decide +kernel
theorem dX2_isTold_22 : decode cX2_isTold 22 = .ok (.goto 4, 3) := by decide +kernel
theorem dX2_isTold_25 : decode cX2_isTold 25 = .ok (.iconst 0, 1) := by decide +kernel
theorem dX2_isTold_26 : decode cX2_isTold 26 = .ok (.ireturn, 1) := by decide +kernel
theorem dX2_keep_0 : decode cX2_keep 0 = .ok (.aload_n 0, 1) := by decide +kernel
theorem dX2_keep_1 : decode cX2_keep 1 = .ok (.getfield 43, 3) := by decide +kernel
theorem dX2_keep_4 : decode cX2_keep 4 = .ok (.ifCond .ne 28, 3) := by decide +kernel
theorem dX2_keep_7 : decode cX2_keep 7 = .ok (.iconst 0, 1) := by decide +kernel
theorem dX2_keep_8 : decode cX2_keep 8 = .ok (.istore_n 2, 1) := by decide +kernel
theorem dX2_keep_9 : decode cX2_keep 9 = .ok (.iload_n 2, 1) := by decide +kernel
theorem dX2_keep_10 : decode cX2_keep 10 = .ok (.iload_n 1, 1) := by decide +kernel
theorem dX2_keep_11 : decode cX2_keep 11 = .ok (.if_icmp .ge 21, 3) := by decide +kernel
theorem dX2_keep_14 : decode cX2_keep 14 = .ok (.aload_n 0, 1) := by decide +kernel
theorem dX2_keep_15 : decode cX2_keep 15 = .ok (.getfield 18, 3) := by decide +kernel
theorem dX2_keep_18 : decode cX2_keep 18 = .ok (.iload_n 2, 1) := by decide +kernel
theorem dX2_keep_19 : decode cX2_keep 19 = .ok (.aload_n 0, 1) := by decide +kernel
theorem dX2_keep_20 : decode cX2_keep 20 = .ok (.getfield 15, 3) := by decide +kernel
theorem dX2_keep_23 : decode cX2_keep 23 = .ok (.iload_n 2, 1) := by decide +kernel
theorem dX2_keep_24 : decode cX2_keep 24 = .ok (.iaload, 1) := by decide +kernel
theorem dX2_keep_25 : decode cX2_keep 25 = .ok (.iastore, 1) := by decide +kernel
theorem dX2_keep_26 : decode cX2_keep 26 = .ok (.iinc 2 1, 3) := by decide +kernel
theorem dX2_keep_29 : decode cX2_keep 29 = .ok (.goto (-20), 3) := by decide +kernel
theorem dX2_keep_32 : decode cX2_keep 32 = .ok (.aload_n 0, 1) := by decide +kernel
theorem dX2_keep_33 : decode cX2_keep 33 = .ok (.dup, 1) := by decide +kernel
theorem dX2_keep_34 : decode cX2_keep 34 = .ok (.getfield 43, 3) := by decide +kernel
theorem dX2_keep_37 : decode cX2_keep 37 = .ok (.iconst 1, 1) := by decide +kernel
theorem dX2_keep_38 : decode cX2_keep 38 = .ok (.iadd, 1) := by decide +kernel
theorem dX2_keep_39 : decode cX2_keep 39 = .ok (.putfield 43, 3) := by decide +kernel
theorem dX2_keep_42 : decode cX2_keep 42 = .ok (.return_, 1) := by decide +kernel
end
section
theorem dX3_init_0 : decode cX3_init 0 = .ok (.aload_n 0, 1) := by decide +kernel
theorem dX3_init_1 : decode cX3_init 1 = .ok (.invokespecial 3, 3) := by decide +kernel
theorem dX3_init_4 : decode cX3_init 4 = .ok (.aload_n 0, 1) := by decide +kernel
theorem dX3_init_5 : decode cX3_init 5 = .ok (.bipush 8, 2) := by decide +kernel
theorem dX3_init_7 : decode cX3_init 7 = .ok (.newarray .int, 2) := by decide +kernel
theorem dX3_init_9 : decode cX3_init 9 = .ok (.putfield 11, 3) := by decide +kernel
theorem dX3_init_12 : decode cX3_init 12 = .ok (.aload_n 0, 1) := by decide +kernel
theorem dX3_init_13 : decode cX3_init 13 = .ok (.bipush 8, 2) := by decide +kernel
theorem dX3_init_15 : decode cX3_init 15 = .ok (.newarray .int, 2) := by decide +kernel
theorem dX3_init_17 : decode cX3_init 17 = .ok (.putfield 15, 3) := by decide +kernel
theorem dX3_init_20 : decode cX3_init 20 = .ok (.aload_n 0, 1) := by decide +kernel
theorem dX3_init_21 : decode cX3_init 21 = .ok (.bipush 8, 2) := by decide +kernel
theorem dX3_init_23 : decode cX3_init 23 = .ok (.newarray .int, 2) := by decide +kernel
theorem dX3_init_25 : decode cX3_init 25 = .ok (.putfield 18, 3) := by decide +kernel
theorem dX3_init_28 : decode cX3_init 28 = .ok (.return_, 1) := by decide +kernel
theorem dX3_hasRoom_0 : decode cX3_hasRoom 0 = .ok (.aload_n 0, 1) := by decide +kernel
theorem dX3_hasRoom_1 : decode cX3_hasRoom 1 = .ok (.getfield 21, 3) := by decide +kernel
theorem dX3_hasRoom_4 : decode cX3_hasRoom 4 = .ok (.bipush 8, 2) := by decide +kernel
theorem dX3_hasRoom_6 : decode cX3_hasRoom 6 = .ok (.if_icmp .ge 7, 3) := by decide +kernel
theorem dX3_hasRoom_9 : decode cX3_hasRoom 9 = .ok (.iconst 1, 1) := by decide +kernel
theorem dX3_hasRoom_10 : decode cX3_hasRoom 10 = .ok (.goto 4, 3) := by decide +kernel
theorem dX3_hasRoom_13 : decode cX3_hasRoom 13 = .ok (.iconst 0, 1) := by decide +kernel
theorem dX3_hasRoom_14 : decode cX3_hasRoom 14 = .ok (.ireturn, 1) := by decide +kernel
theorem dX3_note_0 : decode cX3_note 0 = .ok (.aload_n 0, 1) := by decide +kernel
theorem dX3_note_1 : decode cX3_note 1 = .ok (.invokevirtual 25, 3) := by decide +kernel
theorem dX3_note_4 : decode cX3_note 4 = .ok (.ifCond .ne 6, 3) := by decide +kernel
theorem dX3_note_7 : decode cX3_note 7 = .ok (.bipush (-4), 2) := by decide +kernel
theorem dX3_note_9 : decode cX3_note 9 = .ok (.ireturn, 1) := by decide +kernel
theorem dX3_note_10 : decode cX3_note 10 = .ok (.aload_n 0, 1) := by decide +kernel
theorem dX3_note_11 : decode cX3_note 11 = .ok (.getfield 11, 3) := by decide +kernel
theorem dX3_note_14 : decode cX3_note 14 = .ok (.aload_n 0, 1) := by decide +kernel
theorem dX3_note_15 : decode cX3_note 15 = .ok (.getfield 21, 3) := by decide +kernel
theorem dX3_note_18 : decode cX3_note 18 = .ok (.iload_n 1, 1) := by decide +kernel
theorem dX3_note_19 : decode cX3_note 19 = .ok (.iastore, 1) := by decide +kernel
theorem dX3_note_20 : decode cX3_note 20 = .ok (.aload_n 0, 1) := by decide +kernel
theorem dX3_note_21 : decode cX3_note 21 = .ok (.getfield 15, 3) := by decide +kernel
theorem dX3_note_24 : decode cX3_note 24 = .ok (.aload_n 0, 1) := by decide +kernel
theorem dX3_note_25 : decode cX3_note 25 = .ok (.getfield 21, 3) := by decide +kernel
theorem dX3_note_28 : decode cX3_note 28 = .ok (.iload_n 2, 1) := by decide +kernel
theorem dX3_note_29 : decode cX3_note 29 = .ok (.iastore, 1) := by decide +kernel
theorem dX3_note_30 : decode cX3_note 30 = .ok (.aload_n 0, 1) := by decide +kernel
theorem dX3_note_31 : decode cX3_note 31 = .ok (.getfield 18, 3) := by decide +kernel
theorem dX3_note_34 : decode cX3_note 34 = .ok (.aload_n 0, 1) := by decide +kernel
theorem dX3_note_35 : decode cX3_note 35 = .ok (.getfield 21, 3) := by decide +kernel
theorem dX3_note_38 : decode cX3_note 38 = .ok (.iload_n 3, 1) := by decide +kernel
theorem dX3_note_39 : decode cX3_note 39 = .ok (.iastore, 1) := by decide +kernel
theorem dX3_note_40 : decode cX3_note 40 = .ok (.aload_n 0, 1) := by decide +kernel
theorem dX3_note_41 : decode cX3_note 41 = .ok (.dup, 1) := by decide +kernel
theorem dX3_note_42 : decode cX3_note 42 = .ok (.getfield 21, 3) := by decide +kernel
theorem dX3_note_45 : decode cX3_note 45 = .ok (.iconst 1, 1) := by decide +kernel
theorem dX3_note_46 : decode cX3_note 46 = .ok (.iadd, 1) := by decide +kernel
theorem dX3_note_47 : decode cX3_note 47 = .ok (.putfield 21, 3) := by decide +kernel
theorem dX3_note_50 : decode cX3_note 50 = .ok (.aload_n 0, 1) := by decide +kernel
theorem dX3_note_51 : decode cX3_note 51 = .ok (.getfield 21, 3) := by decide +kernel
theorem dX3_note_54 : decode cX3_note 54 = .ok (.iconst 1, 1) := by decide +kernel
theorem dX3_note_55 : decode cX3_note 55 = .ok (.isub, 1) := by decide +kernel
theorem dX3_note_56 : decode cX3_note 56 = .ok (.ireturn, 1) := by decide +kernel
theorem dX3_areSo_0 : decode cX3_areSo 0 = .ok (.iconst 0, 1) := by decide +kernel
theorem dX3_areSo_1 : decode cX3_areSo 1 = .ok (.istore 4, 2) := by decide +kernel
theorem dX3_areSo_3 : decode cX3_areSo 3 = .ok (.iload 4, 2) := by decide +kernel
theorem dX3_areSo_5 : decode cX3_areSo 5 = .ok (.aload_n 0, 1) := by decide +kernel
theorem dX3_areSo_6 : decode cX3_areSo 6 = .ok (.getfield 21, 3) := by decide +kernel
theorem dX3_areSo_9 : decode cX3_areSo 9 = .ok (.if_icmp .ge 70, 3) := by decide +kernel
theorem dX3_areSo_12 : decode cX3_areSo 12 = .ok (.aload_n 0, 1) := by decide +kernel
theorem dX3_areSo_13 : decode cX3_areSo 13 = .ok (.getfield 11, 3) := by decide +kernel
theorem dX3_areSo_16 : decode cX3_areSo 16 = .ok (.iload 4, 2) := by decide +kernel
theorem dX3_areSo_18 : decode cX3_areSo 18 = .ok (.iaload, 1) := by decide +kernel
theorem dX3_areSo_19 : decode cX3_areSo 19 = .ok (.iload_n 2, 1) := by decide +kernel
theorem dX3_areSo_20 : decode cX3_areSo 20 = .ok (.if_icmp .ne 7, 3) := by decide +kernel
theorem dX3_areSo_23 : decode cX3_areSo 23 = .ok (.iload_n 3, 1) := by decide +kernel
theorem dX3_areSo_24 : decode cX3_areSo 24 = .ok (.goto 14, 3) := by decide +kernel
theorem dX3_areSo_27 : decode cX3_areSo 27 = .ok (.aload_n 1, 1) := by decide +kernel
theorem dX3_areSo_28 : decode cX3_areSo 28 = .ok (.aload_n 0, 1) := by decide +kernel
theorem dX3_areSo_29 : decode cX3_areSo 29 = .ok (.getfield 11, 3) := by decide +kernel
theorem dX3_areSo_32 : decode cX3_areSo 32 = .ok (.iload 4, 2) := by decide +kernel
theorem dX3_areSo_34 : decode cX3_areSo 34 = .ok (.iaload, 1) := by decide +kernel
theorem dX3_areSo_35 : decode cX3_areSo 35 = .ok (.invokevirtual 29, 3) := by decide +kernel
theorem dX3_areSo_38 : decode cX3_areSo 38 = .ok (.istore 5, 2) := by decide +kernel
theorem dX3_areSo_40 : decode cX3_areSo 40 = .ok (.iload 5, 2) := by decide +kernel
theorem dX3_areSo_42 : decode cX3_areSo 42 = .ok (.aload_n 0, 1) := by decide +kernel
theorem dX3_areSo_43 : decode cX3_areSo 43 = .ok (.getfield 15, 3) := by decide +kernel
theorem dX3_areSo_46 : decode cX3_areSo 46 = .ok (.iload 4, 2) := by decide +kernel
theorem dX3_areSo_48 : decode cX3_areSo 48 = .ok (.iaload, 1) := by decide +kernel
theorem dX3_areSo_49 : decode cX3_areSo 49 = .ok (.if_icmp .gt 7, 3) := by decide +kernel
theorem dX3_areSo_52 : decode cX3_areSo 52 = .ok (.iconst 1, 1) := by decide +kernel
theorem dX3_areSo_53 : decode cX3_areSo 53 = .ok (.goto 4, 3) := by decide +kernel
theorem dX3_areSo_56 : decode cX3_areSo 56 = .ok (.iconst 0, 1) := by decide +kernel
theorem dX3_areSo_57 : decode cX3_areSo 57 = .ok (.istore 6, 2) := by decide +kernel
theorem dX3_areSo_59 : decode cX3_areSo 59 = .ok (.iload 6, 2) := by decide +kernel
theorem dX3_areSo_61 : decode cX3_areSo 61 = .ok (.aload_n 0, 1) := by decide +kernel
theorem dX3_areSo_62 : decode cX3_areSo 62 = .ok (.getfield 18, 3) := by decide +kernel
theorem dX3_areSo_65 : decode cX3_areSo 65 = .ok (.iload 4, 2) := by decide +kernel
theorem dX3_areSo_67 : decode cX3_areSo 67 = .ok (.iaload, 1) := by decide +kernel
theorem dX3_areSo_68 : decode cX3_areSo 68 = .ok (.if_icmp .eq 5, 3) := by decide +kernel
theorem dX3_areSo_71 : decode cX3_areSo 71 = .ok (.iconst 0, 1) := by decide +kernel
theorem dX3_areSo_72 : decode cX3_areSo 72 = .ok (.ireturn, 1) := by decide +kernel
theorem dX3_areSo_73 : decode cX3_areSo 73 = .ok (.iinc 4 1, 3) := by decide +kernel
theorem dX3_areSo_76 : decode cX3_areSo 76 = .ok (.goto (-73), 3) := by decide +kernel
theorem dX3_areSo_79 : decode cX3_areSo 79 = .ok (.iconst 1, 1) := by decide +kernel
theorem dX3_areSo_80 : decode cX3_areSo 80 = .ok (.ireturn, 1) := by decide +kernel
end
section
theorem dX4_init_0 : decode cX4_init 0 = .ok (.aload_n 0, 1) := by decide +kernel
theorem dX4_init_1 : decode cX4_init 1 = .ok (.invokespecial 3, 3) := by decide +kernel
theorem dX4_init_4 : decode cX4_init 4 = .ok (.aload_n 0, 1) := by decide +kernel
theorem dX4_init_5 : decode cX4_init 5 = .ok (.new 9, 3) := by decide +kernel
theorem dX4_init_8 : decode cX4_init 8 = .ok (.dup, 1) := by decide +kernel
theorem dX4_init_9 : decode cX4_init 9 = .ok (.invokespecial 11, 3) := by decide +kernel
theorem dX4_init_12 : decode cX4_init 12 = .ok (.putfield 12, 3) := by decide +kernel
theorem dX4_init_15 : decode cX4_init 15 = .ok (.aload_n 0, 1) := by decide +kernel
theorem dX4_init_16 : decode cX4_init 16 = .ok (.bipush 20, 2) := by decide +kernel
theorem dX4_init_18 : decode cX4_init 18 = .ok (.newarray .int, 2) := by decide +kernel
theorem dX4_init_20 : decode cX4_init 20 = .ok (.putfield 18, 3) := by decide +kernel
theorem dX4_init_23 : decode cX4_init 23 = .ok (.aload_n 0, 1) := by decide +kernel
theorem dX4_init_24 : decode cX4_init 24 = .ok (.bipush 20, 2) := by decide +kernel
theorem dX4_init_26 : decode cX4_init 26 = .ok (.newarray .int, 2) := by decide +kernel
theorem dX4_init_28 : decode cX4_init 28 = .ok (.putfield 22, 3) := by decide +kernel
theorem dX4_init_31 : decode cX4_init 31 = .ok (.return_, 1) := by decide +kernel
theorem dX4_isWhat_0 : decode cX4_isWhat 0 = .ok (.iload_n 0, 1) := by decide +kernel
theorem dX4_isWhat_1 : decode cX4_isWhat 1 = .ok (.ifCond .lt 8, 3) := by decide +kernel
theorem dX4_isWhat_4 : decode cX4_isWhat 4 = .ok (.iload_n 0, 1) := by decide +kernel
theorem dX4_isWhat_5 : decode cX4_isWhat 5 = .ok (.iconst 3, 1) := by decide +kernel
theorem dX4_isWhat_6 : decode cX4_isWhat 6 = .ok (.if_icmp .le 27, 3) := by decide +kernel
theorem dX4_isWhat_9 : decode cX4_isWhat 9 = .ok (.iload_n 0, 1) := by decide +kernel
theorem dX4_isWhat_10 : decode cX4_isWhat 10 = .ok (.bipush 10, 2) := by decide +kernel
theorem dX4_isWhat_12 : decode cX4_isWhat 12 = .ok (.if_icmp .lt 9, 3) := by decide +kernel
theorem dX4_isWhat_15 : decode cX4_isWhat 15 = .ok (.iload_n 0, 1) := by decide +kernel
theorem dX4_isWhat_16 : decode cX4_isWhat 16 = .ok (.bipush 15, 2) := by decide +kernel
theorem dX4_isWhat_18 : decode cX4_isWhat 18 = .ok (.if_icmp .lt 15, 3) := by decide +kernel
theorem dX4_isWhat_21 : decode cX4_isWhat 21 = .ok (.iload_n 0, 1) := by decide +kernel
theorem dX4_isWhat_22 : decode cX4_isWhat 22 = .ok (.bipush 20, 2) := by decide +kernel
theorem dX4_isWhat_24 : decode cX4_isWhat 24 = .ok (.if_icmp .lt 13, 3) := by decide +kernel
theorem dX4_isWhat_27 : decode cX4_isWhat 27 = .ok (.iload_n 0, 1) := by decide +kernel
theorem dX4_isWhat_28 : decode cX4_isWhat 28 = .ok (.bipush 25, 2) := by decide +kernel
theorem dX4_isWhat_30 : decode cX4_isWhat 30 = .ok (.if_icmp .ge 7, 3) := by decide +kernel
theorem dX4_isWhat_33 : decode cX4_isWhat 33 = .ok (.iconst 1, 1) := by decide +kernel
theorem dX4_isWhat_34 : decode cX4_isWhat 34 = .ok (.goto 4, 3) := by decide +kernel
theorem dX4_isWhat_37 : decode cX4_isWhat 37 = .ok (.iconst 0, 1) := by decide +kernel
theorem dX4_isWhat_38 : decode cX4_isWhat 38 = .ok (.ireturn, 1) := by decide +kernel
theorem dX4_load_0 : decode cX4_load 0 = .ok (.aload_n 0, 1) := by decide +kernel
theorem dX4_load_1 : decode cX4_load 1 = .ok (.getfield 12, 3) := by decide +kernel
theorem dX4_load_4 : decode cX4_load 4 = .ok (.aload_n 1, 1) := by decide +kernel
theorem dX4_load_5 : decode cX4_load 5 = .ok (.invokevirtual 25, 3) := by decide +kernel
theorem dX4_load_8 : decode cX4_load 8 = .ok (.aload_n 0, 1) := by decide +kernel
theorem dX4_load_9 : decode cX4_load 9 = .ok (.iconst 0, 1) := by decide +kernel
theorem dX4_load_10 : decode cX4_load 10 = .ok (.iload 5, 2) := by decide +kernel
theorem dX4_load_12 : decode cX4_load 12 = .ok (.bipush 20, 2) := by decide +kernel
theorem dX4_load_14 : decode cX4_load 14 = .ok (.invokestatic 29, 3) := by decide +kernel
theorem dX4_load_17 : decode cX4_load 17 = .ok (.invokestatic 35, 3) := by decide +kernel
theorem dX4_load_20 : decode cX4_load 20 = .ok (.putfield 38, 3) := by decide +kernel
theorem dX4_load_23 : decode cX4_load 23 = .ok (.iconst 0, 1) := by decide +kernel
theorem dX4_load_24 : decode cX4_load 24 = .ok (.istore 6, 2) := by decide +kernel
theorem dX4_load_26 : decode cX4_load 26 = .ok (.iload 6, 2) := by decide +kernel
theorem dX4_load_28 : decode cX4_load 28 = .ok (.aload_n 0, 1) := by decide +kernel
theorem dX4_load_29 : decode cX4_load 29 = .ok (.getfield 38, 3) := by decide +kernel
theorem dX4_load_32 : decode cX4_load 32 = .ok (.if_icmp .ge 77, 3) := by decide +kernel
theorem dX4_load_35 : decode cX4_load 35 = .ok (.aload_n 0, 1) := by decide +kernel
theorem dX4_load_36 : decode cX4_load 36 = .ok (.getfield 18, 3) := by decide +kernel
theorem dX4_load_39 : decode cX4_load 39 = .ok (.iload 6, 2) := by decide +kernel
theorem dX4_load_41 : decode cX4_load 41 = .ok (.aload_n 2, 1) := by decide +kernel
theorem dX4_load_42 : decode cX4_load 42 = .ok (.iload_n 3, 1) := by decide +kernel
theorem dX4_load_43 : decode cX4_load 43 = .ok (.iload 4, 2) := by decide +kernel
theorem dX4_load_45 : decode cX4_load 45 = .ok (.iconst 2, 1) := by decide +kernel
theorem dX4_load_46 : decode cX4_load 46 = .ok (.iload 6, 2) := by decide +kernel
theorem dX4_load_48 : decode cX4_load 48 = .ok (.imul, 1) := by decide +kernel
theorem dX4_load_49 : decode cX4_load 49 = .ok (.iadd, 1) := by decide +kernel
theorem dX4_load_50 : decode cX4_load 50 = .ok (.invokevirtual 42, 3) := by decide +kernel
theorem dX4_load_53 : decode cX4_load 53 = .ok (.iastore, 1) := by decide +kernel
theorem dX4_load_54 : decode cX4_load 54 = .ok (.aload_n 0, 1) := by decide +kernel
theorem dX4_load_55 : decode cX4_load 55 = .ok (.getfield 22, 3) := by decide +kernel
theorem dX4_load_58 : decode cX4_load 58 = .ok (.iload 6, 2) := by decide +kernel
theorem dX4_load_60 : decode cX4_load 60 = .ok (.aload_n 2, 1) := by decide +kernel
theorem dX4_load_61 : decode cX4_load 61 = .ok (.iload_n 3, 1) := by decide +kernel
theorem dX4_load_62 : decode cX4_load 62 = .ok (.iload 4, 2) := by decide +kernel
theorem dX4_load_64 : decode cX4_load 64 = .ok (.iconst 2, 1) := by decide +kernel
theorem dX4_load_65 : decode cX4_load 65 = .ok (.iload 6, 2) := by decide +kernel
theorem dX4_load_67 : decode cX4_load 67 = .ok (.imul, 1) := by decide +kernel
theorem dX4_load_68 : decode cX4_load 68 = .ok (.iadd, 1) := by decide +kernel
theorem dX4_load_69 : decode cX4_load 69 = .ok (.iconst 1, 1) := by decide +kernel
theorem dX4_load_70 : decode cX4_load 70 = .ok (.iadd, 1) := by decide +kernel
theorem dX4_load_71 : decode cX4_load 71 = .ok (.invokevirtual 42, 3) := by decide +kernel
theorem dX4_load_74 : decode cX4_load 74 = .ok (.iastore, 1) := by decide +kernel
theorem dX4_load_75 : decode cX4_load 75 = .ok (.aload_n 0, 1) := by decide +kernel
theorem dX4_load_76 : decode cX4_load 76 = .ok (.aload_n 0, 1) := by decide +kernel
theorem dX4_load_77 : decode cX4_load 77 = .ok (.getfield 18, 3) := by decide +kernel
theorem dX4_load_80 : decode cX4_load 80 = .ok (.iload 6, 2) := by decide +kernel
theorem dX4_load_82 : decode cX4_load 82 = .ok (.iaload, 1) := by decide +kernel
theorem dX4_load_83 : decode cX4_load 83 = .ok (.aload_n 0, 1) := by decide +kernel
theorem dX4_load_84 : decode cX4_load 84 = .ok (.getfield 22, 3) := by decide +kernel
theorem dX4_load_87 : decode cX4_load 87 = .ok (.iload 6, 2) := by decide +kernel
theorem dX4_load_89 : decode cX4_load 89 = .ok (.iaload, 1) := by decide +kernel
theorem dX4_load_90 : decode cX4_load 90 = .ok (.invokevirtual 47, 3) := by decide +kernel
theorem dX4_load_93 : decode cX4_load 93 = .ok (.istore 7, 2) := by decide +kernel
theorem dX4_load_95 : decode cX4_load 95 = .ok (.iload 7, 2) := by decide +kernel
theorem dX4_load_97 : decode cX4_load 97 = .ok (.ifCond .eq 6, 3) := by decide +kernel
theorem dX4_load_100 : decode cX4_load 100 = .ok (.iload 7, 2) := by decide +kernel
theorem dX4_load_102 : decode cX4_load 102 = .ok (.ireturn, 1) := by decide +kernel
theorem dX4_load_103 : decode cX4_load 103 = .ok (.iinc 6 1, 3) := by decide +kernel
theorem dX4_load_106 : decode cX4_load 106 = .ok (.goto (-80), 3) := by decide +kernel
theorem dX4_load_109 : decode cX4_load 109 = .ok (.iconst 0, 1) := by decide +kernel
theorem dX4_load_110 : decode cX4_load 110 = .ok (.ireturn, 1) := by decide +kernel
theorem dX4_refusalOf_0 : decode cX4_refusalOf 0 = .ok (.iload_n 2, 1) := by decide +kernel
theorem dX4_refusalOf_1 : decode cX4_refusalOf 1 = .ok (.bipush 8, 2) := by decide +kernel
theorem dX4_refusalOf_3 : decode cX4_refusalOf 3 = .ok (.if_icmp .ne 20, 3) := by decide +kernel
theorem dX4_refusalOf_6 : decode cX4_refusalOf 6 = .ok (.iload_n 1, 1) := by decide +kernel
theorem dX4_refusalOf_7 : decode cX4_refusalOf 7 = .ok (.ifCond .lt 9, 3) := by decide +kernel
theorem dX4_refusalOf_10 : decode cX4_refusalOf 10 = .ok (.iload_n 1, 1) := by decide +kernel
theorem dX4_refusalOf_11 : decode cX4_refusalOf 11 = .ok (.bipush 9, 2) := by decide +kernel
theorem dX4_refusalOf_13 : decode cX4_refusalOf 13 = .ok (.if_icmp .le 8, 3) := by decide +kernel
theorem dX4_refusalOf_16 : decode cX4_refusalOf 16 = .ok (.bipush (-2), 2) := by decide +kernel
theorem dX4_refusalOf_18 : decode cX4_refusalOf 18 = .ok (.goto 4, 3) := by decide +kernel
theorem dX4_refusalOf_21 : decode cX4_refusalOf 21 = .ok (.iconst 0, 1) := by decide +kernel
theorem dX4_refusalOf_22 : decode cX4_refusalOf 22 = .ok (.ireturn, 1) := by decide +kernel
theorem dX4_refusalOf_23 : decode cX4_refusalOf 23 = .ok (.iload_n 2, 1) := by decide +kernel
theorem dX4_refusalOf_24 : decode cX4_refusalOf 24 = .ok (.bipush 9, 2) := by decide +kernel
theorem dX4_refusalOf_26 : decode cX4_refusalOf 26 = .ok (.if_icmp .eq 17, 3) := by decide +kernel
theorem dX4_refusalOf_29 : decode cX4_refusalOf 29 = .ok (.aload_n 0, 1) := by decide +kernel
theorem dX4_refusalOf_30 : decode cX4_refusalOf 30 = .ok (.getfield 12, 3) := by decide +kernel
theorem dX4_refusalOf_33 : decode cX4_refusalOf 33 = .ok (.iload_n 2, 1) := by decide +kernel
theorem dX4_refusalOf_34 : decode cX4_refusalOf 34 = .ok (.invokevirtual 50, 3) := by decide +kernel
theorem dX4_refusalOf_37 : decode cX4_refusalOf 37 = .ok (.ifCond .ne 6, 3) := by decide +kernel
theorem dX4_refusalOf_40 : decode cX4_refusalOf 40 = .ok (.bipush (-2), 2) := by decide +kernel
theorem dX4_refusalOf_42 : decode cX4_refusalOf 42 = .ok (.ireturn, 1) := by decide +kernel
theorem dX4_refusalOf_43 : decode cX4_refusalOf 43 = .ok (.aload_n 0, 1) := by decide +kernel
theorem dX4_refusalOf_44 : decode cX4_refusalOf 44 = .ok (.getfield 12, 3) := by decide +kernel
theorem dX4_refusalOf_47 : decode cX4_refusalOf 47 = .ok (.iload_n 1, 1) := by decide +kernel
theorem dX4_refusalOf_48 : decode cX4_refusalOf 48 = .ok (.invokevirtual 54, 3) := by decide +kernel
theorem dX4_refusalOf_51 : decode cX4_refusalOf 51 = .ok (.ifCond .eq 7, 3) := by decide +kernel
theorem dX4_refusalOf_54 : decode cX4_refusalOf 54 = .ok (.iconst 0, 1) := by decide +kernel
theorem dX4_refusalOf_55 : decode cX4_refusalOf 55 = .ok (.goto 4, 3) := by decide +kernel
theorem dX4_refusalOf_58 : decode cX4_refusalOf 58 = .ok (.iconst (-1), 1) := by decide +kernel
theorem dX4_refusalOf_59 : decode cX4_refusalOf 59 = .ok (.ireturn, 1) := by decide +kernel
theorem dX4_play_0 : decode cX4_play 0 = .ok (.aload_n 0, 1) := by decide +kernel
theorem dX4_play_1 : decode cX4_play 1 = .ok (.bipush (-9), 2) := by decide +kernel
theorem dX4_play_3 : decode cX4_play 3 = .ok (.putfield 57, 3) := by decide +kernel
theorem dX4_play_6 : decode cX4_play 6 = .ok (.aload_n 0, 1) := by decide +kernel
theorem dX4_play_7 : decode cX4_play 7 = .ok (.iconst 0, 1) := by decide +kernel
theorem dX4_play_8 : decode cX4_play 8 = .ok (.putfield 60, 3) := by decide +kernel
theorem dX4_play_11 : decode cX4_play 11 = .ok (.iconst 0, 1) := by decide +kernel
theorem dX4_play_12 : decode cX4_play 12 = .ok (.istore_n 1, 1) := by decide +kernel
theorem dX4_play_13 : decode cX4_play 13 = .ok (.iload_n 1, 1) := by decide +kernel
theorem dX4_play_14 : decode cX4_play 14 = .ok (.aload_n 0, 1) := by decide +kernel
theorem dX4_play_15 : decode cX4_play 15 = .ok (.getfield 38, 3) := by decide +kernel
theorem dX4_play_18 : decode cX4_play 18 = .ok (.if_icmp .ge 42, 3) := by decide +kernel
theorem dX4_play_21 : decode cX4_play 21 = .ok (.aload_n 0, 1) := by decide +kernel
theorem dX4_play_22 : decode cX4_play 22 = .ok (.getfield 57, 3) := by decide +kernel
theorem dX4_play_25 : decode cX4_play 25 = .ok (.bipush (-9), 2) := by decide +kernel
theorem dX4_play_27 : decode cX4_play 27 = .ok (.if_icmp .ne 33, 3) := by decide +kernel
theorem dX4_play_30 : decode cX4_play 30 = .ok (.aload_n 0, 1) := by decide +kernel
theorem dX4_play_31 : decode cX4_play 31 = .ok (.aload_n 0, 1) := by decide +kernel
theorem dX4_play_32 : decode cX4_play 32 = .ok (.getfield 18, 3) := by decide +kernel
theorem dX4_play_35 : decode cX4_play 35 = .ok (.iload_n 1, 1) := by decide +kernel
theorem dX4_play_36 : decode cX4_play 36 = .ok (.iaload, 1) := by decide +kernel
theorem dX4_play_37 : decode cX4_play 37 = .ok (.aload_n 0, 1) := by decide +kernel
theorem dX4_play_38 : decode cX4_play 38 = .ok (.getfield 22, 3) := by decide +kernel
theorem dX4_play_41 : decode cX4_play 41 = .ok (.iload_n 1, 1) := by decide +kernel
theorem dX4_play_42 : decode cX4_play 42 = .ok (.iaload, 1) := by decide +kernel
theorem dX4_play_43 : decode cX4_play 43 = .ok (.invokevirtual 63, 3) := by decide +kernel
theorem dX4_play_46 : decode cX4_play 46 = .ok (.ifCond .ne 8, 3) := by decide +kernel
theorem dX4_play_49 : decode cX4_play 49 = .ok (.aload_n 0, 1) := by decide +kernel
theorem dX4_play_50 : decode cX4_play 50 = .ok (.iload_n 1, 1) := by decide +kernel
theorem dX4_play_51 : decode cX4_play 51 = .ok (.putfield 57, 3) := by decide +kernel
theorem dX4_play_54 : decode cX4_play 54 = .ok (.iinc 1 1, 3) := by decide +kernel
theorem dX4_play_57 : decode cX4_play 57 = .ok (.goto (-44), 3) := by decide +kernel
theorem dX4_play_60 : decode cX4_play 60 = .ok (.return_, 1) := by decide +kernel
theorem dX4_canDo_0 : decode cX4_canDo 0 = .ok (.iload_n 2, 1) := by decide +kernel
theorem dX4_canDo_1 : decode cX4_canDo 1 = .ok (.bipush 9, 2) := by decide +kernel
theorem dX4_canDo_3 : decode cX4_canDo 3 = .ok (.if_icmp .ne 12, 3) := by decide +kernel
theorem dX4_canDo_6 : decode cX4_canDo 6 = .ok (.aload_n 0, 1) := by decide +kernel
theorem dX4_canDo_7 : decode cX4_canDo 7 = .ok (.getfield 12, 3) := by decide +kernel
theorem dX4_canDo_10 : decode cX4_canDo 10 = .ok (.iload_n 1, 1) := by decide +kernel
theorem dX4_canDo_11 : decode cX4_canDo 11 = .ok (.invokevirtual 67, 3) := by decide +kernel
theorem dX4_canDo_14 : decode cX4_canDo 14 = .ok (.ireturn, 1) := by decide +kernel
theorem dX4_canDo_15 : decode cX4_canDo 15 = .ok (.iload_n 2, 1) := by decide +kernel
theorem dX4_canDo_16 : decode cX4_canDo 16 = .ok (.bipush 8, 2) := by decide +kernel
theorem dX4_canDo_18 : decode cX4_canDo 18 = .ok (.if_icmp .eq 13, 3) := by decide +kernel
theorem dX4_canDo_21 : decode cX4_canDo 21 = .ok (.aload_n 0, 1) := by decide +kernel
theorem dX4_canDo_22 : decode cX4_canDo 22 = .ok (.getfield 12, 3) := by decide +kernel
theorem dX4_canDo_25 : decode cX4_canDo 25 = .ok (.iload_n 1, 1) := by decide +kernel
theorem dX4_canDo_26 : decode cX4_canDo 26 = .ok (.iload_n 2, 1) := by decide +kernel
theorem dX4_canDo_27 : decode cX4_canDo 27 = .ok (.invokevirtual 70, 3) := by decide +kernel
theorem dX4_canDo_30 : decode cX4_canDo 30 = .ok (.ireturn, 1) := by decide +kernel
theorem dX4_canDo_31 : decode cX4_canDo 31 = .ok (.aload_n 0, 1) := by decide +kernel
theorem dX4_canDo_32 : decode cX4_canDo 32 = .ok (.dup, 1) := by decide +kernel
theorem dX4_canDo_33 : decode cX4_canDo 33 = .ok (.getfield 60, 3) := by decide +kernel
theorem dX4_canDo_36 : decode cX4_canDo 36 = .ok (.aload_n 0, 1) := by decide +kernel
theorem dX4_canDo_37 : decode cX4_canDo 37 = .ok (.getfield 12, 3) := by decide +kernel
theorem dX4_canDo_40 : decode cX4_canDo 40 = .ok (.iload_n 1, 1) := by decide +kernel
theorem dX4_canDo_41 : decode cX4_canDo 41 = .ok (.invokevirtual 73, 3) := by decide +kernel
theorem dX4_canDo_44 : decode cX4_canDo 44 = .ok (.iadd, 1) := by decide +kernel
theorem dX4_canDo_45 : decode cX4_canDo 45 = .ok (.putfield 60, 3) := by decide +kernel
theorem dX4_canDo_48 : decode cX4_canDo 48 = .ok (.iconst 1, 1) := by decide +kernel
theorem dX4_canDo_49 : decode cX4_canDo 49 = .ok (.ireturn, 1) := by decide +kernel
theorem dX4_answerTo_0 : decode cX4_answerTo 0 = .ok (.iload_n 1, 1) := by decide +kernel
theorem dX4_answerTo_1 : decode cX4_answerTo 1 = .ok (.iconst 1, 1) := by decide +kernel
theorem dX4_answerTo_2 : decode cX4_answerTo 2 = .ok (.if_icmp .ne 8, 3) := by decide +kernel
theorem dX4_answerTo_5 : decode cX4_answerTo 5 = .ok (.aload_n 0, 1) := by decide +kernel
theorem dX4_answerTo_6 : decode cX4_answerTo 6 = .ok (.getfield 57, 3) := by decide +kernel
theorem dX4_answerTo_9 : decode cX4_answerTo 9 = .ok (.ireturn, 1) := by decide +kernel
theorem dX4_answerTo_10 : decode cX4_answerTo 10 = .ok (.aload_n 0, 1) := by decide +kernel
theorem dX4_answerTo_11 : decode cX4_answerTo 11 = .ok (.getfield 57, 3) := by decide +kernel
theorem dX4_answerTo_14 : decode cX4_answerTo 14 = .ok (.bipush (-9), 2) := by decide +kernel
theorem dX4_answerTo_16 : decode cX4_answerTo 16 = .ok (.if_icmp .eq 11, 3) := by decide +kernel
theorem dX4_answerTo_19 : decode cX4_answerTo 19 = .ok (.bipush (-100), 2) := by decide +kernel
theorem dX4_answerTo_21 : decode cX4_answerTo 21 = .ok (.aload_n 0, 1) := by decide +kernel
theorem dX4_answerTo_22 : decode cX4_answerTo 22 = .ok (.getfield 57, 3) := by decide +kernel
theorem dX4_answerTo_25 : decode cX4_answerTo 25 = .ok (.isub, 1) := by decide +kernel
theorem dX4_answerTo_26 : decode cX4_answerTo 26 = .ok (.ireturn, 1) := by decide +kernel
theorem dX4_answerTo_27 : decode cX4_answerTo 27 = .ok (.iload_n 1, 1) := by decide +kernel
theorem dX4_answerTo_28 : decode cX4_answerTo 28 = .ok (.ifCond .ne 11, 3) := by decide +kernel
theorem dX4_answerTo_31 : decode cX4_answerTo 31 = .ok (.aload_n 0, 1) := by decide +kernel
theorem dX4_answerTo_32 : decode cX4_answerTo 32 = .ok (.getfield 12, 3) := by decide +kernel
theorem dX4_answerTo_35 : decode cX4_answerTo 35 = .ok (.invokevirtual 77, 3) := by decide +kernel
theorem dX4_answerTo_38 : decode cX4_answerTo 38 = .ok (.ireturn, 1) := by decide +kernel
theorem dX4_answerTo_39 : decode cX4_answerTo 39 = .ok (.iload_n 1, 1) := by decide +kernel
theorem dX4_answerTo_40 : decode cX4_answerTo 40 = .ok (.iconst 2, 1) := by decide +kernel
theorem dX4_answerTo_41 : decode cX4_answerTo 41 = .ok (.if_icmp .ne 8, 3) := by decide +kernel
theorem dX4_answerTo_44 : decode cX4_answerTo 44 = .ok (.aload_n 0, 1) := by decide +kernel
theorem dX4_answerTo_45 : decode cX4_answerTo 45 = .ok (.getfield 60, 3) := by decide +kernel
theorem dX4_answerTo_48 : decode cX4_answerTo 48 = .ok (.ireturn, 1) := by decide +kernel
theorem dX4_answerTo_49 : decode cX4_answerTo 49 = .ok (.iload_n 1, 1) := by decide +kernel
theorem dX4_answerTo_50 : decode cX4_answerTo 50 = .ok (.iconst 3, 1) := by decide +kernel
theorem dX4_answerTo_51 : decode cX4_answerTo 51 = .ok (.if_icmp .ne 11, 3) := by decide +kernel
theorem dX4_answerTo_54 : decode cX4_answerTo 54 = .ok (.aload_n 0, 1) := by decide +kernel
theorem dX4_answerTo_55 : decode cX4_answerTo 55 = .ok (.getfield 12, 3) := by decide +kernel
theorem dX4_answerTo_58 : decode cX4_answerTo 58 = .ok (.invokevirtual 81, 3) := by decide +kernel
theorem dX4_answerTo_61 : decode cX4_answerTo 61 = .ok (.ireturn, 1) := by decide +kernel
theorem dX4_answerTo_62 : decode cX4_answerTo 62 = .ok (.iload_n 1, 1) := by decide +kernel
theorem dX4_answerTo_63 : decode cX4_answerTo 63 = .ok (.bipush 10, 2) := by decide +kernel
theorem dX4_answerTo_65 : decode cX4_answerTo 65 = .ok (.irem, 1) := by decide +kernel
theorem dX4_answerTo_66 : decode cX4_answerTo 66 = .ok (.istore_n 2, 1) := by decide +kernel
theorem dX4_answerTo_67 : decode cX4_answerTo 67 = .ok (.aload_n 0, 1) := by decide +kernel
theorem dX4_answerTo_68 : decode cX4_answerTo 68 = .ok (.getfield 12, 3) := by decide +kernel
theorem dX4_answerTo_71 : decode cX4_answerTo 71 = .ok (.iload_n 2, 1) := by decide +kernel
theorem dX4_answerTo_72 : decode cX4_answerTo 72 = .ok (.invokevirtual 54, 3) := by decide +kernel
theorem dX4_answerTo_75 : decode cX4_answerTo 75 = .ok (.ifCond .ne 6, 3) := by decide +kernel
theorem dX4_answerTo_78 : decode cX4_answerTo 78 = .ok (.bipush (-9), 2) := by decide +kernel
theorem dX4_answerTo_80 : decode cX4_answerTo 80 = .ok (.ireturn, 1) := by decide +kernel
theorem dX4_answerTo_81 : decode cX4_answerTo 81 = .ok (.iload_n 1, 1) := by decide +kernel
theorem dX4_answerTo_82 : decode cX4_answerTo 82 = .ok (.bipush 20, 2) := by decide +kernel
theorem dX4_answerTo_84 : decode cX4_answerTo 84 = .ok (.if_icmp .ge 15, 3) := by decide +kernel
theorem dX4_answerTo_87 : decode cX4_answerTo 87 = .ok (.aload_n 0, 1) := by decide +kernel
theorem dX4_answerTo_88 : decode cX4_answerTo 88 = .ok (.getfield 12, 3) := by decide +kernel
theorem dX4_answerTo_91 : decode cX4_answerTo 91 = .ok (.getfield 84, 3) := by decide +kernel
theorem dX4_answerTo_94 : decode cX4_answerTo 94 = .ok (.iload_n 2, 1) := by decide +kernel
theorem dX4_answerTo_95 : decode cX4_answerTo 95 = .ok (.iaload, 1) := by decide +kernel
theorem dX4_answerTo_96 : decode cX4_answerTo 96 = .ok (.goto 12, 3) := by decide +kernel
theorem dX4_answerTo_99 : decode cX4_answerTo 99 = .ok (.aload_n 0, 1) := by decide +kernel
theorem dX4_answerTo_100 : decode cX4_answerTo 100 = .ok (.getfield 12, 3) := by decide +kernel
theorem dX4_answerTo_103 : decode cX4_answerTo 103 = .ok (.getfield 87, 3) := by decide +kernel
theorem dX4_answerTo_106 : decode cX4_answerTo 106 = .ok (.iload_n 2, 1) := by decide +kernel
theorem dX4_answerTo_107 : decode cX4_answerTo 107 = .ok (.iaload, 1) := by decide +kernel
theorem dX4_answerTo_108 : decode cX4_answerTo 108 = .ok (.ireturn, 1) := by decide +kernel
end
section
theorem dX5_init_0 : decode cX5_init 0 = .ok (.aload_n 0, 1) := by decide +kernel
theorem dX5_init_1 : decode cX5_init 1 = .ok (.invokespecial 3, 3) := by decide +kernel
theorem dX5_init_4 : decode cX5_init 4 = .ok (.aload_n 0, 1) := by decide +kernel
theorem dX5_init_5 : decode cX5_init 5 = .ok (.iconst 4, 1) := by decide +kernel
theorem dX5_init_6 : decode cX5_init 6 = .ok (.newarray .int, 2) := by decide +kernel
theorem dX5_init_8 : decode cX5_init 8 = .ok (.dup, 1) := by decide +kernel
theorem dX5_init_9 : decode cX5_init 9 = .ok (.iconst 0, 1) := by decide +kernel
theorem dX5_init_10 : decode cX5_init 10 = .ok (.iconst (-1), 1) := by decide +kernel
theorem dX5_init_11 : decode cX5_init 11 = .ok (.iastore, 1) := by decide +kernel
theorem dX5_init_12 : decode cX5_init 12 = .ok (.dup, 1) := by decide +kernel
theorem dX5_init_13 : decode cX5_init 13 = .ok (.iconst 1, 1) := by decide +kernel
theorem dX5_init_14 : decode cX5_init 14 = .ok (.iconst (-1), 1) := by decide +kernel
theorem dX5_init_15 : decode cX5_init 15 = .ok (.iastore, 1) := by decide +kernel
theorem dX5_init_16 : decode cX5_init 16 = .ok (.dup, 1) := by decide +kernel
theorem dX5_init_17 : decode cX5_init 17 = .ok (.iconst 2, 1) := by decide +kernel
theorem dX5_init_18 : decode cX5_init 18 = .ok (.iconst (-1), 1) := by decide +kernel
theorem dX5_init_19 : decode cX5_init 19 = .ok (.iastore, 1) := by decide +kernel
theorem dX5_init_20 : decode cX5_init 20 = .ok (.dup, 1) := by decide +kernel
theorem dX5_init_21 : decode cX5_init 21 = .ok (.iconst 3, 1) := by decide +kernel
theorem dX5_init_22 : decode cX5_init 22 = .ok (.iconst (-1), 1) := by decide +kernel
theorem dX5_init_23 : decode cX5_init 23 = .ok (.iastore, 1) := by decide +kernel
theorem dX5_init_24 : decode cX5_init 24 = .ok (.putfield 11, 3) := by decide +kernel
theorem dX5_init_27 : decode cX5_init 27 = .ok (.aload_n 0, 1) := by decide +kernel
theorem dX5_init_28 : decode cX5_init 28 = .ok (.iconst 4, 1) := by decide +kernel
theorem dX5_init_29 : decode cX5_init 29 = .ok (.newarray .int, 2) := by decide +kernel
theorem dX5_init_31 : decode cX5_init 31 = .ok (.putfield 15, 3) := by decide +kernel
theorem dX5_init_34 : decode cX5_init 34 = .ok (.aload_n 0, 1) := by decide +kernel
theorem dX5_init_35 : decode cX5_init 35 = .ok (.sipush 240, 3) := by decide +kernel
theorem dX5_init_38 : decode cX5_init 38 = .ok (.newarray .int, 2) := by decide +kernel
theorem dX5_init_40 : decode cX5_init 40 = .ok (.putfield 18, 3) := by decide +kernel
theorem dX5_init_43 : decode cX5_init 43 = .ok (.return_, 1) := by decide +kernel
theorem dX5_isSheet_0 : decode cX5_isSheet 0 = .ok (.iload_n 0, 1) := by decide +kernel
theorem dX5_isSheet_1 : decode cX5_isSheet 1 = .ok (.ifCond .lt 12, 3) := by decide +kernel
theorem dX5_isSheet_4 : decode cX5_isSheet 4 = .ok (.iload_n 0, 1) := by decide +kernel
theorem dX5_isSheet_5 : decode cX5_isSheet 5 = .ok (.iconst 4, 1) := by decide +kernel
theorem dX5_isSheet_6 : decode cX5_isSheet 6 = .ok (.if_icmp .ge 7, 3) := by decide +kernel
theorem dX5_isSheet_9 : decode cX5_isSheet 9 = .ok (.iconst 1, 1) := by decide +kernel
theorem dX5_isSheet_10 : decode cX5_isSheet 10 = .ok (.goto 4, 3) := by decide +kernel
theorem dX5_isSheet_13 : decode cX5_isSheet 13 = .ok (.iconst 0, 1) := by decide +kernel
theorem dX5_isSheet_14 : decode cX5_isSheet 14 = .ok (.ireturn, 1) := by decide +kernel
theorem dX5_hasNothing_0 : decode cX5_hasNothing 0 = .ok (.iload_n 1, 1) := by decide +kernel
theorem dX5_hasNothing_1 : decode cX5_hasNothing 1 = .ok (.invokestatic 21, 3) := by decide +kernel
theorem dX5_hasNothing_4 : decode cX5_hasNothing 4 = .ok (.ifCond .eq 13, 3) := by decide +kernel
theorem dX5_hasNothing_7 : decode cX5_hasNothing 7 = .ok (.aload_n 0, 1) := by decide +kernel
theorem dX5_hasNothing_8 : decode cX5_hasNothing 8 = .ok (.getfield 11, 3) := by decide +kernel
theorem dX5_hasNothing_11 : decode cX5_hasNothing 11 = .ok (.iload_n 1, 1) := by decide +kernel
theorem dX5_hasNothing_12 : decode cX5_hasNothing 12 = .ok (.iaload, 1) := by decide +kernel
theorem dX5_hasNothing_13 : decode cX5_hasNothing 13 = .ok (.iconst (-1), 1) := by decide +kernel
theorem dX5_hasNothing_14 : decode cX5_hasNothing 14 = .ok (.if_icmp .ne 7, 3) := by decide +kernel
theorem dX5_hasNothing_17 : decode cX5_hasNothing 17 = .ok (.iconst 1, 1) := by decide +kernel
theorem dX5_hasNothing_18 : decode cX5_hasNothing 18 = .ok (.goto 4, 3) := by decide +kernel
theorem dX5_hasNothing_21 : decode cX5_hasNothing 21 = .ok (.iconst 0, 1) := by decide +kernel
theorem dX5_hasNothing_22 : decode cX5_hasNothing 22 = .ok (.ireturn, 1) := by decide +kernel
theorem dX5_faultOfRow_0 : decode cX5_faultOfRow 0 = .ok (.aload_n 0, 1) := by decide +kernel
theorem dX5_faultOfRow_1 : decode cX5_faultOfRow 1 = .ok (.iload_n 1, 1) := by decide +kernel
theorem dX5_faultOfRow_2 : decode cX5_faultOfRow 2 = .ok (.invokevirtual 25, 3) := by decide +kernel
theorem dX5_faultOfRow_5 : decode cX5_faultOfRow 5 = .ok (.ifCond .eq 5, 3) := by decide +kernel
theorem dX5_faultOfRow_8 : decode cX5_faultOfRow 8 = .ok (.iconst 1, 1) := by decide +kernel
theorem dX5_faultOfRow_9 : decode cX5_faultOfRow 9 = .ok (.ireturn, 1) := by decide +kernel
theorem dX5_faultOfRow_10 : decode cX5_faultOfRow 10 = .ok (.aload_n 0, 1) := by decide +kernel
theorem dX5_faultOfRow_11 : decode cX5_faultOfRow 11 = .ok (.getfield 11, 3) := by decide +kernel
theorem dX5_faultOfRow_14 : decode cX5_faultOfRow 14 = .ok (.iload_n 1, 1) := by decide +kernel
theorem dX5_faultOfRow_15 : decode cX5_faultOfRow 15 = .ok (.iaload, 1) := by decide +kernel
theorem dX5_faultOfRow_16 : decode cX5_faultOfRow 16 = .ok (.iload_n 2, 1) := by decide +kernel
theorem dX5_faultOfRow_17 : decode cX5_faultOfRow 17 = .ok (.if_icmp .ne 7, 3) := by decide +kernel
theorem dX5_faultOfRow_20 : decode cX5_faultOfRow 20 = .ok (.iconst 0, 1) := by decide +kernel
theorem dX5_faultOfRow_21 : decode cX5_faultOfRow 21 = .ok (.goto 4, 3) := by decide +kernel
theorem dX5_faultOfRow_24 : decode cX5_faultOfRow 24 = .ok (.iconst 2, 1) := by decide +kernel
theorem dX5_faultOfRow_25 : decode cX5_faultOfRow 25 = .ok (.ireturn, 1) := by decide +kernel
theorem dX5_faultOfPair_0 : decode cX5_faultOfPair 0 = .ok (.aload_n 0, 1) := by decide +kernel
theorem dX5_faultOfPair_1 : decode cX5_faultOfPair 1 = .ok (.iload_n 1, 1) := by decide +kernel
theorem dX5_faultOfPair_2 : decode cX5_faultOfPair 2 = .ok (.invokevirtual 25, 3) := by decide +kernel
theorem dX5_faultOfPair_5 : decode cX5_faultOfPair 5 = .ok (.ifCond .ne 11, 3) := by decide +kernel
theorem dX5_faultOfPair_8 : decode cX5_faultOfPair 8 = .ok (.aload_n 0, 1) := by decide +kernel
theorem dX5_faultOfPair_9 : decode cX5_faultOfPair 9 = .ok (.iload_n 2, 1) := by decide +kernel
theorem dX5_faultOfPair_10 : decode cX5_faultOfPair 10 = .ok (.invokevirtual 25, 3) := by decide +kernel
theorem dX5_faultOfPair_13 : decode cX5_faultOfPair 13 = .ok (.ifCond .eq 5, 3) := by decide +kernel
theorem dX5_faultOfPair_16 : decode cX5_faultOfPair 16 = .ok (.iconst 1, 1) := by decide +kernel
theorem dX5_faultOfPair_17 : decode cX5_faultOfPair 17 = .ok (.ireturn, 1) := by decide +kernel
theorem dX5_faultOfPair_18 : decode cX5_faultOfPair 18 = .ok (.aload_n 0, 1) := by decide +kernel
theorem dX5_faultOfPair_19 : decode cX5_faultOfPair 19 = .ok (.getfield 11, 3) := by decide +kernel
theorem dX5_faultOfPair_22 : decode cX5_faultOfPair 22 = .ok (.iload_n 1, 1) := by decide +kernel
theorem dX5_faultOfPair_23 : decode cX5_faultOfPair 23 = .ok (.iaload, 1) := by decide +kernel
theorem dX5_faultOfPair_24 : decode cX5_faultOfPair 24 = .ok (.aload_n 0, 1) := by decide +kernel
theorem dX5_faultOfPair_25 : decode cX5_faultOfPair 25 = .ok (.getfield 11, 3) := by decide +kernel
theorem dX5_faultOfPair_28 : decode cX5_faultOfPair 28 = .ok (.iload_n 2, 1) := by decide +kernel
theorem dX5_faultOfPair_29 : decode cX5_faultOfPair 29 = .ok (.iaload, 1) := by decide +kernel
theorem dX5_faultOfPair_30 : decode cX5_faultOfPair 30 = .ok (.if_icmp .ne 7, 3) := by decide +kernel
theorem dX5_faultOfPair_33 : decode cX5_faultOfPair 33 = .ok (.iconst 0, 1) := by decide +kernel
theorem dX5_faultOfPair_34 : decode cX5_faultOfPair 34 = .ok (.goto 4, 3) := by decide +kernel
theorem dX5_faultOfPair_37 : decode cX5_faultOfPair 37 = .ok (.iconst 2, 1) := by decide +kernel
theorem dX5_faultOfPair_38 : decode cX5_faultOfPair 38 = .ok (.ireturn, 1) := by decide +kernel
theorem dX5_faultOfCell_0 : decode cX5_faultOfCell 0 = .ok (.iload_n 1, 1) := by decide +kernel
theorem dX5_faultOfCell_1 : decode cX5_faultOfCell 1 = .ok (.invokestatic 21, 3) := by decide +kernel
theorem dX5_faultOfCell_4 : decode cX5_faultOfCell 4 = .ok (.ifCond .eq 21, 3) := by decide +kernel
theorem dX5_faultOfCell_7 : decode cX5_faultOfCell 7 = .ok (.iload_n 2, 1) := by decide +kernel
theorem dX5_faultOfCell_8 : decode cX5_faultOfCell 8 = .ok (.ifCond .lt 17, 3) := by decide +kernel
theorem dX5_faultOfCell_11 : decode cX5_faultOfCell 11 = .ok (.iload_n 2, 1) := by decide +kernel
theorem dX5_faultOfCell_12 : decode cX5_faultOfCell 12 = .ok (.aload_n 0, 1) := by decide +kernel
theorem dX5_faultOfCell_13 : decode cX5_faultOfCell 13 = .ok (.getfield 15, 3) := by decide +kernel
theorem dX5_faultOfCell_16 : decode cX5_faultOfCell 16 = .ok (.iload_n 1, 1) := by decide +kernel
theorem dX5_faultOfCell_17 : decode cX5_faultOfCell 17 = .ok (.iaload, 1) := by decide +kernel
theorem dX5_faultOfCell_18 : decode cX5_faultOfCell 18 = .ok (.if_icmp .ge 7, 3) := by decide +kernel
theorem dX5_faultOfCell_21 : decode cX5_faultOfCell 21 = .ok (.iconst 0, 1) := by decide +kernel
theorem dX5_faultOfCell_22 : decode cX5_faultOfCell 22 = .ok (.goto 4, 3) := by decide +kernel
theorem dX5_faultOfCell_25 : decode cX5_faultOfCell 25 = .ok (.iconst 3, 1) := by decide +kernel
theorem dX5_faultOfCell_26 : decode cX5_faultOfCell 26 = .ok (.ireturn, 1) := by decide +kernel
theorem dX5_faultOfCells_0 : decode cX5_faultOfCells 0 = .ok (.iload_n 1, 1) := by decide +kernel
theorem dX5_faultOfCells_1 : decode cX5_faultOfCells 1 = .ok (.invokestatic 21, 3) := by decide +kernel
theorem dX5_faultOfCells_4 : decode cX5_faultOfCells 4 = .ok (.ifCond .eq 11, 3) := by decide +kernel
theorem dX5_faultOfCells_7 : decode cX5_faultOfCells 7 = .ok (.iload_n 2, 1) := by decide +kernel
theorem dX5_faultOfCells_8 : decode cX5_faultOfCells 8 = .ok (.ifCond .lt 7, 3) := by decide +kernel
theorem dX5_faultOfCells_11 : decode cX5_faultOfCells 11 = .ok (.iload_n 3, 1) := by decide +kernel
theorem dX5_faultOfCells_12 : decode cX5_faultOfCells 12 = .ok (.ifCond .ge 5, 3) := by decide +kernel
theorem dX5_faultOfCells_15 : decode cX5_faultOfCells 15 = .ok (.iconst 3, 1) := by decide +kernel
theorem dX5_faultOfCells_16 : decode cX5_faultOfCells 16 = .ok (.ireturn, 1) := by decide +kernel
theorem dX5_faultOfCells_17 : decode cX5_faultOfCells 17 = .ok (.iload_n 2, 1) := by decide +kernel
theorem dX5_faultOfCells_18 : decode cX5_faultOfCells 18 = .ok (.i2l, 1) := by decide +kernel
theorem dX5_faultOfCells_19 : decode cX5_faultOfCells 19 = .ok (.iload_n 3, 1) := by decide +kernel
theorem dX5_faultOfCells_20 : decode cX5_faultOfCells 20 = .ok (.i2l, 1) := by decide +kernel
theorem dX5_faultOfCells_21 : decode cX5_faultOfCells 21 = .ok (.ladd, 1) := by decide +kernel
theorem dX5_faultOfCells_22 : decode cX5_faultOfCells 22 = .ok (.aload_n 0, 1) := by decide +kernel
theorem dX5_faultOfCells_23 : decode cX5_faultOfCells 23 = .ok (.getfield 15, 3) := by decide +kernel
theorem dX5_faultOfCells_26 : decode cX5_faultOfCells 26 = .ok (.iload_n 1, 1) := by decide +kernel
theorem dX5_faultOfCells_27 : decode cX5_faultOfCells 27 = .ok (.iaload, 1) := by decide +kernel
theorem dX5_faultOfCells_28 : decode cX5_faultOfCells 28 = .ok (.i2l, 1) := by decide +kernel
theorem dX5_faultOfCells_29 : decode cX5_faultOfCells 29 = .ok (.lcmp, 1) := by decide +kernel
theorem dX5_faultOfCells_30 : decode cX5_faultOfCells 30 = .ok (.ifCond .gt 7, 3) := by decide +kernel
theorem dX5_faultOfCells_33 : decode cX5_faultOfCells 33 = .ok (.iconst 0, 1) := by decide +kernel
theorem dX5_faultOfCells_34 : decode cX5_faultOfCells 34 = .ok (.goto 4, 3) := by decide +kernel
theorem dX5_faultOfCells_37 : decode cX5_faultOfCells 37 = .ok (.iconst 3, 1) := by decide +kernel
theorem dX5_faultOfCells_38 : decode cX5_faultOfCells 38 = .ok (.ireturn, 1) := by decide +kernel
theorem dX5_renew_0 : decode cX5_renew 0 = .ok (.iload_n 1, 1) := by decide +kernel
theorem dX5_renew_1 : decode cX5_renew 1 = .ok (.invokestatic 21, 3) := by decide +kernel
theorem dX5_renew_4 : decode cX5_renew 4 = .ok (.ifCond .eq 13, 3) := by decide +kernel
theorem dX5_renew_7 : decode cX5_renew 7 = .ok (.iload_n 3, 1) := by decide +kernel
theorem dX5_renew_8 : decode cX5_renew 8 = .ok (.ifCond .lt 9, 3) := by decide +kernel
theorem dX5_renew_11 : decode cX5_renew 11 = .ok (.iload_n 3, 1) := by decide +kernel
theorem dX5_renew_12 : decode cX5_renew 12 = .ok (.bipush 60, 2) := by decide +kernel
theorem dX5_renew_14 : decode cX5_renew 14 = .ok (.if_icmp .le 4, 3) := by decide +kernel
theorem dX5_renew_17 : decode cX5_renew 17 = .ok (.return_, 1) := by decide +kernel
theorem dX5_renew_18 : decode cX5_renew 18 = .ok (.aload_n 0, 1) := by decide +kernel
theorem dX5_renew_19 : decode cX5_renew 19 = .ok (.getfield 11, 3) := by decide +kernel
theorem dX5_renew_22 : decode cX5_renew 22 = .ok (.iload_n 1, 1) := by decide +kernel
theorem dX5_renew_23 : decode cX5_renew 23 = .ok (.iload_n 2, 1) := by decide +kernel
theorem dX5_renew_24 : decode cX5_renew 24 = .ok (.iastore, 1) := by decide +kernel
theorem dX5_renew_25 : decode cX5_renew 25 = .ok (.aload_n 0, 1) := by decide +kernel
theorem dX5_renew_26 : decode cX5_renew 26 = .ok (.getfield 15, 3) := by decide +kernel
theorem dX5_renew_29 : decode cX5_renew 29 = .ok (.iload_n 1, 1) := by decide +kernel
theorem dX5_renew_30 : decode cX5_renew 30 = .ok (.iload_n 3, 1) := by decide +kernel
theorem dX5_renew_31 : decode cX5_renew 31 = .ok (.iastore, 1) := by decide +kernel
theorem dX5_renew_32 : decode cX5_renew 32 = .ok (.iconst 0, 1) := by decide +kernel
theorem dX5_renew_33 : decode cX5_renew 33 = .ok (.istore 4, 2) := by decide +kernel
theorem dX5_renew_35 : decode cX5_renew 35 = .ok (.iload 4, 2) := by decide +kernel
theorem dX5_renew_37 : decode cX5_renew 37 = .ok (.iload_n 3, 1) := by decide +kernel
theorem dX5_renew_38 : decode cX5_renew 38 = .ok (.if_icmp .ge 22, 3) := by decide +kernel
theorem dX5_renew_41 : decode cX5_renew 41 = .ok (.aload_n 0, 1) := by decide +kernel
theorem dX5_renew_42 : decode cX5_renew 42 = .ok (.getfield 18, 3) := by decide +kernel
theorem dX5_renew_45 : decode cX5_renew 45 = .ok (.iload_n 1, 1) := by decide +kernel
theorem dX5_renew_46 : decode cX5_renew 46 = .ok (.bipush 60, 2) := by decide +kernel
theorem dX5_renew_48 : decode cX5_renew 48 = .ok (.imul, 1) := by decide +kernel
theorem dX5_renew_49 : decode cX5_renew 49 = .ok (.iload 4, 2) := by decide +kernel
theorem dX5_renew_51 : decode cX5_renew 51 = .ok (.iadd, 1) := by decide +kernel
theorem dX5_renew_52 : decode cX5_renew 52 = .ok (.iconst 0, 1) := by decide +kernel
theorem dX5_renew_53 : decode cX5_renew 53 = .ok (.iastore, 1) := by decide +kernel
theorem dX5_renew_54 : decode cX5_renew 54 = .ok (.iinc 4 1, 3) := by decide +kernel
theorem dX5_renew_57 : decode cX5_renew 57 = .ok (.goto (-22), 3) := by decide +kernel
theorem dX5_renew_60 : decode cX5_renew 60 = .ok (.return_, 1) := by decide +kernel
theorem dX5_empty_0 : decode cX5_empty 0 = .ok (.iload_n 1, 1) := by decide +kernel
theorem dX5_empty_1 : decode cX5_empty 1 = .ok (.invokestatic 21, 3) := by decide +kernel
theorem dX5_empty_4 : decode cX5_empty 4 = .ok (.ifCond .ne 4, 3) := by decide +kernel
theorem dX5_empty_7 : decode cX5_empty 7 = .ok (.return_, 1) := by decide +kernel
theorem dX5_empty_8 : decode cX5_empty 8 = .ok (.aload_n 0, 1) := by decide +kernel
theorem dX5_empty_9 : decode cX5_empty 9 = .ok (.getfield 11, 3) := by decide +kernel
theorem dX5_empty_12 : decode cX5_empty 12 = .ok (.iload_n 1, 1) := by decide +kernel
theorem dX5_empty_13 : decode cX5_empty 13 = .ok (.iconst (-1), 1) := by decide +kernel
theorem dX5_empty_14 : decode cX5_empty 14 = .ok (.iastore, 1) := by decide +kernel
theorem dX5_empty_15 : decode cX5_empty 15 = .ok (.aload_n 0, 1) := by decide +kernel
theorem dX5_empty_16 : decode cX5_empty 16 = .ok (.getfield 15, 3) := by decide +kernel
theorem dX5_empty_19 : decode cX5_empty 19 = .ok (.iload_n 1, 1) := by decide +kernel
theorem dX5_empty_20 : decode cX5_empty 20 = .ok (.iconst 0, 1) := by decide +kernel
theorem dX5_empty_21 : decode cX5_empty 21 = .ok (.iastore, 1) := by decide +kernel
theorem dX5_empty_22 : decode cX5_empty 22 = .ok (.return_, 1) := by decide +kernel
theorem dX5_valueAt_0 : decode cX5_valueAt 0 = .ok (.aload_n 0, 1) := by decide +kernel
theorem dX5_valueAt_1 : decode cX5_valueAt 1 = .ok (.iload_n 1, 1) := by decide +kernel
theorem dX5_valueAt_2 : decode cX5_valueAt 2 = .ok (.iload_n 2, 1) := by decide +kernel
theorem dX5_valueAt_3 : decode cX5_valueAt 3 = .ok (.invokevirtual 28, 3) := by decide +kernel
theorem dX5_valueAt_6 : decode cX5_valueAt 6 = .ok (.ifCond .ne 17, 3) := by decide +kernel
theorem dX5_valueAt_9 : decode cX5_valueAt 9 = .ok (.aload_n 0, 1) := by decide +kernel
theorem dX5_valueAt_10 : decode cX5_valueAt 10 = .ok (.getfield 18, 3) := by decide +kernel
theorem dX5_valueAt_13 : decode cX5_valueAt 13 = .ok (.iload_n 1, 1) := by decide +kernel
theorem dX5_valueAt_14 : decode cX5_valueAt 14 = .ok (.bipush 60, 2) := by decide +kernel
theorem dX5_valueAt_16 : decode cX5_valueAt 16 = .ok (.imul, 1) := by decide +kernel
theorem dX5_valueAt_17 : decode cX5_valueAt 17 = .ok (.iload_n 2, 1) := by decide +kernel
theorem dX5_valueAt_18 : decode cX5_valueAt 18 = .ok (.iadd, 1) := by decide +kernel
theorem dX5_valueAt_19 : decode cX5_valueAt 19 = .ok (.iaload, 1) := by decide +kernel
theorem dX5_valueAt_20 : decode cX5_valueAt 20 = .ok (.goto 4, 3) := by decide +kernel
theorem dX5_valueAt_23 : decode cX5_valueAt 23 = .ok (.iconst 0, 1) := by decide +kernel
theorem dX5_valueAt_24 : decode cX5_valueAt 24 = .ok (.ireturn, 1) := by decide +kernel
theorem dX5_setAt_0 : decode cX5_setAt 0 = .ok (.aload_n 0, 1) := by decide +kernel
theorem dX5_setAt_1 : decode cX5_setAt 1 = .ok (.iload_n 1, 1) := by decide +kernel
theorem dX5_setAt_2 : decode cX5_setAt 2 = .ok (.iload_n 2, 1) := by decide +kernel
theorem dX5_setAt_3 : decode cX5_setAt 3 = .ok (.invokevirtual 28, 3) := by decide +kernel
theorem dX5_setAt_6 : decode cX5_setAt 6 = .ok (.ifCond .ne 24, 3) := by decide +kernel
theorem dX5_setAt_9 : decode cX5_setAt 9 = .ok (.aload_n 0, 1) := by decide +kernel
theorem dX5_setAt_10 : decode cX5_setAt 10 = .ok (.getfield 18, 3) := by decide +kernel
theorem dX5_setAt_13 : decode cX5_setAt 13 = .ok (.iload_n 1, 1) := by decide +kernel
theorem dX5_setAt_14 : decode cX5_setAt 14 = .ok (.bipush 60, 2) := by decide +kernel
theorem dX5_setAt_16 : decode cX5_setAt 16 = .ok (.imul, 1) := by decide +kernel
theorem dX5_setAt_17 : decode cX5_setAt 17 = .ok (.iload_n 2, 1) := by decide +kernel
theorem dX5_setAt_18 : decode cX5_setAt 18 = .ok (.iadd, 1) := by decide +kernel
theorem dX5_setAt_19 : decode cX5_setAt 19 = .ok (.iload_n 3, 1) := by decide +kernel
theorem dX5_setAt_20 : decode cX5_setAt 20 = .ok (.aload_n 0, 1) := by decide +kernel
theorem dX5_setAt_21 : decode cX5_setAt 21 = .ok (.getfield 11, 3) := by decide +kernel
theorem dX5_setAt_24 : decode cX5_setAt 24 = .ok (.iload_n 1, 1) := by decide +kernel
theorem dX5_setAt_25 : decode cX5_setAt 25 = .ok (.iaload, 1) := by decide +kernel
theorem dX5_setAt_26 : decode cX5_setAt 26 = .ok (.invokestatic 32, 3) := by decide +kernel
theorem dX5_setAt_29 : decode cX5_setAt 29 = .ok (.iastore, 1) := by decide +kernel
theorem dX5_setAt_30 : decode cX5_setAt 30 = .ok (.return_, 1) := by decide +kernel
theorem dX5_cut_0 : decode cX5_cut 0 = .ok (.iload_n 1, 1) := by decide +kernel
theorem dX5_cut_1 : decode cX5_cut 1 = .ok (.lookupswitch 33 #[(0, 27), (1, 30)], 27) := by decide +kernel
theorem dX5_cut_28 : decode cX5_cut 28 = .ok (.iload_n 0, 1) := by decide +kernel
theorem dX5_cut_29 : decode cX5_cut 29 = .ok (.i2b, 1) := by decide +kernel
theorem dX5_cut_30 : decode cX5_cut 30 = .ok (.ireturn, 1) := by decide +kernel
theorem dX5_cut_31 : decode cX5_cut 31 = .ok (.iload_n 0, 1) := by decide +kernel
theorem dX5_cut_32 : decode cX5_cut 32 = .ok (.i2s, 1) := by decide +kernel
theorem dX5_cut_33 : decode cX5_cut 33 = .ok (.ireturn, 1) := by decide +kernel
theorem dX5_cut_34 : decode cX5_cut 34 = .ok (.iload_n 0, 1) := by decide +kernel
theorem dX5_cut_35 : decode cX5_cut 35 = .ok (.ireturn, 1) := by decide +kernel
theorem dX5_move_0 : decode cX5_move 0 = .ok (.aload_n 0, 1) := by decide +kernel
theorem dX5_move_1 : decode cX5_move 1 = .ok (.iload_n 1, 1) := by decide +kernel
theorem dX5_move_2 : decode cX5_move 2 = .ok (.iload_n 2, 1) := by decide +kernel
theorem dX5_move_3 : decode cX5_move 3 = .ok (.iload 5, 2) := by decide +kernel
theorem dX5_move_5 : decode cX5_move 5 = .ok (.invokevirtual 35, 3) := by decide +kernel
theorem dX5_move_8 : decode cX5_move 8 = .ok (.ifCond .ne 15, 3) := by decide +kernel
theorem dX5_move_11 : decode cX5_move 11 = .ok (.aload_n 0, 1) := by decide +kernel
theorem dX5_move_12 : decode cX5_move 12 = .ok (.iload_n 3, 1) := by decide +kernel
theorem dX5_move_13 : decode cX5_move 13 = .ok (.iload 4, 2) := by decide +kernel
theorem dX5_move_15 : decode cX5_move 15 = .ok (.iload 5, 2) := by decide +kernel
theorem dX5_move_17 : decode cX5_move 17 = .ok (.invokevirtual 35, 3) := by decide +kernel
theorem dX5_move_20 : decode cX5_move 20 = .ok (.ifCond .eq 4, 3) := by decide +kernel
theorem dX5_move_23 : decode cX5_move 23 = .ok (.return_, 1) := by decide +kernel
theorem dX5_move_24 : decode cX5_move 24 = .ok (.aload_n 0, 1) := by decide +kernel
theorem dX5_move_25 : decode cX5_move 25 = .ok (.getfield 18, 3) := by decide +kernel
theorem dX5_move_28 : decode cX5_move 28 = .ok (.iload_n 1, 1) := by decide +kernel
theorem dX5_move_29 : decode cX5_move 29 = .ok (.bipush 60, 2) := by decide +kernel
theorem dX5_move_31 : decode cX5_move 31 = .ok (.imul, 1) := by decide +kernel
theorem dX5_move_32 : decode cX5_move 32 = .ok (.iload_n 2, 1) := by decide +kernel
theorem dX5_move_33 : decode cX5_move 33 = .ok (.iadd, 1) := by decide +kernel
theorem dX5_move_34 : decode cX5_move 34 = .ok (.aload_n 0, 1) := by decide +kernel
theorem dX5_move_35 : decode cX5_move 35 = .ok (.getfield 18, 3) := by decide +kernel
theorem dX5_move_38 : decode cX5_move 38 = .ok (.iload_n 3, 1) := by decide +kernel
theorem dX5_move_39 : decode cX5_move 39 = .ok (.bipush 60, 2) := by decide +kernel
theorem dX5_move_41 : decode cX5_move 41 = .ok (.imul, 1) := by decide +kernel
theorem dX5_move_42 : decode cX5_move 42 = .ok (.iload 4, 2) := by decide +kernel
theorem dX5_move_44 : decode cX5_move 44 = .ok (.iadd, 1) := by decide +kernel
theorem dX5_move_45 : decode cX5_move 45 = .ok (.iload 5, 2) := by decide +kernel
theorem dX5_move_47 : decode cX5_move 47 = .ok (.invokestatic 39, 3) := by decide +kernel
theorem dX5_move_50 : decode cX5_move 50 = .ok (.return_, 1) := by decide +kernel
end
section
theorem dX6_init_0 : decode cX6_init 0 = .ok (.aload_n 0, 1) := by decide +kernel
theorem dX6_init_1 : decode cX6_init 1 = .ok (.invokespecial 3, 3) := by decide +kernel
theorem dX6_init_4 : decode cX6_init 4 = .ok (.aload_n 0, 1) := by decide +kernel
theorem dX6_init_5 : decode cX6_init 5 = .ok (.bipush 60, 2) := by decide +kernel
theorem dX6_init_7 : decode cX6_init 7 = .ok (.newarray .int, 2) := by decide +kernel
theorem dX6_init_9 : decode cX6_init 9 = .ok (.putfield 11, 3) := by decide +kernel
theorem dX6_init_12 : decode cX6_init 12 = .ok (.return_, 1) := by decide +kernel
theorem dX6_load_0 : decode cX6_load 0 = .ok (.aload_n 0, 1) := by decide +kernel
theorem dX6_load_1 : decode cX6_load 1 = .ok (.iconst 0, 1) := by decide +kernel
theorem dX6_load_2 : decode cX6_load 2 = .ok (.iload 4, 2) := by decide +kernel
theorem dX6_load_4 : decode cX6_load 4 = .ok (.bipush 60, 2) := by decide +kernel
theorem dX6_load_6 : decode cX6_load 6 = .ok (.invokestatic 17, 3) := by decide +kernel
theorem dX6_load_9 : decode cX6_load 9 = .ok (.invokestatic 23, 3) := by decide +kernel
theorem dX6_load_12 : decode cX6_load 12 = .ok (.putfield 26, 3) := by decide +kernel
theorem dX6_load_15 : decode cX6_load 15 = .ok (.iconst 0, 1) := by decide +kernel
theorem dX6_load_16 : decode cX6_load 16 = .ok (.istore 5, 2) := by decide +kernel
theorem dX6_load_18 : decode cX6_load 18 = .ok (.iload 5, 2) := by decide +kernel
theorem dX6_load_20 : decode cX6_load 20 = .ok (.aload_n 0, 1) := by decide +kernel
theorem dX6_load_21 : decode cX6_load 21 = .ok (.getfield 26, 3) := by decide +kernel
theorem dX6_load_24 : decode cX6_load 24 = .ok (.if_icmp .ge 25, 3) := by decide +kernel
theorem dX6_load_27 : decode cX6_load 27 = .ok (.aload_n 0, 1) := by decide +kernel
theorem dX6_load_28 : decode cX6_load 28 = .ok (.getfield 11, 3) := by decide +kernel
theorem dX6_load_31 : decode cX6_load 31 = .ok (.iload 5, 2) := by decide +kernel
theorem dX6_load_33 : decode cX6_load 33 = .ok (.aload_n 1, 1) := by decide +kernel
theorem dX6_load_34 : decode cX6_load 34 = .ok (.iload_n 2, 1) := by decide +kernel
theorem dX6_load_35 : decode cX6_load 35 = .ok (.iload_n 3, 1) := by decide +kernel
theorem dX6_load_36 : decode cX6_load 36 = .ok (.iload 5, 2) := by decide +kernel
theorem dX6_load_38 : decode cX6_load 38 = .ok (.iadd, 1) := by decide +kernel
theorem dX6_load_39 : decode cX6_load 39 = .ok (.invokevirtual 30, 3) := by decide +kernel
theorem dX6_load_42 : decode cX6_load 42 = .ok (.iastore, 1) := by decide +kernel
theorem dX6_load_43 : decode cX6_load 43 = .ok (.iinc 5 1, 3) := by decide +kernel
theorem dX6_load_46 : decode cX6_load 46 = .ok (.goto (-28), 3) := by decide +kernel
theorem dX6_load_49 : decode cX6_load 49 = .ok (.return_, 1) := by decide +kernel
theorem dX6_codeAt_0 : decode cX6_codeAt 0 = .ok (.iload_n 1, 1) := by decide +kernel
theorem dX6_codeAt_1 : decode cX6_codeAt 1 = .ok (.ifCond .lt 20, 3) := by decide +kernel
theorem dX6_codeAt_4 : decode cX6_codeAt 4 = .ok (.iload_n 1, 1) := by decide +kernel
theorem dX6_codeAt_5 : decode cX6_codeAt 5 = .ok (.aload_n 0, 1) := by decide +kernel
theorem dX6_codeAt_6 : decode cX6_codeAt 6 = .ok (.getfield 26, 3) := by decide +kernel
theorem dX6_codeAt_9 : decode cX6_codeAt 9 = .ok (.if_icmp .ge 12, 3) := by decide +kernel
theorem dX6_codeAt_12 : decode cX6_codeAt 12 = .ok (.aload_n 0, 1) := by decide +kernel
theorem dX6_codeAt_13 : decode cX6_codeAt 13 = .ok (.getfield 11, 3) := by decide +kernel
theorem dX6_codeAt_16 : decode cX6_codeAt 16 = .ok (.iload_n 1, 1) := by decide +kernel
theorem dX6_codeAt_17 : decode cX6_codeAt 17 = .ok (.iaload, 1) := by decide +kernel
theorem dX6_codeAt_18 : decode cX6_codeAt 18 = .ok (.goto 4, 3) := by decide +kernel
theorem dX6_codeAt_21 : decode cX6_codeAt 21 = .ok (.iconst (-1), 1) := by decide +kernel
theorem dX6_codeAt_22 : decode cX6_codeAt 22 = .ok (.ireturn, 1) := by decide +kernel
theorem dX6_isDigit_0 : decode cX6_isDigit 0 = .ok (.aload_n 0, 1) := by decide +kernel
theorem dX6_isDigit_1 : decode cX6_isDigit 1 = .ok (.iload_n 1, 1) := by decide +kernel
theorem dX6_isDigit_2 : decode cX6_isDigit 2 = .ok (.invokevirtual 33, 3) := by decide +kernel
theorem dX6_isDigit_5 : decode cX6_isDigit 5 = .ok (.iload_n 2, 1) := by decide +kernel
theorem dX6_isDigit_6 : decode cX6_isDigit 6 = .ok (.if_icmp .lt 16, 3) := by decide +kernel
theorem dX6_isDigit_9 : decode cX6_isDigit 9 = .ok (.aload_n 0, 1) := by decide +kernel
theorem dX6_isDigit_10 : decode cX6_isDigit 10 = .ok (.iload_n 1, 1) := by decide +kernel
theorem dX6_isDigit_11 : decode cX6_isDigit 11 = .ok (.invokevirtual 33, 3) := by decide +kernel
theorem dX6_isDigit_14 : decode cX6_isDigit 14 = .ok (.iload_n 3, 1) := by decide +kernel
theorem dX6_isDigit_15 : decode cX6_isDigit 15 = .ok (.if_icmp .gt 7, 3) := by decide +kernel
theorem dX6_isDigit_18 : decode cX6_isDigit 18 = .ok (.iconst 1, 1) := by decide +kernel
theorem dX6_isDigit_19 : decode cX6_isDigit 19 = .ok (.goto 4, 3) := by decide +kernel
theorem dX6_isDigit_22 : decode cX6_isDigit 22 = .ok (.iconst 0, 1) := by decide +kernel
theorem dX6_isDigit_23 : decode cX6_isDigit 23 = .ok (.ireturn, 1) := by decide +kernel
theorem dX6_digitAt_0 : decode cX6_digitAt 0 = .ok (.aload_n 0, 1) := by decide +kernel
theorem dX6_digitAt_1 : decode cX6_digitAt 1 = .ok (.iload_n 1, 1) := by decide +kernel
theorem dX6_digitAt_2 : decode cX6_digitAt 2 = .ok (.invokevirtual 33, 3) := by decide +kernel
theorem dX6_digitAt_5 : decode cX6_digitAt 5 = .ok (.bipush 48, 2) := by decide +kernel
theorem dX6_digitAt_7 : decode cX6_digitAt 7 = .ok (.isub, 1) := by decide +kernel
theorem dX6_digitAt_8 : decode cX6_digitAt 8 = .ok (.ireturn, 1) := by decide +kernel
theorem dX6_kindAt_0 : decode cX6_kindAt 0 = .ok (.aload_n 0, 1) := by decide +kernel
theorem dX6_kindAt_1 : decode cX6_kindAt 1 = .ok (.iload_n 1, 1) := by decide +kernel
theorem dX6_kindAt_2 : decode cX6_kindAt 2 = .ok (.invokevirtual 33, 3) := by decide +kernel
theorem dX6_kindAt_5 : decode cX6_kindAt 5 = .ok (.lookupswitch 41 #[(103, 39), (108, 37), (114, 35)], 35) := by decide +kernel
theorem dX6_kindAt_40 : decode cX6_kindAt 40 = .ok (.iconst 0, 1) := by decide +kernel
theorem dX6_kindAt_41 : decode cX6_kindAt 41 = .ok (.ireturn, 1) := by decide +kernel
theorem dX6_kindAt_42 : decode cX6_kindAt 42 = .ok (.iconst 1, 1) := by decide +kernel
theorem dX6_kindAt_43 : decode cX6_kindAt 43 = .ok (.ireturn, 1) := by decide +kernel
theorem dX6_kindAt_44 : decode cX6_kindAt 44 = .ok (.iconst 2, 1) := by decide +kernel
theorem dX6_kindAt_45 : decode cX6_kindAt 45 = .ok (.ireturn, 1) := by decide +kernel
theorem dX6_kindAt_46 : decode cX6_kindAt 46 = .ok (.bipush (-9), 2) := by decide +kernel
theorem dX6_kindAt_48 : decode cX6_kindAt 48 = .ok (.ireturn, 1) := by decide +kernel
theorem dX6_firstFault_0 : decode cX6_firstFault 0 = .ok (.aload_n 0, 1) := by decide +kernel
theorem dX6_firstFault_1 : decode cX6_firstFault 1 = .ok (.iconst 0, 1) := by decide +kernel
theorem dX6_firstFault_2 : decode cX6_firstFault 2 = .ok (.putfield 37, 3) := by decide +kernel
theorem dX6_firstFault_5 : decode cX6_firstFault 5 = .ok (.aload_n 0, 1) := by decide +kernel
theorem dX6_firstFault_6 : decode cX6_firstFault 6 = .ok (.iconst 0, 1) := by decide +kernel
theorem dX6_firstFault_7 : decode cX6_firstFault 7 = .ok (.putfield 40, 3) := by decide +kernel
theorem dX6_firstFault_10 : decode cX6_firstFault 10 = .ok (.aload_n 0, 1) := by decide +kernel
theorem dX6_firstFault_11 : decode cX6_firstFault 11 = .ok (.iconst 0, 1) := by decide +kernel
theorem dX6_firstFault_12 : decode cX6_firstFault 12 = .ok (.invokevirtual 33, 3) := by decide +kernel
theorem dX6_firstFault_15 : decode cX6_firstFault 15 = .ok (.bipush 100, 2) := by decide +kernel
theorem dX6_firstFault_17 : decode cX6_firstFault 17 = .ok (.if_icmp .eq 5, 3) := by decide +kernel
theorem dX6_firstFault_20 : decode cX6_firstFault 20 = .ok (.iconst 0, 1) := by decide +kernel
theorem dX6_firstFault_21 : decode cX6_firstFault 21 = .ok (.ireturn, 1) := by decide +kernel
theorem dX6_firstFault_22 : decode cX6_firstFault 22 = .ok (.iconst 1, 1) := by decide +kernel
theorem dX6_firstFault_23 : decode cX6_firstFault 23 = .ok (.istore_n 1, 1) := by decide +kernel
theorem dX6_firstFault_24 : decode cX6_firstFault 24 = .ok (.iconst 0, 1) := by decide +kernel
theorem dX6_firstFault_25 : decode cX6_firstFault 25 = .ok (.istore_n 2, 1) := by decide +kernel
theorem dX6_firstFault_26 : decode cX6_firstFault 26 = .ok (.iload_n 2, 1) := by decide +kernel
theorem dX6_firstFault_27 : decode cX6_firstFault 27 = .ok (.iconst 5, 1) := by decide +kernel
theorem dX6_firstFault_28 : decode cX6_firstFault 28 = .ok (.if_icmp .ge 50, 3) := by decide +kernel
theorem dX6_firstFault_31 : decode cX6_firstFault 31 = .ok (.iload_n 2, 1) := by decide +kernel
theorem dX6_firstFault_32 : decode cX6_firstFault 32 = .ok (.ifCond .eq 13, 3) := by decide +kernel
theorem dX6_firstFault_35 : decode cX6_firstFault 35 = .ok (.aload_n 0, 1) := by decide +kernel
theorem dX6_firstFault_36 : decode cX6_firstFault 36 = .ok (.iload_n 1, 1) := by decide +kernel
theorem dX6_firstFault_37 : decode cX6_firstFault 37 = .ok (.invokevirtual 33, 3) := by decide +kernel
theorem dX6_firstFault_40 : decode cX6_firstFault 40 = .ok (.bipush 59, 2) := by decide +kernel
theorem dX6_firstFault_42 : decode cX6_firstFault 42 = .ok (.if_icmp .ne 36, 3) := by decide +kernel
theorem dX6_firstFault_45 : decode cX6_firstFault 45 = .ok (.aload_n 0, 1) := by decide +kernel
theorem dX6_firstFault_46 : decode cX6_firstFault 46 = .ok (.iload_n 1, 1) := by decide +kernel
theorem dX6_firstFault_47 : decode cX6_firstFault 47 = .ok (.invokevirtual 43, 3) := by decide +kernel
theorem dX6_firstFault_50 : decode cX6_firstFault 50 = .ok (.istore_n 3, 1) := by decide +kernel
theorem dX6_firstFault_51 : decode cX6_firstFault 51 = .ok (.iload_n 3, 1) := by decide +kernel
theorem dX6_firstFault_52 : decode cX6_firstFault 52 = .ok (.iload_n 1, 1) := by decide +kernel
theorem dX6_firstFault_53 : decode cX6_firstFault 53 = .ok (.iconst 5, 1) := by decide +kernel
theorem dX6_firstFault_54 : decode cX6_firstFault 54 = .ok (.iadd, 1) := by decide +kernel
theorem dX6_firstFault_55 : decode cX6_firstFault 55 = .ok (.if_icmp .eq 5, 3) := by decide +kernel
theorem dX6_firstFault_58 : decode cX6_firstFault 58 = .ok (.iload_n 3, 1) := by decide +kernel
theorem dX6_firstFault_59 : decode cX6_firstFault 59 = .ok (.ireturn, 1) := by decide +kernel
theorem dX6_firstFault_60 : decode cX6_firstFault 60 = .ok (.iload_n 3, 1) := by decide +kernel
theorem dX6_firstFault_61 : decode cX6_firstFault 61 = .ok (.istore_n 1, 1) := by decide +kernel
theorem dX6_firstFault_62 : decode cX6_firstFault 62 = .ok (.aload_n 0, 1) := by decide +kernel
theorem dX6_firstFault_63 : decode cX6_firstFault 63 = .ok (.dup, 1) := by decide +kernel
theorem dX6_firstFault_64 : decode cX6_firstFault 64 = .ok (.getfield 37, 3) := by decide +kernel
theorem dX6_firstFault_67 : decode cX6_firstFault 67 = .ok (.iconst 1, 1) := by decide +kernel
theorem dX6_firstFault_68 : decode cX6_firstFault 68 = .ok (.iadd, 1) := by decide +kernel
theorem dX6_firstFault_69 : decode cX6_firstFault 69 = .ok (.putfield 37, 3) := by decide +kernel
theorem dX6_firstFault_72 : decode cX6_firstFault 72 = .ok (.iinc 2 1, 3) := by decide +kernel
theorem dX6_firstFault_75 : decode cX6_firstFault 75 = .ok (.goto (-49), 3) := by decide +kernel
theorem dX6_firstFault_78 : decode cX6_firstFault 78 = .ok (.iconst 0, 1) := by decide +kernel
theorem dX6_firstFault_79 : decode cX6_firstFault 79 = .ok (.istore_n 2, 1) := by decide +kernel
theorem dX6_firstFault_80 : decode cX6_firstFault 80 = .ok (.iload_n 2, 1) := by decide +kernel
theorem dX6_firstFault_81 : decode cX6_firstFault 81 = .ok (.iconst 5, 1) := by decide +kernel
theorem dX6_firstFault_82 : decode cX6_firstFault 82 = .ok (.if_icmp .ge 50, 3) := by decide +kernel
theorem dX6_firstFault_85 : decode cX6_firstFault 85 = .ok (.iload_n 2, 1) := by decide +kernel
theorem dX6_firstFault_86 : decode cX6_firstFault 86 = .ok (.ifCond .eq 13, 3) := by decide +kernel
theorem dX6_firstFault_89 : decode cX6_firstFault 89 = .ok (.aload_n 0, 1) := by decide +kernel
theorem dX6_firstFault_90 : decode cX6_firstFault 90 = .ok (.iload_n 1, 1) := by decide +kernel
theorem dX6_firstFault_91 : decode cX6_firstFault 91 = .ok (.invokevirtual 33, 3) := by decide +kernel
theorem dX6_firstFault_94 : decode cX6_firstFault 94 = .ok (.bipush 44, 2) := by decide +kernel
theorem dX6_firstFault_96 : decode cX6_firstFault 96 = .ok (.if_icmp .ne 36, 3) := by decide +kernel
theorem dX6_firstFault_99 : decode cX6_firstFault 99 = .ok (.aload_n 0, 1) := by decide +kernel
theorem dX6_firstFault_100 : decode cX6_firstFault 100 = .ok (.iload_n 1, 1) := by decide +kernel
theorem dX6_firstFault_101 : decode cX6_firstFault 101 = .ok (.invokevirtual 46, 3) := by decide +kernel
theorem dX6_firstFault_104 : decode cX6_firstFault 104 = .ok (.istore_n 3, 1) := by decide +kernel
theorem dX6_firstFault_105 : decode cX6_firstFault 105 = .ok (.iload_n 3, 1) := by decide +kernel
theorem dX6_firstFault_106 : decode cX6_firstFault 106 = .ok (.iload_n 1, 1) := by decide +kernel
theorem dX6_firstFault_107 : decode cX6_firstFault 107 = .ok (.iconst 4, 1) := by decide +kernel
theorem dX6_firstFault_108 : decode cX6_firstFault 108 = .ok (.iadd, 1) := by decide +kernel
theorem dX6_firstFault_109 : decode cX6_firstFault 109 = .ok (.if_icmp .eq 5, 3) := by decide +kernel
theorem dX6_firstFault_112 : decode cX6_firstFault 112 = .ok (.iload_n 3, 1) := by decide +kernel
theorem dX6_firstFault_113 : decode cX6_firstFault 113 = .ok (.ireturn, 1) := by decide +kernel
theorem dX6_firstFault_114 : decode cX6_firstFault 114 = .ok (.iload_n 3, 1) := by decide +kernel
theorem dX6_firstFault_115 : decode cX6_firstFault 115 = .ok (.istore_n 1, 1) := by decide +kernel
theorem dX6_firstFault_116 : decode cX6_firstFault 116 = .ok (.aload_n 0, 1) := by decide +kernel
theorem dX6_firstFault_117 : decode cX6_firstFault 117 = .ok (.dup, 1) := by decide +kernel
theorem dX6_firstFault_118 : decode cX6_firstFault 118 = .ok (.getfield 40, 3) := by decide +kernel
theorem dX6_firstFault_121 : decode cX6_firstFault 121 = .ok (.iconst 1, 1) := by decide +kernel
theorem dX6_firstFault_122 : decode cX6_firstFault 122 = .ok (.iadd, 1) := by decide +kernel
theorem dX6_firstFault_123 : decode cX6_firstFault 123 = .ok (.putfield 40, 3) := by decide +kernel
theorem dX6_firstFault_126 : decode cX6_firstFault 126 = .ok (.iinc 2 1, 3) := by decide +kernel
theorem dX6_firstFault_129 : decode cX6_firstFault 129 = .ok (.goto (-49), 3) := by decide +kernel
theorem dX6_firstFault_132 : decode cX6_firstFault 132 = .ok (.iload_n 1, 1) := by decide +kernel
theorem dX6_firstFault_133 : decode cX6_firstFault 133 = .ok (.aload_n 0, 1) := by decide +kernel
theorem dX6_firstFault_134 : decode cX6_firstFault 134 = .ok (.getfield 26, 3) := by decide +kernel
theorem dX6_firstFault_137 : decode cX6_firstFault 137 = .ok (.if_icmp .ge 7, 3) := by decide +kernel
theorem dX6_firstFault_140 : decode cX6_firstFault 140 = .ok (.iload_n 1, 1) := by decide +kernel
theorem dX6_firstFault_141 : decode cX6_firstFault 141 = .ok (.goto 5, 3) := by decide +kernel
theorem dX6_firstFault_144 : decode cX6_firstFault 144 = .ok (.bipush (-9), 2) := by decide +kernel
theorem dX6_firstFault_146 : decode cX6_firstFault 146 = .ok (.ireturn, 1) := by decide +kernel
theorem dX6_stopInBarrow_0 : decode cX6_stopInBarrow 0 = .ok (.aload_n 0, 1) := by decide +kernel
theorem dX6_stopInBarrow_1 : decode cX6_stopInBarrow 1 = .ok (.iload_n 1, 1) := by decide +kernel
theorem dX6_stopInBarrow_2 : decode cX6_stopInBarrow 2 = .ok (.invokevirtual 33, 3) := by decide +kernel
theorem dX6_stopInBarrow_5 : decode cX6_stopInBarrow 5 = .ok (.bipush 59, 2) := by decide +kernel
theorem dX6_stopInBarrow_7 : decode cX6_stopInBarrow 7 = .ok (.if_icmp .eq 5, 3) := by decide +kernel
theorem dX6_stopInBarrow_10 : decode cX6_stopInBarrow 10 = .ok (.iload_n 1, 1) := by decide +kernel
theorem dX6_stopInBarrow_11 : decode cX6_stopInBarrow 11 = .ok (.ireturn, 1) := by decide +kernel
theorem dX6_stopInBarrow_12 : decode cX6_stopInBarrow 12 = .ok (.aload_n 0, 1) := by decide +kernel
theorem dX6_stopInBarrow_13 : decode cX6_stopInBarrow 13 = .ok (.iload_n 1, 1) := by decide +kernel
theorem dX6_stopInBarrow_14 : decode cX6_stopInBarrow 14 = .ok (.iconst 1, 1) := by decide +kernel
theorem dX6_stopInBarrow_15 : decode cX6_stopInBarrow 15 = .ok (.iadd, 1) := by decide +kernel
theorem dX6_stopInBarrow_16 : decode cX6_stopInBarrow 16 = .ok (.invokevirtual 49, 3) := by decide +kernel
theorem dX6_stopInBarrow_19 : decode cX6_stopInBarrow 19 = .ok (.bipush (-9), 2) := by decide +kernel
theorem dX6_stopInBarrow_21 : decode cX6_stopInBarrow 21 = .ok (.if_icmp .ne 7, 3) := by decide +kernel
theorem dX6_stopInBarrow_24 : decode cX6_stopInBarrow 24 = .ok (.iload_n 1, 1) := by decide +kernel
theorem dX6_stopInBarrow_25 : decode cX6_stopInBarrow 25 = .ok (.iconst 1, 1) := by decide +kernel
theorem dX6_stopInBarrow_26 : decode cX6_stopInBarrow 26 = .ok (.iadd, 1) := by decide +kernel
theorem dX6_stopInBarrow_27 : decode cX6_stopInBarrow 27 = .ok (.ireturn, 1) := by decide +kernel
theorem dX6_stopInBarrow_28 : decode cX6_stopInBarrow 28 = .ok (.aload_n 0, 1) := by decide +kernel
theorem dX6_stopInBarrow_29 : decode cX6_stopInBarrow 29 = .ok (.iload_n 1, 1) := by decide +kernel
theorem dX6_stopInBarrow_30 : decode cX6_stopInBarrow 30 = .ok (.iconst 2, 1) := by decide +kernel
theorem dX6_stopInBarrow_31 : decode cX6_stopInBarrow 31 = .ok (.iadd, 1) := by decide +kernel
theorem dX6_stopInBarrow_32 : decode cX6_stopInBarrow 32 = .ok (.bipush 49, 2) := by decide +kernel
theorem dX6_stopInBarrow_34 : decode cX6_stopInBarrow 34 = .ok (.bipush 52, 2) := by decide +kernel
theorem dX6_stopInBarrow_36 : decode cX6_stopInBarrow 36 = .ok (.invokevirtual 52, 3) := by decide +kernel
theorem dX6_stopInBarrow_39 : decode cX6_stopInBarrow 39 = .ok (.ifCond .ne 7, 3) := by decide +kernel
theorem dX6_stopInBarrow_42 : decode cX6_stopInBarrow 42 = .ok (.iload_n 1, 1) := by decide +kernel
theorem dX6_stopInBarrow_43 : decode cX6_stopInBarrow 43 = .ok (.iconst 2, 1) := by decide +kernel
theorem dX6_stopInBarrow_44 : decode cX6_stopInBarrow 44 = .ok (.iadd, 1) := by decide +kernel
theorem dX6_stopInBarrow_45 : decode cX6_stopInBarrow 45 = .ok (.ireturn, 1) := by decide +kernel
theorem dX6_stopInBarrow_46 : decode cX6_stopInBarrow 46 = .ok (.aload_n 0, 1) := by decide +kernel
theorem dX6_stopInBarrow_47 : decode cX6_stopInBarrow 47 = .ok (.iload_n 1, 1) := by decide +kernel
theorem dX6_stopInBarrow_48 : decode cX6_stopInBarrow 48 = .ok (.iconst 3, 1) := by decide +kernel
theorem dX6_stopInBarrow_49 : decode cX6_stopInBarrow 49 = .ok (.iadd, 1) := by decide +kernel
theorem dX6_stopInBarrow_50 : decode cX6_stopInBarrow 50 = .ok (.bipush 48, 2) := by decide +kernel
theorem dX6_stopInBarrow_52 : decode cX6_stopInBarrow 52 = .ok (.bipush 57, 2) := by decide +kernel
theorem dX6_stopInBarrow_54 : decode cX6_stopInBarrow 54 = .ok (.invokevirtual 52, 3) := by decide +kernel
theorem dX6_stopInBarrow_57 : decode cX6_stopInBarrow 57 = .ok (.ifCond .ne 7, 3) := by decide +kernel
theorem dX6_stopInBarrow_60 : decode cX6_stopInBarrow 60 = .ok (.iload_n 1, 1) := by decide +kernel
theorem dX6_stopInBarrow_61 : decode cX6_stopInBarrow 61 = .ok (.iconst 3, 1) := by decide +kernel
theorem dX6_stopInBarrow_62 : decode cX6_stopInBarrow 62 = .ok (.iadd, 1) := by decide +kernel
theorem dX6_stopInBarrow_63 : decode cX6_stopInBarrow 63 = .ok (.ireturn, 1) := by decide +kernel
theorem dX6_stopInBarrow_64 : decode cX6_stopInBarrow 64 = .ok (.aload_n 0, 1) := by decide +kernel
theorem dX6_stopInBarrow_65 : decode cX6_stopInBarrow 65 = .ok (.iload_n 1, 1) := by decide +kernel
theorem dX6_stopInBarrow_66 : decode cX6_stopInBarrow 66 = .ok (.iconst 4, 1) := by decide +kernel
theorem dX6_stopInBarrow_67 : decode cX6_stopInBarrow 67 = .ok (.iadd, 1) := by decide +kernel
theorem dX6_stopInBarrow_68 : decode cX6_stopInBarrow 68 = .ok (.bipush 48, 2) := by decide +kernel
theorem dX6_stopInBarrow_70 : decode cX6_stopInBarrow 70 = .ok (.bipush 57, 2) := by decide +kernel
theorem dX6_stopInBarrow_72 : decode cX6_stopInBarrow 72 = .ok (.invokevirtual 52, 3) := by decide +kernel
theorem dX6_stopInBarrow_75 : decode cX6_stopInBarrow 75 = .ok (.ifCond .ne 7, 3) := by decide +kernel
theorem dX6_stopInBarrow_78 : decode cX6_stopInBarrow 78 = .ok (.iload_n 1, 1) := by decide +kernel
theorem dX6_stopInBarrow_79 : decode cX6_stopInBarrow 79 = .ok (.iconst 4, 1) := by decide +kernel
theorem dX6_stopInBarrow_80 : decode cX6_stopInBarrow 80 = .ok (.iadd, 1) := by decide +kernel
theorem dX6_stopInBarrow_81 : decode cX6_stopInBarrow 81 = .ok (.ireturn, 1) := by decide +kernel
theorem dX6_stopInBarrow_82 : decode cX6_stopInBarrow 82 = .ok (.iload_n 1, 1) := by decide +kernel
theorem dX6_stopInBarrow_83 : decode cX6_stopInBarrow 83 = .ok (.iconst 5, 1) := by decide +kernel
theorem dX6_stopInBarrow_84 : decode cX6_stopInBarrow 84 = .ok (.iadd, 1) := by decide +kernel
theorem dX6_stopInBarrow_85 : decode cX6_stopInBarrow 85 = .ok (.ireturn, 1) := by decide +kernel
theorem dX6_stopInWalker_0 : decode cX6_stopInWalker 0 = .ok (.aload_n 0, 1) := by decide +kernel
theorem dX6_stopInWalker_1 : decode cX6_stopInWalker 1 = .ok (.iload_n 1, 1) := by decide +kernel
theorem dX6_stopInWalker_2 : decode cX6_stopInWalker 2 = .ok (.invokevirtual 33, 3) := by decide +kernel
theorem dX6_stopInWalker_5 : decode cX6_stopInWalker 5 = .ok (.bipush 44, 2) := by decide +kernel
theorem dX6_stopInWalker_7 : decode cX6_stopInWalker 7 = .ok (.if_icmp .eq 5, 3) := by decide +kernel
theorem dX6_stopInWalker_10 : decode cX6_stopInWalker 10 = .ok (.iload_n 1, 1) := by decide +kernel
theorem dX6_stopInWalker_11 : decode cX6_stopInWalker 11 = .ok (.ireturn, 1) := by decide +kernel
theorem dX6_stopInWalker_12 : decode cX6_stopInWalker 12 = .ok (.aload_n 0, 1) := by decide +kernel
theorem dX6_stopInWalker_13 : decode cX6_stopInWalker 13 = .ok (.iload_n 1, 1) := by decide +kernel
theorem dX6_stopInWalker_14 : decode cX6_stopInWalker 14 = .ok (.iconst 1, 1) := by decide +kernel
theorem dX6_stopInWalker_15 : decode cX6_stopInWalker 15 = .ok (.iadd, 1) := by decide +kernel
theorem dX6_stopInWalker_16 : decode cX6_stopInWalker 16 = .ok (.bipush 48, 2) := by decide +kernel
theorem dX6_stopInWalker_18 : decode cX6_stopInWalker 18 = .ok (.bipush 57, 2) := by decide +kernel
theorem dX6_stopInWalker_20 : decode cX6_stopInWalker 20 = .ok (.invokevirtual 52, 3) := by decide +kernel
theorem dX6_stopInWalker_23 : decode cX6_stopInWalker 23 = .ok (.ifCond .ne 7, 3) := by decide +kernel
theorem dX6_stopInWalker_26 : decode cX6_stopInWalker 26 = .ok (.iload_n 1, 1) := by decide +kernel
theorem dX6_stopInWalker_27 : decode cX6_stopInWalker 27 = .ok (.iconst 1, 1) := by decide +kernel
theorem dX6_stopInWalker_28 : decode cX6_stopInWalker 28 = .ok (.iadd, 1) := by decide +kernel
theorem dX6_stopInWalker_29 : decode cX6_stopInWalker 29 = .ok (.ireturn, 1) := by decide +kernel
theorem dX6_stopInWalker_30 : decode cX6_stopInWalker 30 = .ok (.aload_n 0, 1) := by decide +kernel
theorem dX6_stopInWalker_31 : decode cX6_stopInWalker 31 = .ok (.iload_n 1, 1) := by decide +kernel
theorem dX6_stopInWalker_32 : decode cX6_stopInWalker 32 = .ok (.iconst 2, 1) := by decide +kernel
theorem dX6_stopInWalker_33 : decode cX6_stopInWalker 33 = .ok (.iadd, 1) := by decide +kernel
theorem dX6_stopInWalker_34 : decode cX6_stopInWalker 34 = .ok (.bipush 48, 2) := by decide +kernel
theorem dX6_stopInWalker_36 : decode cX6_stopInWalker 36 = .ok (.bipush 57, 2) := by decide +kernel
theorem dX6_stopInWalker_38 : decode cX6_stopInWalker 38 = .ok (.invokevirtual 52, 3) := by decide +kernel
theorem dX6_stopInWalker_41 : decode cX6_stopInWalker 41 = .ok (.ifCond .ne 7, 3) := by decide +kernel
theorem dX6_stopInWalker_44 : decode cX6_stopInWalker 44 = .ok (.iload_n 1, 1) := by decide +kernel
theorem dX6_stopInWalker_45 : decode cX6_stopInWalker 45 = .ok (.iconst 2, 1) := by decide +kernel
theorem dX6_stopInWalker_46 : decode cX6_stopInWalker 46 = .ok (.iadd, 1) := by decide +kernel
theorem dX6_stopInWalker_47 : decode cX6_stopInWalker 47 = .ok (.ireturn, 1) := by decide +kernel
theorem dX6_stopInWalker_48 : decode cX6_stopInWalker 48 = .ok (.aload_n 0, 1) := by decide +kernel
theorem dX6_stopInWalker_49 : decode cX6_stopInWalker 49 = .ok (.iload_n 1, 1) := by decide +kernel
theorem dX6_stopInWalker_50 : decode cX6_stopInWalker 50 = .ok (.iconst 3, 1) := by decide +kernel
theorem dX6_stopInWalker_51 : decode cX6_stopInWalker 51 = .ok (.iadd, 1) := by decide +kernel
theorem dX6_stopInWalker_52 : decode cX6_stopInWalker 52 = .ok (.bipush 49, 2) := by decide +kernel
theorem dX6_stopInWalker_54 : decode cX6_stopInWalker 54 = .ok (.bipush 57, 2) := by decide +kernel
theorem dX6_stopInWalker_56 : decode cX6_stopInWalker 56 = .ok (.invokevirtual 52, 3) := by decide +kernel
theorem dX6_stopInWalker_59 : decode cX6_stopInWalker 59 = .ok (.ifCond .ne 7, 3) := by decide +kernel
theorem dX6_stopInWalker_62 : decode cX6_stopInWalker 62 = .ok (.iload_n 1, 1) := by decide +kernel
theorem dX6_stopInWalker_63 : decode cX6_stopInWalker 63 = .ok (.iconst 3, 1) := by decide +kernel
theorem dX6_stopInWalker_64 : decode cX6_stopInWalker 64 = .ok (.iadd, 1) := by decide +kernel
theorem dX6_stopInWalker_65 : decode cX6_stopInWalker 65 = .ok (.ireturn, 1) := by decide +kernel
theorem dX6_stopInWalker_66 : decode cX6_stopInWalker 66 = .ok (.iload_n 1, 1) := by decide +kernel
theorem dX6_stopInWalker_67 : decode cX6_stopInWalker 67 = .ok (.iconst 4, 1) := by decide +kernel
theorem dX6_stopInWalker_68 : decode cX6_stopInWalker 68 = .ok (.iadd, 1) := by decide +kernel
theorem dX6_stopInWalker_69 : decode cX6_stopInWalker 69 = .ok (.ireturn, 1) := by decide +kernel
theorem dX6_makeAnew_0 : decode cX6_makeAnew 0 = .ok (.aload_n 1, 1) := by decide +kernel
theorem dX6_makeAnew_1 : decode cX6_makeAnew 1 = .ok (.aload_n 0, 1) := by decide +kernel
theorem dX6_makeAnew_2 : decode cX6_makeAnew 2 = .ok (.getfield 37, 3) := by decide +kernel
theorem dX6_makeAnew_5 : decode cX6_makeAnew 5 = .ok (.putfield 56, 3) := by decide +kernel
theorem dX6_makeAnew_8 : decode cX6_makeAnew 8 = .ok (.aload_n 1, 1) := by decide +kernel
theorem dX6_makeAnew_9 : decode cX6_makeAnew 9 = .ok (.aload_n 0, 1) := by decide +kernel
theorem dX6_makeAnew_10 : decode cX6_makeAnew 10 = .ok (.getfield 40, 3) := by decide +kernel
theorem dX6_makeAnew_13 : decode cX6_makeAnew 13 = .ok (.putfield 59, 3) := by decide +kernel
theorem dX6_makeAnew_16 : decode cX6_makeAnew 16 = .ok (.aload_n 1, 1) := by decide +kernel
theorem dX6_makeAnew_17 : decode cX6_makeAnew 17 = .ok (.iconst 0, 1) := by decide +kernel
theorem dX6_makeAnew_18 : decode cX6_makeAnew 18 = .ok (.putfield 60, 3) := by decide +kernel
theorem dX6_makeAnew_21 : decode cX6_makeAnew 21 = .ok (.iconst 1, 1) := by decide +kernel
theorem dX6_makeAnew_22 : decode cX6_makeAnew 22 = .ok (.istore_n 2, 1) := by decide +kernel
theorem dX6_makeAnew_23 : decode cX6_makeAnew 23 = .ok (.iconst 0, 1) := by decide +kernel
theorem dX6_makeAnew_24 : decode cX6_makeAnew 24 = .ok (.istore_n 3, 1) := by decide +kernel
theorem dX6_makeAnew_25 : decode cX6_makeAnew 25 = .ok (.iload_n 3, 1) := by decide +kernel
theorem dX6_makeAnew_26 : decode cX6_makeAnew 26 = .ok (.aload_n 0, 1) := by decide +kernel
theorem dX6_makeAnew_27 : decode cX6_makeAnew 27 = .ok (.getfield 37, 3) := by decide +kernel
theorem dX6_makeAnew_30 : decode cX6_makeAnew 30 = .ok (.if_icmp .ge 64, 3) := by decide +kernel
theorem dX6_makeAnew_33 : decode cX6_makeAnew 33 = .ok (.aload_n 1, 1) := by decide +kernel
theorem dX6_makeAnew_34 : decode cX6_makeAnew 34 = .ok (.getfield 63, 3) := by decide +kernel
theorem dX6_makeAnew_37 : decode cX6_makeAnew 37 = .ok (.iload_n 3, 1) := by decide +kernel
theorem dX6_makeAnew_38 : decode cX6_makeAnew 38 = .ok (.aload_n 0, 1) := by decide +kernel
theorem dX6_makeAnew_39 : decode cX6_makeAnew 39 = .ok (.iload_n 2, 1) := by decide +kernel
theorem dX6_makeAnew_40 : decode cX6_makeAnew 40 = .ok (.iconst 1, 1) := by decide +kernel
theorem dX6_makeAnew_41 : decode cX6_makeAnew 41 = .ok (.iadd, 1) := by decide +kernel
theorem dX6_makeAnew_42 : decode cX6_makeAnew 42 = .ok (.invokevirtual 49, 3) := by decide +kernel
theorem dX6_makeAnew_45 : decode cX6_makeAnew 45 = .ok (.iastore, 1) := by decide +kernel
theorem dX6_makeAnew_46 : decode cX6_makeAnew 46 = .ok (.aload_n 1, 1) := by decide +kernel
theorem dX6_makeAnew_47 : decode cX6_makeAnew 47 = .ok (.getfield 66, 3) := by decide +kernel
theorem dX6_makeAnew_50 : decode cX6_makeAnew 50 = .ok (.iload_n 3, 1) := by decide +kernel
theorem dX6_makeAnew_51 : decode cX6_makeAnew 51 = .ok (.aload_n 0, 1) := by decide +kernel
theorem dX6_makeAnew_52 : decode cX6_makeAnew 52 = .ok (.iload_n 2, 1) := by decide +kernel
theorem dX6_makeAnew_53 : decode cX6_makeAnew 53 = .ok (.iconst 2, 1) := by decide +kernel
theorem dX6_makeAnew_54 : decode cX6_makeAnew 54 = .ok (.iadd, 1) := by decide +kernel
theorem dX6_makeAnew_55 : decode cX6_makeAnew 55 = .ok (.invokevirtual 69, 3) := by decide +kernel
theorem dX6_makeAnew_58 : decode cX6_makeAnew 58 = .ok (.iastore, 1) := by decide +kernel
theorem dX6_makeAnew_59 : decode cX6_makeAnew 59 = .ok (.aload_n 1, 1) := by decide +kernel
theorem dX6_makeAnew_60 : decode cX6_makeAnew 60 = .ok (.getfield 72, 3) := by decide +kernel
theorem dX6_makeAnew_63 : decode cX6_makeAnew 63 = .ok (.iload_n 3, 1) := by decide +kernel
theorem dX6_makeAnew_64 : decode cX6_makeAnew 64 = .ok (.aload_n 0, 1) := by decide +kernel
theorem dX6_makeAnew_65 : decode cX6_makeAnew 65 = .ok (.iload_n 2, 1) := by decide +kernel
theorem dX6_makeAnew_66 : decode cX6_makeAnew 66 = .ok (.iconst 3, 1) := by decide +kernel
theorem dX6_makeAnew_67 : decode cX6_makeAnew 67 = .ok (.iadd, 1) := by decide +kernel
theorem dX6_makeAnew_68 : decode cX6_makeAnew 68 = .ok (.invokevirtual 69, 3) := by decide +kernel
theorem dX6_makeAnew_71 : decode cX6_makeAnew 71 = .ok (.iastore, 1) := by decide +kernel
theorem dX6_makeAnew_72 : decode cX6_makeAnew 72 = .ok (.aload_n 1, 1) := by decide +kernel
theorem dX6_makeAnew_73 : decode cX6_makeAnew 73 = .ok (.getfield 75, 3) := by decide +kernel
theorem dX6_makeAnew_76 : decode cX6_makeAnew 76 = .ok (.iload_n 3, 1) := by decide +kernel
theorem dX6_makeAnew_77 : decode cX6_makeAnew 77 = .ok (.aload_n 0, 1) := by decide +kernel
theorem dX6_makeAnew_78 : decode cX6_makeAnew 78 = .ok (.iload_n 2, 1) := by decide +kernel
theorem dX6_makeAnew_79 : decode cX6_makeAnew 79 = .ok (.iconst 4, 1) := by decide +kernel
theorem dX6_makeAnew_80 : decode cX6_makeAnew 80 = .ok (.iadd, 1) := by decide +kernel
theorem dX6_makeAnew_81 : decode cX6_makeAnew 81 = .ok (.invokevirtual 69, 3) := by decide +kernel
theorem dX6_makeAnew_84 : decode cX6_makeAnew 84 = .ok (.iastore, 1) := by decide +kernel
theorem dX6_makeAnew_85 : decode cX6_makeAnew 85 = .ok (.iinc 2 5, 3) := by decide +kernel
theorem dX6_makeAnew_88 : decode cX6_makeAnew 88 = .ok (.iinc 3 1, 3) := by decide +kernel
theorem dX6_makeAnew_91 : decode cX6_makeAnew 91 = .ok (.goto (-66), 3) := by decide +kernel
theorem dX6_makeAnew_94 : decode cX6_makeAnew 94 = .ok (.iconst 0, 1) := by decide +kernel
theorem dX6_makeAnew_95 : decode cX6_makeAnew 95 = .ok (.istore_n 3, 1) := by decide +kernel
theorem dX6_makeAnew_96 : decode cX6_makeAnew 96 = .ok (.iload_n 3, 1) := by decide +kernel
theorem dX6_makeAnew_97 : decode cX6_makeAnew 97 = .ok (.aload_n 0, 1) := by decide +kernel
theorem dX6_makeAnew_98 : decode cX6_makeAnew 98 = .ok (.getfield 40, 3) := by decide +kernel
theorem dX6_makeAnew_101 : decode cX6_makeAnew 101 = .ok (.if_icmp .ge 66, 3) := by decide +kernel
theorem dX6_makeAnew_104 : decode cX6_makeAnew 104 = .ok (.aload_n 1, 1) := by decide +kernel
theorem dX6_makeAnew_105 : decode cX6_makeAnew 105 = .ok (.getfield 78, 3) := by decide +kernel
theorem dX6_makeAnew_108 : decode cX6_makeAnew 108 = .ok (.iload_n 3, 1) := by decide +kernel
theorem dX6_makeAnew_109 : decode cX6_makeAnew 109 = .ok (.aload_n 0, 1) := by decide +kernel
theorem dX6_makeAnew_110 : decode cX6_makeAnew 110 = .ok (.iload_n 2, 1) := by decide +kernel
theorem dX6_makeAnew_111 : decode cX6_makeAnew 111 = .ok (.iconst 1, 1) := by decide +kernel
theorem dX6_makeAnew_112 : decode cX6_makeAnew 112 = .ok (.iadd, 1) := by decide +kernel
theorem dX6_makeAnew_113 : decode cX6_makeAnew 113 = .ok (.invokevirtual 69, 3) := by decide +kernel
theorem dX6_makeAnew_116 : decode cX6_makeAnew 116 = .ok (.iastore, 1) := by decide +kernel
theorem dX6_makeAnew_117 : decode cX6_makeAnew 117 = .ok (.aload_n 1, 1) := by decide +kernel
theorem dX6_makeAnew_118 : decode cX6_makeAnew 118 = .ok (.getfield 81, 3) := by decide +kernel
theorem dX6_makeAnew_121 : decode cX6_makeAnew 121 = .ok (.iload_n 3, 1) := by decide +kernel
theorem dX6_makeAnew_122 : decode cX6_makeAnew 122 = .ok (.aload_n 0, 1) := by decide +kernel
theorem dX6_makeAnew_123 : decode cX6_makeAnew 123 = .ok (.iload_n 2, 1) := by decide +kernel
theorem dX6_makeAnew_124 : decode cX6_makeAnew 124 = .ok (.iconst 2, 1) := by decide +kernel
theorem dX6_makeAnew_125 : decode cX6_makeAnew 125 = .ok (.iadd, 1) := by decide +kernel
theorem dX6_makeAnew_126 : decode cX6_makeAnew 126 = .ok (.invokevirtual 69, 3) := by decide +kernel
theorem dX6_makeAnew_129 : decode cX6_makeAnew 129 = .ok (.iastore, 1) := by decide +kernel
theorem dX6_makeAnew_130 : decode cX6_makeAnew 130 = .ok (.aload_n 1, 1) := by decide +kernel
theorem dX6_makeAnew_131 : decode cX6_makeAnew 131 = .ok (.getfield 84, 3) := by decide +kernel
theorem dX6_makeAnew_134 : decode cX6_makeAnew 134 = .ok (.iload_n 3, 1) := by decide +kernel
theorem dX6_makeAnew_135 : decode cX6_makeAnew 135 = .ok (.aload_n 0, 1) := by decide +kernel
theorem dX6_makeAnew_136 : decode cX6_makeAnew 136 = .ok (.iload_n 2, 1) := by decide +kernel
theorem dX6_makeAnew_137 : decode cX6_makeAnew 137 = .ok (.iconst 3, 1) := by decide +kernel
theorem dX6_makeAnew_138 : decode cX6_makeAnew 138 = .ok (.iadd, 1) := by decide +kernel
theorem dX6_makeAnew_139 : decode cX6_makeAnew 139 = .ok (.invokevirtual 69, 3) := by decide +kernel
theorem dX6_makeAnew_142 : decode cX6_makeAnew 142 = .ok (.iastore, 1) := by decide +kernel
theorem dX6_makeAnew_143 : decode cX6_makeAnew 143 = .ok (.aload_n 1, 1) := by decide +kernel
theorem dX6_makeAnew_144 : decode cX6_makeAnew 144 = .ok (.getfield 87, 3) := by decide +kernel
theorem dX6_makeAnew_147 : decode cX6_makeAnew 147 = .ok (.iload_n 3, 1) := by decide +kernel
theorem dX6_makeAnew_148 : decode cX6_makeAnew 148 = .ok (.bipush (-9), 2) := by decide +kernel
theorem dX6_makeAnew_150 : decode cX6_makeAnew 150 = .ok (.iastore, 1) := by decide +kernel
theorem dX6_makeAnew_151 : decode cX6_makeAnew 151 = .ok (.aload_n 1, 1) := by decide +kernel
theorem dX6_makeAnew_152 : decode cX6_makeAnew 152 = .ok (.getfield 90, 3) := by decide +kernel
theorem dX6_makeAnew_155 : decode cX6_makeAnew 155 = .ok (.iload_n 3, 1) := by decide +kernel
theorem dX6_makeAnew_156 : decode cX6_makeAnew 156 = .ok (.iconst 0, 1) := by decide +kernel
theorem dX6_makeAnew_157 : decode cX6_makeAnew 157 = .ok (.iastore, 1) := by decide +kernel
theorem dX6_makeAnew_158 : decode cX6_makeAnew 158 = .ok (.iinc 2 4, 3) := by decide +kernel
theorem dX6_makeAnew_161 : decode cX6_makeAnew 161 = .ok (.iinc 3 1, 3) := by decide +kernel
theorem dX6_makeAnew_164 : decode cX6_makeAnew 164 = .ok (.goto (-68), 3) := by decide +kernel
theorem dX6_makeAnew_167 : decode cX6_makeAnew 167 = .ok (.return_, 1) := by decide +kernel
end
section
theorem dX7_init_0 : decode cX7_init 0 = .ok (.aload_n 0, 1) := by decide +kernel
theorem dX7_init_1 : decode cX7_init 1 = .ok (.invokespecial 3, 3) := by decide +kernel
theorem dX7_init_4 : decode cX7_init 4 = .ok (.aload_n 0, 1) := by decide +kernel
theorem dX7_init_5 : decode cX7_init 5 = .ok (.new 9, 3) := by decide +kernel
theorem dX7_init_8 : decode cX7_init 8 = .ok (.dup, 1) := by decide +kernel
theorem dX7_init_9 : decode cX7_init 9 = .ok (.invokespecial 11, 3) := by decide +kernel
theorem dX7_init_12 : decode cX7_init 12 = .ok (.putfield 12, 3) := by decide +kernel
theorem dX7_init_15 : decode cX7_init 15 = .ok (.aload_n 0, 1) := by decide +kernel
theorem dX7_init_16 : decode cX7_init 16 = .ok (.new 18, 3) := by decide +kernel
theorem dX7_init_19 : decode cX7_init 19 = .ok (.dup, 1) := by decide +kernel
theorem dX7_init_20 : decode cX7_init 20 = .ok (.invokespecial 20, 3) := by decide +kernel
theorem dX7_init_23 : decode cX7_init 23 = .ok (.putfield 21, 3) := by decide +kernel
theorem dX7_init_26 : decode cX7_init 26 = .ok (.aload_n 0, 1) := by decide +kernel
theorem dX7_init_27 : decode cX7_init 27 = .ok (.new 25, 3) := by decide +kernel
theorem dX7_init_30 : decode cX7_init 30 = .ok (.dup, 1) := by decide +kernel
theorem dX7_init_31 : decode cX7_init 31 = .ok (.invokespecial 27, 3) := by decide +kernel
theorem dX7_init_34 : decode cX7_init 34 = .ok (.putfield 28, 3) := by decide +kernel
theorem dX7_init_37 : decode cX7_init 37 = .ok (.aload_n 0, 1) := by decide +kernel
theorem dX7_init_38 : decode cX7_init 38 = .ok (.new 32, 3) := by decide +kernel
theorem dX7_init_41 : decode cX7_init 41 = .ok (.dup, 1) := by decide +kernel
theorem dX7_init_42 : decode cX7_init 42 = .ok (.invokespecial 34, 3) := by decide +kernel
theorem dX7_init_45 : decode cX7_init 45 = .ok (.putfield 35, 3) := by decide +kernel
theorem dX7_init_48 : decode cX7_init 48 = .ok (.aload_n 0, 1) := by decide +kernel
theorem dX7_init_49 : decode cX7_init 49 = .ok (.new 39, 3) := by decide +kernel
theorem dX7_init_52 : decode cX7_init 52 = .ok (.dup, 1) := by decide +kernel
theorem dX7_init_53 : decode cX7_init 53 = .ok (.invokespecial 41, 3) := by decide +kernel
theorem dX7_init_56 : decode cX7_init 56 = .ok (.putfield 42, 3) := by decide +kernel
theorem dX7_init_59 : decode cX7_init 59 = .ok (.aload_n 0, 1) := by decide +kernel
theorem dX7_init_60 : decode cX7_init 60 = .ok (.new 46, 3) := by decide +kernel
theorem dX7_init_63 : decode cX7_init 63 = .ok (.dup, 1) := by decide +kernel
theorem dX7_init_64 : decode cX7_init 64 = .ok (.invokespecial 48, 3) := by decide +kernel
theorem dX7_init_67 : decode cX7_init 67 = .ok (.putfield 49, 3) := by decide +kernel
theorem dX7_init_70 : decode cX7_init 70 = .ok (.aload_n 0, 1) := by decide +kernel
theorem dX7_init_71 : decode cX7_init 71 = .ok (.new 53, 3) := by decide +kernel
theorem dX7_init_74 : decode cX7_init 74 = .ok (.dup, 1) := by decide +kernel
theorem dX7_init_75 : decode cX7_init 75 = .ok (.invokespecial 55, 3) := by decide +kernel
theorem dX7_init_78 : decode cX7_init 78 = .ok (.putfield 56, 3) := by decide +kernel
theorem dX7_init_81 : decode cX7_init 81 = .ok (.aload_n 0, 1) := by decide +kernel
theorem dX7_init_82 : decode cX7_init 82 = .ok (.iconst 0, 1) := by decide +kernel
theorem dX7_init_83 : decode cX7_init 83 = .ok (.putfield 60, 3) := by decide +kernel
theorem dX7_init_86 : decode cX7_init 86 = .ok (.aload_n 0, 1) := by decide +kernel
theorem dX7_init_87 : decode cX7_init 87 = .ok (.iconst 0, 1) := by decide +kernel
theorem dX7_init_88 : decode cX7_init 88 = .ok (.putfield 64, 3) := by decide +kernel
theorem dX7_init_91 : decode cX7_init 91 = .ok (.return_, 1) := by decide +kernel
theorem dX7_down_0 : decode cX7_down 0 = .ok (.aload_n 0, 1) := by decide +kernel
theorem dX7_down_1 : decode cX7_down 1 = .ok (.iconst 0, 1) := by decide +kernel
theorem dX7_down_2 : decode cX7_down 2 = .ok (.putfield 64, 3) := by decide +kernel
theorem dX7_down_5 : decode cX7_down 5 = .ok (.iload_n 1, 1) := by decide +kernel
theorem dX7_down_6 : decode cX7_down 6 = .ok (.invokestatic 67, 3) := by decide +kernel
theorem dX7_down_9 : decode cX7_down 9 = .ok (.ifCond .ne 5, 3) := by decide +kernel
theorem dX7_down_12 : decode cX7_down 12 = .ok (.iconst (-1), 1) := by decide +kernel
theorem dX7_down_13 : decode cX7_down 13 = .ok (.ireturn, 1) := by decide +kernel
theorem dX7_down_14 : decode cX7_down 14 = .ok (.iload_n 2, 1) := by decide +kernel
theorem dX7_down_15 : decode cX7_down 15 = .ok (.invokestatic 71, 3) := by decide +kernel
theorem dX7_down_18 : decode cX7_down 18 = .ok (.ifCond .ne 6, 3) := by decide +kernel
theorem dX7_down_21 : decode cX7_down 21 = .ok (.bipush (-2), 2) := by decide +kernel
theorem dX7_down_23 : decode cX7_down 23 = .ok (.ireturn, 1) := by decide +kernel
theorem dX7_down_24 : decode cX7_down 24 = .ok (.aload_n 0, 1) := by decide +kernel
theorem dX7_down_25 : decode cX7_down 25 = .ok (.aload_n 0, 1) := by decide +kernel
theorem dX7_down_26 : decode cX7_down 26 = .ok (.getfield 12, 3) := by decide +kernel
theorem dX7_down_29 : decode cX7_down 29 = .ok (.iload_n 1, 1) := by decide +kernel
theorem dX7_down_30 : decode cX7_down 30 = .ok (.iload_n 2, 1) := by decide +kernel
theorem dX7_down_31 : decode cX7_down 31 = .ok (.invokevirtual 74, 3) := by decide +kernel
theorem dX7_down_34 : decode cX7_down 34 = .ok (.putfield 64, 3) := by decide +kernel
theorem dX7_down_37 : decode cX7_down 37 = .ok (.aload_n 0, 1) := by decide +kernel
theorem dX7_down_38 : decode cX7_down 38 = .ok (.getfield 64, 3) := by decide +kernel
theorem dX7_down_41 : decode cX7_down 41 = .ok (.ifCond .ne 13, 3) := by decide +kernel
theorem dX7_down_44 : decode cX7_down 44 = .ok (.iload 4, 2) := by decide +kernel
theorem dX7_down_46 : decode cX7_down 46 = .ok (.ifCond .ge 8, 3) := by decide +kernel
theorem dX7_down_49 : decode cX7_down 49 = .ok (.aload_n 0, 1) := by decide +kernel
theorem dX7_down_50 : decode cX7_down 50 = .ok (.iconst 4, 1) := by decide +kernel
theorem dX7_down_51 : decode cX7_down 51 = .ok (.putfield 64, 3) := by decide +kernel
theorem dX7_down_54 : decode cX7_down 54 = .ok (.aload_n 0, 1) := by decide +kernel
theorem dX7_down_55 : decode cX7_down 55 = .ok (.getfield 64, 3) := by decide +kernel
theorem dX7_down_58 : decode cX7_down 58 = .ok (.ifCond .ne 18, 3) := by decide +kernel
theorem dX7_down_61 : decode cX7_down 61 = .ok (.aload_n 0, 1) := by decide +kernel
theorem dX7_down_62 : decode cX7_down 62 = .ok (.aload_n 0, 1) := by decide +kernel
theorem dX7_down_63 : decode cX7_down 63 = .ok (.getfield 12, 3) := by decide +kernel
theorem dX7_down_66 : decode cX7_down 66 = .ok (.iload_n 1, 1) := by decide +kernel
theorem dX7_down_67 : decode cX7_down 67 = .ok (.iload_n 3, 1) := by decide +kernel
theorem dX7_down_68 : decode cX7_down 68 = .ok (.iload 4, 2) := by decide +kernel
theorem dX7_down_70 : decode cX7_down 70 = .ok (.invokevirtual 78, 3) := by decide +kernel
theorem dX7_down_73 : decode cX7_down 73 = .ok (.putfield 64, 3) := by decide +kernel
theorem dX7_down_76 : decode cX7_down 76 = .ok (.aload_n 0, 1) := by decide +kernel
theorem dX7_down_77 : decode cX7_down 77 = .ok (.getfield 64, 3) := by decide +kernel
theorem dX7_down_80 : decode cX7_down 80 = .ok (.ifCond .eq 11, 3) := by decide +kernel
theorem dX7_down_83 : decode cX7_down 83 = .ok (.bipush (-10), 2) := by decide +kernel
theorem dX7_down_85 : decode cX7_down 85 = .ok (.aload_n 0, 1) := by decide +kernel
theorem dX7_down_86 : decode cX7_down 86 = .ok (.getfield 64, 3) := by decide +kernel
theorem dX7_down_89 : decode cX7_down 89 = .ok (.isub, 1) := by decide +kernel
theorem dX7_down_90 : decode cX7_down 90 = .ok (.ireturn, 1) := by decide +kernel
theorem dX7_down_91 : decode cX7_down 91 = .ok (.aload_n 0, 1) := by decide +kernel
theorem dX7_down_92 : decode cX7_down 92 = .ok (.getfield 21, 3) := by decide +kernel
theorem dX7_down_95 : decode cX7_down 95 = .ok (.aload_n 0, 1) := by decide +kernel
theorem dX7_down_96 : decode cX7_down 96 = .ok (.getfield 12, 3) := by decide +kernel
theorem dX7_down_99 : decode cX7_down 99 = .ok (.iload_n 1, 1) := by decide +kernel
theorem dX7_down_100 : decode cX7_down 100 = .ok (.iload_n 3, 1) := by decide +kernel
theorem dX7_down_101 : decode cX7_down 101 = .ok (.iload 4, 2) := by decide +kernel
theorem dX7_down_103 : decode cX7_down 103 = .ok (.invokevirtual 82, 3) := by decide +kernel
theorem dX7_down_106 : decode cX7_down 106 = .ok (.aload_n 0, 1) := by decide +kernel
theorem dX7_down_107 : decode cX7_down 107 = .ok (.getfield 21, 3) := by decide +kernel
theorem dX7_down_110 : decode cX7_down 110 = .ok (.invokevirtual 86, 3) := by decide +kernel
theorem dX7_down_113 : decode cX7_down 113 = .ok (.istore 5, 2) := by decide +kernel
theorem dX7_down_115 : decode cX7_down 115 = .ok (.iload 5, 2) := by decide +kernel
theorem dX7_down_117 : decode cX7_down 117 = .ok (.bipush (-9), 2) := by decide +kernel
theorem dX7_down_119 : decode cX7_down 119 = .ok (.if_icmp .eq 9, 3) := by decide +kernel
theorem dX7_down_122 : decode cX7_down 122 = .ok (.bipush (-100), 2) := by decide +kernel
theorem dX7_down_124 : decode cX7_down 124 = .ok (.iload 5, 2) := by decide +kernel
theorem dX7_down_126 : decode cX7_down 126 = .ok (.isub, 1) := by decide +kernel
theorem dX7_down_127 : decode cX7_down 127 = .ok (.ireturn, 1) := by decide +kernel
theorem dX7_down_128 : decode cX7_down 128 = .ok (.aload_n 0, 1) := by decide +kernel
theorem dX7_down_129 : decode cX7_down 129 = .ok (.getfield 21, 3) := by decide +kernel
theorem dX7_down_132 : decode cX7_down 132 = .ok (.aload_n 0, 1) := by decide +kernel
theorem dX7_down_133 : decode cX7_down 133 = .ok (.getfield 28, 3) := by decide +kernel
theorem dX7_down_136 : decode cX7_down 136 = .ok (.invokevirtual 90, 3) := by decide +kernel
theorem dX7_down_139 : decode cX7_down 139 = .ok (.aload_n 0, 1) := by decide +kernel
theorem dX7_down_140 : decode cX7_down 140 = .ok (.getfield 56, 3) := by decide +kernel
theorem dX7_down_143 : decode cX7_down 143 = .ok (.iconst 0, 1) := by decide +kernel
theorem dX7_down_144 : decode cX7_down 144 = .ok (.putfield 94, 3) := by decide +kernel
theorem dX7_down_147 : decode cX7_down 147 = .ok (.aload_n 0, 1) := by decide +kernel
theorem dX7_down_148 : decode cX7_down 148 = .ok (.getfield 28, 3) := by decide +kernel
theorem dX7_down_151 : decode cX7_down 151 = .ok (.getfield 97, 3) := by decide +kernel
theorem dX7_down_154 : decode cX7_down 154 = .ok (.ireturn, 1) := by decide +kernel
theorem dX7_ofBarrow_0 : decode cX7_ofBarrow 0 = .ok (.aload_n 0, 1) := by decide +kernel
theorem dX7_ofBarrow_1 : decode cX7_ofBarrow 1 = .ok (.getfield 28, 3) := by decide +kernel
theorem dX7_ofBarrow_4 : decode cX7_ofBarrow 4 = .ok (.iload_n 1, 1) := by decide +kernel
theorem dX7_ofBarrow_5 : decode cX7_ofBarrow 5 = .ok (.invokevirtual 100, 3) := by decide +kernel
theorem dX7_ofBarrow_8 : decode cX7_ofBarrow 8 = .ok (.ifCond .ne 5, 3) := by decide +kernel
theorem dX7_ofBarrow_11 : decode cX7_ofBarrow 11 = .ok (.iconst (-1), 1) := by decide +kernel
theorem dX7_ofBarrow_12 : decode cX7_ofBarrow 12 = .ok (.ireturn, 1) := by decide +kernel
theorem dX7_ofBarrow_13 : decode cX7_ofBarrow 13 = .ok (.iload_n 2, 1) := by decide +kernel
theorem dX7_ofBarrow_14 : decode cX7_ofBarrow 14 = .ok (.tableswitch 96 0 5 #[38, 48, 58, 68, 78, 87], 38) := by decide +kernel
theorem dX7_ofBarrow_52 : decode cX7_ofBarrow 52 = .ok (.aload_n 0, 1) := by decide +kernel
theorem dX7_ofBarrow_53 : decode cX7_ofBarrow 53 = .ok (.getfield 28, 3) := by decide +kernel
theorem dX7_ofBarrow_56 : decode cX7_ofBarrow 56 = .ok (.getfield 103, 3) := by decide +kernel
theorem dX7_ofBarrow_59 : decode cX7_ofBarrow 59 = .ok (.iload_n 1, 1) := by decide +kernel
theorem dX7_ofBarrow_60 : decode cX7_ofBarrow 60 = .ok (.iaload, 1) := by decide +kernel
theorem dX7_ofBarrow_61 : decode cX7_ofBarrow 61 = .ok (.ireturn, 1) := by decide +kernel
theorem dX7_ofBarrow_62 : decode cX7_ofBarrow 62 = .ok (.aload_n 0, 1) := by decide +kernel
theorem dX7_ofBarrow_63 : decode cX7_ofBarrow 63 = .ok (.getfield 28, 3) := by decide +kernel
theorem dX7_ofBarrow_66 : decode cX7_ofBarrow 66 = .ok (.getfield 107, 3) := by decide +kernel
theorem dX7_ofBarrow_69 : decode cX7_ofBarrow 69 = .ok (.iload_n 1, 1) := by decide +kernel
theorem dX7_ofBarrow_70 : decode cX7_ofBarrow 70 = .ok (.iaload, 1) := by decide +kernel
theorem dX7_ofBarrow_71 : decode cX7_ofBarrow 71 = .ok (.ireturn, 1) := by decide +kernel
theorem dX7_ofBarrow_72 : decode cX7_ofBarrow 72 = .ok (.aload_n 0, 1) := by decide +kernel
theorem dX7_ofBarrow_73 : decode cX7_ofBarrow 73 = .ok (.getfield 28, 3) := by decide +kernel
theorem dX7_ofBarrow_76 : decode cX7_ofBarrow 76 = .ok (.getfield 110, 3) := by decide +kernel
theorem dX7_ofBarrow_79 : decode cX7_ofBarrow 79 = .ok (.iload_n 1, 1) := by decide +kernel
theorem dX7_ofBarrow_80 : decode cX7_ofBarrow 80 = .ok (.iaload, 1) := by decide +kernel
theorem dX7_ofBarrow_81 : decode cX7_ofBarrow 81 = .ok (.ireturn, 1) := by decide +kernel
theorem dX7_ofBarrow_82 : decode cX7_ofBarrow 82 = .ok (.aload_n 0, 1) := by decide +kernel
theorem dX7_ofBarrow_83 : decode cX7_ofBarrow 83 = .ok (.getfield 28, 3) := by decide +kernel
theorem dX7_ofBarrow_86 : decode cX7_ofBarrow 86 = .ok (.getfield 113, 3) := by decide +kernel
theorem dX7_ofBarrow_89 : decode cX7_ofBarrow 89 = .ok (.iload_n 1, 1) := by decide +kernel
theorem dX7_ofBarrow_90 : decode cX7_ofBarrow 90 = .ok (.iaload, 1) := by decide +kernel
theorem dX7_ofBarrow_91 : decode cX7_ofBarrow 91 = .ok (.ireturn, 1) := by decide +kernel
theorem dX7_ofBarrow_92 : decode cX7_ofBarrow 92 = .ok (.aload_n 0, 1) := by decide +kernel
theorem dX7_ofBarrow_93 : decode cX7_ofBarrow 93 = .ok (.getfield 28, 3) := by decide +kernel
theorem dX7_ofBarrow_96 : decode cX7_ofBarrow 96 = .ok (.iload_n 1, 1) := by decide +kernel
theorem dX7_ofBarrow_97 : decode cX7_ofBarrow 97 = .ok (.invokevirtual 116, 3) := by decide +kernel
theorem dX7_ofBarrow_100 : decode cX7_ofBarrow 100 = .ok (.ireturn, 1) := by decide +kernel
theorem dX7_ofBarrow_101 : decode cX7_ofBarrow 101 = .ok (.aload_n 0, 1) := by decide +kernel
theorem dX7_ofBarrow_102 : decode cX7_ofBarrow 102 = .ok (.getfield 28, 3) := by decide +kernel
theorem dX7_ofBarrow_105 : decode cX7_ofBarrow 105 = .ok (.iload_n 1, 1) := by decide +kernel
theorem dX7_ofBarrow_106 : decode cX7_ofBarrow 106 = .ok (.invokevirtual 120, 3) := by decide +kernel
theorem dX7_ofBarrow_109 : decode cX7_ofBarrow 109 = .ok (.ireturn, 1) := by decide +kernel
theorem dX7_ofBarrow_110 : decode cX7_ofBarrow 110 = .ok (.bipush (-2), 2) := by decide +kernel
theorem dX7_ofBarrow_112 : decode cX7_ofBarrow 112 = .ok (.ireturn, 1) := by decide +kernel
theorem dX7_ofWalker_0 : decode cX7_ofWalker 0 = .ok (.aload_n 0, 1) := by decide +kernel
theorem dX7_ofWalker_1 : decode cX7_ofWalker 1 = .ok (.getfield 28, 3) := by decide +kernel
theorem dX7_ofWalker_4 : decode cX7_ofWalker 4 = .ok (.iload_n 1, 1) := by decide +kernel
theorem dX7_ofWalker_5 : decode cX7_ofWalker 5 = .ok (.invokevirtual 123, 3) := by decide +kernel
theorem dX7_ofWalker_8 : decode cX7_ofWalker 8 = .ok (.ifCond .ne 5, 3) := by decide +kernel
theorem dX7_ofWalker_11 : decode cX7_ofWalker 11 = .ok (.iconst (-1), 1) := by decide +kernel
theorem dX7_ofWalker_12 : decode cX7_ofWalker 12 = .ok (.ireturn, 1) := by decide +kernel
theorem dX7_ofWalker_13 : decode cX7_ofWalker 13 = .ok (.iload_n 2, 1) := by decide +kernel
theorem dX7_ofWalker_14 : decode cX7_ofWalker 14 = .ok (.tableswitch 97 0 5 #[38, 48, 58, 68, 78, 88], 38) := by decide +kernel
theorem dX7_ofWalker_52 : decode cX7_ofWalker 52 = .ok (.aload_n 0, 1) := by decide +kernel
theorem dX7_ofWalker_53 : decode cX7_ofWalker 53 = .ok (.getfield 28, 3) := by decide +kernel
theorem dX7_ofWalker_56 : decode cX7_ofWalker 56 = .ok (.getfield 126, 3) := by decide +kernel
theorem dX7_ofWalker_59 : decode cX7_ofWalker 59 = .ok (.iload_n 1, 1) := by decide +kernel
theorem dX7_ofWalker_60 : decode cX7_ofWalker 60 = .ok (.iaload, 1) := by decide +kernel
theorem dX7_ofWalker_61 : decode cX7_ofWalker 61 = .ok (.ireturn, 1) := by decide +kernel
theorem dX7_ofWalker_62 : decode cX7_ofWalker 62 = .ok (.aload_n 0, 1) := by decide +kernel
theorem dX7_ofWalker_63 : decode cX7_ofWalker 63 = .ok (.getfield 28, 3) := by decide +kernel
theorem dX7_ofWalker_66 : decode cX7_ofWalker 66 = .ok (.getfield 129, 3) := by decide +kernel
theorem dX7_ofWalker_69 : decode cX7_ofWalker 69 = .ok (.iload_n 1, 1) := by decide +kernel
theorem dX7_ofWalker_70 : decode cX7_ofWalker 70 = .ok (.iaload, 1) := by decide +kernel
theorem dX7_ofWalker_71 : decode cX7_ofWalker 71 = .ok (.ireturn, 1) := by decide +kernel
theorem dX7_ofWalker_72 : decode cX7_ofWalker 72 = .ok (.aload_n 0, 1) := by decide +kernel
theorem dX7_ofWalker_73 : decode cX7_ofWalker 73 = .ok (.getfield 28, 3) := by decide +kernel
theorem dX7_ofWalker_76 : decode cX7_ofWalker 76 = .ok (.getfield 132, 3) := by decide +kernel
theorem dX7_ofWalker_79 : decode cX7_ofWalker 79 = .ok (.iload_n 1, 1) := by decide +kernel
theorem dX7_ofWalker_80 : decode cX7_ofWalker 80 = .ok (.iaload, 1) := by decide +kernel
theorem dX7_ofWalker_81 : decode cX7_ofWalker 81 = .ok (.ireturn, 1) := by decide +kernel
theorem dX7_ofWalker_82 : decode cX7_ofWalker 82 = .ok (.aload_n 0, 1) := by decide +kernel
theorem dX7_ofWalker_83 : decode cX7_ofWalker 83 = .ok (.getfield 28, 3) := by decide +kernel
theorem dX7_ofWalker_86 : decode cX7_ofWalker 86 = .ok (.getfield 135, 3) := by decide +kernel
theorem dX7_ofWalker_89 : decode cX7_ofWalker 89 = .ok (.iload_n 1, 1) := by decide +kernel
theorem dX7_ofWalker_90 : decode cX7_ofWalker 90 = .ok (.iaload, 1) := by decide +kernel
theorem dX7_ofWalker_91 : decode cX7_ofWalker 91 = .ok (.ireturn, 1) := by decide +kernel
theorem dX7_ofWalker_92 : decode cX7_ofWalker 92 = .ok (.aload_n 0, 1) := by decide +kernel
theorem dX7_ofWalker_93 : decode cX7_ofWalker 93 = .ok (.getfield 28, 3) := by decide +kernel
theorem dX7_ofWalker_96 : decode cX7_ofWalker 96 = .ok (.getfield 138, 3) := by decide +kernel
theorem dX7_ofWalker_99 : decode cX7_ofWalker 99 = .ok (.iload_n 1, 1) := by decide +kernel
theorem dX7_ofWalker_100 : decode cX7_ofWalker 100 = .ok (.iaload, 1) := by decide +kernel
theorem dX7_ofWalker_101 : decode cX7_ofWalker 101 = .ok (.ireturn, 1) := by decide +kernel
theorem dX7_ofWalker_102 : decode cX7_ofWalker 102 = .ok (.aload_n 0, 1) := by decide +kernel
theorem dX7_ofWalker_103 : decode cX7_ofWalker 103 = .ok (.getfield 28, 3) := by decide +kernel
theorem dX7_ofWalker_106 : decode cX7_ofWalker 106 = .ok (.iload_n 1, 1) := by decide +kernel
theorem dX7_ofWalker_107 : decode cX7_ofWalker 107 = .ok (.invokevirtual 141, 3) := by decide +kernel
theorem dX7_ofWalker_110 : decode cX7_ofWalker 110 = .ok (.ireturn, 1) := by decide +kernel
theorem dX7_ofWalker_111 : decode cX7_ofWalker 111 = .ok (.bipush (-2), 2) := by decide +kernel
theorem dX7_ofWalker_113 : decode cX7_ofWalker 113 = .ok (.ireturn, 1) := by decide +kernel
theorem dX7_charge_0 : decode cX7_charge 0 = .ok (.aload_n 0, 1) := by decide +kernel
theorem dX7_charge_1 : decode cX7_charge 1 = .ok (.getfield 28, 3) := by decide +kernel
theorem dX7_charge_4 : decode cX7_charge 4 = .ok (.iload_n 1, 1) := by decide +kernel
theorem dX7_charge_5 : decode cX7_charge 5 = .ok (.invokevirtual 100, 3) := by decide +kernel
theorem dX7_charge_8 : decode cX7_charge 8 = .ok (.ifCond .ne 5, 3) := by decide +kernel
theorem dX7_charge_11 : decode cX7_charge 11 = .ok (.iconst (-1), 1) := by decide +kernel
theorem dX7_charge_12 : decode cX7_charge 12 = .ok (.ireturn, 1) := by decide +kernel
theorem dX7_charge_13 : decode cX7_charge 13 = .ok (.iload_n 2, 1) := by decide +kernel
theorem dX7_charge_14 : decode cX7_charge 14 = .ok (.ifCond .lt 9, 3) := by decide +kernel
theorem dX7_charge_17 : decode cX7_charge 17 = .ok (.iload_n 2, 1) := by decide +kernel
theorem dX7_charge_18 : decode cX7_charge 18 = .ok (.bipush 9, 2) := by decide +kernel
theorem dX7_charge_20 : decode cX7_charge 20 = .ok (.if_icmp .le 6, 3) := by decide +kernel
theorem dX7_charge_23 : decode cX7_charge 23 = .ok (.bipush (-2), 2) := by decide +kernel
theorem dX7_charge_25 : decode cX7_charge 25 = .ok (.ireturn, 1) := by decide +kernel
theorem dX7_charge_26 : decode cX7_charge 26 = .ok (.aload_n 0, 1) := by decide +kernel
theorem dX7_charge_27 : decode cX7_charge 27 = .ok (.getfield 28, 3) := by decide +kernel
theorem dX7_charge_30 : decode cX7_charge 30 = .ok (.getfield 110, 3) := by decide +kernel
theorem dX7_charge_33 : decode cX7_charge 33 = .ok (.iload_n 1, 1) := by decide +kernel
theorem dX7_charge_34 : decode cX7_charge 34 = .ok (.iaload, 1) := by decide +kernel
theorem dX7_charge_35 : decode cX7_charge 35 = .ok (.istore_n 3, 1) := by decide +kernel
theorem dX7_charge_36 : decode cX7_charge 36 = .ok (.aload_n 0, 1) := by decide +kernel
theorem dX7_charge_37 : decode cX7_charge 37 = .ok (.getfield 28, 3) := by decide +kernel
theorem dX7_charge_40 : decode cX7_charge 40 = .ok (.getfield 110, 3) := by decide +kernel
theorem dX7_charge_43 : decode cX7_charge 43 = .ok (.iload_n 1, 1) := by decide +kernel
theorem dX7_charge_44 : decode cX7_charge 44 = .ok (.iload_n 2, 1) := by decide +kernel
theorem dX7_charge_45 : decode cX7_charge 45 = .ok (.iastore, 1) := by decide +kernel
theorem dX7_charge_46 : decode cX7_charge 46 = .ok (.iload_n 3, 1) := by decide +kernel
theorem dX7_charge_47 : decode cX7_charge 47 = .ok (.ireturn, 1) := by decide +kernel
theorem dX7_earn_0 : decode cX7_earn 0 = .ok (.aload_n 0, 1) := by decide +kernel
theorem dX7_earn_1 : decode cX7_earn 1 = .ok (.getfield 28, 3) := by decide +kernel
theorem dX7_earn_4 : decode cX7_earn 4 = .ok (.iload_n 1, 1) := by decide +kernel
theorem dX7_earn_5 : decode cX7_earn 5 = .ok (.invokevirtual 123, 3) := by decide +kernel
theorem dX7_earn_8 : decode cX7_earn 8 = .ok (.ifCond .ne 5, 3) := by decide +kernel
theorem dX7_earn_11 : decode cX7_earn 11 = .ok (.iconst (-1), 1) := by decide +kernel
theorem dX7_earn_12 : decode cX7_earn 12 = .ok (.ireturn, 1) := by decide +kernel
theorem dX7_earn_13 : decode cX7_earn 13 = .ok (.iload_n 2, 1) := by decide +kernel
theorem dX7_earn_14 : decode cX7_earn 14 = .ok (.ifCond .lt 9, 3) := by decide +kernel
theorem dX7_earn_17 : decode cX7_earn 17 = .ok (.iload_n 2, 1) := by decide +kernel
theorem dX7_earn_18 : decode cX7_earn 18 = .ok (.bipush 99, 2) := by decide +kernel
theorem dX7_earn_20 : decode cX7_earn 20 = .ok (.if_icmp .le 6, 3) := by decide +kernel
theorem dX7_earn_23 : decode cX7_earn 23 = .ok (.bipush (-2), 2) := by decide +kernel
theorem dX7_earn_25 : decode cX7_earn 25 = .ok (.ireturn, 1) := by decide +kernel
theorem dX7_earn_26 : decode cX7_earn 26 = .ok (.aload_n 0, 1) := by decide +kernel
theorem dX7_earn_27 : decode cX7_earn 27 = .ok (.getfield 28, 3) := by decide +kernel
theorem dX7_earn_30 : decode cX7_earn 30 = .ok (.getfield 126, 3) := by decide +kernel
theorem dX7_earn_33 : decode cX7_earn 33 = .ok (.iload_n 1, 1) := by decide +kernel
theorem dX7_earn_34 : decode cX7_earn 34 = .ok (.iaload, 1) := by decide +kernel
theorem dX7_earn_35 : decode cX7_earn 35 = .ok (.istore_n 3, 1) := by decide +kernel
theorem dX7_earn_36 : decode cX7_earn 36 = .ok (.aload_n 0, 1) := by decide +kernel
theorem dX7_earn_37 : decode cX7_earn 37 = .ok (.getfield 28, 3) := by decide +kernel
theorem dX7_earn_40 : decode cX7_earn 40 = .ok (.getfield 126, 3) := by decide +kernel
theorem dX7_earn_43 : decode cX7_earn 43 = .ok (.iload_n 1, 1) := by decide +kernel
theorem dX7_earn_44 : decode cX7_earn 44 = .ok (.iload_n 2, 1) := by decide +kernel
theorem dX7_earn_45 : decode cX7_earn 45 = .ok (.iastore, 1) := by decide +kernel
theorem dX7_earn_46 : decode cX7_earn 46 = .ok (.iload_n 3, 1) := by decide +kernel
theorem dX7_earn_47 : decode cX7_earn 47 = .ok (.ireturn, 1) := by decide +kernel
theorem dX7_lodge_0 : decode cX7_lodge 0 = .ok (.aload_n 0, 1) := by decide +kernel
theorem dX7_lodge_1 : decode cX7_lodge 1 = .ok (.getfield 28, 3) := by decide +kernel
theorem dX7_lodge_4 : decode cX7_lodge 4 = .ok (.iload_n 1, 1) := by decide +kernel
theorem dX7_lodge_5 : decode cX7_lodge 5 = .ok (.invokevirtual 123, 3) := by decide +kernel
theorem dX7_lodge_8 : decode cX7_lodge 8 = .ok (.ifCond .eq 14, 3) := by decide +kernel
theorem dX7_lodge_11 : decode cX7_lodge 11 = .ok (.aload_n 0, 1) := by decide +kernel
theorem dX7_lodge_12 : decode cX7_lodge 12 = .ok (.getfield 28, 3) := by decide +kernel
theorem dX7_lodge_15 : decode cX7_lodge 15 = .ok (.iload_n 2, 1) := by decide +kernel
theorem dX7_lodge_16 : decode cX7_lodge 16 = .ok (.invokevirtual 100, 3) := by decide +kernel
theorem dX7_lodge_19 : decode cX7_lodge 19 = .ok (.ifCond .ne 5, 3) := by decide +kernel
theorem dX7_lodge_22 : decode cX7_lodge 22 = .ok (.iconst (-1), 1) := by decide +kernel
theorem dX7_lodge_23 : decode cX7_lodge 23 = .ok (.ireturn, 1) := by decide +kernel
theorem dX7_lodge_24 : decode cX7_lodge 24 = .ok (.aload_n 0, 1) := by decide +kernel
theorem dX7_lodge_25 : decode cX7_lodge 25 = .ok (.getfield 28, 3) := by decide +kernel
theorem dX7_lodge_28 : decode cX7_lodge 28 = .ok (.iload_n 1, 1) := by decide +kernel
theorem dX7_lodge_29 : decode cX7_lodge 29 = .ok (.iload_n 2, 1) := by decide +kernel
theorem dX7_lodge_30 : decode cX7_lodge 30 = .ok (.invokevirtual 144, 3) := by decide +kernel
theorem dX7_lodge_33 : decode cX7_lodge 33 = .ok (.ifCond .ne 6, 3) := by decide +kernel
theorem dX7_lodge_36 : decode cX7_lodge 36 = .ok (.bipush (-3), 2) := by decide +kernel
theorem dX7_lodge_38 : decode cX7_lodge 38 = .ok (.ireturn, 1) := by decide +kernel
theorem dX7_lodge_39 : decode cX7_lodge 39 = .ok (.aload_n 0, 1) := by decide +kernel
theorem dX7_lodge_40 : decode cX7_lodge 40 = .ok (.getfield 28, 3) := by decide +kernel
theorem dX7_lodge_43 : decode cX7_lodge 43 = .ok (.iload_n 2, 1) := by decide +kernel
theorem dX7_lodge_44 : decode cX7_lodge 44 = .ok (.invokevirtual 120, 3) := by decide +kernel
theorem dX7_lodge_47 : decode cX7_lodge 47 = .ok (.invokestatic 148, 3) := by decide +kernel
theorem dX7_lodge_50 : decode cX7_lodge 50 = .ok (.ireturn, 1) := by decide +kernel
theorem dX7_leave_0 : decode cX7_leave 0 = .ok (.aload_n 0, 1) := by decide +kernel
theorem dX7_leave_1 : decode cX7_leave 1 = .ok (.getfield 28, 3) := by decide +kernel
theorem dX7_leave_4 : decode cX7_leave 4 = .ok (.iload_n 1, 1) := by decide +kernel
theorem dX7_leave_5 : decode cX7_leave 5 = .ok (.invokevirtual 123, 3) := by decide +kernel
theorem dX7_leave_8 : decode cX7_leave 8 = .ok (.ifCond .ne 5, 3) := by decide +kernel
theorem dX7_leave_11 : decode cX7_leave 11 = .ok (.iconst (-1), 1) := by decide +kernel
theorem dX7_leave_12 : decode cX7_leave 12 = .ok (.ireturn, 1) := by decide +kernel
theorem dX7_leave_13 : decode cX7_leave 13 = .ok (.aload_n 0, 1) := by decide +kernel
theorem dX7_leave_14 : decode cX7_leave 14 = .ok (.getfield 28, 3) := by decide +kernel
theorem dX7_leave_17 : decode cX7_leave 17 = .ok (.getfield 135, 3) := by decide +kernel
theorem dX7_leave_20 : decode cX7_leave 20 = .ok (.iload_n 1, 1) := by decide +kernel
theorem dX7_leave_21 : decode cX7_leave 21 = .ok (.iaload, 1) := by decide +kernel
theorem dX7_leave_22 : decode cX7_leave 22 = .ok (.istore_n 2, 1) := by decide +kernel
theorem dX7_leave_23 : decode cX7_leave 23 = .ok (.aload_n 0, 1) := by decide +kernel
theorem dX7_leave_24 : decode cX7_leave 24 = .ok (.getfield 28, 3) := by decide +kernel
theorem dX7_leave_27 : decode cX7_leave 27 = .ok (.iload_n 1, 1) := by decide +kernel
theorem dX7_leave_28 : decode cX7_leave 28 = .ok (.invokevirtual 153, 3) := by decide +kernel
theorem dX7_leave_31 : decode cX7_leave 31 = .ok (.ifCond .ne 6, 3) := by decide +kernel
theorem dX7_leave_34 : decode cX7_leave 34 = .ok (.bipush (-3), 2) := by decide +kernel
theorem dX7_leave_36 : decode cX7_leave 36 = .ok (.ireturn, 1) := by decide +kernel
theorem dX7_leave_37 : decode cX7_leave 37 = .ok (.iload_n 2, 1) := by decide +kernel
theorem dX7_leave_38 : decode cX7_leave 38 = .ok (.ireturn, 1) := by decide +kernel
theorem dX7_night_0 : decode cX7_night 0 = .ok (.iload_n 1, 1) := by decide +kernel
theorem dX7_night_1 : decode cX7_night 1 = .ok (.iconst 1, 1) := by decide +kernel
theorem dX7_night_2 : decode cX7_night 2 = .ok (.if_icmp .lt 9, 3) := by decide +kernel
theorem dX7_night_5 : decode cX7_night 5 = .ok (.iload_n 1, 1) := by decide +kernel
theorem dX7_night_6 : decode cX7_night 6 = .ok (.bipush 30, 2) := by decide +kernel
theorem dX7_night_8 : decode cX7_night 8 = .ok (.if_icmp .le 6, 3) := by decide +kernel
theorem dX7_night_11 : decode cX7_night 11 = .ok (.bipush (-2), 2) := by decide +kernel
theorem dX7_night_13 : decode cX7_night 13 = .ok (.ireturn, 1) := by decide +kernel
theorem dX7_night_14 : decode cX7_night 14 = .ok (.aload_n 0, 1) := by decide +kernel
theorem dX7_night_15 : decode cX7_night 15 = .ok (.getfield 28, 3) := by decide +kernel
theorem dX7_night_18 : decode cX7_night 18 = .ok (.invokevirtual 156, 3) := by decide +kernel
theorem dX7_night_21 : decode cX7_night 21 = .ok (.ifCond .ne 6, 3) := by decide +kernel
theorem dX7_night_24 : decode cX7_night 24 = .ok (.bipush (-3), 2) := by decide +kernel
theorem dX7_night_26 : decode cX7_night 26 = .ok (.ireturn, 1) := by decide +kernel
theorem dX7_night_27 : decode cX7_night 27 = .ok (.aload_n 0, 1) := by decide +kernel
theorem dX7_night_28 : decode cX7_night 28 = .ok (.getfield 28, 3) := by decide +kernel
theorem dX7_night_31 : decode cX7_night 31 = .ok (.iload_n 1, 1) := by decide +kernel
theorem dX7_night_32 : decode cX7_night 32 = .ok (.invokevirtual 160, 3) := by decide +kernel
theorem dX7_night_35 : decode cX7_night 35 = .ok (.ireturn, 1) := by decide +kernel
theorem dX7_season_0 : decode cX7_season 0 = .ok (.aload_n 0, 1) := by decide +kernel
theorem dX7_season_1 : decode cX7_season 1 = .ok (.iconst 0, 1) := by decide +kernel
theorem dX7_season_2 : decode cX7_season 2 = .ok (.putfield 64, 3) := by decide +kernel
theorem dX7_season_5 : decode cX7_season 5 = .ok (.iload_n 1, 1) := by decide +kernel
theorem dX7_season_6 : decode cX7_season 6 = .ok (.invokestatic 67, 3) := by decide +kernel
theorem dX7_season_9 : decode cX7_season 9 = .ok (.ifCond .ne 5, 3) := by decide +kernel
theorem dX7_season_12 : decode cX7_season 12 = .ok (.iconst (-1), 1) := by decide +kernel
theorem dX7_season_13 : decode cX7_season 13 = .ok (.ireturn, 1) := by decide +kernel
theorem dX7_season_14 : decode cX7_season 14 = .ok (.iload_n 2, 1) := by decide +kernel
theorem dX7_season_15 : decode cX7_season 15 = .ok (.invokestatic 71, 3) := by decide +kernel
theorem dX7_season_18 : decode cX7_season 18 = .ok (.ifCond .eq 23, 3) := by decide +kernel
theorem dX7_season_21 : decode cX7_season 21 = .ok (.iload 4, 2) := by decide +kernel
theorem dX7_season_23 : decode cX7_season 23 = .ok (.ifCond .lt 18, 3) := by decide +kernel
theorem dX7_season_26 : decode cX7_season 26 = .ok (.iload 4, 2) := by decide +kernel
theorem dX7_season_28 : decode cX7_season 28 = .ok (.bipush 20, 2) := by decide +kernel
theorem dX7_season_30 : decode cX7_season 30 = .ok (.if_icmp .gt 11, 3) := by decide +kernel
theorem dX7_season_33 : decode cX7_season 33 = .ok (.iload 5, 2) := by decide +kernel
theorem dX7_season_35 : decode cX7_season 35 = .ok (.invokestatic 163, 3) := by decide +kernel
theorem dX7_season_38 : decode cX7_season 38 = .ok (.ifCond .ne 6, 3) := by decide +kernel
theorem dX7_season_41 : decode cX7_season 41 = .ok (.bipush (-2), 2) := by decide +kernel
theorem dX7_season_43 : decode cX7_season 43 = .ok (.ireturn, 1) := by decide +kernel
theorem dX7_season_44 : decode cX7_season 44 = .ok (.aload_n 0, 1) := by decide +kernel
theorem dX7_season_45 : decode cX7_season 45 = .ok (.aload_n 0, 1) := by decide +kernel
theorem dX7_season_46 : decode cX7_season 46 = .ok (.getfield 12, 3) := by decide +kernel
theorem dX7_season_49 : decode cX7_season 49 = .ok (.iload_n 1, 1) := by decide +kernel
theorem dX7_season_50 : decode cX7_season 50 = .ok (.iload_n 2, 1) := by decide +kernel
theorem dX7_season_51 : decode cX7_season 51 = .ok (.invokevirtual 74, 3) := by decide +kernel
theorem dX7_season_54 : decode cX7_season 54 = .ok (.putfield 64, 3) := by decide +kernel
theorem dX7_season_57 : decode cX7_season 57 = .ok (.aload_n 0, 1) := by decide +kernel
theorem dX7_season_58 : decode cX7_season 58 = .ok (.getfield 64, 3) := by decide +kernel
theorem dX7_season_61 : decode cX7_season 61 = .ok (.ifCond .ne 20, 3) := by decide +kernel
theorem dX7_season_64 : decode cX7_season 64 = .ok (.aload_n 0, 1) := by decide +kernel
theorem dX7_season_65 : decode cX7_season 65 = .ok (.aload_n 0, 1) := by decide +kernel
theorem dX7_season_66 : decode cX7_season 66 = .ok (.getfield 12, 3) := by decide +kernel
theorem dX7_season_69 : decode cX7_season 69 = .ok (.iload_n 1, 1) := by decide +kernel
theorem dX7_season_70 : decode cX7_season 70 = .ok (.iload_n 3, 1) := by decide +kernel
theorem dX7_season_71 : decode cX7_season 71 = .ok (.iconst 2, 1) := by decide +kernel
theorem dX7_season_72 : decode cX7_season 72 = .ok (.iload 4, 2) := by decide +kernel
theorem dX7_season_74 : decode cX7_season 74 = .ok (.imul, 1) := by decide +kernel
theorem dX7_season_75 : decode cX7_season 75 = .ok (.invokevirtual 78, 3) := by decide +kernel
theorem dX7_season_78 : decode cX7_season 78 = .ok (.putfield 64, 3) := by decide +kernel
theorem dX7_season_81 : decode cX7_season 81 = .ok (.aload_n 0, 1) := by decide +kernel
theorem dX7_season_82 : decode cX7_season 82 = .ok (.getfield 64, 3) := by decide +kernel
theorem dX7_season_85 : decode cX7_season 85 = .ok (.ifCond .eq 11, 3) := by decide +kernel
theorem dX7_season_88 : decode cX7_season 88 = .ok (.bipush (-10), 2) := by decide +kernel
theorem dX7_season_90 : decode cX7_season 90 = .ok (.aload_n 0, 1) := by decide +kernel
theorem dX7_season_91 : decode cX7_season 91 = .ok (.getfield 64, 3) := by decide +kernel
theorem dX7_season_94 : decode cX7_season 94 = .ok (.isub, 1) := by decide +kernel
theorem dX7_season_95 : decode cX7_season 95 = .ok (.ireturn, 1) := by decide +kernel
theorem dX7_season_96 : decode cX7_season 96 = .ok (.aload_n 0, 1) := by decide +kernel
theorem dX7_season_97 : decode cX7_season 97 = .ok (.getfield 28, 3) := by decide +kernel
theorem dX7_season_100 : decode cX7_season 100 = .ok (.invokevirtual 156, 3) := by decide +kernel
theorem dX7_season_103 : decode cX7_season 103 = .ok (.ifCond .ne 6, 3) := by decide +kernel
theorem dX7_season_106 : decode cX7_season 106 = .ok (.bipush (-3), 2) := by decide +kernel
theorem dX7_season_108 : decode cX7_season 108 = .ok (.ireturn, 1) := by decide +kernel
theorem dX7_season_109 : decode cX7_season 109 = .ok (.aload_n 0, 1) := by decide +kernel
theorem dX7_season_110 : decode cX7_season 110 = .ok (.getfield 35, 3) := by decide +kernel
theorem dX7_season_113 : decode cX7_season 113 = .ok (.aload_n 0, 1) := by decide +kernel
theorem dX7_season_114 : decode cX7_season 114 = .ok (.getfield 28, 3) := by decide +kernel
theorem dX7_season_117 : decode cX7_season 117 = .ok (.aload_n 0, 1) := by decide +kernel
theorem dX7_season_118 : decode cX7_season 118 = .ok (.getfield 12, 3) := by decide +kernel
theorem dX7_season_121 : decode cX7_season 121 = .ok (.iload_n 1, 1) := by decide +kernel
theorem dX7_season_122 : decode cX7_season 122 = .ok (.iload_n 3, 1) := by decide +kernel
theorem dX7_season_123 : decode cX7_season 123 = .ok (.iload 4, 2) := by decide +kernel
theorem dX7_season_125 : decode cX7_season 125 = .ok (.invokevirtual 166, 3) := by decide +kernel
theorem dX7_season_128 : decode cX7_season 128 = .ok (.istore 6, 2) := by decide +kernel
theorem dX7_season_130 : decode cX7_season 130 = .ok (.iload 6, 2) := by decide +kernel
theorem dX7_season_132 : decode cX7_season 132 = .ok (.ifCond .eq 6, 3) := by decide +kernel
theorem dX7_season_135 : decode cX7_season 135 = .ok (.iload 6, 2) := by decide +kernel
theorem dX7_season_137 : decode cX7_season 137 = .ok (.ireturn, 1) := by decide +kernel
theorem dX7_season_138 : decode cX7_season 138 = .ok (.aload_n 0, 1) := by decide +kernel
theorem dX7_season_139 : decode cX7_season 139 = .ok (.getfield 35, 3) := by decide +kernel
theorem dX7_season_142 : decode cX7_season 142 = .ok (.invokevirtual 169, 3) := by decide +kernel
theorem dX7_season_145 : decode cX7_season 145 = .ok (.aload_n 0, 1) := by decide +kernel
theorem dX7_season_146 : decode cX7_season 146 = .ok (.getfield 35, 3) := by decide +kernel
theorem dX7_season_149 : decode cX7_season 149 = .ok (.iload 5, 2) := by decide +kernel
theorem dX7_season_151 : decode cX7_season 151 = .ok (.invokevirtual 172, 3) := by decide +kernel
theorem dX7_season_154 : decode cX7_season 154 = .ok (.ireturn, 1) := by decide +kernel
theorem dX7_housed_0 : decode cX7_housed 0 = .ok (.iload_n 1, 1) := by decide +kernel
theorem dX7_housed_1 : decode cX7_housed 1 = .ok (.bipush (-2), 2) := by decide +kernel
theorem dX7_housed_3 : decode cX7_housed 3 = .ok (.if_icmp .lt 8, 3) := by decide +kernel
theorem dX7_housed_6 : decode cX7_housed 6 = .ok (.iload_n 1, 1) := by decide +kernel
theorem dX7_housed_7 : decode cX7_housed 7 = .ok (.iconst 5, 1) := by decide +kernel
theorem dX7_housed_8 : decode cX7_housed 8 = .ok (.if_icmp .lt 6, 3) := by decide +kernel
theorem dX7_housed_11 : decode cX7_housed 11 = .ok (.bipush (-2), 2) := by decide +kernel
theorem dX7_housed_13 : decode cX7_housed 13 = .ok (.ireturn, 1) := by decide +kernel
theorem dX7_housed_14 : decode cX7_housed 14 = .ok (.aload_n 0, 1) := by decide +kernel
theorem dX7_housed_15 : decode cX7_housed 15 = .ok (.getfield 28, 3) := by decide +kernel
theorem dX7_housed_18 : decode cX7_housed 18 = .ok (.invokevirtual 156, 3) := by decide +kernel
theorem dX7_housed_21 : decode cX7_housed 21 = .ok (.ifCond .ne 6, 3) := by decide +kernel
theorem dX7_housed_24 : decode cX7_housed 24 = .ok (.bipush (-3), 2) := by decide +kernel
theorem dX7_housed_26 : decode cX7_housed 26 = .ok (.ireturn, 1) := by decide +kernel
theorem dX7_housed_27 : decode cX7_housed 27 = .ok (.aload_n 0, 1) := by decide +kernel
theorem dX7_housed_28 : decode cX7_housed 28 = .ok (.getfield 42, 3) := by decide +kernel
theorem dX7_housed_31 : decode cX7_housed 31 = .ok (.aload_n 0, 1) := by decide +kernel
theorem dX7_housed_32 : decode cX7_housed 32 = .ok (.getfield 28, 3) := by decide +kernel
theorem dX7_housed_35 : decode cX7_housed 35 = .ok (.bipush (-9), 2) := by decide +kernel
theorem dX7_housed_37 : decode cX7_housed 37 = .ok (.invokevirtual 175, 3) := by decide +kernel
theorem dX7_housed_40 : decode cX7_housed 40 = .ok (.iload_n 1, 1) := by decide +kernel
theorem dX7_housed_41 : decode cX7_housed 41 = .ok (.bipush (-2), 2) := by decide +kernel
theorem dX7_housed_43 : decode cX7_housed 43 = .ok (.if_icmp .ne 11, 3) := by decide +kernel
theorem dX7_housed_46 : decode cX7_housed 46 = .ok (.aload_n 0, 1) := by decide +kernel
theorem dX7_housed_47 : decode cX7_housed 47 = .ok (.getfield 42, 3) := by decide +kernel
theorem dX7_housed_50 : decode cX7_housed 50 = .ok (.getfield 179, 3) := by decide +kernel
theorem dX7_housed_53 : decode cX7_housed 53 = .ok (.ireturn, 1) := by decide +kernel
theorem dX7_housed_54 : decode cX7_housed 54 = .ok (.iload_n 1, 1) := by decide +kernel
theorem dX7_housed_55 : decode cX7_housed 55 = .ok (.iconst (-1), 1) := by decide +kernel
theorem dX7_housed_56 : decode cX7_housed 56 = .ok (.if_icmp .ne 11, 3) := by decide +kernel
theorem dX7_housed_59 : decode cX7_housed 59 = .ok (.aload_n 0, 1) := by decide +kernel
theorem dX7_housed_60 : decode cX7_housed 60 = .ok (.getfield 42, 3) := by decide +kernel
theorem dX7_housed_63 : decode cX7_housed 63 = .ok (.getfield 182, 3) := by decide +kernel
theorem dX7_housed_66 : decode cX7_housed 66 = .ok (.ireturn, 1) := by decide +kernel
theorem dX7_housed_67 : decode cX7_housed 67 = .ok (.aload_n 0, 1) := by decide +kernel
theorem dX7_housed_68 : decode cX7_housed 68 = .ok (.getfield 28, 3) := by decide +kernel
theorem dX7_housed_71 : decode cX7_housed 71 = .ok (.iload_n 1, 1) := by decide +kernel
theorem dX7_housed_72 : decode cX7_housed 72 = .ok (.invokevirtual 123, 3) := by decide +kernel
theorem dX7_housed_75 : decode cX7_housed 75 = .ok (.ifCond .eq 34, 3) := by decide +kernel
theorem dX7_housed_78 : decode cX7_housed 78 = .ok (.aload_n 0, 1) := by decide +kernel
theorem dX7_housed_79 : decode cX7_housed 79 = .ok (.getfield 28, 3) := by decide +kernel
theorem dX7_housed_82 : decode cX7_housed 82 = .ok (.aload_n 0, 1) := by decide +kernel
theorem dX7_housed_83 : decode cX7_housed 83 = .ok (.getfield 42, 3) := by decide +kernel
theorem dX7_housed_86 : decode cX7_housed 86 = .ok (.getfield 185, 3) := by decide +kernel
theorem dX7_housed_89 : decode cX7_housed 89 = .ok (.iload_n 1, 1) := by decide +kernel
theorem dX7_housed_90 : decode cX7_housed 90 = .ok (.iaload, 1) := by decide +kernel
theorem dX7_housed_91 : decode cX7_housed 91 = .ok (.invokevirtual 100, 3) := by decide +kernel
theorem dX7_housed_94 : decode cX7_housed 94 = .ok (.ifCond .eq 15, 3) := by decide +kernel
theorem dX7_housed_97 : decode cX7_housed 97 = .ok (.aload_n 0, 1) := by decide +kernel
theorem dX7_housed_98 : decode cX7_housed 98 = .ok (.getfield 42, 3) := by decide +kernel
theorem dX7_housed_101 : decode cX7_housed 101 = .ok (.getfield 185, 3) := by decide +kernel
theorem dX7_housed_104 : decode cX7_housed 104 = .ok (.iload_n 1, 1) := by decide +kernel
theorem dX7_housed_105 : decode cX7_housed 105 = .ok (.iaload, 1) := by decide +kernel
theorem dX7_housed_106 : decode cX7_housed 106 = .ok (.goto 5, 3) := by decide +kernel
theorem dX7_housed_109 : decode cX7_housed 109 = .ok (.bipush (-9), 2) := by decide +kernel
theorem dX7_housed_111 : decode cX7_housed 111 = .ok (.ireturn, 1) := by decide +kernel
theorem dX7_ploughed_0 : decode cX7_ploughed 0 = .ok (.aload_n 0, 1) := by decide +kernel
theorem dX7_ploughed_1 : decode cX7_ploughed 1 = .ok (.getfield 28, 3) := by decide +kernel
theorem dX7_ploughed_4 : decode cX7_ploughed 4 = .ok (.iload_n 1, 1) := by decide +kernel
theorem dX7_ploughed_5 : decode cX7_ploughed 5 = .ok (.invokevirtual 100, 3) := by decide +kernel
theorem dX7_ploughed_8 : decode cX7_ploughed 8 = .ok (.ifCond .ne 5, 3) := by decide +kernel
theorem dX7_ploughed_11 : decode cX7_ploughed 11 = .ok (.iconst (-1), 1) := by decide +kernel
theorem dX7_ploughed_12 : decode cX7_ploughed 12 = .ok (.ireturn, 1) := by decide +kernel
theorem dX7_ploughed_13 : decode cX7_ploughed 13 = .ok (.aload_n 0, 1) := by decide +kernel
theorem dX7_ploughed_14 : decode cX7_ploughed 14 = .ok (.getfield 42, 3) := by decide +kernel
theorem dX7_ploughed_17 : decode cX7_ploughed 17 = .ok (.aload_n 0, 1) := by decide +kernel
theorem dX7_ploughed_18 : decode cX7_ploughed 18 = .ok (.getfield 28, 3) := by decide +kernel
theorem dX7_ploughed_21 : decode cX7_ploughed 21 = .ok (.iload_n 1, 1) := by decide +kernel
theorem dX7_ploughed_22 : decode cX7_ploughed 22 = .ok (.invokevirtual 175, 3) := by decide +kernel
theorem dX7_ploughed_25 : decode cX7_ploughed 25 = .ok (.aload_n 0, 1) := by decide +kernel
theorem dX7_ploughed_26 : decode cX7_ploughed 26 = .ok (.getfield 42, 3) := by decide +kernel
theorem dX7_ploughed_29 : decode cX7_ploughed 29 = .ok (.getfield 179, 3) := by decide +kernel
theorem dX7_ploughed_32 : decode cX7_ploughed 32 = .ok (.ireturn, 1) := by decide +kernel
theorem dX7_way_0 : decode cX7_way 0 = .ok (.aload_n 0, 1) := by decide +kernel
theorem dX7_way_1 : decode cX7_way 1 = .ok (.getfield 28, 3) := by decide +kernel
theorem dX7_way_4 : decode cX7_way 4 = .ok (.iload_n 1, 1) := by decide +kernel
theorem dX7_way_5 : decode cX7_way 5 = .ok (.invokevirtual 123, 3) := by decide +kernel
theorem dX7_way_8 : decode cX7_way 8 = .ok (.ifCond .ne 5, 3) := by decide +kernel
theorem dX7_way_11 : decode cX7_way 11 = .ok (.iconst (-1), 1) := by decide +kernel
theorem dX7_way_12 : decode cX7_way 12 = .ok (.ireturn, 1) := by decide +kernel
theorem dX7_way_13 : decode cX7_way 13 = .ok (.iload_n 2, 1) := by decide +kernel
theorem dX7_way_14 : decode cX7_way 14 = .ok (.ifCond .lt 9, 3) := by decide +kernel
theorem dX7_way_17 : decode cX7_way 17 = .ok (.iload_n 2, 1) := by decide +kernel
theorem dX7_way_18 : decode cX7_way 18 = .ok (.bipush 9, 2) := by decide +kernel
theorem dX7_way_20 : decode cX7_way 20 = .ok (.if_icmp .le 6, 3) := by decide +kernel
theorem dX7_way_23 : decode cX7_way 23 = .ok (.bipush (-2), 2) := by decide +kernel
theorem dX7_way_25 : decode cX7_way 25 = .ok (.ireturn, 1) := by decide +kernel
theorem dX7_way_26 : decode cX7_way 26 = .ok (.aload_n 0, 1) := by decide +kernel
theorem dX7_way_27 : decode cX7_way 27 = .ok (.getfield 28, 3) := by decide +kernel
theorem dX7_way_30 : decode cX7_way 30 = .ok (.iload_n 1, 1) := by decide +kernel
theorem dX7_way_31 : decode cX7_way 31 = .ok (.iload_n 2, 1) := by decide +kernel
theorem dX7_way_32 : decode cX7_way 32 = .ok (.invokevirtual 188, 3) := by decide +kernel
theorem dX7_way_35 : decode cX7_way 35 = .ok (.ireturn, 1) := by decide +kernel
theorem dX7_lain_0 : decode cX7_lain 0 = .ok (.aload_n 0, 1) := by decide +kernel
theorem dX7_lain_1 : decode cX7_lain 1 = .ok (.iconst 0, 1) := by decide +kernel
theorem dX7_lain_2 : decode cX7_lain 2 = .ok (.putfield 64, 3) := by decide +kernel
theorem dX7_lain_5 : decode cX7_lain 5 = .ok (.iload_n 1, 1) := by decide +kernel
theorem dX7_lain_6 : decode cX7_lain 6 = .ok (.invokestatic 67, 3) := by decide +kernel
theorem dX7_lain_9 : decode cX7_lain 9 = .ok (.ifCond .ne 5, 3) := by decide +kernel
theorem dX7_lain_12 : decode cX7_lain 12 = .ok (.iconst (-1), 1) := by decide +kernel
theorem dX7_lain_13 : decode cX7_lain 13 = .ok (.ireturn, 1) := by decide +kernel
theorem dX7_lain_14 : decode cX7_lain 14 = .ok (.iload_n 2, 1) := by decide +kernel
theorem dX7_lain_15 : decode cX7_lain 15 = .ok (.invokestatic 71, 3) := by decide +kernel
theorem dX7_lain_18 : decode cX7_lain 18 = .ok (.ifCond .eq 15, 3) := by decide +kernel
theorem dX7_lain_21 : decode cX7_lain 21 = .ok (.iload 4, 2) := by decide +kernel
theorem dX7_lain_23 : decode cX7_lain 23 = .ok (.iconst (-1), 1) := by decide +kernel
theorem dX7_lain_24 : decode cX7_lain 24 = .ok (.if_icmp .lt 9, 3) := by decide +kernel
theorem dX7_lain_27 : decode cX7_lain 27 = .ok (.iload 4, 2) := by decide +kernel
theorem dX7_lain_29 : decode cX7_lain 29 = .ok (.iconst 5, 1) := by decide +kernel
theorem dX7_lain_30 : decode cX7_lain 30 = .ok (.if_icmp .lt 6, 3) := by decide +kernel
theorem dX7_lain_33 : decode cX7_lain 33 = .ok (.bipush (-2), 2) := by decide +kernel
theorem dX7_lain_35 : decode cX7_lain 35 = .ok (.ireturn, 1) := by decide +kernel
theorem dX7_lain_36 : decode cX7_lain 36 = .ok (.aload_n 0, 1) := by decide +kernel
theorem dX7_lain_37 : decode cX7_lain 37 = .ok (.getfield 28, 3) := by decide +kernel
theorem dX7_lain_40 : decode cX7_lain 40 = .ok (.invokevirtual 156, 3) := by decide +kernel
theorem dX7_lain_43 : decode cX7_lain 43 = .ok (.ifCond .ne 6, 3) := by decide +kernel
theorem dX7_lain_46 : decode cX7_lain 46 = .ok (.bipush (-3), 2) := by decide +kernel
theorem dX7_lain_48 : decode cX7_lain 48 = .ok (.ireturn, 1) := by decide +kernel
theorem dX7_lain_49 : decode cX7_lain 49 = .ok (.aload_n 0, 1) := by decide +kernel
theorem dX7_lain_50 : decode cX7_lain 50 = .ok (.aload_n 0, 1) := by decide +kernel
theorem dX7_lain_51 : decode cX7_lain 51 = .ok (.getfield 12, 3) := by decide +kernel
theorem dX7_lain_54 : decode cX7_lain 54 = .ok (.iload_n 1, 1) := by decide +kernel
theorem dX7_lain_55 : decode cX7_lain 55 = .ok (.iload_n 2, 1) := by decide +kernel
theorem dX7_lain_56 : decode cX7_lain 56 = .ok (.invokevirtual 74, 3) := by decide +kernel
theorem dX7_lain_59 : decode cX7_lain 59 = .ok (.putfield 64, 3) := by decide +kernel
theorem dX7_lain_62 : decode cX7_lain 62 = .ok (.aload_n 0, 1) := by decide +kernel
theorem dX7_lain_63 : decode cX7_lain 63 = .ok (.getfield 64, 3) := by decide +kernel
theorem dX7_lain_66 : decode cX7_lain 66 = .ok (.ifCond .ne 23, 3) := by decide +kernel
theorem dX7_lain_69 : decode cX7_lain 69 = .ok (.aload_n 0, 1) := by decide +kernel
theorem dX7_lain_70 : decode cX7_lain 70 = .ok (.aload_n 0, 1) := by decide +kernel
theorem dX7_lain_71 : decode cX7_lain 71 = .ok (.getfield 12, 3) := by decide +kernel
theorem dX7_lain_74 : decode cX7_lain 74 = .ok (.iload_n 1, 1) := by decide +kernel
theorem dX7_lain_75 : decode cX7_lain 75 = .ok (.iload_n 3, 1) := by decide +kernel
theorem dX7_lain_76 : decode cX7_lain 76 = .ok (.aload_n 0, 1) := by decide +kernel
theorem dX7_lain_77 : decode cX7_lain 77 = .ok (.getfield 28, 3) := by decide +kernel
theorem dX7_lain_80 : decode cX7_lain 80 = .ok (.getfield 191, 3) := by decide +kernel
theorem dX7_lain_83 : decode cX7_lain 83 = .ok (.invokevirtual 78, 3) := by decide +kernel
theorem dX7_lain_86 : decode cX7_lain 86 = .ok (.putfield 64, 3) := by decide +kernel
theorem dX7_lain_89 : decode cX7_lain 89 = .ok (.aload_n 0, 1) := by decide +kernel
theorem dX7_lain_90 : decode cX7_lain 90 = .ok (.getfield 64, 3) := by decide +kernel
theorem dX7_lain_93 : decode cX7_lain 93 = .ok (.ifCond .eq 11, 3) := by decide +kernel
theorem dX7_lain_96 : decode cX7_lain 96 = .ok (.bipush (-10), 2) := by decide +kernel
theorem dX7_lain_98 : decode cX7_lain 98 = .ok (.aload_n 0, 1) := by decide +kernel
theorem dX7_lain_99 : decode cX7_lain 99 = .ok (.getfield 64, 3) := by decide +kernel
theorem dX7_lain_102 : decode cX7_lain 102 = .ok (.isub, 1) := by decide +kernel
theorem dX7_lain_103 : decode cX7_lain 103 = .ok (.ireturn, 1) := by decide +kernel
theorem dX7_lain_104 : decode cX7_lain 104 = .ok (.aload_n 0, 1) := by decide +kernel
theorem dX7_lain_105 : decode cX7_lain 105 = .ok (.getfield 49, 3) := by decide +kernel
theorem dX7_lain_108 : decode cX7_lain 108 = .ok (.aload_n 0, 1) := by decide +kernel
theorem dX7_lain_109 : decode cX7_lain 109 = .ok (.getfield 12, 3) := by decide +kernel
theorem dX7_lain_112 : decode cX7_lain 112 = .ok (.iload_n 1, 1) := by decide +kernel
theorem dX7_lain_113 : decode cX7_lain 113 = .ok (.iload_n 3, 1) := by decide +kernel
theorem dX7_lain_114 : decode cX7_lain 114 = .ok (.aload_n 0, 1) := by decide +kernel
theorem dX7_lain_115 : decode cX7_lain 115 = .ok (.getfield 28, 3) := by decide +kernel
theorem dX7_lain_118 : decode cX7_lain 118 = .ok (.getfield 191, 3) := by decide +kernel
theorem dX7_lain_121 : decode cX7_lain 121 = .ok (.invokevirtual 194, 3) := by decide +kernel
theorem dX7_lain_124 : decode cX7_lain 124 = .ok (.aload_n 0, 1) := by decide +kernel
theorem dX7_lain_125 : decode cX7_lain 125 = .ok (.getfield 49, 3) := by decide +kernel
theorem dX7_lain_128 : decode cX7_lain 128 = .ok (.aload_n 0, 1) := by decide +kernel
theorem dX7_lain_129 : decode cX7_lain 129 = .ok (.getfield 28, 3) := by decide +kernel
theorem dX7_lain_132 : decode cX7_lain 132 = .ok (.iload 4, 2) := by decide +kernel
theorem dX7_lain_134 : decode cX7_lain 134 = .ok (.ifCond .lt 7, 3) := by decide +kernel
theorem dX7_lain_137 : decode cX7_lain 137 = .ok (.iconst 1, 1) := by decide +kernel
theorem dX7_lain_138 : decode cX7_lain 138 = .ok (.goto 4, 3) := by decide +kernel
theorem dX7_lain_141 : decode cX7_lain 141 = .ok (.iconst 0, 1) := by decide +kernel
theorem dX7_lain_142 : decode cX7_lain 142 = .ok (.invokevirtual 195, 3) := by decide +kernel
theorem dX7_lain_145 : decode cX7_lain 145 = .ok (.iload 4, 2) := by decide +kernel
theorem dX7_lain_147 : decode cX7_lain 147 = .ok (.iconst (-1), 1) := by decide +kernel
theorem dX7_lain_148 : decode cX7_lain 148 = .ok (.if_icmp .ne 11, 3) := by decide +kernel
theorem dX7_lain_151 : decode cX7_lain 151 = .ok (.aload_n 0, 1) := by decide +kernel
theorem dX7_lain_152 : decode cX7_lain 152 = .ok (.getfield 49, 3) := by decide +kernel
theorem dX7_lain_155 : decode cX7_lain 155 = .ok (.getfield 198, 3) := by decide +kernel
theorem dX7_lain_158 : decode cX7_lain 158 = .ok (.ireturn, 1) := by decide +kernel
theorem dX7_lain_159 : decode cX7_lain 159 = .ok (.aload_n 0, 1) := by decide +kernel
theorem dX7_lain_160 : decode cX7_lain 160 = .ok (.getfield 49, 3) := by decide +kernel
theorem dX7_lain_163 : decode cX7_lain 163 = .ok (.getfield 198, 3) := by decide +kernel
theorem dX7_lain_166 : decode cX7_lain 166 = .ok (.ifCond .eq 15, 3) := by decide +kernel
theorem dX7_lain_169 : decode cX7_lain 169 = .ok (.aload_n 0, 1) := by decide +kernel
theorem dX7_lain_170 : decode cX7_lain 170 = .ok (.getfield 28, 3) := by decide +kernel
theorem dX7_lain_173 : decode cX7_lain 173 = .ok (.iload 4, 2) := by decide +kernel
theorem dX7_lain_175 : decode cX7_lain 175 = .ok (.invokevirtual 123, 3) := by decide +kernel
theorem dX7_lain_178 : decode cX7_lain 178 = .ok (.ifCond .ne 6, 3) := by decide +kernel
theorem dX7_lain_181 : decode cX7_lain 181 = .ok (.bipush (-9), 2) := by decide +kernel
theorem dX7_lain_183 : decode cX7_lain 183 = .ok (.ireturn, 1) := by decide +kernel
theorem dX7_lain_184 : decode cX7_lain 184 = .ok (.aload_n 0, 1) := by decide +kernel
theorem dX7_lain_185 : decode cX7_lain 185 = .ok (.getfield 28, 3) := by decide +kernel
theorem dX7_lain_188 : decode cX7_lain 188 = .ok (.aload_n 0, 1) := by decide +kernel
theorem dX7_lain_189 : decode cX7_lain 189 = .ok (.getfield 49, 3) := by decide +kernel
theorem dX7_lain_192 : decode cX7_lain 192 = .ok (.getfield 201, 3) := by decide +kernel
theorem dX7_lain_195 : decode cX7_lain 195 = .ok (.iload 4, 2) := by decide +kernel
theorem dX7_lain_197 : decode cX7_lain 197 = .ok (.iaload, 1) := by decide +kernel
theorem dX7_lain_198 : decode cX7_lain 198 = .ok (.invokevirtual 100, 3) := by decide +kernel
theorem dX7_lain_201 : decode cX7_lain 201 = .ok (.ifCond .eq 16, 3) := by decide +kernel
theorem dX7_lain_204 : decode cX7_lain 204 = .ok (.aload_n 0, 1) := by decide +kernel
theorem dX7_lain_205 : decode cX7_lain 205 = .ok (.getfield 49, 3) := by decide +kernel
theorem dX7_lain_208 : decode cX7_lain 208 = .ok (.getfield 201, 3) := by decide +kernel
theorem dX7_lain_211 : decode cX7_lain 211 = .ok (.iload 4, 2) := by decide +kernel
theorem dX7_lain_213 : decode cX7_lain 213 = .ok (.iaload, 1) := by decide +kernel
theorem dX7_lain_214 : decode cX7_lain 214 = .ok (.goto 5, 3) := by decide +kernel
theorem dX7_lain_217 : decode cX7_lain 217 = .ok (.bipush (-9), 2) := by decide +kernel
theorem dX7_lain_219 : decode cX7_lain 219 = .ok (.ireturn, 1) := by decide +kernel
theorem dX7_reading_0 : decode cX7_reading 0 = .ok (.aload_n 0, 1) := by decide +kernel
theorem dX7_reading_1 : decode cX7_reading 1 = .ok (.getfield 28, 3) := by decide +kernel
theorem dX7_reading_4 : decode cX7_reading 4 = .ok (.iload_n 1, 1) := by decide +kernel
theorem dX7_reading_5 : decode cX7_reading 5 = .ok (.invokevirtual 100, 3) := by decide +kernel
theorem dX7_reading_8 : decode cX7_reading 8 = .ok (.ifCond .ne 5, 3) := by decide +kernel
theorem dX7_reading_11 : decode cX7_reading 11 = .ok (.iconst (-1), 1) := by decide +kernel
theorem dX7_reading_12 : decode cX7_reading 12 = .ok (.ireturn, 1) := by decide +kernel
theorem dX7_reading_13 : decode cX7_reading 13 = .ok (.iload_n 2, 1) := by decide +kernel
theorem dX7_reading_14 : decode cX7_reading 14 = .ok (.ifCond .lt 18, 3) := by decide +kernel
theorem dX7_reading_17 : decode cX7_reading 17 = .ok (.iload_n 2, 1) := by decide +kernel
theorem dX7_reading_18 : decode cX7_reading 18 = .ok (.bipush 9, 2) := by decide +kernel
theorem dX7_reading_20 : decode cX7_reading 20 = .ok (.if_icmp .gt 12, 3) := by decide +kernel
theorem dX7_reading_23 : decode cX7_reading 23 = .ok (.iload_n 3, 1) := by decide +kernel
theorem dX7_reading_24 : decode cX7_reading 24 = .ok (.ifCond .lt 8, 3) := by decide +kernel
theorem dX7_reading_27 : decode cX7_reading 27 = .ok (.iload_n 3, 1) := by decide +kernel
theorem dX7_reading_28 : decode cX7_reading 28 = .ok (.iconst 1, 1) := by decide +kernel
theorem dX7_reading_29 : decode cX7_reading 29 = .ok (.if_icmp .le 6, 3) := by decide +kernel
theorem dX7_reading_32 : decode cX7_reading 32 = .ok (.bipush (-2), 2) := by decide +kernel
theorem dX7_reading_34 : decode cX7_reading 34 = .ok (.ireturn, 1) := by decide +kernel
theorem dX7_reading_35 : decode cX7_reading 35 = .ok (.aload_n 0, 1) := by decide +kernel
theorem dX7_reading_36 : decode cX7_reading 36 = .ok (.getfield 56, 3) := by decide +kernel
theorem dX7_reading_39 : decode cX7_reading 39 = .ok (.invokevirtual 204, 3) := by decide +kernel
theorem dX7_reading_42 : decode cX7_reading 42 = .ok (.ifCond .ne 6, 3) := by decide +kernel
theorem dX7_reading_45 : decode cX7_reading 45 = .ok (.bipush (-4), 2) := by decide +kernel
theorem dX7_reading_47 : decode cX7_reading 47 = .ok (.ireturn, 1) := by decide +kernel
theorem dX7_reading_48 : decode cX7_reading 48 = .ok (.aload_n 0, 1) := by decide +kernel
theorem dX7_reading_49 : decode cX7_reading 49 = .ok (.getfield 56, 3) := by decide +kernel
theorem dX7_reading_52 : decode cX7_reading 52 = .ok (.iload_n 1, 1) := by decide +kernel
theorem dX7_reading_53 : decode cX7_reading 53 = .ok (.iload_n 2, 1) := by decide +kernel
theorem dX7_reading_54 : decode cX7_reading 54 = .ok (.iload_n 3, 1) := by decide +kernel
theorem dX7_reading_55 : decode cX7_reading 55 = .ok (.invokevirtual 207, 3) := by decide +kernel
theorem dX7_reading_58 : decode cX7_reading 58 = .ok (.ireturn, 1) := by decide +kernel
theorem dX7_back_0 : decode cX7_back 0 = .ok (.iload_n 1, 1) := by decide +kernel
theorem dX7_back_1 : decode cX7_back 1 = .ok (.ifCond .lt 14, 3) := by decide +kernel
theorem dX7_back_4 : decode cX7_back 4 = .ok (.iload_n 1, 1) := by decide +kernel
theorem dX7_back_5 : decode cX7_back 5 = .ok (.aload_n 0, 1) := by decide +kernel
theorem dX7_back_6 : decode cX7_back 6 = .ok (.getfield 56, 3) := by decide +kernel
theorem dX7_back_9 : decode cX7_back 9 = .ok (.getfield 94, 3) := by decide +kernel
theorem dX7_back_12 : decode cX7_back 12 = .ok (.if_icmp .le 6, 3) := by decide +kernel
theorem dX7_back_15 : decode cX7_back 15 = .ok (.bipush (-2), 2) := by decide +kernel
theorem dX7_back_17 : decode cX7_back 17 = .ok (.ireturn, 1) := by decide +kernel
theorem dX7_back_18 : decode cX7_back 18 = .ok (.aload_n 0, 1) := by decide +kernel
theorem dX7_back_19 : decode cX7_back 19 = .ok (.getfield 56, 3) := by decide +kernel
theorem dX7_back_22 : decode cX7_back 22 = .ok (.dup, 1) := by decide +kernel
theorem dX7_back_23 : decode cX7_back 23 = .ok (.getfield 94, 3) := by decide +kernel
theorem dX7_back_26 : decode cX7_back 26 = .ok (.iload_n 1, 1) := by decide +kernel
theorem dX7_back_27 : decode cX7_back 27 = .ok (.isub, 1) := by decide +kernel
theorem dX7_back_28 : decode cX7_back 28 = .ok (.putfield 94, 3) := by decide +kernel
theorem dX7_back_31 : decode cX7_back 31 = .ok (.aload_n 0, 1) := by decide +kernel
theorem dX7_back_32 : decode cX7_back 32 = .ok (.getfield 56, 3) := by decide +kernel
theorem dX7_back_35 : decode cX7_back 35 = .ok (.getfield 94, 3) := by decide +kernel
theorem dX7_back_38 : decode cX7_back 38 = .ok (.ireturn, 1) := by decide +kernel
theorem dX7_rooms_0 : decode cX7_rooms 0 = .ok (.aload_n 0, 1) := by decide +kernel
theorem dX7_rooms_1 : decode cX7_rooms 1 = .ok (.getfield 28, 3) := by decide +kernel
theorem dX7_rooms_4 : decode cX7_rooms 4 = .ok (.iload_n 1, 1) := by decide +kernel
theorem dX7_rooms_5 : decode cX7_rooms 5 = .ok (.invokevirtual 100, 3) := by decide +kernel
theorem dX7_rooms_8 : decode cX7_rooms 8 = .ok (.ifCond .ne 5, 3) := by decide +kernel
theorem dX7_rooms_11 : decode cX7_rooms 11 = .ok (.iconst (-1), 1) := by decide +kernel
theorem dX7_rooms_12 : decode cX7_rooms 12 = .ok (.ireturn, 1) := by decide +kernel
theorem dX7_rooms_13 : decode cX7_rooms 13 = .ok (.iconst 0, 1) := by decide +kernel
theorem dX7_rooms_14 : decode cX7_rooms 14 = .ok (.istore_n 2, 1) := by decide +kernel
theorem dX7_rooms_15 : decode cX7_rooms 15 = .ok (.iconst 1, 1) := by decide +kernel
theorem dX7_rooms_16 : decode cX7_rooms 16 = .ok (.istore_n 3, 1) := by decide +kernel
theorem dX7_rooms_17 : decode cX7_rooms 17 = .ok (.iload_n 3, 1) := by decide +kernel
theorem dX7_rooms_18 : decode cX7_rooms 18 = .ok (.iconst 4, 1) := by decide +kernel
theorem dX7_rooms_19 : decode cX7_rooms 19 = .ok (.if_icmp .gt 43, 3) := by decide +kernel
theorem dX7_rooms_22 : decode cX7_rooms 22 = .ok (.aload_n 0, 1) := by decide +kernel
theorem dX7_rooms_23 : decode cX7_rooms 23 = .ok (.getfield 56, 3) := by decide +kernel
theorem dX7_rooms_26 : decode cX7_rooms 26 = .ok (.aload_n 0, 1) := by decide +kernel
theorem dX7_rooms_27 : decode cX7_rooms 27 = .ok (.getfield 28, 3) := by decide +kernel
theorem dX7_rooms_30 : decode cX7_rooms 30 = .ok (.iload_n 1, 1) := by decide +kernel
theorem dX7_rooms_31 : decode cX7_rooms 31 = .ok (.aload_n 0, 1) := by decide +kernel
theorem dX7_rooms_32 : decode cX7_rooms 32 = .ok (.getfield 28, 3) := by decide +kernel
theorem dX7_rooms_35 : decode cX7_rooms 35 = .ok (.getfield 103, 3) := by decide +kernel
theorem dX7_rooms_38 : decode cX7_rooms 38 = .ok (.iload_n 1, 1) := by decide +kernel
theorem dX7_rooms_39 : decode cX7_rooms 39 = .ok (.iaload, 1) := by decide +kernel
theorem dX7_rooms_40 : decode cX7_rooms 40 = .ok (.iload_n 3, 1) := by decide +kernel
theorem dX7_rooms_41 : decode cX7_rooms 41 = .ok (.invokestatic 210, 3) := by decide +kernel
theorem dX7_rooms_44 : decode cX7_rooms 44 = .ok (.invokevirtual 213, 3) := by decide +kernel
theorem dX7_rooms_47 : decode cX7_rooms 47 = .ok (.ifCond .eq 9, 3) := by decide +kernel
theorem dX7_rooms_50 : decode cX7_rooms 50 = .ok (.iload_n 2, 1) := by decide +kernel
theorem dX7_rooms_51 : decode cX7_rooms 51 = .ok (.iconst 1, 1) := by decide +kernel
theorem dX7_rooms_52 : decode cX7_rooms 52 = .ok (.iload_n 3, 1) := by decide +kernel
theorem dX7_rooms_53 : decode cX7_rooms 53 = .ok (.ishl, 1) := by decide +kernel
end
section
theorem dX7_rooms_54 : decode cX7_rooms 54 = .ok (.ior, 1) := by decide +kernel
theorem dX7_rooms_55 : decode cX7_rooms 55 = .ok (.istore_n 2, 1) := by decide +kernel
theorem dX7_rooms_56 : decode cX7_rooms 56 = .ok (.iinc 3 1, 3) := by decide +kernel
theorem dX7_rooms_59 : decode cX7_rooms 59 = .ok (.goto (-42), 3) := by decide +kernel
theorem dX7_rooms_62 : decode cX7_rooms 62 = .ok (.iload_n 2, 1) := by decide +kernel
theorem dX7_rooms_63 : decode cX7_rooms 63 = .ok (.ireturn, 1) := by decide +kernel
theorem dX7_kinds_0 : decode cX7_kinds 0 = .ok (.aload_n 0, 1) := by decide +kernel
theorem dX7_kinds_1 : decode cX7_kinds 1 = .ok (.getfield 28, 3) := by decide +kernel
theorem dX7_kinds_4 : decode cX7_kinds 4 = .ok (.iload_n 1, 1) := by decide +kernel
theorem dX7_kinds_5 : decode cX7_kinds 5 = .ok (.invokevirtual 100, 3) := by decide +kernel
theorem dX7_kinds_8 : decode cX7_kinds 8 = .ok (.ifCond .ne 5, 3) := by decide +kernel
theorem dX7_kinds_11 : decode cX7_kinds 11 = .ok (.iconst (-1), 1) := by decide +kernel
theorem dX7_kinds_12 : decode cX7_kinds 12 = .ok (.ireturn, 1) := by decide +kernel
theorem dX7_kinds_13 : decode cX7_kinds 13 = .ok (.iconst 0, 1) := by decide +kernel
theorem dX7_kinds_14 : decode cX7_kinds 14 = .ok (.istore_n 2, 1) := by decide +kernel
theorem dX7_kinds_15 : decode cX7_kinds 15 = .ok (.iconst 0, 1) := by decide +kernel
theorem dX7_kinds_16 : decode cX7_kinds 16 = .ok (.istore_n 3, 1) := by decide +kernel
theorem dX7_kinds_17 : decode cX7_kinds 17 = .ok (.iload_n 3, 1) := by decide +kernel
theorem dX7_kinds_18 : decode cX7_kinds 18 = .ok (.iconst 2, 1) := by decide +kernel
theorem dX7_kinds_19 : decode cX7_kinds 19 = .ok (.if_icmp .gt 43, 3) := by decide +kernel
theorem dX7_kinds_22 : decode cX7_kinds 22 = .ok (.aload_n 0, 1) := by decide +kernel
theorem dX7_kinds_23 : decode cX7_kinds 23 = .ok (.getfield 56, 3) := by decide +kernel
theorem dX7_kinds_26 : decode cX7_kinds 26 = .ok (.aload_n 0, 1) := by decide +kernel
theorem dX7_kinds_27 : decode cX7_kinds 27 = .ok (.getfield 28, 3) := by decide +kernel
theorem dX7_kinds_30 : decode cX7_kinds 30 = .ok (.iload_n 1, 1) := by decide +kernel
theorem dX7_kinds_31 : decode cX7_kinds 31 = .ok (.iload_n 3, 1) := by decide +kernel
theorem dX7_kinds_32 : decode cX7_kinds 32 = .ok (.aload_n 0, 1) := by decide +kernel
theorem dX7_kinds_33 : decode cX7_kinds 33 = .ok (.getfield 28, 3) := by decide +kernel
theorem dX7_kinds_36 : decode cX7_kinds 36 = .ok (.getfield 107, 3) := by decide +kernel
theorem dX7_kinds_39 : decode cX7_kinds 39 = .ok (.iload_n 1, 1) := by decide +kernel
theorem dX7_kinds_40 : decode cX7_kinds 40 = .ok (.iaload, 1) := by decide +kernel
theorem dX7_kinds_41 : decode cX7_kinds 41 = .ok (.invokestatic 210, 3) := by decide +kernel
theorem dX7_kinds_44 : decode cX7_kinds 44 = .ok (.invokevirtual 213, 3) := by decide +kernel
theorem dX7_kinds_47 : decode cX7_kinds 47 = .ok (.ifCond .eq 9, 3) := by decide +kernel
theorem dX7_kinds_50 : decode cX7_kinds 50 = .ok (.iload_n 2, 1) := by decide +kernel
theorem dX7_kinds_51 : decode cX7_kinds 51 = .ok (.iconst 1, 1) := by decide +kernel
theorem dX7_kinds_52 : decode cX7_kinds 52 = .ok (.iload_n 3, 1) := by decide +kernel
theorem dX7_kinds_53 : decode cX7_kinds 53 = .ok (.ishl, 1) := by decide +kernel
theorem dX7_kinds_54 : decode cX7_kinds 54 = .ok (.ior, 1) := by decide +kernel
theorem dX7_kinds_55 : decode cX7_kinds 55 = .ok (.istore_n 2, 1) := by decide +kernel
theorem dX7_kinds_56 : decode cX7_kinds 56 = .ok (.iinc 3 1, 3) := by decide +kernel
theorem dX7_kinds_59 : decode cX7_kinds 59 = .ok (.goto (-42), 3) := by decide +kernel
theorem dX7_kinds_62 : decode cX7_kinds 62 = .ok (.iload_n 2, 1) := by decide +kernel
theorem dX7_kinds_63 : decode cX7_kinds 63 = .ok (.ireturn, 1) := by decide +kernel
theorem dX7_odds_0 : decode cX7_odds 0 = .ok (.aload_n 0, 1) := by decide +kernel
theorem dX7_odds_1 : decode cX7_odds 1 = .ok (.getfield 28, 3) := by decide +kernel
theorem dX7_odds_4 : decode cX7_odds 4 = .ok (.iload_n 1, 1) := by decide +kernel
theorem dX7_odds_5 : decode cX7_odds 5 = .ok (.invokevirtual 100, 3) := by decide +kernel
theorem dX7_odds_8 : decode cX7_odds 8 = .ok (.ifCond .eq 12, 3) := by decide +kernel
theorem dX7_odds_11 : decode cX7_odds 11 = .ok (.iload_n 2, 1) := by decide +kernel
theorem dX7_odds_12 : decode cX7_odds 12 = .ok (.ifCond .lt 8, 3) := by decide +kernel
theorem dX7_odds_15 : decode cX7_odds 15 = .ok (.iload_n 2, 1) := by decide +kernel
theorem dX7_odds_16 : decode cX7_odds 16 = .ok (.iconst 1, 1) := by decide +kernel
theorem dX7_odds_17 : decode cX7_odds 17 = .ok (.if_icmp .le 7, 3) := by decide +kernel
theorem dX7_odds_20 : decode cX7_odds 20 = .ok (.ldc2_w 217, 3) := by decide +kernel
theorem dX7_odds_23 : decode cX7_odds 23 = .ok (.lreturn, 1) := by decide +kernel
theorem dX7_odds_24 : decode cX7_odds 24 = .ok (.aload_n 0, 1) := by decide +kernel
theorem dX7_odds_25 : decode cX7_odds 25 = .ok (.getfield 28, 3) := by decide +kernel
theorem dX7_odds_28 : decode cX7_odds 28 = .ok (.iload_n 1, 1) := by decide +kernel
theorem dX7_odds_29 : decode cX7_odds 29 = .ok (.invokevirtual 219, 3) := by decide +kernel
theorem dX7_odds_32 : decode cX7_odds 32 = .ok (.lstore_n 3, 1) := by decide +kernel
theorem dX7_odds_33 : decode cX7_odds 33 = .ok (.aload_n 0, 1) := by decide +kernel
theorem dX7_odds_34 : decode cX7_odds 34 = .ok (.getfield 28, 3) := by decide +kernel
theorem dX7_odds_37 : decode cX7_odds 37 = .ok (.getfield 97, 3) := by decide +kernel
theorem dX7_odds_40 : decode cX7_odds 40 = .ok (.iconst 1, 1) := by decide +kernel
theorem dX7_odds_41 : decode cX7_odds 41 = .ok (.iadd, 1) := by decide +kernel
theorem dX7_odds_42 : decode cX7_odds 42 = .ok (.i2l, 1) := by decide +kernel
theorem dX7_odds_43 : decode cX7_odds 43 = .ok (.aload_n 0, 1) := by decide +kernel
theorem dX7_odds_44 : decode cX7_odds 44 = .ok (.getfield 28, 3) := by decide +kernel
theorem dX7_odds_47 : decode cX7_odds 47 = .ok (.getfield 191, 3) := by decide +kernel
theorem dX7_odds_50 : decode cX7_odds 50 = .ok (.invokestatic 223, 3) := by decide +kernel
theorem dX7_odds_53 : decode cX7_odds 53 = .ok (.lstore 5, 2) := by decide +kernel
theorem dX7_odds_55 : decode cX7_odds 55 = .ok (.lload_n 3, 1) := by decide +kernel
theorem dX7_odds_56 : decode cX7_odds 56 = .ok (.lload 5, 2) := by decide +kernel
theorem dX7_odds_58 : decode cX7_odds 58 = .ok (.invokestatic 227, 3) := by decide +kernel
theorem dX7_odds_61 : decode cX7_odds 61 = .ok (.lstore 7, 2) := by decide +kernel
theorem dX7_odds_63 : decode cX7_odds 63 = .ok (.lload 7, 2) := by decide +kernel
theorem dX7_odds_65 : decode cX7_odds 65 = .ok (.lconst 1, 1) := by decide +kernel
theorem dX7_odds_66 : decode cX7_odds 66 = .ok (.lcmp, 1) := by decide +kernel
theorem dX7_odds_67 : decode cX7_odds 67 = .ok (.ifCond .ge 7, 3) := by decide +kernel
theorem dX7_odds_70 : decode cX7_odds 70 = .ok (.ldc2_w 217, 3) := by decide +kernel
theorem dX7_odds_73 : decode cX7_odds 73 = .ok (.lreturn, 1) := by decide +kernel
theorem dX7_odds_74 : decode cX7_odds 74 = .ok (.iload_n 2, 1) := by decide +kernel
theorem dX7_odds_75 : decode cX7_odds 75 = .ok (.ifCond .ne 10, 3) := by decide +kernel
theorem dX7_odds_78 : decode cX7_odds 78 = .ok (.lload_n 3, 1) := by decide +kernel
theorem dX7_odds_79 : decode cX7_odds 79 = .ok (.lload 7, 2) := by decide +kernel
theorem dX7_odds_81 : decode cX7_odds 81 = .ok (.ldiv, 1) := by decide +kernel
theorem dX7_odds_82 : decode cX7_odds 82 = .ok (.goto 8, 3) := by decide +kernel
theorem dX7_odds_85 : decode cX7_odds 85 = .ok (.lload 5, 2) := by decide +kernel
theorem dX7_odds_87 : decode cX7_odds 87 = .ok (.lload 7, 2) := by decide +kernel
theorem dX7_odds_89 : decode cX7_odds 89 = .ok (.ldiv, 1) := by decide +kernel
theorem dX7_odds_90 : decode cX7_odds 90 = .ok (.lreturn, 1) := by decide +kernel
theorem dX7_sheet_0 : decode cX7_sheet 0 = .ok (.aload_n 0, 1) := by decide +kernel
theorem dX7_sheet_1 : decode cX7_sheet 1 = .ok (.iconst 0, 1) := by decide +kernel
theorem dX7_sheet_2 : decode cX7_sheet 2 = .ok (.putfield 64, 3) := by decide +kernel
theorem dX7_sheet_5 : decode cX7_sheet 5 = .ok (.iload_n 1, 1) := by decide +kernel
theorem dX7_sheet_6 : decode cX7_sheet 6 = .ok (.invokestatic 67, 3) := by decide +kernel
theorem dX7_sheet_9 : decode cX7_sheet 9 = .ok (.ifCond .ne 5, 3) := by decide +kernel
theorem dX7_sheet_12 : decode cX7_sheet 12 = .ok (.iconst (-1), 1) := by decide +kernel
theorem dX7_sheet_13 : decode cX7_sheet 13 = .ok (.ireturn, 1) := by decide +kernel
theorem dX7_sheet_14 : decode cX7_sheet 14 = .ok (.iload_n 2, 1) := by decide +kernel
theorem dX7_sheet_15 : decode cX7_sheet 15 = .ok (.invokestatic 71, 3) := by decide +kernel
theorem dX7_sheet_18 : decode cX7_sheet 18 = .ok (.ifCond .eq 9, 3) := by decide +kernel
theorem dX7_sheet_21 : decode cX7_sheet 21 = .ok (.iload_n 3, 1) := by decide +kernel
theorem dX7_sheet_22 : decode cX7_sheet 22 = .ok (.bipush 60, 2) := by decide +kernel
theorem dX7_sheet_24 : decode cX7_sheet 24 = .ok (.if_icmp .le 6, 3) := by decide +kernel
theorem dX7_sheet_27 : decode cX7_sheet 27 = .ok (.bipush (-2), 2) := by decide +kernel
theorem dX7_sheet_29 : decode cX7_sheet 29 = .ok (.ireturn, 1) := by decide +kernel
theorem dX7_sheet_30 : decode cX7_sheet 30 = .ok (.iload_n 3, 1) := by decide +kernel
theorem dX7_sheet_31 : decode cX7_sheet 31 = .ok (.ifCond .ge 8, 3) := by decide +kernel
theorem dX7_sheet_34 : decode cX7_sheet 34 = .ok (.aload_n 0, 1) := by decide +kernel
theorem dX7_sheet_35 : decode cX7_sheet 35 = .ok (.iconst 4, 1) := by decide +kernel
theorem dX7_sheet_36 : decode cX7_sheet 36 = .ok (.putfield 64, 3) := by decide +kernel
theorem dX7_sheet_39 : decode cX7_sheet 39 = .ok (.aload_n 0, 1) := by decide +kernel
theorem dX7_sheet_40 : decode cX7_sheet 40 = .ok (.getfield 64, 3) := by decide +kernel
theorem dX7_sheet_43 : decode cX7_sheet 43 = .ok (.ifCond .eq 11, 3) := by decide +kernel
theorem dX7_sheet_46 : decode cX7_sheet 46 = .ok (.bipush (-10), 2) := by decide +kernel
theorem dX7_sheet_48 : decode cX7_sheet 48 = .ok (.aload_n 0, 1) := by decide +kernel
theorem dX7_sheet_49 : decode cX7_sheet 49 = .ok (.getfield 64, 3) := by decide +kernel
theorem dX7_sheet_52 : decode cX7_sheet 52 = .ok (.isub, 1) := by decide +kernel
theorem dX7_sheet_53 : decode cX7_sheet 53 = .ok (.ireturn, 1) := by decide +kernel
theorem dX7_sheet_54 : decode cX7_sheet 54 = .ok (.aload_n 0, 1) := by decide +kernel
theorem dX7_sheet_55 : decode cX7_sheet 55 = .ok (.getfield 12, 3) := by decide +kernel
theorem dX7_sheet_58 : decode cX7_sheet 58 = .ok (.iload_n 1, 1) := by decide +kernel
theorem dX7_sheet_59 : decode cX7_sheet 59 = .ok (.iload_n 2, 1) := by decide +kernel
theorem dX7_sheet_60 : decode cX7_sheet 60 = .ok (.iload_n 3, 1) := by decide +kernel
theorem dX7_sheet_61 : decode cX7_sheet 61 = .ok (.invokevirtual 231, 3) := by decide +kernel
theorem dX7_sheet_64 : decode cX7_sheet 64 = .ok (.iconst 1, 1) := by decide +kernel
theorem dX7_sheet_65 : decode cX7_sheet 65 = .ok (.ireturn, 1) := by decide +kernel
theorem dX7_lose_0 : decode cX7_lose 0 = .ok (.iload_n 1, 1) := by decide +kernel
theorem dX7_lose_1 : decode cX7_lose 1 = .ok (.invokestatic 67, 3) := by decide +kernel
theorem dX7_lose_4 : decode cX7_lose 4 = .ok (.ifCond .ne 5, 3) := by decide +kernel
theorem dX7_lose_7 : decode cX7_lose 7 = .ok (.iconst (-1), 1) := by decide +kernel
theorem dX7_lose_8 : decode cX7_lose 8 = .ok (.ireturn, 1) := by decide +kernel
theorem dX7_lose_9 : decode cX7_lose 9 = .ok (.aload_n 0, 1) := by decide +kernel
theorem dX7_lose_10 : decode cX7_lose 10 = .ok (.getfield 12, 3) := by decide +kernel
theorem dX7_lose_13 : decode cX7_lose 13 = .ok (.iload_n 1, 1) := by decide +kernel
theorem dX7_lose_14 : decode cX7_lose 14 = .ok (.invokevirtual 235, 3) := by decide +kernel
theorem dX7_lose_17 : decode cX7_lose 17 = .ok (.ifCond .eq 5, 3) := by decide +kernel
theorem dX7_lose_20 : decode cX7_lose 20 = .ok (.iconst 0, 1) := by decide +kernel
theorem dX7_lose_21 : decode cX7_lose 21 = .ok (.ireturn, 1) := by decide +kernel
theorem dX7_lose_22 : decode cX7_lose 22 = .ok (.aload_n 0, 1) := by decide +kernel
theorem dX7_lose_23 : decode cX7_lose 23 = .ok (.getfield 12, 3) := by decide +kernel
theorem dX7_lose_26 : decode cX7_lose 26 = .ok (.iload_n 1, 1) := by decide +kernel
theorem dX7_lose_27 : decode cX7_lose 27 = .ok (.invokevirtual 238, 3) := by decide +kernel
theorem dX7_lose_30 : decode cX7_lose 30 = .ok (.iconst 1, 1) := by decide +kernel
theorem dX7_lose_31 : decode cX7_lose 31 = .ok (.ireturn, 1) := by decide +kernel
theorem dX7_put_0 : decode cX7_put 0 = .ok (.aload_n 0, 1) := by decide +kernel
theorem dX7_put_1 : decode cX7_put 1 = .ok (.iconst 0, 1) := by decide +kernel
theorem dX7_put_2 : decode cX7_put 2 = .ok (.putfield 64, 3) := by decide +kernel
theorem dX7_put_5 : decode cX7_put 5 = .ok (.iload_n 1, 1) := by decide +kernel
theorem dX7_put_6 : decode cX7_put 6 = .ok (.invokestatic 67, 3) := by decide +kernel
theorem dX7_put_9 : decode cX7_put 9 = .ok (.ifCond .ne 5, 3) := by decide +kernel
theorem dX7_put_12 : decode cX7_put 12 = .ok (.iconst (-1), 1) := by decide +kernel
theorem dX7_put_13 : decode cX7_put 13 = .ok (.ireturn, 1) := by decide +kernel
theorem dX7_put_14 : decode cX7_put 14 = .ok (.aload_n 0, 1) := by decide +kernel
theorem dX7_put_15 : decode cX7_put 15 = .ok (.getfield 12, 3) := by decide +kernel
theorem dX7_put_18 : decode cX7_put 18 = .ok (.iload_n 1, 1) := by decide +kernel
theorem dX7_put_19 : decode cX7_put 19 = .ok (.invokevirtual 235, 3) := by decide +kernel
theorem dX7_put_22 : decode cX7_put 22 = .ok (.ifCond .eq 8, 3) := by decide +kernel
theorem dX7_put_25 : decode cX7_put 25 = .ok (.aload_n 0, 1) := by decide +kernel
theorem dX7_put_26 : decode cX7_put 26 = .ok (.iconst 1, 1) := by decide +kernel
theorem dX7_put_27 : decode cX7_put 27 = .ok (.putfield 64, 3) := by decide +kernel
theorem dX7_put_30 : decode cX7_put 30 = .ok (.aload_n 0, 1) := by decide +kernel
theorem dX7_put_31 : decode cX7_put 31 = .ok (.getfield 64, 3) := by decide +kernel
theorem dX7_put_34 : decode cX7_put 34 = .ok (.ifCond .ne 16, 3) := by decide +kernel
theorem dX7_put_37 : decode cX7_put 37 = .ok (.aload_n 0, 1) := by decide +kernel
theorem dX7_put_38 : decode cX7_put 38 = .ok (.aload_n 0, 1) := by decide +kernel
theorem dX7_put_39 : decode cX7_put 39 = .ok (.getfield 12, 3) := by decide +kernel
theorem dX7_put_42 : decode cX7_put 42 = .ok (.iload_n 1, 1) := by decide +kernel
theorem dX7_put_43 : decode cX7_put 43 = .ok (.iload_n 2, 1) := by decide +kernel
theorem dX7_put_44 : decode cX7_put 44 = .ok (.invokevirtual 242, 3) := by decide +kernel
theorem dX7_put_47 : decode cX7_put 47 = .ok (.putfield 64, 3) := by decide +kernel
theorem dX7_put_50 : decode cX7_put 50 = .ok (.aload_n 0, 1) := by decide +kernel
theorem dX7_put_51 : decode cX7_put 51 = .ok (.getfield 64, 3) := by decide +kernel
theorem dX7_put_54 : decode cX7_put 54 = .ok (.ifCond .eq 11, 3) := by decide +kernel
theorem dX7_put_57 : decode cX7_put 57 = .ok (.bipush (-10), 2) := by decide +kernel
theorem dX7_put_59 : decode cX7_put 59 = .ok (.aload_n 0, 1) := by decide +kernel
theorem dX7_put_60 : decode cX7_put 60 = .ok (.getfield 64, 3) := by decide +kernel
theorem dX7_put_63 : decode cX7_put 63 = .ok (.isub, 1) := by decide +kernel
theorem dX7_put_64 : decode cX7_put 64 = .ok (.ireturn, 1) := by decide +kernel
theorem dX7_put_65 : decode cX7_put 65 = .ok (.aload_n 0, 1) := by decide +kernel
theorem dX7_put_66 : decode cX7_put 66 = .ok (.getfield 12, 3) := by decide +kernel
theorem dX7_put_69 : decode cX7_put 69 = .ok (.iload_n 1, 1) := by decide +kernel
theorem dX7_put_70 : decode cX7_put 70 = .ok (.iload_n 2, 1) := by decide +kernel
theorem dX7_put_71 : decode cX7_put 71 = .ok (.iload_n 3, 1) := by decide +kernel
theorem dX7_put_72 : decode cX7_put 72 = .ok (.invokevirtual 245, 3) := by decide +kernel
theorem dX7_put_75 : decode cX7_put 75 = .ok (.iconst 1, 1) := by decide +kernel
theorem dX7_put_76 : decode cX7_put 76 = .ok (.ireturn, 1) := by decide +kernel
theorem dX7_cell_0 : decode cX7_cell 0 = .ok (.aload_n 0, 1) := by decide +kernel
theorem dX7_cell_1 : decode cX7_cell 1 = .ok (.iconst 0, 1) := by decide +kernel
theorem dX7_cell_2 : decode cX7_cell 2 = .ok (.putfield 64, 3) := by decide +kernel
theorem dX7_cell_5 : decode cX7_cell 5 = .ok (.iload_n 1, 1) := by decide +kernel
theorem dX7_cell_6 : decode cX7_cell 6 = .ok (.invokestatic 67, 3) := by decide +kernel
theorem dX7_cell_9 : decode cX7_cell 9 = .ok (.ifCond .eq 10, 3) := by decide +kernel
theorem dX7_cell_12 : decode cX7_cell 12 = .ok (.iload_n 3, 1) := by decide +kernel
theorem dX7_cell_13 : decode cX7_cell 13 = .ok (.invokestatic 71, 3) := by decide +kernel
theorem dX7_cell_16 : decode cX7_cell 16 = .ok (.ifCond .ne 7, 3) := by decide +kernel
theorem dX7_cell_19 : decode cX7_cell 19 = .ok (.ldc2_w 217, 3) := by decide +kernel
theorem dX7_cell_22 : decode cX7_cell 22 = .ok (.lreturn, 1) := by decide +kernel
theorem dX7_cell_23 : decode cX7_cell 23 = .ok (.aload_n 0, 1) := by decide +kernel
theorem dX7_cell_24 : decode cX7_cell 24 = .ok (.aload_n 0, 1) := by decide +kernel
theorem dX7_cell_25 : decode cX7_cell 25 = .ok (.getfield 12, 3) := by decide +kernel
theorem dX7_cell_28 : decode cX7_cell 28 = .ok (.iload_n 1, 1) := by decide +kernel
theorem dX7_cell_29 : decode cX7_cell 29 = .ok (.iload_n 3, 1) := by decide +kernel
theorem dX7_cell_30 : decode cX7_cell 30 = .ok (.invokevirtual 74, 3) := by decide +kernel
theorem dX7_cell_33 : decode cX7_cell 33 = .ok (.putfield 64, 3) := by decide +kernel
theorem dX7_cell_36 : decode cX7_cell 36 = .ok (.aload_n 0, 1) := by decide +kernel
theorem dX7_cell_37 : decode cX7_cell 37 = .ok (.getfield 64, 3) := by decide +kernel
theorem dX7_cell_40 : decode cX7_cell 40 = .ok (.ifCond .ne 16, 3) := by decide +kernel
theorem dX7_cell_43 : decode cX7_cell 43 = .ok (.aload_n 0, 1) := by decide +kernel
theorem dX7_cell_44 : decode cX7_cell 44 = .ok (.aload_n 0, 1) := by decide +kernel
theorem dX7_cell_45 : decode cX7_cell 45 = .ok (.getfield 12, 3) := by decide +kernel
theorem dX7_cell_48 : decode cX7_cell 48 = .ok (.iload_n 1, 1) := by decide +kernel
theorem dX7_cell_49 : decode cX7_cell 49 = .ok (.iload_n 2, 1) := by decide +kernel
theorem dX7_cell_50 : decode cX7_cell 50 = .ok (.invokevirtual 242, 3) := by decide +kernel
theorem dX7_cell_53 : decode cX7_cell 53 = .ok (.putfield 64, 3) := by decide +kernel
theorem dX7_cell_56 : decode cX7_cell 56 = .ok (.aload_n 0, 1) := by decide +kernel
theorem dX7_cell_57 : decode cX7_cell 57 = .ok (.getfield 64, 3) := by decide +kernel
theorem dX7_cell_60 : decode cX7_cell 60 = .ok (.ifCond .eq 7, 3) := by decide +kernel
theorem dX7_cell_63 : decode cX7_cell 63 = .ok (.ldc2_w 217, 3) := by decide +kernel
theorem dX7_cell_66 : decode cX7_cell 66 = .ok (.lreturn, 1) := by decide +kernel
theorem dX7_cell_67 : decode cX7_cell 67 = .ok (.aload_n 0, 1) := by decide +kernel
theorem dX7_cell_68 : decode cX7_cell 68 = .ok (.getfield 12, 3) := by decide +kernel
theorem dX7_cell_71 : decode cX7_cell 71 = .ok (.iload_n 1, 1) := by decide +kernel
theorem dX7_cell_72 : decode cX7_cell 72 = .ok (.iload_n 2, 1) := by decide +kernel
theorem dX7_cell_73 : decode cX7_cell 73 = .ok (.invokevirtual 248, 3) := by decide +kernel
theorem dX7_cell_76 : decode cX7_cell 76 = .ok (.i2l, 1) := by decide +kernel
theorem dX7_cell_77 : decode cX7_cell 77 = .ok (.lreturn, 1) := by decide +kernel
theorem dX7_copy_0 : decode cX7_copy 0 = .ok (.aload_n 0, 1) := by decide +kernel
theorem dX7_copy_1 : decode cX7_copy 1 = .ok (.iconst 0, 1) := by decide +kernel
theorem dX7_copy_2 : decode cX7_copy 2 = .ok (.putfield 64, 3) := by decide +kernel
theorem dX7_copy_5 : decode cX7_copy 5 = .ok (.iload_n 1, 1) := by decide +kernel
theorem dX7_copy_6 : decode cX7_copy 6 = .ok (.invokestatic 67, 3) := by decide +kernel
theorem dX7_copy_9 : decode cX7_copy 9 = .ok (.ifCond .eq 10, 3) := by decide +kernel
theorem dX7_copy_12 : decode cX7_copy 12 = .ok (.iload_n 3, 1) := by decide +kernel
theorem dX7_copy_13 : decode cX7_copy 13 = .ok (.invokestatic 67, 3) := by decide +kernel
theorem dX7_copy_16 : decode cX7_copy 16 = .ok (.ifCond .ne 5, 3) := by decide +kernel
theorem dX7_copy_19 : decode cX7_copy 19 = .ok (.iconst (-1), 1) := by decide +kernel
theorem dX7_copy_20 : decode cX7_copy 20 = .ok (.ireturn, 1) := by decide +kernel
theorem dX7_copy_21 : decode cX7_copy 21 = .ok (.aload_n 0, 1) := by decide +kernel
theorem dX7_copy_22 : decode cX7_copy 22 = .ok (.aload_n 0, 1) := by decide +kernel
theorem dX7_copy_23 : decode cX7_copy 23 = .ok (.getfield 12, 3) := by decide +kernel
theorem dX7_copy_26 : decode cX7_copy 26 = .ok (.iload_n 1, 1) := by decide +kernel
theorem dX7_copy_27 : decode cX7_copy 27 = .ok (.iload_n 3, 1) := by decide +kernel
theorem dX7_copy_28 : decode cX7_copy 28 = .ok (.invokevirtual 251, 3) := by decide +kernel
theorem dX7_copy_31 : decode cX7_copy 31 = .ok (.putfield 64, 3) := by decide +kernel
theorem dX7_copy_34 : decode cX7_copy 34 = .ok (.aload_n 0, 1) := by decide +kernel
theorem dX7_copy_35 : decode cX7_copy 35 = .ok (.getfield 64, 3) := by decide +kernel
theorem dX7_copy_38 : decode cX7_copy 38 = .ok (.ifCond .ne 18, 3) := by decide +kernel
theorem dX7_copy_41 : decode cX7_copy 41 = .ok (.aload_n 0, 1) := by decide +kernel
theorem dX7_copy_42 : decode cX7_copy 42 = .ok (.aload_n 0, 1) := by decide +kernel
theorem dX7_copy_43 : decode cX7_copy 43 = .ok (.getfield 12, 3) := by decide +kernel
theorem dX7_copy_46 : decode cX7_copy 46 = .ok (.iload_n 1, 1) := by decide +kernel
theorem dX7_copy_47 : decode cX7_copy 47 = .ok (.iload_n 2, 1) := by decide +kernel
theorem dX7_copy_48 : decode cX7_copy 48 = .ok (.iload 5, 2) := by decide +kernel
theorem dX7_copy_50 : decode cX7_copy 50 = .ok (.invokevirtual 78, 3) := by decide +kernel
theorem dX7_copy_53 : decode cX7_copy 53 = .ok (.putfield 64, 3) := by decide +kernel
theorem dX7_copy_56 : decode cX7_copy 56 = .ok (.aload_n 0, 1) := by decide +kernel
theorem dX7_copy_57 : decode cX7_copy 57 = .ok (.getfield 64, 3) := by decide +kernel
theorem dX7_copy_60 : decode cX7_copy 60 = .ok (.ifCond .ne 19, 3) := by decide +kernel
theorem dX7_copy_63 : decode cX7_copy 63 = .ok (.aload_n 0, 1) := by decide +kernel
theorem dX7_copy_64 : decode cX7_copy 64 = .ok (.aload_n 0, 1) := by decide +kernel
theorem dX7_copy_65 : decode cX7_copy 65 = .ok (.getfield 12, 3) := by decide +kernel
theorem dX7_copy_68 : decode cX7_copy 68 = .ok (.iload_n 3, 1) := by decide +kernel
theorem dX7_copy_69 : decode cX7_copy 69 = .ok (.iload 4, 2) := by decide +kernel
theorem dX7_copy_71 : decode cX7_copy 71 = .ok (.iload 5, 2) := by decide +kernel
theorem dX7_copy_73 : decode cX7_copy 73 = .ok (.invokevirtual 78, 3) := by decide +kernel
theorem dX7_copy_76 : decode cX7_copy 76 = .ok (.putfield 64, 3) := by decide +kernel
theorem dX7_copy_79 : decode cX7_copy 79 = .ok (.aload_n 0, 1) := by decide +kernel
theorem dX7_copy_80 : decode cX7_copy 80 = .ok (.getfield 64, 3) := by decide +kernel
theorem dX7_copy_83 : decode cX7_copy 83 = .ok (.ifCond .eq 11, 3) := by decide +kernel
theorem dX7_copy_86 : decode cX7_copy 86 = .ok (.bipush (-10), 2) := by decide +kernel
theorem dX7_copy_88 : decode cX7_copy 88 = .ok (.aload_n 0, 1) := by decide +kernel
theorem dX7_copy_89 : decode cX7_copy 89 = .ok (.getfield 64, 3) := by decide +kernel
theorem dX7_copy_92 : decode cX7_copy 92 = .ok (.isub, 1) := by decide +kernel
theorem dX7_copy_93 : decode cX7_copy 93 = .ok (.ireturn, 1) := by decide +kernel
theorem dX7_copy_94 : decode cX7_copy 94 = .ok (.aload_n 0, 1) := by decide +kernel
theorem dX7_copy_95 : decode cX7_copy 95 = .ok (.getfield 12, 3) := by decide +kernel
theorem dX7_copy_98 : decode cX7_copy 98 = .ok (.iload_n 1, 1) := by decide +kernel
theorem dX7_copy_99 : decode cX7_copy 99 = .ok (.iload_n 2, 1) := by decide +kernel
theorem dX7_copy_100 : decode cX7_copy 100 = .ok (.iload_n 3, 1) := by decide +kernel
theorem dX7_copy_101 : decode cX7_copy 101 = .ok (.iload 4, 2) := by decide +kernel
theorem dX7_copy_103 : decode cX7_copy 103 = .ok (.iload 5, 2) := by decide +kernel
theorem dX7_copy_105 : decode cX7_copy 105 = .ok (.invokevirtual 254, 3) := by decide +kernel
theorem dX7_copy_108 : decode cX7_copy 108 = .ok (.iload 5, 2) := by decide +kernel
theorem dX7_copy_110 : decode cX7_copy 110 = .ok (.ireturn, 1) := by decide +kernel
theorem dX7_tell_0 : decode cX7_tell 0 = .ok (.aload_n 0, 1) := by decide +kernel
theorem dX7_tell_1 : decode cX7_tell 1 = .ok (.getfield 28, 3) := by decide +kernel
theorem dX7_tell_4 : decode cX7_tell 4 = .ok (.iload_n 1, 1) := by decide +kernel
theorem dX7_tell_5 : decode cX7_tell 5 = .ok (.invokevirtual 100, 3) := by decide +kernel
theorem dX7_tell_8 : decode cX7_tell 8 = .ok (.ifCond .ne 5, 3) := by decide +kernel
theorem dX7_tell_11 : decode cX7_tell 11 = .ok (.iconst (-1), 1) := by decide +kernel
theorem dX7_tell_12 : decode cX7_tell 12 = .ok (.ireturn, 1) := by decide +kernel
theorem dX7_tell_13 : decode cX7_tell 13 = .ok (.aload_n 0, 1) := by decide +kernel
theorem dX7_tell_14 : decode cX7_tell 14 = .ok (.getfield 28, 3) := by decide +kernel
theorem dX7_tell_17 : decode cX7_tell 17 = .ok (.getfield 103, 3) := by decide +kernel
theorem dX7_tell_20 : decode cX7_tell 20 = .ok (.iload_n 1, 1) := by decide +kernel
theorem dX7_tell_21 : decode cX7_tell 21 = .ok (.iaload, 1) := by decide +kernel
theorem dX7_tell_22 : decode cX7_tell 22 = .ok (.lookupswitch 38 #[(1, 32), (2, 26)], 26) := by decide +kernel
theorem dX7_tell_48 : decode cX7_tell 48 = .ok (.aload_n 0, 1) := by decide +kernel
theorem dX7_tell_49 : decode cX7_tell 49 = .ok (.iload_n 1, 1) := by decide +kernel
theorem dX7_tell_50 : decode cX7_tell 50 = .ok (.invokevirtual 258, 3) := by decide +kernel
theorem dX7_tell_53 : decode cX7_tell 53 = .ok (.ireturn, 1) := by decide +kernel
theorem dX7_tell_54 : decode cX7_tell 54 = .ok (.aload_n 0, 1) := by decide +kernel
theorem dX7_tell_55 : decode cX7_tell 55 = .ok (.iload_n 1, 1) := by decide +kernel
theorem dX7_tell_56 : decode cX7_tell 56 = .ok (.invokevirtual 261, 3) := by decide +kernel
theorem dX7_tell_59 : decode cX7_tell 59 = .ok (.ireturn, 1) := by decide +kernel
theorem dX7_tell_60 : decode cX7_tell 60 = .ok (.aload_n 0, 1) := by decide +kernel
theorem dX7_tell_61 : decode cX7_tell 61 = .ok (.iload_n 1, 1) := by decide +kernel
theorem dX7_tell_62 : decode cX7_tell 62 = .ok (.invokevirtual 264, 3) := by decide +kernel
theorem dX7_tell_65 : decode cX7_tell 65 = .ok (.ireturn, 1) := by decide +kernel
theorem dX7_haunt_0 : decode cX7_haunt 0 = .ok (.aload_n 0, 1) := by decide +kernel
theorem dX7_haunt_1 : decode cX7_haunt 1 = .ok (.getfield 28, 3) := by decide +kernel
theorem dX7_haunt_4 : decode cX7_haunt 4 = .ok (.iload_n 1, 1) := by decide +kernel
theorem dX7_haunt_5 : decode cX7_haunt 5 = .ok (.invokevirtual 100, 3) := by decide +kernel
theorem dX7_haunt_8 : decode cX7_haunt 8 = .ok (.ifCond .ne 5, 3) := by decide +kernel
theorem dX7_haunt_11 : decode cX7_haunt 11 = .ok (.iconst (-1), 1) := by decide +kernel
theorem dX7_haunt_12 : decode cX7_haunt 12 = .ok (.ireturn, 1) := by decide +kernel
theorem dX7_haunt_13 : decode cX7_haunt 13 = .ok (.aload_n 0, 1) := by decide +kernel
theorem dX7_haunt_14 : decode cX7_haunt 14 = .ok (.getfield 28, 3) := by decide +kernel
theorem dX7_haunt_17 : decode cX7_haunt 17 = .ok (.getfield 103, 3) := by decide +kernel
theorem dX7_haunt_20 : decode cX7_haunt 20 = .ok (.iload_n 1, 1) := by decide +kernel
theorem dX7_haunt_21 : decode cX7_haunt 21 = .ok (.iaload, 1) := by decide +kernel
theorem dX7_haunt_22 : decode cX7_haunt 22 = .ok (.iconst 2, 1) := by decide +kernel
theorem dX7_haunt_23 : decode cX7_haunt 23 = .ok (.if_icmp .ne 10, 3) := by decide +kernel
theorem dX7_haunt_26 : decode cX7_haunt 26 = .ok (.aload_n 0, 1) := by decide +kernel
theorem dX7_haunt_27 : decode cX7_haunt 27 = .ok (.invokevirtual 267, 3) := by decide +kernel
theorem dX7_haunt_30 : decode cX7_haunt 30 = .ok (.goto 8, 3) := by decide +kernel
theorem dX7_haunt_33 : decode cX7_haunt 33 = .ok (.aload_n 0, 1) := by decide +kernel
theorem dX7_haunt_34 : decode cX7_haunt 34 = .ok (.iload_n 1, 1) := by decide +kernel
theorem dX7_haunt_35 : decode cX7_haunt 35 = .ok (.invokevirtual 270, 3) := by decide +kernel
theorem dX7_haunt_38 : decode cX7_haunt 38 = .ok (.ireturn, 1) := by decide +kernel
theorem dX7_as_0 : decode cX7_as 0 = .ok (.aload_n 0, 1) := by decide +kernel
theorem dX7_as_1 : decode cX7_as 1 = .ok (.iconst 0, 1) := by decide +kernel
theorem dX7_as_2 : decode cX7_as 2 = .ok (.putfield 64, 3) := by decide +kernel
theorem dX7_as_5 : decode cX7_as 5 = .ok (.aload_n 0, 1) := by decide +kernel
theorem dX7_as_6 : decode cX7_as 6 = .ok (.getfield 28, 3) := by decide +kernel
theorem dX7_as_9 : decode cX7_as 9 = .ok (.iload_n 1, 1) := by decide +kernel
theorem dX7_as_10 : decode cX7_as 10 = .ok (.invokevirtual 100, 3) := by decide +kernel
theorem dX7_as_13 : decode cX7_as 13 = .ok (.ifCond .ne 5, 3) := by decide +kernel
theorem dX7_as_16 : decode cX7_as 16 = .ok (.iconst (-1), 1) := by decide +kernel
theorem dX7_as_17 : decode cX7_as 17 = .ok (.ireturn, 1) := by decide +kernel
theorem dX7_as_18 : decode cX7_as 18 = .ok (.iload_n 2, 1) := by decide +kernel
theorem dX7_as_19 : decode cX7_as 19 = .ok (.ifCond .lt 8, 3) := by decide +kernel
theorem dX7_as_22 : decode cX7_as 22 = .ok (.iload_n 2, 1) := by decide +kernel
theorem dX7_as_23 : decode cX7_as 23 = .ok (.iconst 2, 1) := by decide +kernel
theorem dX7_as_24 : decode cX7_as 24 = .ok (.if_icmp .le 6, 3) := by decide +kernel
theorem dX7_as_27 : decode cX7_as 27 = .ok (.bipush (-2), 2) := by decide +kernel
theorem dX7_as_29 : decode cX7_as 29 = .ok (.ireturn, 1) := by decide +kernel
theorem dX7_as_30 : decode cX7_as 30 = .ok (.aload_n 0, 1) := by decide +kernel
theorem dX7_as_31 : decode cX7_as 31 = .ok (.getfield 28, 3) := by decide +kernel
theorem dX7_as_34 : decode cX7_as 34 = .ok (.getfield 103, 3) := by decide +kernel
theorem dX7_as_37 : decode cX7_as 37 = .ok (.iload_n 1, 1) := by decide +kernel
theorem dX7_as_38 : decode cX7_as 38 = .ok (.iaload, 1) := by decide +kernel
theorem dX7_as_39 : decode cX7_as 39 = .ok (.iload_n 2, 1) := by decide +kernel
theorem dX7_as_40 : decode cX7_as 40 = .ok (.if_icmp .ge 8, 3) := by decide +kernel
theorem dX7_as_43 : decode cX7_as 43 = .ok (.aload_n 0, 1) := by decide +kernel
theorem dX7_as_44 : decode cX7_as 44 = .ok (.iconst 2, 1) := by decide +kernel
theorem dX7_as_45 : decode cX7_as 45 = .ok (.putfield 64, 3) := by decide +kernel
theorem dX7_as_48 : decode cX7_as 48 = .ok (.aload_n 0, 1) := by decide +kernel
theorem dX7_as_49 : decode cX7_as 49 = .ok (.getfield 64, 3) := by decide +kernel
theorem dX7_as_52 : decode cX7_as 52 = .ok (.ifCond .ne 7, 3) := by decide +kernel
theorem dX7_as_55 : decode cX7_as 55 = .ok (.iconst 1, 1) := by decide +kernel
theorem dX7_as_56 : decode cX7_as 56 = .ok (.goto 10, 3) := by decide +kernel
theorem dX7_as_59 : decode cX7_as 59 = .ok (.bipush (-10), 2) := by decide +kernel
theorem dX7_as_61 : decode cX7_as 61 = .ok (.aload_n 0, 1) := by decide +kernel
theorem dX7_as_62 : decode cX7_as 62 = .ok (.getfield 64, 3) := by decide +kernel
theorem dX7_as_65 : decode cX7_as 65 = .ok (.isub, 1) := by decide +kernel
theorem dX7_as_66 : decode cX7_as 66 = .ok (.ireturn, 1) := by decide +kernel
theorem dX7_trace_0 : decode cX7_trace 0 = .ok (.aload_n 0, 1) := by decide +kernel
theorem dX7_trace_1 : decode cX7_trace 1 = .ok (.getfield 60, 3) := by decide +kernel
theorem dX7_trace_4 : decode cX7_trace 4 = .ok (.ireturn, 1) := by decide +kernel
theorem dX7_fault_0 : decode cX7_fault 0 = .ok (.aload_n 0, 1) := by decide +kernel
theorem dX7_fault_1 : decode cX7_fault 1 = .ok (.getfield 64, 3) := by decide +kernel
theorem dX7_fault_4 : decode cX7_fault 4 = .ok (.ireturn, 1) := by decide +kernel
theorem dX7_many_0 : decode cX7_many 0 = .ok (.iload_n 1, 1) := by decide +kernel
theorem dX7_many_1 : decode cX7_many 1 = .ok (.tableswitch 78 0 4 #[35, 43, 51, 59, 70], 35) := by decide +kernel
theorem dX7_many_36 : decode cX7_many 36 = .ok (.aload_n 0, 1) := by decide +kernel
theorem dX7_many_37 : decode cX7_many 37 = .ok (.getfield 28, 3) := by decide +kernel
theorem dX7_many_40 : decode cX7_many 40 = .ok (.getfield 97, 3) := by decide +kernel
theorem dX7_many_43 : decode cX7_many 43 = .ok (.ireturn, 1) := by decide +kernel
theorem dX7_many_44 : decode cX7_many 44 = .ok (.aload_n 0, 1) := by decide +kernel
theorem dX7_many_45 : decode cX7_many 45 = .ok (.getfield 28, 3) := by decide +kernel
theorem dX7_many_48 : decode cX7_many 48 = .ok (.getfield 191, 3) := by decide +kernel
theorem dX7_many_51 : decode cX7_many 51 = .ok (.ireturn, 1) := by decide +kernel
theorem dX7_many_52 : decode cX7_many 52 = .ok (.aload_n 0, 1) := by decide +kernel
theorem dX7_many_53 : decode cX7_many 53 = .ok (.getfield 28, 3) := by decide +kernel
theorem dX7_many_56 : decode cX7_many 56 = .ok (.getfield 273, 3) := by decide +kernel
theorem dX7_many_59 : decode cX7_many 59 = .ok (.ireturn, 1) := by decide +kernel
theorem dX7_many_60 : decode cX7_many 60 = .ok (.aload_n 0, 1) := by decide +kernel
theorem dX7_many_61 : decode cX7_many 61 = .ok (.getfield 28, 3) := by decide +kernel
theorem dX7_many_64 : decode cX7_many 64 = .ok (.invokevirtual 276, 3) := by decide +kernel
theorem dX7_many_67 : decode cX7_many 67 = .ok (.invokestatic 148, 3) := by decide +kernel
theorem dX7_many_70 : decode cX7_many 70 = .ok (.ireturn, 1) := by decide +kernel
theorem dX7_many_71 : decode cX7_many 71 = .ok (.aload_n 0, 1) := by decide +kernel
theorem dX7_many_72 : decode cX7_many 72 = .ok (.getfield 56, 3) := by decide +kernel
theorem dX7_many_75 : decode cX7_many 75 = .ok (.getfield 94, 3) := by decide +kernel
theorem dX7_many_78 : decode cX7_many 78 = .ok (.ireturn, 1) := by decide +kernel
theorem dX7_many_79 : decode cX7_many 79 = .ok (.bipush (-2), 2) := by decide +kernel
theorem dX7_many_81 : decode cX7_many 81 = .ok (.ireturn, 1) := by decide +kernel
theorem dX7_begin_0 : decode cX7_begin 0 = .ok (.aload_n 0, 1) := by decide +kernel
theorem dX7_begin_1 : decode cX7_begin 1 = .ok (.bipush 31, 2) := by decide +kernel
theorem dX7_begin_3 : decode cX7_begin 3 = .ok (.aload_n 0, 1) := by decide +kernel
theorem dX7_begin_4 : decode cX7_begin 4 = .ok (.getfield 60, 3) := by decide +kernel
theorem dX7_begin_7 : decode cX7_begin 7 = .ok (.imul, 1) := by decide +kernel
theorem dX7_begin_8 : decode cX7_begin 8 = .ok (.iload_n 1, 1) := by decide +kernel
theorem dX7_begin_9 : decode cX7_begin 9 = .ok (.iadd, 1) := by decide +kernel
theorem dX7_begin_10 : decode cX7_begin 10 = .ok (.putfield 60, 3) := by decide +kernel
theorem dX7_begin_13 : decode cX7_begin 13 = .ok (.return_, 1) := by decide +kernel
theorem dX7_roundBody_0 : decode cX7_roundBody 0 = .ok (.aload_n 0, 1) := by decide +kernel
theorem dX7_roundBody_1 : decode cX7_roundBody 1 = .ok (.iconst 1, 1) := by decide +kernel
theorem dX7_roundBody_2 : decode cX7_roundBody 2 = .ok (.invokevirtual 279, 3) := by decide +kernel
theorem dX7_roundBody_5 : decode cX7_roundBody 5 = .ok (.aload_n 0, 1) := by decide +kernel
theorem dX7_roundBody_6 : decode cX7_roundBody 6 = .ok (.getfield 28, 3) := by decide +kernel
theorem dX7_roundBody_9 : decode cX7_roundBody 9 = .ok (.iload_n 1, 1) := by decide +kernel
theorem dX7_roundBody_10 : decode cX7_roundBody 10 = .ok (.invokevirtual 100, 3) := by decide +kernel
theorem dX7_roundBody_13 : decode cX7_roundBody 13 = .ok (.ifCond .eq 15, 3) := by decide +kernel
theorem dX7_roundBody_16 : decode cX7_roundBody 16 = .ok (.aload_n 0, 1) := by decide +kernel
theorem dX7_roundBody_17 : decode cX7_roundBody 17 = .ok (.getfield 28, 3) := by decide +kernel
theorem dX7_roundBody_20 : decode cX7_roundBody 20 = .ok (.getfield 107, 3) := by decide +kernel
theorem dX7_roundBody_23 : decode cX7_roundBody 23 = .ok (.iload_n 1, 1) := by decide +kernel
theorem dX7_roundBody_24 : decode cX7_roundBody 24 = .ok (.iaload, 1) := by decide +kernel
theorem dX7_roundBody_25 : decode cX7_roundBody 25 = .ok (.goto 4, 3) := by decide +kernel
theorem dX7_roundBody_28 : decode cX7_roundBody 28 = .ok (.iconst 0, 1) := by decide +kernel
theorem dX7_roundBody_29 : decode cX7_roundBody 29 = .ok (.ireturn, 1) := by decide +kernel
theorem dX7_longBody_0 : decode cX7_longBody 0 = .ok (.aload_n 0, 1) := by decide +kernel
theorem dX7_longBody_1 : decode cX7_longBody 1 = .ok (.iconst 2, 1) := by decide +kernel
theorem dX7_longBody_2 : decode cX7_longBody 2 = .ok (.invokevirtual 279, 3) := by decide +kernel
theorem dX7_longBody_5 : decode cX7_longBody 5 = .ok (.aload_n 0, 1) := by decide +kernel
theorem dX7_longBody_6 : decode cX7_longBody 6 = .ok (.iload_n 1, 1) := by decide +kernel
theorem dX7_longBody_7 : decode cX7_longBody 7 = .ok (.invokevirtual 264, 3) := by decide +kernel
theorem dX7_longBody_10 : decode cX7_longBody 10 = .ok (.bipush 100, 2) := by decide +kernel
theorem dX7_longBody_12 : decode cX7_longBody 12 = .ok (.iadd, 1) := by decide +kernel
theorem dX7_longBody_13 : decode cX7_longBody 13 = .ok (.ireturn, 1) := by decide +kernel
theorem dX7_ringBody_0 : decode cX7_ringBody 0 = .ok (.aload_n 0, 1) := by decide +kernel
theorem dX7_ringBody_1 : decode cX7_ringBody 1 = .ok (.iconst 3, 1) := by decide +kernel
theorem dX7_ringBody_2 : decode cX7_ringBody 2 = .ok (.invokevirtual 279, 3) := by decide +kernel
theorem dX7_ringBody_5 : decode cX7_ringBody 5 = .ok (.aload_n 0, 1) := by decide +kernel
theorem dX7_ringBody_6 : decode cX7_ringBody 6 = .ok (.iload_n 1, 1) := by decide +kernel
theorem dX7_ringBody_7 : decode cX7_ringBody 7 = .ok (.invokevirtual 261, 3) := by decide +kernel
theorem dX7_ringBody_10 : decode cX7_ringBody 10 = .ok (.istore_n 2, 1) := by decide +kernel
theorem dX7_ringBody_11 : decode cX7_ringBody 11 = .ok (.iload_n 2, 1) := by decide +kernel
theorem dX7_ringBody_12 : decode cX7_ringBody 12 = .ok (.aload_n 0, 1) := by decide +kernel
theorem dX7_ringBody_13 : decode cX7_ringBody 13 = .ok (.iload_n 1, 1) := by decide +kernel
theorem dX7_ringBody_14 : decode cX7_ringBody 14 = .ok (.invokevirtual 264, 3) := by decide +kernel
theorem dX7_ringBody_17 : decode cX7_ringBody 17 = .ok (.iadd, 1) := by decide +kernel
theorem dX7_ringBody_18 : decode cX7_ringBody 18 = .ok (.ireturn, 1) := by decide +kernel
theorem dX7_lentHaunt_0 : decode cX7_lentHaunt 0 = .ok (.aload_n 0, 1) := by decide +kernel
theorem dX7_lentHaunt_1 : decode cX7_lentHaunt 1 = .ok (.iconst 4, 1) := by decide +kernel
theorem dX7_lentHaunt_2 : decode cX7_lentHaunt 2 = .ok (.invokevirtual 279, 3) := by decide +kernel
theorem dX7_lentHaunt_5 : decode cX7_lentHaunt 5 = .ok (.iload_n 1, 1) := by decide +kernel
theorem dX7_lentHaunt_6 : decode cX7_lentHaunt 6 = .ok (.ireturn, 1) := by decide +kernel
theorem dX7_ringHaunt_0 : decode cX7_ringHaunt 0 = .ok (.aload_n 0, 1) := by decide +kernel
theorem dX7_ringHaunt_1 : decode cX7_ringHaunt 1 = .ok (.iconst 5, 1) := by decide +kernel
theorem dX7_ringHaunt_2 : decode cX7_ringHaunt 2 = .ok (.invokevirtual 279, 3) := by decide +kernel
theorem dX7_ringHaunt_5 : decode cX7_ringHaunt 5 = .ok (.bipush 70, 2) := by decide +kernel
theorem dX7_ringHaunt_7 : decode cX7_ringHaunt 7 = .ok (.ireturn, 1) := by decide +kernel
theorem dX7_isLane_0 : decode cX7_isLane 0 = .ok (.iload_n 0, 1) := by decide +kernel
theorem dX7_isLane_1 : decode cX7_isLane 1 = .ok (.ifCond .lt 12, 3) := by decide +kernel
theorem dX7_isLane_4 : decode cX7_isLane 4 = .ok (.iload_n 0, 1) := by decide +kernel
theorem dX7_isLane_5 : decode cX7_isLane 5 = .ok (.iconst 2, 1) := by decide +kernel
theorem dX7_isLane_6 : decode cX7_isLane 6 = .ok (.if_icmp .gt 7, 3) := by decide +kernel
theorem dX7_isLane_9 : decode cX7_isLane 9 = .ok (.iconst 1, 1) := by decide +kernel
theorem dX7_isLane_10 : decode cX7_isLane 10 = .ok (.goto 4, 3) := by decide +kernel
theorem dX7_isLane_13 : decode cX7_isLane 13 = .ok (.iconst 0, 1) := by decide +kernel
theorem dX7_isLane_14 : decode cX7_isLane 14 = .ok (.ireturn, 1) := by decide +kernel
theorem dX7_holdsAs_0 : decode cX7_holdsAs 0 = .ok (.iload_n 0, 1) := by decide +kernel
theorem dX7_holdsAs_1 : decode cX7_holdsAs 1 = .ok (.lookupswitch 35 #[(1, 31), (2, 27)], 27) := by decide +kernel
theorem dX7_holdsAs_28 : decode cX7_holdsAs 28 = .ok (.iload_n 1, 1) := by decide +kernel
theorem dX7_holdsAs_29 : decode cX7_holdsAs 29 = .ok (.iconst 1, 1) := by decide +kernel
theorem dX7_holdsAs_30 : decode cX7_holdsAs 30 = .ok (.iadd, 1) := by decide +kernel
theorem dX7_holdsAs_31 : decode cX7_holdsAs 31 = .ok (.ireturn, 1) := by decide +kernel
theorem dX7_holdsAs_32 : decode cX7_holdsAs 32 = .ok (.iconst 2, 1) := by decide +kernel
theorem dX7_holdsAs_33 : decode cX7_holdsAs 33 = .ok (.iload_n 1, 1) := by decide +kernel
theorem dX7_holdsAs_34 : decode cX7_holdsAs 34 = .ok (.imul, 1) := by decide +kernel
theorem dX7_holdsAs_35 : decode cX7_holdsAs 35 = .ok (.ireturn, 1) := by decide +kernel
theorem dX7_holdsAs_36 : decode cX7_holdsAs 36 = .ok (.iload_n 1, 1) := by decide +kernel
theorem dX7_holdsAs_37 : decode cX7_holdsAs 37 = .ok (.ireturn, 1) := by decide +kernel
theorem dX7_isNear_0 : decode cX7_isNear 0 = .ok (.iload_n 0, 1) := by decide +kernel
theorem dX7_isNear_1 : decode cX7_isNear 1 = .ok (.iload_n 1, 1) := by decide +kernel
theorem dX7_isNear_2 : decode cX7_isNear 2 = .ok (.isub, 1) := by decide +kernel
theorem dX7_isNear_3 : decode cX7_isNear 3 = .ok (.invokestatic 282, 3) := by decide +kernel
theorem dX7_isNear_6 : decode cX7_isNear 6 = .ok (.iload_n 2, 1) := by decide +kernel
theorem dX7_isNear_7 : decode cX7_isNear 7 = .ok (.if_icmp .gt 7, 3) := by decide +kernel
theorem dX7_isNear_10 : decode cX7_isNear 10 = .ok (.iconst 1, 1) := by decide +kernel
theorem dX7_isNear_11 : decode cX7_isNear 11 = .ok (.goto 4, 3) := by decide +kernel
theorem dX7_isNear_14 : decode cX7_isNear 14 = .ok (.iconst 0, 1) := by decide +kernel
theorem dX7_isNear_15 : decode cX7_isNear 15 = .ok (.ireturn, 1) := by decide +kernel
theorem dX7_power_0 : decode cX7_power 0 = .ok (.lconst 1, 1) := by decide +kernel
theorem dX7_power_1 : decode cX7_power 1 = .ok (.lstore_n 3, 1) := by decide +kernel
theorem dX7_power_2 : decode cX7_power 2 = .ok (.iconst 0, 1) := by decide +kernel
theorem dX7_power_3 : decode cX7_power 3 = .ok (.istore 5, 2) := by decide +kernel
theorem dX7_power_5 : decode cX7_power 5 = .ok (.iload 5, 2) := by decide +kernel
theorem dX7_power_7 : decode cX7_power 7 = .ok (.iload_n 2, 1) := by decide +kernel
theorem dX7_power_8 : decode cX7_power 8 = .ok (.if_icmp .ge 13, 3) := by decide +kernel
theorem dX7_power_11 : decode cX7_power 11 = .ok (.lload_n 3, 1) := by decide +kernel
theorem dX7_power_12 : decode cX7_power 12 = .ok (.lload_n 0, 1) := by decide +kernel
theorem dX7_power_13 : decode cX7_power 13 = .ok (.lmul, 1) := by decide +kernel
theorem dX7_power_14 : decode cX7_power 14 = .ok (.lstore_n 3, 1) := by decide +kernel
theorem dX7_power_15 : decode cX7_power 15 = .ok (.iinc 5 1, 3) := by decide +kernel
theorem dX7_power_18 : decode cX7_power 18 = .ok (.goto (-13), 3) := by decide +kernel
theorem dX7_power_21 : decode cX7_power 21 = .ok (.lload_n 3, 1) := by decide +kernel
theorem dX7_power_22 : decode cX7_power 22 = .ok (.lreturn, 1) := by decide +kernel
theorem dX7_choices_0 : decode cX7_choices 0 = .ok (.lconst 1, 1) := by decide +kernel
theorem dX7_choices_1 : decode cX7_choices 1 = .ok (.lstore_n 2, 1) := by decide +kernel
theorem dX7_choices_2 : decode cX7_choices 2 = .ok (.iconst 1, 1) := by decide +kernel
theorem dX7_choices_3 : decode cX7_choices 3 = .ok (.istore 4, 2) := by decide +kernel
theorem dX7_choices_5 : decode cX7_choices 5 = .ok (.iload 4, 2) := by decide +kernel
theorem dX7_choices_7 : decode cX7_choices 7 = .ok (.iload_n 1, 1) := by decide +kernel
theorem dX7_choices_8 : decode cX7_choices 8 = .ok (.if_icmp .gt 23, 3) := by decide +kernel
theorem dX7_choices_11 : decode cX7_choices 11 = .ok (.lload_n 2, 1) := by decide +kernel
theorem dX7_choices_12 : decode cX7_choices 12 = .ok (.iload_n 0, 1) := by decide +kernel
theorem dX7_choices_13 : decode cX7_choices 13 = .ok (.iload_n 1, 1) := by decide +kernel
theorem dX7_choices_14 : decode cX7_choices 14 = .ok (.isub, 1) := by decide +kernel
theorem dX7_choices_15 : decode cX7_choices 15 = .ok (.iload 4, 2) := by decide +kernel
theorem dX7_choices_17 : decode cX7_choices 17 = .ok (.iadd, 1) := by decide +kernel
theorem dX7_choices_18 : decode cX7_choices 18 = .ok (.i2l, 1) := by decide +kernel
theorem dX7_choices_19 : decode cX7_choices 19 = .ok (.lmul, 1) := by decide +kernel
theorem dX7_choices_20 : decode cX7_choices 20 = .ok (.iload 4, 2) := by decide +kernel
theorem dX7_choices_22 : decode cX7_choices 22 = .ok (.i2l, 1) := by decide +kernel
theorem dX7_choices_23 : decode cX7_choices 23 = .ok (.ldiv, 1) := by decide +kernel
theorem dX7_choices_24 : decode cX7_choices 24 = .ok (.lstore_n 2, 1) := by decide +kernel
theorem dX7_choices_25 : decode cX7_choices 25 = .ok (.iinc 4 1, 3) := by decide +kernel
theorem dX7_choices_28 : decode cX7_choices 28 = .ok (.goto (-23), 3) := by decide +kernel
theorem dX7_choices_31 : decode cX7_choices 31 = .ok (.lload_n 2, 1) := by decide +kernel
theorem dX7_choices_32 : decode cX7_choices 32 = .ok (.lreturn, 1) := by decide +kernel
theorem dX7_commonPart_0 : decode cX7_commonPart 0 = .ok (.lload_n 0, 1) := by decide +kernel
theorem dX7_commonPart_1 : decode cX7_commonPart 1 = .ok (.lstore 4, 2) := by decide +kernel
theorem dX7_commonPart_3 : decode cX7_commonPart 3 = .ok (.lload_n 2, 1) := by decide +kernel
theorem dX7_commonPart_4 : decode cX7_commonPart 4 = .ok (.lstore 6, 2) := by decide +kernel
theorem dX7_commonPart_6 : decode cX7_commonPart 6 = .ok (.iconst 0, 1) := by decide +kernel
theorem dX7_commonPart_7 : decode cX7_commonPart 7 = .ok (.istore 8, 2) := by decide +kernel
theorem dX7_commonPart_9 : decode cX7_commonPart 9 = .ok (.iload 8, 2) := by decide +kernel
theorem dX7_commonPart_11 : decode cX7_commonPart 11 = .ok (.bipush 100, 2) := by decide +kernel
theorem dX7_commonPart_13 : decode cX7_commonPart 13 = .ok (.if_icmp .ge 31, 3) := by decide +kernel
theorem dX7_commonPart_16 : decode cX7_commonPart 16 = .ok (.lload 6, 2) := by decide +kernel
theorem dX7_commonPart_18 : decode cX7_commonPart 18 = .ok (.lconst 0, 1) := by decide +kernel
theorem dX7_commonPart_19 : decode cX7_commonPart 19 = .ok (.lcmp, 1) := by decide +kernel
theorem dX7_commonPart_20 : decode cX7_commonPart 20 = .ok (.ifCond .eq 24, 3) := by decide +kernel
theorem dX7_commonPart_23 : decode cX7_commonPart 23 = .ok (.lload 4, 2) := by decide +kernel
theorem dX7_commonPart_25 : decode cX7_commonPart 25 = .ok (.lload 6, 2) := by decide +kernel
theorem dX7_commonPart_27 : decode cX7_commonPart 27 = .ok (.lrem, 1) := by decide +kernel
theorem dX7_commonPart_28 : decode cX7_commonPart 28 = .ok (.lstore 9, 2) := by decide +kernel
theorem dX7_commonPart_30 : decode cX7_commonPart 30 = .ok (.lload 6, 2) := by decide +kernel
theorem dX7_commonPart_32 : decode cX7_commonPart 32 = .ok (.lstore 4, 2) := by decide +kernel
theorem dX7_commonPart_34 : decode cX7_commonPart 34 = .ok (.lload 9, 2) := by decide +kernel
theorem dX7_commonPart_36 : decode cX7_commonPart 36 = .ok (.lstore 6, 2) := by decide +kernel
theorem dX7_commonPart_38 : decode cX7_commonPart 38 = .ok (.iinc 8 1, 3) := by decide +kernel
theorem dX7_commonPart_41 : decode cX7_commonPart 41 = .ok (.goto (-32), 3) := by decide +kernel
theorem dX7_commonPart_44 : decode cX7_commonPart 44 = .ok (.lload 4, 2) := by decide +kernel
theorem dX7_commonPart_46 : decode cX7_commonPart 46 = .ok (.lreturn, 1) := by decide +kernel
end
section
theorem dX8_init_0 : decode cX8_init 0 = .ok (.aload_n 0, 1) := by decide +kernel
theorem dX8_init_1 : decode cX8_init 1 = .ok (.invokespecial 1, 3) := by decide +kernel
theorem dX8_init_4 : decode cX8_init 4 = .ok (.aload_n 0, 1) := by decide +kernel
theorem dX8_init_5 : decode cX8_init 5 = .ok (.iconst 4, 1) := by decide +kernel
theorem dX8_init_6 : decode cX8_init 6 = .ok (.newarray .int, 2) := by decide +kernel
theorem dX8_init_8 : decode cX8_init 8 = .ok (.dup, 1) := by decide +kernel
theorem dX8_init_9 : decode cX8_init 9 = .ok (.iconst 0, 1) := by decide +kernel
theorem dX8_init_10 : decode cX8_init 10 = .ok (.bipush (-9), 2) := by decide +kernel
theorem dX8_init_12 : decode cX8_init 12 = .ok (.iastore, 1) := by decide +kernel
theorem dX8_init_13 : decode cX8_init 13 = .ok (.dup, 1) := by decide +kernel
theorem dX8_init_14 : decode cX8_init 14 = .ok (.iconst 1, 1) := by decide +kernel
theorem dX8_init_15 : decode cX8_init 15 = .ok (.bipush (-9), 2) := by decide +kernel
theorem dX8_init_17 : decode cX8_init 17 = .ok (.iastore, 1) := by decide +kernel
theorem dX8_init_18 : decode cX8_init 18 = .ok (.dup, 1) := by decide +kernel
theorem dX8_init_19 : decode cX8_init 19 = .ok (.iconst 2, 1) := by decide +kernel
theorem dX8_init_20 : decode cX8_init 20 = .ok (.bipush (-9), 2) := by decide +kernel
theorem dX8_init_22 : decode cX8_init 22 = .ok (.iastore, 1) := by decide +kernel
theorem dX8_init_23 : decode cX8_init 23 = .ok (.dup, 1) := by decide +kernel
theorem dX8_init_24 : decode cX8_init 24 = .ok (.iconst 3, 1) := by decide +kernel
theorem dX8_init_25 : decode cX8_init 25 = .ok (.bipush (-9), 2) := by decide +kernel
theorem dX8_init_27 : decode cX8_init 27 = .ok (.iastore, 1) := by decide +kernel
theorem dX8_init_28 : decode cX8_init 28 = .ok (.putfield 9, 3) := by decide +kernel
theorem dX8_init_31 : decode cX8_init 31 = .ok (.aload_n 0, 1) := by decide +kernel
theorem dX8_init_32 : decode cX8_init 32 = .ok (.iconst 4, 1) := by decide +kernel
theorem dX8_init_33 : decode cX8_init 33 = .ok (.newarray .int, 2) := by decide +kernel
theorem dX8_init_35 : decode cX8_init 35 = .ok (.putfield 13, 3) := by decide +kernel
theorem dX8_init_38 : decode cX8_init 38 = .ok (.aload_n 0, 1) := by decide +kernel
theorem dX8_init_39 : decode cX8_init 39 = .ok (.sipush 240, 3) := by decide +kernel
theorem dX8_init_42 : decode cX8_init 42 = .ok (.newarray .int, 2) := by decide +kernel
theorem dX8_init_44 : decode cX8_init 44 = .ok (.putfield 16, 3) := by decide +kernel
theorem dX8_init_47 : decode cX8_init 47 = .ok (.aload_n 0, 1) := by decide +kernel
theorem dX8_init_48 : decode cX8_init 48 = .ok (.iconst 5, 1) := by decide +kernel
theorem dX8_init_49 : decode cX8_init 49 = .ok (.newarray .int, 2) := by decide +kernel
theorem dX8_init_51 : decode cX8_init 51 = .ok (.putfield 19, 3) := by decide +kernel
theorem dX8_init_54 : decode cX8_init 54 = .ok (.aload_n 0, 1) := by decide +kernel
theorem dX8_init_55 : decode cX8_init 55 = .ok (.iconst 5, 1) := by decide +kernel
theorem dX8_init_56 : decode cX8_init 56 = .ok (.newarray .int, 2) := by decide +kernel
theorem dX8_init_58 : decode cX8_init 58 = .ok (.putfield 22, 3) := by decide +kernel
theorem dX8_init_61 : decode cX8_init 61 = .ok (.aload_n 0, 1) := by decide +kernel
theorem dX8_init_62 : decode cX8_init 62 = .ok (.iconst 5, 1) := by decide +kernel
theorem dX8_init_63 : decode cX8_init 63 = .ok (.newarray .int, 2) := by decide +kernel
theorem dX8_init_65 : decode cX8_init 65 = .ok (.putfield 25, 3) := by decide +kernel
theorem dX8_init_68 : decode cX8_init 68 = .ok (.aload_n 0, 1) := by decide +kernel
theorem dX8_init_69 : decode cX8_init 69 = .ok (.iconst 5, 1) := by decide +kernel
theorem dX8_init_70 : decode cX8_init 70 = .ok (.newarray .int, 2) := by decide +kernel
theorem dX8_init_72 : decode cX8_init 72 = .ok (.putfield 28, 3) := by decide +kernel
theorem dX8_init_75 : decode cX8_init 75 = .ok (.aload_n 0, 1) := by decide +kernel
theorem dX8_init_76 : decode cX8_init 76 = .ok (.iconst 5, 1) := by decide +kernel
theorem dX8_init_77 : decode cX8_init 77 = .ok (.newarray .int, 2) := by decide +kernel
theorem dX8_init_79 : decode cX8_init 79 = .ok (.putfield 31, 3) := by decide +kernel
theorem dX8_init_82 : decode cX8_init 82 = .ok (.aload_n 0, 1) := by decide +kernel
theorem dX8_init_83 : decode cX8_init 83 = .ok (.iconst 5, 1) := by decide +kernel
theorem dX8_init_84 : decode cX8_init 84 = .ok (.newarray .int, 2) := by decide +kernel
theorem dX8_init_86 : decode cX8_init 86 = .ok (.putfield 34, 3) := by decide +kernel
theorem dX8_init_89 : decode cX8_init 89 = .ok (.aload_n 0, 1) := by decide +kernel
theorem dX8_init_90 : decode cX8_init 90 = .ok (.iconst 5, 1) := by decide +kernel
theorem dX8_init_91 : decode cX8_init 91 = .ok (.newarray .int, 2) := by decide +kernel
theorem dX8_init_93 : decode cX8_init 93 = .ok (.putfield 37, 3) := by decide +kernel
theorem dX8_init_96 : decode cX8_init 96 = .ok (.aload_n 0, 1) := by decide +kernel
theorem dX8_init_97 : decode cX8_init 97 = .ok (.iconst 5, 1) := by decide +kernel
theorem dX8_init_98 : decode cX8_init 98 = .ok (.newarray .int, 2) := by decide +kernel
theorem dX8_init_100 : decode cX8_init 100 = .ok (.putfield 40, 3) := by decide +kernel
theorem dX8_init_103 : decode cX8_init 103 = .ok (.aload_n 0, 1) := by decide +kernel
theorem dX8_init_104 : decode cX8_init 104 = .ok (.iconst 5, 1) := by decide +kernel
theorem dX8_init_105 : decode cX8_init 105 = .ok (.newarray .int, 2) := by decide +kernel
theorem dX8_init_107 : decode cX8_init 107 = .ok (.putfield 43, 3) := by decide +kernel
theorem dX8_init_110 : decode cX8_init 110 = .ok (.aload_n 0, 1) := by decide +kernel
theorem dX8_init_111 : decode cX8_init 111 = .ok (.bipush 20, 2) := by decide +kernel
theorem dX8_init_113 : decode cX8_init 113 = .ok (.newarray .int, 2) := by decide +kernel
theorem dX8_init_115 : decode cX8_init 115 = .ok (.putfield 46, 3) := by decide +kernel
theorem dX8_init_118 : decode cX8_init 118 = .ok (.aload_n 0, 1) := by decide +kernel
theorem dX8_init_119 : decode cX8_init 119 = .ok (.bipush 15, 2) := by decide +kernel
theorem dX8_init_121 : decode cX8_init 121 = .ok (.newarray .int, 2) := by decide +kernel
theorem dX8_init_123 : decode cX8_init 123 = .ok (.putfield 49, 3) := by decide +kernel
theorem dX8_init_126 : decode cX8_init 126 = .ok (.aload_n 0, 1) := by decide +kernel
theorem dX8_init_127 : decode cX8_init 127 = .ok (.iconst 5, 1) := by decide +kernel
theorem dX8_init_128 : decode cX8_init 128 = .ok (.newarray .int, 2) := by decide +kernel
theorem dX8_init_130 : decode cX8_init 130 = .ok (.putfield 52, 3) := by decide +kernel
theorem dX8_init_133 : decode cX8_init 133 = .ok (.aload_n 0, 1) := by decide +kernel
theorem dX8_init_134 : decode cX8_init 134 = .ok (.iconst 5, 1) := by decide +kernel
theorem dX8_init_135 : decode cX8_init 135 = .ok (.newarray .int, 2) := by decide +kernel
theorem dX8_init_137 : decode cX8_init 137 = .ok (.putfield 55, 3) := by decide +kernel
theorem dX8_init_140 : decode cX8_init 140 = .ok (.aload_n 0, 1) := by decide +kernel
theorem dX8_init_141 : decode cX8_init 141 = .ok (.iconst 5, 1) := by decide +kernel
theorem dX8_init_142 : decode cX8_init 142 = .ok (.newarray .int, 2) := by decide +kernel
theorem dX8_init_144 : decode cX8_init 144 = .ok (.putfield 58, 3) := by decide +kernel
theorem dX8_init_147 : decode cX8_init 147 = .ok (.aload_n 0, 1) := by decide +kernel
theorem dX8_init_148 : decode cX8_init 148 = .ok (.iconst 5, 1) := by decide +kernel
theorem dX8_init_149 : decode cX8_init 149 = .ok (.newarray .int, 2) := by decide +kernel
theorem dX8_init_151 : decode cX8_init 151 = .ok (.putfield 61, 3) := by decide +kernel
theorem dX8_init_154 : decode cX8_init 154 = .ok (.aload_n 0, 1) := by decide +kernel
theorem dX8_init_155 : decode cX8_init 155 = .ok (.iconst 5, 1) := by decide +kernel
theorem dX8_init_156 : decode cX8_init 156 = .ok (.newarray .int, 2) := by decide +kernel
theorem dX8_init_158 : decode cX8_init 158 = .ok (.putfield 64, 3) := by decide +kernel
theorem dX8_init_161 : decode cX8_init 161 = .ok (.aload_n 0, 1) := by decide +kernel
theorem dX8_init_162 : decode cX8_init 162 = .ok (.iconst 5, 1) := by decide +kernel
theorem dX8_init_163 : decode cX8_init 163 = .ok (.newarray .int, 2) := by decide +kernel
theorem dX8_init_165 : decode cX8_init 165 = .ok (.putfield 67, 3) := by decide +kernel
theorem dX8_init_168 : decode cX8_init 168 = .ok (.aload_n 0, 1) := by decide +kernel
theorem dX8_init_169 : decode cX8_init 169 = .ok (.iconst 5, 1) := by decide +kernel
theorem dX8_init_170 : decode cX8_init 170 = .ok (.newarray .int, 2) := by decide +kernel
theorem dX8_init_172 : decode cX8_init 172 = .ok (.putfield 70, 3) := by decide +kernel
theorem dX8_init_175 : decode cX8_init 175 = .ok (.aload_n 0, 1) := by decide +kernel
theorem dX8_init_176 : decode cX8_init 176 = .ok (.bipush 8, 2) := by decide +kernel
theorem dX8_init_178 : decode cX8_init 178 = .ok (.newarray .int, 2) := by decide +kernel
theorem dX8_init_180 : decode cX8_init 180 = .ok (.putfield 73, 3) := by decide +kernel
theorem dX8_init_183 : decode cX8_init 183 = .ok (.aload_n 0, 1) := by decide +kernel
theorem dX8_init_184 : decode cX8_init 184 = .ok (.bipush 8, 2) := by decide +kernel
theorem dX8_init_186 : decode cX8_init 186 = .ok (.newarray .int, 2) := by decide +kernel
theorem dX8_init_188 : decode cX8_init 188 = .ok (.putfield 76, 3) := by decide +kernel
theorem dX8_init_191 : decode cX8_init 191 = .ok (.aload_n 0, 1) := by decide +kernel
theorem dX8_init_192 : decode cX8_init 192 = .ok (.bipush 8, 2) := by decide +kernel
theorem dX8_init_194 : decode cX8_init 194 = .ok (.newarray .int, 2) := by decide +kernel
theorem dX8_init_196 : decode cX8_init 196 = .ok (.putfield 79, 3) := by decide +kernel
theorem dX8_init_199 : decode cX8_init 199 = .ok (.return_, 1) := by decide +kernel
theorem dX8_fails_0 : decode cX8_fails 0 = .ok (.aload_n 0, 1) := by decide +kernel
theorem dX8_fails_1 : decode cX8_fails 1 = .ok (.iload_n 1, 1) := by decide +kernel
theorem dX8_fails_2 : decode cX8_fails 2 = .ok (.putfield 82, 3) := by decide +kernel
theorem dX8_fails_5 : decode cX8_fails 5 = .ok (.bipush (-10), 2) := by decide +kernel
theorem dX8_fails_7 : decode cX8_fails 7 = .ok (.iload_n 1, 1) := by decide +kernel
theorem dX8_fails_8 : decode cX8_fails 8 = .ok (.isub, 1) := by decide +kernel
theorem dX8_fails_9 : decode cX8_fails 9 = .ok (.ireturn, 1) := by decide +kernel
theorem dX8_lost_0 : decode cX8_lost 0 = .ok (.aload_n 0, 1) := by decide +kernel
theorem dX8_lost_1 : decode cX8_lost 1 = .ok (.iload_n 1, 1) := by decide +kernel
theorem dX8_lost_2 : decode cX8_lost 2 = .ok (.putfield 82, 3) := by decide +kernel
theorem dX8_lost_5 : decode cX8_lost 5 = .ok (.ldc2_w 86, 3) := by decide +kernel
theorem dX8_lost_8 : decode cX8_lost 8 = .ok (.lreturn, 1) := by decide +kernel
theorem dX8_within_0 : decode cX8_within 0 = .ok (.iload_n 0, 1) := by decide +kernel
theorem dX8_within_1 : decode cX8_within 1 = .ok (.iload_n 1, 1) := by decide +kernel
theorem dX8_within_2 : decode cX8_within 2 = .ok (.if_icmp .lt 12, 3) := by decide +kernel
theorem dX8_within_5 : decode cX8_within 5 = .ok (.iload_n 0, 1) := by decide +kernel
theorem dX8_within_6 : decode cX8_within 6 = .ok (.iload_n 2, 1) := by decide +kernel
theorem dX8_within_7 : decode cX8_within 7 = .ok (.if_icmp .gt 7, 3) := by decide +kernel
theorem dX8_within_10 : decode cX8_within 10 = .ok (.iconst 1, 1) := by decide +kernel
theorem dX8_within_11 : decode cX8_within 11 = .ok (.goto 4, 3) := by decide +kernel
theorem dX8_within_14 : decode cX8_within 14 = .ok (.iconst 0, 1) := by decide +kernel
theorem dX8_within_15 : decode cX8_within 15 = .ok (.ireturn, 1) := by decide +kernel
theorem dX8_isSheet_0 : decode cX8_isSheet 0 = .ok (.iload_n 0, 1) := by decide +kernel
theorem dX8_isSheet_1 : decode cX8_isSheet 1 = .ok (.iconst 0, 1) := by decide +kernel
theorem dX8_isSheet_2 : decode cX8_isSheet 2 = .ok (.iconst 3, 1) := by decide +kernel
theorem dX8_isSheet_3 : decode cX8_isSheet 3 = .ok (.invokestatic 88, 3) := by decide +kernel
theorem dX8_isSheet_6 : decode cX8_isSheet 6 = .ok (.ireturn, 1) := by decide +kernel
theorem dX8_isSort_0 : decode cX8_isSort 0 = .ok (.iload_n 0, 1) := by decide +kernel
theorem dX8_isSort_1 : decode cX8_isSort 1 = .ok (.iconst 0, 1) := by decide +kernel
theorem dX8_isSort_2 : decode cX8_isSort 2 = .ok (.iconst 2, 1) := by decide +kernel
theorem dX8_isSort_3 : decode cX8_isSort 3 = .ok (.invokestatic 88, 3) := by decide +kernel
theorem dX8_isSort_6 : decode cX8_isSort 6 = .ok (.ireturn, 1) := by decide +kernel
theorem dX8_against_0 : decode cX8_against 0 = .ok (.aload_n 0, 1) := by decide +kernel
theorem dX8_against_1 : decode cX8_against 1 = .ok (.getfield 9, 3) := by decide +kernel
theorem dX8_against_4 : decode cX8_against 4 = .ok (.iload_n 1, 1) := by decide +kernel
theorem dX8_against_5 : decode cX8_against 5 = .ok (.iaload, 1) := by decide +kernel
theorem dX8_against_6 : decode cX8_against 6 = .ok (.bipush (-9), 2) := by decide +kernel
theorem dX8_against_8 : decode cX8_against 8 = .ok (.if_icmp .eq 15, 3) := by decide +kernel
theorem dX8_against_11 : decode cX8_against 11 = .ok (.aload_n 0, 1) := by decide +kernel
theorem dX8_against_12 : decode cX8_against 12 = .ok (.getfield 9, 3) := by decide +kernel
theorem dX8_against_15 : decode cX8_against 15 = .ok (.iload_n 1, 1) := by decide +kernel
theorem dX8_against_16 : decode cX8_against 16 = .ok (.iaload, 1) := by decide +kernel
theorem dX8_against_17 : decode cX8_against 17 = .ok (.iload_n 2, 1) := by decide +kernel
theorem dX8_against_18 : decode cX8_against 18 = .ok (.if_icmp .eq 5, 3) := by decide +kernel
theorem dX8_against_21 : decode cX8_against 21 = .ok (.iconst 2, 1) := by decide +kernel
theorem dX8_against_22 : decode cX8_against 22 = .ok (.ireturn, 1) := by decide +kernel
theorem dX8_against_23 : decode cX8_against 23 = .ok (.aload_n 0, 1) := by decide +kernel
theorem dX8_against_24 : decode cX8_against 24 = .ok (.getfield 9, 3) := by decide +kernel
theorem dX8_against_27 : decode cX8_against 27 = .ok (.iload_n 1, 1) := by decide +kernel
theorem dX8_against_28 : decode cX8_against 28 = .ok (.iaload, 1) := by decide +kernel
theorem dX8_against_29 : decode cX8_against 29 = .ok (.bipush (-9), 2) := by decide +kernel
theorem dX8_against_31 : decode cX8_against 31 = .ok (.if_icmp .ne 5, 3) := by decide +kernel
theorem dX8_against_34 : decode cX8_against 34 = .ok (.iconst 1, 1) := by decide +kernel
theorem dX8_against_35 : decode cX8_against 35 = .ok (.ireturn, 1) := by decide +kernel
theorem dX8_against_36 : decode cX8_against 36 = .ok (.iload 4, 2) := by decide +kernel
theorem dX8_against_38 : decode cX8_against 38 = .ok (.ifCond .ge 5, 3) := by decide +kernel
theorem dX8_against_41 : decode cX8_against 41 = .ok (.iconst 4, 1) := by decide +kernel
theorem dX8_against_42 : decode cX8_against 42 = .ok (.ireturn, 1) := by decide +kernel
theorem dX8_against_43 : decode cX8_against 43 = .ok (.iload_n 3, 1) := by decide +kernel
theorem dX8_against_44 : decode cX8_against 44 = .ok (.ifCond .lt 26, 3) := by decide +kernel
theorem dX8_against_47 : decode cX8_against 47 = .ok (.iload_n 3, 1) := by decide +kernel
theorem dX8_against_48 : decode cX8_against 48 = .ok (.aload_n 0, 1) := by decide +kernel
theorem dX8_against_49 : decode cX8_against 49 = .ok (.getfield 13, 3) := by decide +kernel
theorem dX8_against_52 : decode cX8_against 52 = .ok (.iload_n 1, 1) := by decide +kernel
theorem dX8_against_53 : decode cX8_against 53 = .ok (.iaload, 1) := by decide +kernel
theorem dX8_against_54 : decode cX8_against 54 = .ok (.if_icmp .gt 16, 3) := by decide +kernel
theorem dX8_against_57 : decode cX8_against 57 = .ok (.iload 4, 2) := by decide +kernel
theorem dX8_against_59 : decode cX8_against 59 = .ok (.aload_n 0, 1) := by decide +kernel
theorem dX8_against_60 : decode cX8_against 60 = .ok (.getfield 13, 3) := by decide +kernel
theorem dX8_against_63 : decode cX8_against 63 = .ok (.iload_n 1, 1) := by decide +kernel
theorem dX8_against_64 : decode cX8_against 64 = .ok (.iaload, 1) := by decide +kernel
theorem dX8_against_65 : decode cX8_against 65 = .ok (.iload_n 3, 1) := by decide +kernel
theorem dX8_against_66 : decode cX8_against 66 = .ok (.isub, 1) := by decide +kernel
theorem dX8_against_67 : decode cX8_against 67 = .ok (.if_icmp .le 7, 3) := by decide +kernel
theorem dX8_against_70 : decode cX8_against 70 = .ok (.iconst 3, 1) := by decide +kernel
theorem dX8_against_71 : decode cX8_against 71 = .ok (.goto 4, 3) := by decide +kernel
theorem dX8_against_74 : decode cX8_against 74 = .ok (.iconst 0, 1) := by decide +kernel
theorem dX8_against_75 : decode cX8_against 75 = .ok (.ireturn, 1) := by decide +kernel
theorem dX8_isBarrow_0 : decode cX8_isBarrow 0 = .ok (.iload_n 1, 1) := by decide +kernel
theorem dX8_isBarrow_1 : decode cX8_isBarrow 1 = .ok (.ifCond .lt 15, 3) := by decide +kernel
theorem dX8_isBarrow_4 : decode cX8_isBarrow 4 = .ok (.iload_n 1, 1) := by decide +kernel
theorem dX8_isBarrow_5 : decode cX8_isBarrow 5 = .ok (.aload_n 0, 1) := by decide +kernel
theorem dX8_isBarrow_6 : decode cX8_isBarrow 6 = .ok (.getfield 92, 3) := by decide +kernel
theorem dX8_isBarrow_9 : decode cX8_isBarrow 9 = .ok (.if_icmp .ge 7, 3) := by decide +kernel
theorem dX8_isBarrow_12 : decode cX8_isBarrow 12 = .ok (.iconst 1, 1) := by decide +kernel
theorem dX8_isBarrow_13 : decode cX8_isBarrow 13 = .ok (.goto 4, 3) := by decide +kernel
theorem dX8_isBarrow_16 : decode cX8_isBarrow 16 = .ok (.iconst 0, 1) := by decide +kernel
theorem dX8_isBarrow_17 : decode cX8_isBarrow 17 = .ok (.ireturn, 1) := by decide +kernel
theorem dX8_isWalker_0 : decode cX8_isWalker 0 = .ok (.iload_n 1, 1) := by decide +kernel
theorem dX8_isWalker_1 : decode cX8_isWalker 1 = .ok (.ifCond .lt 15, 3) := by decide +kernel
theorem dX8_isWalker_4 : decode cX8_isWalker 4 = .ok (.iload_n 1, 1) := by decide +kernel
theorem dX8_isWalker_5 : decode cX8_isWalker 5 = .ok (.aload_n 0, 1) := by decide +kernel
theorem dX8_isWalker_6 : decode cX8_isWalker 6 = .ok (.getfield 95, 3) := by decide +kernel
theorem dX8_isWalker_9 : decode cX8_isWalker 9 = .ok (.if_icmp .ge 7, 3) := by decide +kernel
theorem dX8_isWalker_12 : decode cX8_isWalker 12 = .ok (.iconst 1, 1) := by decide +kernel
theorem dX8_isWalker_13 : decode cX8_isWalker 13 = .ok (.goto 4, 3) := by decide +kernel
theorem dX8_isWalker_16 : decode cX8_isWalker 16 = .ok (.iconst 0, 1) := by decide +kernel
theorem dX8_isWalker_17 : decode cX8_isWalker 17 = .ok (.ireturn, 1) := by decide +kernel
theorem dX8_digit_0 : decode cX8_digit 0 = .ok (.aload_n 0, 1) := by decide +kernel
theorem dX8_digit_1 : decode cX8_digit 1 = .ok (.getfield 98, 3) := by decide +kernel
theorem dX8_digit_4 : decode cX8_digit 4 = .ok (.iload_n 1, 1) := by decide +kernel
theorem dX8_digit_5 : decode cX8_digit 5 = .ok (.if_icmp .ge 26, 3) := by decide +kernel
theorem dX8_digit_8 : decode cX8_digit 8 = .ok (.aload_n 0, 1) := by decide +kernel
theorem dX8_digit_9 : decode cX8_digit 9 = .ok (.getfield 16, 3) := by decide +kernel
theorem dX8_digit_12 : decode cX8_digit 12 = .ok (.aload_n 0, 1) := by decide +kernel
theorem dX8_digit_13 : decode cX8_digit 13 = .ok (.getfield 98, 3) := by decide +kernel
theorem dX8_digit_16 : decode cX8_digit 16 = .ok (.iaload, 1) := by decide +kernel
theorem dX8_digit_17 : decode cX8_digit 17 = .ok (.bipush 48, 2) := by decide +kernel
theorem dX8_digit_19 : decode cX8_digit 19 = .ok (.iload_n 2, 1) := by decide +kernel
theorem dX8_digit_20 : decode cX8_digit 20 = .ok (.iadd, 1) := by decide +kernel
theorem dX8_digit_21 : decode cX8_digit 21 = .ok (.bipush 48, 2) := by decide +kernel
theorem dX8_digit_23 : decode cX8_digit 23 = .ok (.iload_n 3, 1) := by decide +kernel
theorem dX8_digit_24 : decode cX8_digit 24 = .ok (.iadd, 1) := by decide +kernel
theorem dX8_digit_25 : decode cX8_digit 25 = .ok (.invokestatic 88, 3) := by decide +kernel
theorem dX8_digit_28 : decode cX8_digit 28 = .ok (.ifCond .ne 6, 3) := by decide +kernel
theorem dX8_digit_31 : decode cX8_digit 31 = .ok (.bipush (-9), 2) := by decide +kernel
theorem dX8_digit_33 : decode cX8_digit 33 = .ok (.ireturn, 1) := by decide +kernel
theorem dX8_digit_34 : decode cX8_digit 34 = .ok (.aload_n 0, 1) := by decide +kernel
theorem dX8_digit_35 : decode cX8_digit 35 = .ok (.dup, 1) := by decide +kernel
theorem dX8_digit_36 : decode cX8_digit 36 = .ok (.getfield 98, 3) := by decide +kernel
theorem dX8_digit_39 : decode cX8_digit 39 = .ok (.iconst 1, 1) := by decide +kernel
theorem dX8_digit_40 : decode cX8_digit 40 = .ok (.iadd, 1) := by decide +kernel
theorem dX8_digit_41 : decode cX8_digit 41 = .ok (.putfield 98, 3) := by decide +kernel
theorem dX8_digit_44 : decode cX8_digit 44 = .ok (.aload_n 0, 1) := by decide +kernel
theorem dX8_digit_45 : decode cX8_digit 45 = .ok (.getfield 16, 3) := by decide +kernel
theorem dX8_digit_48 : decode cX8_digit 48 = .ok (.aload_n 0, 1) := by decide +kernel
theorem dX8_digit_49 : decode cX8_digit 49 = .ok (.getfield 98, 3) := by decide +kernel
theorem dX8_digit_52 : decode cX8_digit 52 = .ok (.iconst 1, 1) := by decide +kernel
theorem dX8_digit_53 : decode cX8_digit 53 = .ok (.isub, 1) := by decide +kernel
theorem dX8_digit_54 : decode cX8_digit 54 = .ok (.iaload, 1) := by decide +kernel
theorem dX8_digit_55 : decode cX8_digit 55 = .ok (.bipush 48, 2) := by decide +kernel
theorem dX8_digit_57 : decode cX8_digit 57 = .ok (.isub, 1) := by decide +kernel
theorem dX8_digit_58 : decode cX8_digit 58 = .ok (.ireturn, 1) := by decide +kernel
theorem dX8_isSign_0 : decode cX8_isSign 0 = .ok (.aload_n 0, 1) := by decide +kernel
theorem dX8_isSign_1 : decode cX8_isSign 1 = .ok (.getfield 98, 3) := by decide +kernel
theorem dX8_isSign_4 : decode cX8_isSign 4 = .ok (.iload_n 1, 1) := by decide +kernel
theorem dX8_isSign_5 : decode cX8_isSign 5 = .ok (.if_icmp .ge 16, 3) := by decide +kernel
theorem dX8_isSign_8 : decode cX8_isSign 8 = .ok (.aload_n 0, 1) := by decide +kernel
theorem dX8_isSign_9 : decode cX8_isSign 9 = .ok (.getfield 16, 3) := by decide +kernel
theorem dX8_isSign_12 : decode cX8_isSign 12 = .ok (.aload_n 0, 1) := by decide +kernel
theorem dX8_isSign_13 : decode cX8_isSign 13 = .ok (.getfield 98, 3) := by decide +kernel
theorem dX8_isSign_16 : decode cX8_isSign 16 = .ok (.iaload, 1) := by decide +kernel
theorem dX8_isSign_17 : decode cX8_isSign 17 = .ok (.iload_n 2, 1) := by decide +kernel
theorem dX8_isSign_18 : decode cX8_isSign 18 = .ok (.if_icmp .eq 5, 3) := by decide +kernel
theorem dX8_isSign_21 : decode cX8_isSign 21 = .ok (.iconst 0, 1) := by decide +kernel
theorem dX8_isSign_22 : decode cX8_isSign 22 = .ok (.ireturn, 1) := by decide +kernel
theorem dX8_isSign_23 : decode cX8_isSign 23 = .ok (.aload_n 0, 1) := by decide +kernel
theorem dX8_isSign_24 : decode cX8_isSign 24 = .ok (.dup, 1) := by decide +kernel
theorem dX8_isSign_25 : decode cX8_isSign 25 = .ok (.getfield 98, 3) := by decide +kernel
theorem dX8_isSign_28 : decode cX8_isSign 28 = .ok (.iconst 1, 1) := by decide +kernel
theorem dX8_isSign_29 : decode cX8_isSign 29 = .ok (.iadd, 1) := by decide +kernel
theorem dX8_isSign_30 : decode cX8_isSign 30 = .ok (.putfield 98, 3) := by decide +kernel
theorem dX8_isSign_33 : decode cX8_isSign 33 = .ok (.iconst 1, 1) := by decide +kernel
theorem dX8_isSign_34 : decode cX8_isSign 34 = .ok (.ireturn, 1) := by decide +kernel
theorem dX8_down_0 : decode cX8_down 0 = .ok (.aload_n 0, 1) := by decide +kernel
theorem dX8_down_1 : decode cX8_down 1 = .ok (.iconst 0, 1) := by decide +kernel
theorem dX8_down_2 : decode cX8_down 2 = .ok (.putfield 82, 3) := by decide +kernel
theorem dX8_down_5 : decode cX8_down 5 = .ok (.iload_n 1, 1) := by decide +kernel
theorem dX8_down_6 : decode cX8_down 6 = .ok (.invokestatic 101, 3) := by decide +kernel
theorem dX8_down_9 : decode cX8_down 9 = .ok (.ifCond .ne 5, 3) := by decide +kernel
theorem dX8_down_12 : decode cX8_down 12 = .ok (.iconst (-1), 1) := by decide +kernel
theorem dX8_down_13 : decode cX8_down 13 = .ok (.ireturn, 1) := by decide +kernel
theorem dX8_down_14 : decode cX8_down 14 = .ok (.iload_n 2, 1) := by decide +kernel
theorem dX8_down_15 : decode cX8_down 15 = .ok (.invokestatic 105, 3) := by decide +kernel
theorem dX8_down_18 : decode cX8_down 18 = .ok (.ifCond .ne 6, 3) := by decide +kernel
theorem dX8_down_21 : decode cX8_down 21 = .ok (.bipush (-2), 2) := by decide +kernel
theorem dX8_down_23 : decode cX8_down 23 = .ok (.ireturn, 1) := by decide +kernel
theorem dX8_down_24 : decode cX8_down 24 = .ok (.aload_n 0, 1) := by decide +kernel
theorem dX8_down_25 : decode cX8_down 25 = .ok (.iload_n 1, 1) := by decide +kernel
theorem dX8_down_26 : decode cX8_down 26 = .ok (.iload_n 2, 1) := by decide +kernel
theorem dX8_down_27 : decode cX8_down 27 = .ok (.iload_n 3, 1) := by decide +kernel
theorem dX8_down_28 : decode cX8_down 28 = .ok (.iload 4, 2) := by decide +kernel
theorem dX8_down_30 : decode cX8_down 30 = .ok (.invokevirtual 108, 3) := by decide +kernel
theorem dX8_down_33 : decode cX8_down 33 = .ok (.istore 5, 2) := by decide +kernel
theorem dX8_down_35 : decode cX8_down 35 = .ok (.iload 5, 2) := by decide +kernel
theorem dX8_down_37 : decode cX8_down 37 = .ok (.ifCond .eq 10, 3) := by decide +kernel
theorem dX8_down_40 : decode cX8_down 40 = .ok (.aload_n 0, 1) := by decide +kernel
theorem dX8_down_41 : decode cX8_down 41 = .ok (.iload 5, 2) := by decide +kernel
theorem dX8_down_43 : decode cX8_down 43 = .ok (.invokevirtual 112, 3) := by decide +kernel
theorem dX8_down_46 : decode cX8_down 46 = .ok (.ireturn, 1) := by decide +kernel
theorem dX8_down_47 : decode cX8_down 47 = .ok (.bipush 60, 2) := by decide +kernel
theorem dX8_down_49 : decode cX8_down 49 = .ok (.iload_n 1, 1) := by decide +kernel
theorem dX8_down_50 : decode cX8_down 50 = .ok (.imul, 1) := by decide +kernel
theorem dX8_down_51 : decode cX8_down 51 = .ok (.iload_n 3, 1) := by decide +kernel
theorem dX8_down_52 : decode cX8_down 52 = .ok (.iadd, 1) := by decide +kernel
theorem dX8_down_53 : decode cX8_down 53 = .ok (.istore 6, 2) := by decide +kernel
theorem dX8_down_55 : decode cX8_down 55 = .ok (.aload_n 0, 1) := by decide +kernel
theorem dX8_down_56 : decode cX8_down 56 = .ok (.iload 6, 2) := by decide +kernel
theorem dX8_down_58 : decode cX8_down 58 = .ok (.putfield 98, 3) := by decide +kernel
theorem dX8_down_61 : decode cX8_down 61 = .ok (.aload_n 0, 1) := by decide +kernel
theorem dX8_down_62 : decode cX8_down 62 = .ok (.iload 6, 2) := by decide +kernel
theorem dX8_down_64 : decode cX8_down 64 = .ok (.iload 4, 2) := by decide +kernel
theorem dX8_down_66 : decode cX8_down 66 = .ok (.iadd, 1) := by decide +kernel
theorem dX8_down_67 : decode cX8_down 67 = .ok (.invokevirtual 116, 3) := by decide +kernel
theorem dX8_down_70 : decode cX8_down 70 = .ok (.ifCond .ne 14, 3) := by decide +kernel
theorem dX8_down_73 : decode cX8_down 73 = .ok (.bipush (-100), 2) := by decide +kernel
theorem dX8_down_75 : decode cX8_down 75 = .ok (.aload_n 0, 1) := by decide +kernel
theorem dX8_down_76 : decode cX8_down 76 = .ok (.getfield 98, 3) := by decide +kernel
theorem dX8_down_79 : decode cX8_down 79 = .ok (.iload 6, 2) := by decide +kernel
theorem dX8_down_81 : decode cX8_down 81 = .ok (.isub, 1) := by decide +kernel
theorem dX8_down_82 : decode cX8_down 82 = .ok (.isub, 1) := by decide +kernel
theorem dX8_down_83 : decode cX8_down 83 = .ok (.ireturn, 1) := by decide +kernel
theorem dX8_down_84 : decode cX8_down 84 = .ok (.aload_n 0, 1) := by decide +kernel
theorem dX8_down_85 : decode cX8_down 85 = .ok (.invokevirtual 119, 3) := by decide +kernel
theorem dX8_down_88 : decode cX8_down 88 = .ok (.aload_n 0, 1) := by decide +kernel
theorem dX8_down_89 : decode cX8_down 89 = .ok (.getfield 92, 3) := by decide +kernel
theorem dX8_down_92 : decode cX8_down 92 = .ok (.ireturn, 1) := by decide +kernel
theorem dX8_takeDown_0 : decode cX8_takeDown 0 = .ok (.aload_n 0, 1) := by decide +kernel
theorem dX8_takeDown_1 : decode cX8_takeDown 1 = .ok (.aload_n 0, 1) := by decide +kernel
theorem dX8_takeDown_2 : decode cX8_takeDown 2 = .ok (.getfield 122, 3) := by decide +kernel
theorem dX8_takeDown_5 : decode cX8_takeDown 5 = .ok (.putfield 92, 3) := by decide +kernel
theorem dX8_takeDown_8 : decode cX8_takeDown 8 = .ok (.iconst 0, 1) := by decide +kernel
theorem dX8_takeDown_9 : decode cX8_takeDown 9 = .ok (.istore_n 1, 1) := by decide +kernel
theorem dX8_takeDown_10 : decode cX8_takeDown 10 = .ok (.iload_n 1, 1) := by decide +kernel
theorem dX8_takeDown_11 : decode cX8_takeDown 11 = .ok (.aload_n 0, 1) := by decide +kernel
theorem dX8_takeDown_12 : decode cX8_takeDown 12 = .ok (.getfield 92, 3) := by decide +kernel
theorem dX8_takeDown_15 : decode cX8_takeDown 15 = .ok (.if_icmp .ge 71, 3) := by decide +kernel
theorem dX8_takeDown_18 : decode cX8_takeDown 18 = .ok (.aload_n 0, 1) := by decide +kernel
theorem dX8_takeDown_19 : decode cX8_takeDown 19 = .ok (.getfield 19, 3) := by decide +kernel
theorem dX8_takeDown_22 : decode cX8_takeDown 22 = .ok (.iload_n 1, 1) := by decide +kernel
theorem dX8_takeDown_23 : decode cX8_takeDown 23 = .ok (.aload_n 0, 1) := by decide +kernel
theorem dX8_takeDown_24 : decode cX8_takeDown 24 = .ok (.getfield 46, 3) := by decide +kernel
theorem dX8_takeDown_27 : decode cX8_takeDown 27 = .ok (.iconst 4, 1) := by decide +kernel
theorem dX8_takeDown_28 : decode cX8_takeDown 28 = .ok (.iload_n 1, 1) := by decide +kernel
theorem dX8_takeDown_29 : decode cX8_takeDown 29 = .ok (.imul, 1) := by decide +kernel
theorem dX8_takeDown_30 : decode cX8_takeDown 30 = .ok (.iaload, 1) := by decide +kernel
theorem dX8_takeDown_31 : decode cX8_takeDown 31 = .ok (.iastore, 1) := by decide +kernel
theorem dX8_takeDown_32 : decode cX8_takeDown 32 = .ok (.aload_n 0, 1) := by decide +kernel
theorem dX8_takeDown_33 : decode cX8_takeDown 33 = .ok (.getfield 22, 3) := by decide +kernel
theorem dX8_takeDown_36 : decode cX8_takeDown 36 = .ok (.iload_n 1, 1) := by decide +kernel
theorem dX8_takeDown_37 : decode cX8_takeDown 37 = .ok (.aload_n 0, 1) := by decide +kernel
theorem dX8_takeDown_38 : decode cX8_takeDown 38 = .ok (.getfield 46, 3) := by decide +kernel
theorem dX8_takeDown_41 : decode cX8_takeDown 41 = .ok (.iconst 4, 1) := by decide +kernel
theorem dX8_takeDown_42 : decode cX8_takeDown 42 = .ok (.iload_n 1, 1) := by decide +kernel
theorem dX8_takeDown_43 : decode cX8_takeDown 43 = .ok (.imul, 1) := by decide +kernel
theorem dX8_takeDown_44 : decode cX8_takeDown 44 = .ok (.iconst 1, 1) := by decide +kernel
theorem dX8_takeDown_45 : decode cX8_takeDown 45 = .ok (.iadd, 1) := by decide +kernel
theorem dX8_takeDown_46 : decode cX8_takeDown 46 = .ok (.iaload, 1) := by decide +kernel
theorem dX8_takeDown_47 : decode cX8_takeDown 47 = .ok (.iastore, 1) := by decide +kernel
theorem dX8_takeDown_48 : decode cX8_takeDown 48 = .ok (.aload_n 0, 1) := by decide +kernel
theorem dX8_takeDown_49 : decode cX8_takeDown 49 = .ok (.getfield 25, 3) := by decide +kernel
theorem dX8_takeDown_52 : decode cX8_takeDown 52 = .ok (.iload_n 1, 1) := by decide +kernel
theorem dX8_takeDown_53 : decode cX8_takeDown 53 = .ok (.aload_n 0, 1) := by decide +kernel
theorem dX8_takeDown_54 : decode cX8_takeDown 54 = .ok (.getfield 46, 3) := by decide +kernel
theorem dX8_takeDown_57 : decode cX8_takeDown 57 = .ok (.iconst 4, 1) := by decide +kernel
theorem dX8_takeDown_58 : decode cX8_takeDown 58 = .ok (.iload_n 1, 1) := by decide +kernel
theorem dX8_takeDown_59 : decode cX8_takeDown 59 = .ok (.imul, 1) := by decide +kernel
theorem dX8_takeDown_60 : decode cX8_takeDown 60 = .ok (.iconst 2, 1) := by decide +kernel
theorem dX8_takeDown_61 : decode cX8_takeDown 61 = .ok (.iadd, 1) := by decide +kernel
theorem dX8_takeDown_62 : decode cX8_takeDown 62 = .ok (.iaload, 1) := by decide +kernel
theorem dX8_takeDown_63 : decode cX8_takeDown 63 = .ok (.iastore, 1) := by decide +kernel
theorem dX8_takeDown_64 : decode cX8_takeDown 64 = .ok (.aload_n 0, 1) := by decide +kernel
theorem dX8_takeDown_65 : decode cX8_takeDown 65 = .ok (.getfield 28, 3) := by decide +kernel
theorem dX8_takeDown_68 : decode cX8_takeDown 68 = .ok (.iload_n 1, 1) := by decide +kernel
theorem dX8_takeDown_69 : decode cX8_takeDown 69 = .ok (.aload_n 0, 1) := by decide +kernel
theorem dX8_takeDown_70 : decode cX8_takeDown 70 = .ok (.getfield 46, 3) := by decide +kernel
theorem dX8_takeDown_73 : decode cX8_takeDown 73 = .ok (.iconst 4, 1) := by decide +kernel
theorem dX8_takeDown_74 : decode cX8_takeDown 74 = .ok (.iload_n 1, 1) := by decide +kernel
theorem dX8_takeDown_75 : decode cX8_takeDown 75 = .ok (.imul, 1) := by decide +kernel
theorem dX8_takeDown_76 : decode cX8_takeDown 76 = .ok (.iconst 3, 1) := by decide +kernel
theorem dX8_takeDown_77 : decode cX8_takeDown 77 = .ok (.iadd, 1) := by decide +kernel
theorem dX8_takeDown_78 : decode cX8_takeDown 78 = .ok (.iaload, 1) := by decide +kernel
theorem dX8_takeDown_79 : decode cX8_takeDown 79 = .ok (.iastore, 1) := by decide +kernel
theorem dX8_takeDown_80 : decode cX8_takeDown 80 = .ok (.iinc 1 1, 3) := by decide +kernel
theorem dX8_takeDown_83 : decode cX8_takeDown 83 = .ok (.goto (-73), 3) := by decide +kernel
theorem dX8_takeDown_86 : decode cX8_takeDown 86 = .ok (.aload_n 0, 1) := by decide +kernel
theorem dX8_takeDown_87 : decode cX8_takeDown 87 = .ok (.aload_n 0, 1) := by decide +kernel
theorem dX8_takeDown_88 : decode cX8_takeDown 88 = .ok (.getfield 125, 3) := by decide +kernel
theorem dX8_takeDown_91 : decode cX8_takeDown 91 = .ok (.putfield 95, 3) := by decide +kernel
theorem dX8_takeDown_94 : decode cX8_takeDown 94 = .ok (.iconst 0, 1) := by decide +kernel
theorem dX8_takeDown_95 : decode cX8_takeDown 95 = .ok (.istore_n 1, 1) := by decide +kernel
theorem dX8_takeDown_96 : decode cX8_takeDown 96 = .ok (.iload_n 1, 1) := by decide +kernel
theorem dX8_takeDown_97 : decode cX8_takeDown 97 = .ok (.aload_n 0, 1) := by decide +kernel
theorem dX8_takeDown_98 : decode cX8_takeDown 98 = .ok (.getfield 95, 3) := by decide +kernel
theorem dX8_takeDown_101 : decode cX8_takeDown 101 = .ok (.if_icmp .ge 70, 3) := by decide +kernel
theorem dX8_takeDown_104 : decode cX8_takeDown 104 = .ok (.aload_n 0, 1) := by decide +kernel
theorem dX8_takeDown_105 : decode cX8_takeDown 105 = .ok (.getfield 31, 3) := by decide +kernel
theorem dX8_takeDown_108 : decode cX8_takeDown 108 = .ok (.iload_n 1, 1) := by decide +kernel
theorem dX8_takeDown_109 : decode cX8_takeDown 109 = .ok (.aload_n 0, 1) := by decide +kernel
theorem dX8_takeDown_110 : decode cX8_takeDown 110 = .ok (.getfield 49, 3) := by decide +kernel
theorem dX8_takeDown_113 : decode cX8_takeDown 113 = .ok (.iconst 3, 1) := by decide +kernel
theorem dX8_takeDown_114 : decode cX8_takeDown 114 = .ok (.iload_n 1, 1) := by decide +kernel
theorem dX8_takeDown_115 : decode cX8_takeDown 115 = .ok (.imul, 1) := by decide +kernel
theorem dX8_takeDown_116 : decode cX8_takeDown 116 = .ok (.iaload, 1) := by decide +kernel
theorem dX8_takeDown_117 : decode cX8_takeDown 117 = .ok (.iastore, 1) := by decide +kernel
theorem dX8_takeDown_118 : decode cX8_takeDown 118 = .ok (.aload_n 0, 1) := by decide +kernel
theorem dX8_takeDown_119 : decode cX8_takeDown 119 = .ok (.getfield 34, 3) := by decide +kernel
theorem dX8_takeDown_122 : decode cX8_takeDown 122 = .ok (.iload_n 1, 1) := by decide +kernel
theorem dX8_takeDown_123 : decode cX8_takeDown 123 = .ok (.aload_n 0, 1) := by decide +kernel
theorem dX8_takeDown_124 : decode cX8_takeDown 124 = .ok (.getfield 49, 3) := by decide +kernel
theorem dX8_takeDown_127 : decode cX8_takeDown 127 = .ok (.iconst 3, 1) := by decide +kernel
theorem dX8_takeDown_128 : decode cX8_takeDown 128 = .ok (.iload_n 1, 1) := by decide +kernel
theorem dX8_takeDown_129 : decode cX8_takeDown 129 = .ok (.imul, 1) := by decide +kernel
theorem dX8_takeDown_130 : decode cX8_takeDown 130 = .ok (.iconst 1, 1) := by decide +kernel
theorem dX8_takeDown_131 : decode cX8_takeDown 131 = .ok (.iadd, 1) := by decide +kernel
theorem dX8_takeDown_132 : decode cX8_takeDown 132 = .ok (.iaload, 1) := by decide +kernel
theorem dX8_takeDown_133 : decode cX8_takeDown 133 = .ok (.iastore, 1) := by decide +kernel
theorem dX8_takeDown_134 : decode cX8_takeDown 134 = .ok (.aload_n 0, 1) := by decide +kernel
theorem dX8_takeDown_135 : decode cX8_takeDown 135 = .ok (.getfield 37, 3) := by decide +kernel
theorem dX8_takeDown_138 : decode cX8_takeDown 138 = .ok (.iload_n 1, 1) := by decide +kernel
theorem dX8_takeDown_139 : decode cX8_takeDown 139 = .ok (.aload_n 0, 1) := by decide +kernel
theorem dX8_takeDown_140 : decode cX8_takeDown 140 = .ok (.getfield 49, 3) := by decide +kernel
theorem dX8_takeDown_143 : decode cX8_takeDown 143 = .ok (.iconst 3, 1) := by decide +kernel
theorem dX8_takeDown_144 : decode cX8_takeDown 144 = .ok (.iload_n 1, 1) := by decide +kernel
theorem dX8_takeDown_145 : decode cX8_takeDown 145 = .ok (.imul, 1) := by decide +kernel
theorem dX8_takeDown_146 : decode cX8_takeDown 146 = .ok (.iconst 2, 1) := by decide +kernel
theorem dX8_takeDown_147 : decode cX8_takeDown 147 = .ok (.iadd, 1) := by decide +kernel
theorem dX8_takeDown_148 : decode cX8_takeDown 148 = .ok (.iaload, 1) := by decide +kernel
theorem dX8_takeDown_149 : decode cX8_takeDown 149 = .ok (.iastore, 1) := by decide +kernel
theorem dX8_takeDown_150 : decode cX8_takeDown 150 = .ok (.aload_n 0, 1) := by decide +kernel
theorem dX8_takeDown_151 : decode cX8_takeDown 151 = .ok (.getfield 40, 3) := by decide +kernel
theorem dX8_takeDown_154 : decode cX8_takeDown 154 = .ok (.iload_n 1, 1) := by decide +kernel
theorem dX8_takeDown_155 : decode cX8_takeDown 155 = .ok (.bipush (-9), 2) := by decide +kernel
theorem dX8_takeDown_157 : decode cX8_takeDown 157 = .ok (.iastore, 1) := by decide +kernel
theorem dX8_takeDown_158 : decode cX8_takeDown 158 = .ok (.aload_n 0, 1) := by decide +kernel
theorem dX8_takeDown_159 : decode cX8_takeDown 159 = .ok (.getfield 43, 3) := by decide +kernel
theorem dX8_takeDown_162 : decode cX8_takeDown 162 = .ok (.iload_n 1, 1) := by decide +kernel
theorem dX8_takeDown_163 : decode cX8_takeDown 163 = .ok (.iconst 0, 1) := by decide +kernel
theorem dX8_takeDown_164 : decode cX8_takeDown 164 = .ok (.iastore, 1) := by decide +kernel
theorem dX8_takeDown_165 : decode cX8_takeDown 165 = .ok (.iinc 1 1, 3) := by decide +kernel
theorem dX8_takeDown_168 : decode cX8_takeDown 168 = .ok (.goto (-72), 3) := by decide +kernel
theorem dX8_takeDown_171 : decode cX8_takeDown 171 = .ok (.aload_n 0, 1) := by decide +kernel
theorem dX8_takeDown_172 : decode cX8_takeDown 172 = .ok (.iconst 0, 1) := by decide +kernel
theorem dX8_takeDown_173 : decode cX8_takeDown 173 = .ok (.putfield 128, 3) := by decide +kernel
theorem dX8_takeDown_176 : decode cX8_takeDown 176 = .ok (.aload_n 0, 1) := by decide +kernel
theorem dX8_takeDown_177 : decode cX8_takeDown 177 = .ok (.iconst 0, 1) := by decide +kernel
theorem dX8_takeDown_178 : decode cX8_takeDown 178 = .ok (.putfield 131, 3) := by decide +kernel
theorem dX8_takeDown_181 : decode cX8_takeDown 181 = .ok (.return_, 1) := by decide +kernel
theorem dX8_readDown_0 : decode cX8_readDown 0 = .ok (.aload_n 0, 1) := by decide +kernel
theorem dX8_readDown_1 : decode cX8_readDown 1 = .ok (.iconst 0, 1) := by decide +kernel
theorem dX8_readDown_2 : decode cX8_readDown 2 = .ok (.putfield 122, 3) := by decide +kernel
theorem dX8_readDown_5 : decode cX8_readDown 5 = .ok (.aload_n 0, 1) := by decide +kernel
theorem dX8_readDown_6 : decode cX8_readDown 6 = .ok (.iconst 0, 1) := by decide +kernel
theorem dX8_readDown_7 : decode cX8_readDown 7 = .ok (.putfield 125, 3) := by decide +kernel
theorem dX8_readDown_10 : decode cX8_readDown 10 = .ok (.aload_n 0, 1) := by decide +kernel
theorem dX8_readDown_11 : decode cX8_readDown 11 = .ok (.iload_n 1, 1) := by decide +kernel
theorem dX8_readDown_12 : decode cX8_readDown 12 = .ok (.bipush 100, 2) := by decide +kernel
theorem dX8_readDown_14 : decode cX8_readDown 14 = .ok (.invokevirtual 134, 3) := by decide +kernel
theorem dX8_readDown_17 : decode cX8_readDown 17 = .ok (.ifCond .eq 21, 3) := by decide +kernel
theorem dX8_readDown_20 : decode cX8_readDown 20 = .ok (.aload_n 0, 1) := by decide +kernel
theorem dX8_readDown_21 : decode cX8_readDown 21 = .ok (.iload_n 1, 1) := by decide +kernel
theorem dX8_readDown_22 : decode cX8_readDown 22 = .ok (.bipush 59, 2) := by decide +kernel
theorem dX8_readDown_24 : decode cX8_readDown 24 = .ok (.invokevirtual 134, 3) := by decide +kernel
theorem dX8_readDown_27 : decode cX8_readDown 27 = .ok (.ifCond .eq 11, 3) := by decide +kernel
theorem dX8_readDown_30 : decode cX8_readDown 30 = .ok (.aload_n 0, 1) := by decide +kernel
theorem dX8_readDown_31 : decode cX8_readDown 31 = .ok (.iload_n 1, 1) := by decide +kernel
theorem dX8_readDown_32 : decode cX8_readDown 32 = .ok (.invokevirtual 138, 3) := by decide +kernel
theorem dX8_readDown_35 : decode cX8_readDown 35 = .ok (.ifCond .ne 5, 3) := by decide +kernel
theorem dX8_readDown_38 : decode cX8_readDown 38 = .ok (.iconst 0, 1) := by decide +kernel
theorem dX8_readDown_39 : decode cX8_readDown 39 = .ok (.ireturn, 1) := by decide +kernel
theorem dX8_readDown_40 : decode cX8_readDown 40 = .ok (.aload_n 0, 1) := by decide +kernel
theorem dX8_readDown_41 : decode cX8_readDown 41 = .ok (.getfield 122, 3) := by decide +kernel
theorem dX8_readDown_44 : decode cX8_readDown 44 = .ok (.iconst 5, 1) := by decide +kernel
theorem dX8_readDown_45 : decode cX8_readDown 45 = .ok (.if_icmp .ge 23, 3) := by decide +kernel
theorem dX8_readDown_48 : decode cX8_readDown 48 = .ok (.aload_n 0, 1) := by decide +kernel
theorem dX8_readDown_49 : decode cX8_readDown 49 = .ok (.iload_n 1, 1) := by decide +kernel
theorem dX8_readDown_50 : decode cX8_readDown 50 = .ok (.bipush 59, 2) := by decide +kernel
theorem dX8_readDown_52 : decode cX8_readDown 52 = .ok (.invokevirtual 134, 3) := by decide +kernel
theorem dX8_readDown_55 : decode cX8_readDown 55 = .ok (.ifCond .eq 13, 3) := by decide +kernel
theorem dX8_readDown_58 : decode cX8_readDown 58 = .ok (.aload_n 0, 1) := by decide +kernel
theorem dX8_readDown_59 : decode cX8_readDown 59 = .ok (.iload_n 1, 1) := by decide +kernel
theorem dX8_readDown_60 : decode cX8_readDown 60 = .ok (.invokevirtual 138, 3) := by decide +kernel
theorem dX8_readDown_63 : decode cX8_readDown 63 = .ok (.ifCond .ne (-23), 3) := by decide +kernel
theorem dX8_readDown_66 : decode cX8_readDown 66 = .ok (.iconst 0, 1) := by decide +kernel
theorem dX8_readDown_67 : decode cX8_readDown 67 = .ok (.ireturn, 1) := by decide +kernel
theorem dX8_readDown_68 : decode cX8_readDown 68 = .ok (.aload_n 0, 1) := by decide +kernel
theorem dX8_readDown_69 : decode cX8_readDown 69 = .ok (.getfield 125, 3) := by decide +kernel
theorem dX8_readDown_72 : decode cX8_readDown 72 = .ok (.ifCond .eq 19, 3) := by decide +kernel
theorem dX8_readDown_75 : decode cX8_readDown 75 = .ok (.aload_n 0, 1) := by decide +kernel
theorem dX8_readDown_76 : decode cX8_readDown 76 = .ok (.getfield 125, 3) := by decide +kernel
theorem dX8_readDown_79 : decode cX8_readDown 79 = .ok (.iconst 5, 1) := by decide +kernel
theorem dX8_readDown_80 : decode cX8_readDown 80 = .ok (.if_icmp .ge 31, 3) := by decide +kernel
theorem dX8_readDown_83 : decode cX8_readDown 83 = .ok (.aload_n 0, 1) := by decide +kernel
theorem dX8_readDown_84 : decode cX8_readDown 84 = .ok (.getfield 98, 3) := by decide +kernel
theorem dX8_readDown_87 : decode cX8_readDown 87 = .ok (.iload_n 1, 1) := by decide +kernel
theorem dX8_readDown_88 : decode cX8_readDown 88 = .ok (.if_icmp .ge 23, 3) := by decide +kernel
theorem dX8_readDown_91 : decode cX8_readDown 91 = .ok (.aload_n 0, 1) := by decide +kernel
theorem dX8_readDown_92 : decode cX8_readDown 92 = .ok (.iload_n 1, 1) := by decide +kernel
theorem dX8_readDown_93 : decode cX8_readDown 93 = .ok (.bipush 44, 2) := by decide +kernel
theorem dX8_readDown_95 : decode cX8_readDown 95 = .ok (.invokevirtual 134, 3) := by decide +kernel
theorem dX8_readDown_98 : decode cX8_readDown 98 = .ok (.ifCond .eq 11, 3) := by decide +kernel
theorem dX8_readDown_101 : decode cX8_readDown 101 = .ok (.aload_n 0, 1) := by decide +kernel
theorem dX8_readDown_102 : decode cX8_readDown 102 = .ok (.iload_n 1, 1) := by decide +kernel
theorem dX8_readDown_103 : decode cX8_readDown 103 = .ok (.invokevirtual 141, 3) := by decide +kernel
theorem dX8_readDown_106 : decode cX8_readDown 106 = .ok (.ifCond .ne (-38), 3) := by decide +kernel
theorem dX8_readDown_109 : decode cX8_readDown 109 = .ok (.iconst 0, 1) := by decide +kernel
theorem dX8_readDown_110 : decode cX8_readDown 110 = .ok (.ireturn, 1) := by decide +kernel
theorem dX8_readDown_111 : decode cX8_readDown 111 = .ok (.aload_n 0, 1) := by decide +kernel
theorem dX8_readDown_112 : decode cX8_readDown 112 = .ok (.getfield 98, 3) := by decide +kernel
theorem dX8_readDown_115 : decode cX8_readDown 115 = .ok (.iload_n 1, 1) := by decide +kernel
theorem dX8_readDown_116 : decode cX8_readDown 116 = .ok (.if_icmp .ne 7, 3) := by decide +kernel
theorem dX8_readDown_119 : decode cX8_readDown 119 = .ok (.iconst 1, 1) := by decide +kernel
theorem dX8_readDown_120 : decode cX8_readDown 120 = .ok (.goto 4, 3) := by decide +kernel
theorem dX8_readDown_123 : decode cX8_readDown 123 = .ok (.iconst 0, 1) := by decide +kernel
theorem dX8_readDown_124 : decode cX8_readDown 124 = .ok (.ireturn, 1) := by decide +kernel
theorem dX8_readBarrow_0 : decode cX8_readBarrow 0 = .ok (.aload_n 0, 1) := by decide +kernel
theorem dX8_readBarrow_1 : decode cX8_readBarrow 1 = .ok (.getfield 98, 3) := by decide +kernel
theorem dX8_readBarrow_4 : decode cX8_readBarrow 4 = .ok (.iload_n 1, 1) := by decide +kernel
theorem dX8_readBarrow_5 : decode cX8_readBarrow 5 = .ok (.if_icmp .ge 15, 3) := by decide +kernel
theorem dX8_readBarrow_8 : decode cX8_readBarrow 8 = .ok (.aload_n 0, 1) := by decide +kernel
theorem dX8_readBarrow_9 : decode cX8_readBarrow 9 = .ok (.getfield 16, 3) := by decide +kernel
theorem dX8_readBarrow_12 : decode cX8_readBarrow 12 = .ok (.aload_n 0, 1) := by decide +kernel
theorem dX8_readBarrow_13 : decode cX8_readBarrow 13 = .ok (.getfield 98, 3) := by decide +kernel
theorem dX8_readBarrow_16 : decode cX8_readBarrow 16 = .ok (.iaload, 1) := by decide +kernel
theorem dX8_readBarrow_17 : decode cX8_readBarrow 17 = .ok (.goto 4, 3) := by decide +kernel
theorem dX8_readBarrow_20 : decode cX8_readBarrow 20 = .ok (.iconst 0, 1) := by decide +kernel
theorem dX8_readBarrow_21 : decode cX8_readBarrow 21 = .ok (.istore_n 2, 1) := by decide +kernel
theorem dX8_readBarrow_22 : decode cX8_readBarrow 22 = .ok (.iconst 4, 1) := by decide +kernel
theorem dX8_readBarrow_23 : decode cX8_readBarrow 23 = .ok (.aload_n 0, 1) := by decide +kernel
theorem dX8_readBarrow_24 : decode cX8_readBarrow 24 = .ok (.getfield 122, 3) := by decide +kernel
theorem dX8_readBarrow_27 : decode cX8_readBarrow 27 = .ok (.imul, 1) := by decide +kernel
theorem dX8_readBarrow_28 : decode cX8_readBarrow 28 = .ok (.istore_n 3, 1) := by decide +kernel
theorem dX8_readBarrow_29 : decode cX8_readBarrow 29 = .ok (.aload_n 0, 1) := by decide +kernel
theorem dX8_readBarrow_30 : decode cX8_readBarrow 30 = .ok (.getfield 46, 3) := by decide +kernel
theorem dX8_readBarrow_33 : decode cX8_readBarrow 33 = .ok (.iload_n 3, 1) := by decide +kernel
theorem dX8_readBarrow_34 : decode cX8_readBarrow 34 = .ok (.iload_n 2, 1) := by decide +kernel
theorem dX8_readBarrow_35 : decode cX8_readBarrow 35 = .ok (.bipush 114, 2) := by decide +kernel
theorem dX8_readBarrow_37 : decode cX8_readBarrow 37 = .ok (.if_icmp .ne 7, 3) := by decide +kernel
theorem dX8_readBarrow_40 : decode cX8_readBarrow 40 = .ok (.iconst 0, 1) := by decide +kernel
theorem dX8_readBarrow_41 : decode cX8_readBarrow 41 = .ok (.goto 25, 3) := by decide +kernel
theorem dX8_readBarrow_44 : decode cX8_readBarrow 44 = .ok (.iload_n 2, 1) := by decide +kernel
theorem dX8_readBarrow_45 : decode cX8_readBarrow 45 = .ok (.bipush 108, 2) := by decide +kernel
theorem dX8_readBarrow_47 : decode cX8_readBarrow 47 = .ok (.if_icmp .ne 7, 3) := by decide +kernel
theorem dX8_readBarrow_50 : decode cX8_readBarrow 50 = .ok (.iconst 1, 1) := by decide +kernel
theorem dX8_readBarrow_51 : decode cX8_readBarrow 51 = .ok (.goto 15, 3) := by decide +kernel
theorem dX8_readBarrow_54 : decode cX8_readBarrow 54 = .ok (.iload_n 2, 1) := by decide +kernel
theorem dX8_readBarrow_55 : decode cX8_readBarrow 55 = .ok (.bipush 103, 2) := by decide +kernel
theorem dX8_readBarrow_57 : decode cX8_readBarrow 57 = .ok (.if_icmp .ne 7, 3) := by decide +kernel
theorem dX8_readBarrow_60 : decode cX8_readBarrow 60 = .ok (.iconst 2, 1) := by decide +kernel
theorem dX8_readBarrow_61 : decode cX8_readBarrow 61 = .ok (.goto 5, 3) := by decide +kernel
theorem dX8_readBarrow_64 : decode cX8_readBarrow 64 = .ok (.bipush (-9), 2) := by decide +kernel
theorem dX8_readBarrow_66 : decode cX8_readBarrow 66 = .ok (.iastore, 1) := by decide +kernel
theorem dX8_readBarrow_67 : decode cX8_readBarrow 67 = .ok (.aload_n 0, 1) := by decide +kernel
theorem dX8_readBarrow_68 : decode cX8_readBarrow 68 = .ok (.getfield 46, 3) := by decide +kernel
theorem dX8_readBarrow_71 : decode cX8_readBarrow 71 = .ok (.iload_n 3, 1) := by decide +kernel
theorem dX8_readBarrow_72 : decode cX8_readBarrow 72 = .ok (.iaload, 1) := by decide +kernel
theorem dX8_readBarrow_73 : decode cX8_readBarrow 73 = .ok (.bipush (-9), 2) := by decide +kernel
theorem dX8_readBarrow_75 : decode cX8_readBarrow 75 = .ok (.if_icmp .ne 5, 3) := by decide +kernel
theorem dX8_readBarrow_78 : decode cX8_readBarrow 78 = .ok (.iconst 0, 1) := by decide +kernel
theorem dX8_readBarrow_79 : decode cX8_readBarrow 79 = .ok (.ireturn, 1) := by decide +kernel
theorem dX8_readBarrow_80 : decode cX8_readBarrow 80 = .ok (.aload_n 0, 1) := by decide +kernel
theorem dX8_readBarrow_81 : decode cX8_readBarrow 81 = .ok (.dup, 1) := by decide +kernel
theorem dX8_readBarrow_82 : decode cX8_readBarrow 82 = .ok (.getfield 98, 3) := by decide +kernel
theorem dX8_readBarrow_85 : decode cX8_readBarrow 85 = .ok (.iconst 1, 1) := by decide +kernel
theorem dX8_readBarrow_86 : decode cX8_readBarrow 86 = .ok (.iadd, 1) := by decide +kernel
theorem dX8_readBarrow_87 : decode cX8_readBarrow 87 = .ok (.putfield 98, 3) := by decide +kernel
theorem dX8_readBarrow_90 : decode cX8_readBarrow 90 = .ok (.aload_n 0, 1) := by decide +kernel
theorem dX8_readBarrow_91 : decode cX8_readBarrow 91 = .ok (.getfield 46, 3) := by decide +kernel
theorem dX8_readBarrow_94 : decode cX8_readBarrow 94 = .ok (.iload_n 3, 1) := by decide +kernel
theorem dX8_readBarrow_95 : decode cX8_readBarrow 95 = .ok (.iconst 1, 1) := by decide +kernel
theorem dX8_readBarrow_96 : decode cX8_readBarrow 96 = .ok (.iadd, 1) := by decide +kernel
theorem dX8_readBarrow_97 : decode cX8_readBarrow 97 = .ok (.aload_n 0, 1) := by decide +kernel
theorem dX8_readBarrow_98 : decode cX8_readBarrow 98 = .ok (.iload_n 1, 1) := by decide +kernel
theorem dX8_readBarrow_99 : decode cX8_readBarrow 99 = .ok (.iconst 1, 1) := by decide +kernel
theorem dX8_readBarrow_100 : decode cX8_readBarrow 100 = .ok (.iconst 4, 1) := by decide +kernel
theorem dX8_readBarrow_101 : decode cX8_readBarrow 101 = .ok (.invokevirtual 144, 3) := by decide +kernel
theorem dX8_readBarrow_104 : decode cX8_readBarrow 104 = .ok (.iastore, 1) := by decide +kernel
theorem dX8_readBarrow_105 : decode cX8_readBarrow 105 = .ok (.aload_n 0, 1) := by decide +kernel
theorem dX8_readBarrow_106 : decode cX8_readBarrow 106 = .ok (.getfield 46, 3) := by decide +kernel
theorem dX8_readBarrow_109 : decode cX8_readBarrow 109 = .ok (.iload_n 3, 1) := by decide +kernel
theorem dX8_readBarrow_110 : decode cX8_readBarrow 110 = .ok (.iconst 1, 1) := by decide +kernel
theorem dX8_readBarrow_111 : decode cX8_readBarrow 111 = .ok (.iadd, 1) := by decide +kernel
theorem dX8_readBarrow_112 : decode cX8_readBarrow 112 = .ok (.iaload, 1) := by decide +kernel
theorem dX8_readBarrow_113 : decode cX8_readBarrow 113 = .ok (.bipush (-9), 2) := by decide +kernel
theorem dX8_readBarrow_115 : decode cX8_readBarrow 115 = .ok (.if_icmp .ne 5, 3) := by decide +kernel
theorem dX8_readBarrow_118 : decode cX8_readBarrow 118 = .ok (.iconst 0, 1) := by decide +kernel
theorem dX8_readBarrow_119 : decode cX8_readBarrow 119 = .ok (.ireturn, 1) := by decide +kernel
theorem dX8_readBarrow_120 : decode cX8_readBarrow 120 = .ok (.aload_n 0, 1) := by decide +kernel
theorem dX8_readBarrow_121 : decode cX8_readBarrow 121 = .ok (.getfield 46, 3) := by decide +kernel
theorem dX8_readBarrow_124 : decode cX8_readBarrow 124 = .ok (.iload_n 3, 1) := by decide +kernel
theorem dX8_readBarrow_125 : decode cX8_readBarrow 125 = .ok (.iconst 2, 1) := by decide +kernel
theorem dX8_readBarrow_126 : decode cX8_readBarrow 126 = .ok (.iadd, 1) := by decide +kernel
theorem dX8_readBarrow_127 : decode cX8_readBarrow 127 = .ok (.aload_n 0, 1) := by decide +kernel
theorem dX8_readBarrow_128 : decode cX8_readBarrow 128 = .ok (.iload_n 1, 1) := by decide +kernel
theorem dX8_readBarrow_129 : decode cX8_readBarrow 129 = .ok (.iconst 0, 1) := by decide +kernel
theorem dX8_readBarrow_130 : decode cX8_readBarrow 130 = .ok (.bipush 9, 2) := by decide +kernel
theorem dX8_readBarrow_132 : decode cX8_readBarrow 132 = .ok (.invokevirtual 144, 3) := by decide +kernel
theorem dX8_readBarrow_135 : decode cX8_readBarrow 135 = .ok (.iastore, 1) := by decide +kernel
theorem dX8_readBarrow_136 : decode cX8_readBarrow 136 = .ok (.aload_n 0, 1) := by decide +kernel
theorem dX8_readBarrow_137 : decode cX8_readBarrow 137 = .ok (.getfield 46, 3) := by decide +kernel
theorem dX8_readBarrow_140 : decode cX8_readBarrow 140 = .ok (.iload_n 3, 1) := by decide +kernel
theorem dX8_readBarrow_141 : decode cX8_readBarrow 141 = .ok (.iconst 2, 1) := by decide +kernel
theorem dX8_readBarrow_142 : decode cX8_readBarrow 142 = .ok (.iadd, 1) := by decide +kernel
theorem dX8_readBarrow_143 : decode cX8_readBarrow 143 = .ok (.iaload, 1) := by decide +kernel
theorem dX8_readBarrow_144 : decode cX8_readBarrow 144 = .ok (.bipush (-9), 2) := by decide +kernel
theorem dX8_readBarrow_146 : decode cX8_readBarrow 146 = .ok (.if_icmp .ne 5, 3) := by decide +kernel
theorem dX8_readBarrow_149 : decode cX8_readBarrow 149 = .ok (.iconst 0, 1) := by decide +kernel
theorem dX8_readBarrow_150 : decode cX8_readBarrow 150 = .ok (.ireturn, 1) := by decide +kernel
theorem dX8_readBarrow_151 : decode cX8_readBarrow 151 = .ok (.aload_n 0, 1) := by decide +kernel
theorem dX8_readBarrow_152 : decode cX8_readBarrow 152 = .ok (.getfield 46, 3) := by decide +kernel
theorem dX8_readBarrow_155 : decode cX8_readBarrow 155 = .ok (.iload_n 3, 1) := by decide +kernel
theorem dX8_readBarrow_156 : decode cX8_readBarrow 156 = .ok (.iconst 3, 1) := by decide +kernel
theorem dX8_readBarrow_157 : decode cX8_readBarrow 157 = .ok (.iadd, 1) := by decide +kernel
theorem dX8_readBarrow_158 : decode cX8_readBarrow 158 = .ok (.aload_n 0, 1) := by decide +kernel
theorem dX8_readBarrow_159 : decode cX8_readBarrow 159 = .ok (.iload_n 1, 1) := by decide +kernel
theorem dX8_readBarrow_160 : decode cX8_readBarrow 160 = .ok (.iconst 0, 1) := by decide +kernel
theorem dX8_readBarrow_161 : decode cX8_readBarrow 161 = .ok (.bipush 9, 2) := by decide +kernel
theorem dX8_readBarrow_163 : decode cX8_readBarrow 163 = .ok (.invokevirtual 144, 3) := by decide +kernel
theorem dX8_readBarrow_166 : decode cX8_readBarrow 166 = .ok (.iastore, 1) := by decide +kernel
theorem dX8_readBarrow_167 : decode cX8_readBarrow 167 = .ok (.aload_n 0, 1) := by decide +kernel
theorem dX8_readBarrow_168 : decode cX8_readBarrow 168 = .ok (.dup, 1) := by decide +kernel
theorem dX8_readBarrow_169 : decode cX8_readBarrow 169 = .ok (.getfield 122, 3) := by decide +kernel
theorem dX8_readBarrow_172 : decode cX8_readBarrow 172 = .ok (.iconst 1, 1) := by decide +kernel
theorem dX8_readBarrow_173 : decode cX8_readBarrow 173 = .ok (.iadd, 1) := by decide +kernel
theorem dX8_readBarrow_174 : decode cX8_readBarrow 174 = .ok (.putfield 122, 3) := by decide +kernel
theorem dX8_readBarrow_177 : decode cX8_readBarrow 177 = .ok (.aload_n 0, 1) := by decide +kernel
theorem dX8_readBarrow_178 : decode cX8_readBarrow 178 = .ok (.getfield 46, 3) := by decide +kernel
theorem dX8_readBarrow_181 : decode cX8_readBarrow 181 = .ok (.iload_n 3, 1) := by decide +kernel
theorem dX8_readBarrow_182 : decode cX8_readBarrow 182 = .ok (.iconst 3, 1) := by decide +kernel
theorem dX8_readBarrow_183 : decode cX8_readBarrow 183 = .ok (.iadd, 1) := by decide +kernel
theorem dX8_readBarrow_184 : decode cX8_readBarrow 184 = .ok (.iaload, 1) := by decide +kernel
theorem dX8_readBarrow_185 : decode cX8_readBarrow 185 = .ok (.bipush (-9), 2) := by decide +kernel
theorem dX8_readBarrow_187 : decode cX8_readBarrow 187 = .ok (.if_icmp .eq 7, 3) := by decide +kernel
theorem dX8_readBarrow_190 : decode cX8_readBarrow 190 = .ok (.iconst 1, 1) := by decide +kernel
theorem dX8_readBarrow_191 : decode cX8_readBarrow 191 = .ok (.goto 4, 3) := by decide +kernel
theorem dX8_readBarrow_194 : decode cX8_readBarrow 194 = .ok (.iconst 0, 1) := by decide +kernel
theorem dX8_readBarrow_195 : decode cX8_readBarrow 195 = .ok (.ireturn, 1) := by decide +kernel
theorem dX8_readWalker_0 : decode cX8_readWalker 0 = .ok (.iconst 3, 1) := by decide +kernel
theorem dX8_readWalker_1 : decode cX8_readWalker 1 = .ok (.aload_n 0, 1) := by decide +kernel
theorem dX8_readWalker_2 : decode cX8_readWalker 2 = .ok (.getfield 125, 3) := by decide +kernel
theorem dX8_readWalker_5 : decode cX8_readWalker 5 = .ok (.imul, 1) := by decide +kernel
theorem dX8_readWalker_6 : decode cX8_readWalker 6 = .ok (.istore_n 2, 1) := by decide +kernel
theorem dX8_readWalker_7 : decode cX8_readWalker 7 = .ok (.aload_n 0, 1) := by decide +kernel
theorem dX8_readWalker_8 : decode cX8_readWalker 8 = .ok (.getfield 49, 3) := by decide +kernel
theorem dX8_readWalker_11 : decode cX8_readWalker 11 = .ok (.iload_n 2, 1) := by decide +kernel
theorem dX8_readWalker_12 : decode cX8_readWalker 12 = .ok (.aload_n 0, 1) := by decide +kernel
theorem dX8_readWalker_13 : decode cX8_readWalker 13 = .ok (.iload_n 1, 1) := by decide +kernel
theorem dX8_readWalker_14 : decode cX8_readWalker 14 = .ok (.iconst 0, 1) := by decide +kernel
theorem dX8_readWalker_15 : decode cX8_readWalker 15 = .ok (.bipush 9, 2) := by decide +kernel
theorem dX8_readWalker_17 : decode cX8_readWalker 17 = .ok (.invokevirtual 144, 3) := by decide +kernel
theorem dX8_readWalker_20 : decode cX8_readWalker 20 = .ok (.iastore, 1) := by decide +kernel
theorem dX8_readWalker_21 : decode cX8_readWalker 21 = .ok (.aload_n 0, 1) := by decide +kernel
theorem dX8_readWalker_22 : decode cX8_readWalker 22 = .ok (.getfield 49, 3) := by decide +kernel
theorem dX8_readWalker_25 : decode cX8_readWalker 25 = .ok (.iload_n 2, 1) := by decide +kernel
theorem dX8_readWalker_26 : decode cX8_readWalker 26 = .ok (.iaload, 1) := by decide +kernel
theorem dX8_readWalker_27 : decode cX8_readWalker 27 = .ok (.bipush (-9), 2) := by decide +kernel
theorem dX8_readWalker_29 : decode cX8_readWalker 29 = .ok (.if_icmp .ne 5, 3) := by decide +kernel
theorem dX8_readWalker_32 : decode cX8_readWalker 32 = .ok (.iconst 0, 1) := by decide +kernel
theorem dX8_readWalker_33 : decode cX8_readWalker 33 = .ok (.ireturn, 1) := by decide +kernel
theorem dX8_readWalker_34 : decode cX8_readWalker 34 = .ok (.aload_n 0, 1) := by decide +kernel
theorem dX8_readWalker_35 : decode cX8_readWalker 35 = .ok (.getfield 49, 3) := by decide +kernel
theorem dX8_readWalker_38 : decode cX8_readWalker 38 = .ok (.iload_n 2, 1) := by decide +kernel
theorem dX8_readWalker_39 : decode cX8_readWalker 39 = .ok (.iconst 1, 1) := by decide +kernel
theorem dX8_readWalker_40 : decode cX8_readWalker 40 = .ok (.iadd, 1) := by decide +kernel
theorem dX8_readWalker_41 : decode cX8_readWalker 41 = .ok (.aload_n 0, 1) := by decide +kernel
theorem dX8_readWalker_42 : decode cX8_readWalker 42 = .ok (.iload_n 1, 1) := by decide +kernel
theorem dX8_readWalker_43 : decode cX8_readWalker 43 = .ok (.iconst 0, 1) := by decide +kernel
theorem dX8_readWalker_44 : decode cX8_readWalker 44 = .ok (.bipush 9, 2) := by decide +kernel
theorem dX8_readWalker_46 : decode cX8_readWalker 46 = .ok (.invokevirtual 144, 3) := by decide +kernel
theorem dX8_readWalker_49 : decode cX8_readWalker 49 = .ok (.iastore, 1) := by decide +kernel
theorem dX8_readWalker_50 : decode cX8_readWalker 50 = .ok (.aload_n 0, 1) := by decide +kernel
theorem dX8_readWalker_51 : decode cX8_readWalker 51 = .ok (.getfield 49, 3) := by decide +kernel
theorem dX8_readWalker_54 : decode cX8_readWalker 54 = .ok (.iload_n 2, 1) := by decide +kernel
theorem dX8_readWalker_55 : decode cX8_readWalker 55 = .ok (.iconst 1, 1) := by decide +kernel
theorem dX8_readWalker_56 : decode cX8_readWalker 56 = .ok (.iadd, 1) := by decide +kernel
theorem dX8_readWalker_57 : decode cX8_readWalker 57 = .ok (.iaload, 1) := by decide +kernel
theorem dX8_readWalker_58 : decode cX8_readWalker 58 = .ok (.bipush (-9), 2) := by decide +kernel
theorem dX8_readWalker_60 : decode cX8_readWalker 60 = .ok (.if_icmp .ne 5, 3) := by decide +kernel
theorem dX8_readWalker_63 : decode cX8_readWalker 63 = .ok (.iconst 0, 1) := by decide +kernel
theorem dX8_readWalker_64 : decode cX8_readWalker 64 = .ok (.ireturn, 1) := by decide +kernel
theorem dX8_readWalker_65 : decode cX8_readWalker 65 = .ok (.aload_n 0, 1) := by decide +kernel
theorem dX8_readWalker_66 : decode cX8_readWalker 66 = .ok (.getfield 49, 3) := by decide +kernel
theorem dX8_readWalker_69 : decode cX8_readWalker 69 = .ok (.iload_n 2, 1) := by decide +kernel
theorem dX8_readWalker_70 : decode cX8_readWalker 70 = .ok (.iconst 2, 1) := by decide +kernel
theorem dX8_readWalker_71 : decode cX8_readWalker 71 = .ok (.iadd, 1) := by decide +kernel
theorem dX8_readWalker_72 : decode cX8_readWalker 72 = .ok (.aload_n 0, 1) := by decide +kernel
theorem dX8_readWalker_73 : decode cX8_readWalker 73 = .ok (.iload_n 1, 1) := by decide +kernel
theorem dX8_readWalker_74 : decode cX8_readWalker 74 = .ok (.iconst 1, 1) := by decide +kernel
theorem dX8_readWalker_75 : decode cX8_readWalker 75 = .ok (.bipush 9, 2) := by decide +kernel
theorem dX8_readWalker_77 : decode cX8_readWalker 77 = .ok (.invokevirtual 144, 3) := by decide +kernel
theorem dX8_readWalker_80 : decode cX8_readWalker 80 = .ok (.iastore, 1) := by decide +kernel
theorem dX8_readWalker_81 : decode cX8_readWalker 81 = .ok (.aload_n 0, 1) := by decide +kernel
theorem dX8_readWalker_82 : decode cX8_readWalker 82 = .ok (.dup, 1) := by decide +kernel
theorem dX8_readWalker_83 : decode cX8_readWalker 83 = .ok (.getfield 125, 3) := by decide +kernel
theorem dX8_readWalker_86 : decode cX8_readWalker 86 = .ok (.iconst 1, 1) := by decide +kernel
theorem dX8_readWalker_87 : decode cX8_readWalker 87 = .ok (.iadd, 1) := by decide +kernel
theorem dX8_readWalker_88 : decode cX8_readWalker 88 = .ok (.putfield 125, 3) := by decide +kernel
theorem dX8_readWalker_91 : decode cX8_readWalker 91 = .ok (.aload_n 0, 1) := by decide +kernel
theorem dX8_readWalker_92 : decode cX8_readWalker 92 = .ok (.getfield 49, 3) := by decide +kernel
theorem dX8_readWalker_95 : decode cX8_readWalker 95 = .ok (.iload_n 2, 1) := by decide +kernel
theorem dX8_readWalker_96 : decode cX8_readWalker 96 = .ok (.iconst 2, 1) := by decide +kernel
theorem dX8_readWalker_97 : decode cX8_readWalker 97 = .ok (.iadd, 1) := by decide +kernel
theorem dX8_readWalker_98 : decode cX8_readWalker 98 = .ok (.iaload, 1) := by decide +kernel
theorem dX8_readWalker_99 : decode cX8_readWalker 99 = .ok (.bipush (-9), 2) := by decide +kernel
theorem dX8_readWalker_101 : decode cX8_readWalker 101 = .ok (.if_icmp .eq 7, 3) := by decide +kernel
end
section
theorem dX8_readWalker_104 : decode cX8_readWalker 104 = .ok (.iconst 1, 1) := by decide +kernel
theorem dX8_readWalker_105 : decode cX8_readWalker 105 = .ok (.goto 4, 3) := by decide +kernel
theorem dX8_readWalker_108 : decode cX8_readWalker 108 = .ok (.iconst 0, 1) := by decide +kernel
theorem dX8_readWalker_109 : decode cX8_readWalker 109 = .ok (.ireturn, 1) := by decide +kernel
theorem dX8_holdsBy_0 : decode cX8_holdsBy 0 = .ok (.iload_n 0, 1) := by decide +kernel
theorem dX8_holdsBy_1 : decode cX8_holdsBy 1 = .ok (.ifCond .ne 7, 3) := by decide +kernel
theorem dX8_holdsBy_4 : decode cX8_holdsBy 4 = .ok (.iload_n 1, 1) := by decide +kernel
theorem dX8_holdsBy_5 : decode cX8_holdsBy 5 = .ok (.goto 17, 3) := by decide +kernel
theorem dX8_holdsBy_8 : decode cX8_holdsBy 8 = .ok (.iload_n 0, 1) := by decide +kernel
theorem dX8_holdsBy_9 : decode cX8_holdsBy 9 = .ok (.iconst 1, 1) := by decide +kernel
theorem dX8_holdsBy_10 : decode cX8_holdsBy 10 = .ok (.if_icmp .ne 9, 3) := by decide +kernel
theorem dX8_holdsBy_13 : decode cX8_holdsBy 13 = .ok (.iconst 2, 1) := by decide +kernel
theorem dX8_holdsBy_14 : decode cX8_holdsBy 14 = .ok (.iload_n 1, 1) := by decide +kernel
theorem dX8_holdsBy_15 : decode cX8_holdsBy 15 = .ok (.imul, 1) := by decide +kernel
theorem dX8_holdsBy_16 : decode cX8_holdsBy 16 = .ok (.goto 6, 3) := by decide +kernel
theorem dX8_holdsBy_19 : decode cX8_holdsBy 19 = .ok (.iload_n 1, 1) := by decide +kernel
theorem dX8_holdsBy_20 : decode cX8_holdsBy 20 = .ok (.iconst 1, 1) := by decide +kernel
theorem dX8_holdsBy_21 : decode cX8_holdsBy 21 = .ok (.iadd, 1) := by decide +kernel
theorem dX8_holdsBy_22 : decode cX8_holdsBy 22 = .ok (.ireturn, 1) := by decide +kernel
theorem dX8_holdsOf_0 : decode cX8_holdsOf 0 = .ok (.aload_n 0, 1) := by decide +kernel
theorem dX8_holdsOf_1 : decode cX8_holdsOf 1 = .ok (.getfield 19, 3) := by decide +kernel
theorem dX8_holdsOf_4 : decode cX8_holdsOf 4 = .ok (.iload_n 1, 1) := by decide +kernel
theorem dX8_holdsOf_5 : decode cX8_holdsOf 5 = .ok (.iaload, 1) := by decide +kernel
theorem dX8_holdsOf_6 : decode cX8_holdsOf 6 = .ok (.aload_n 0, 1) := by decide +kernel
theorem dX8_holdsOf_7 : decode cX8_holdsOf 7 = .ok (.getfield 22, 3) := by decide +kernel
theorem dX8_holdsOf_10 : decode cX8_holdsOf 10 = .ok (.iload_n 1, 1) := by decide +kernel
theorem dX8_holdsOf_11 : decode cX8_holdsOf 11 = .ok (.iaload, 1) := by decide +kernel
theorem dX8_holdsOf_12 : decode cX8_holdsOf 12 = .ok (.invokestatic 148, 3) := by decide +kernel
theorem dX8_holdsOf_15 : decode cX8_holdsOf 15 = .ok (.ireturn, 1) := by decide +kernel
theorem dX8_lodgersOf_0 : decode cX8_lodgersOf 0 = .ok (.iconst 0, 1) := by decide +kernel
theorem dX8_lodgersOf_1 : decode cX8_lodgersOf 1 = .ok (.istore_n 2, 1) := by decide +kernel
theorem dX8_lodgersOf_2 : decode cX8_lodgersOf 2 = .ok (.iconst 0, 1) := by decide +kernel
theorem dX8_lodgersOf_3 : decode cX8_lodgersOf 3 = .ok (.istore_n 3, 1) := by decide +kernel
theorem dX8_lodgersOf_4 : decode cX8_lodgersOf 4 = .ok (.iload_n 3, 1) := by decide +kernel
theorem dX8_lodgersOf_5 : decode cX8_lodgersOf 5 = .ok (.aload_n 0, 1) := by decide +kernel
theorem dX8_lodgersOf_6 : decode cX8_lodgersOf 6 = .ok (.getfield 95, 3) := by decide +kernel
theorem dX8_lodgersOf_9 : decode cX8_lodgersOf 9 = .ok (.if_icmp .ge 29, 3) := by decide +kernel
theorem dX8_lodgersOf_12 : decode cX8_lodgersOf 12 = .ok (.iload_n 2, 1) := by decide +kernel
theorem dX8_lodgersOf_13 : decode cX8_lodgersOf 13 = .ok (.aload_n 0, 1) := by decide +kernel
theorem dX8_lodgersOf_14 : decode cX8_lodgersOf 14 = .ok (.getfield 40, 3) := by decide +kernel
theorem dX8_lodgersOf_17 : decode cX8_lodgersOf 17 = .ok (.iload_n 3, 1) := by decide +kernel
theorem dX8_lodgersOf_18 : decode cX8_lodgersOf 18 = .ok (.iaload, 1) := by decide +kernel
theorem dX8_lodgersOf_19 : decode cX8_lodgersOf 19 = .ok (.iload_n 1, 1) := by decide +kernel
theorem dX8_lodgersOf_20 : decode cX8_lodgersOf 20 = .ok (.if_icmp .ne 9, 3) := by decide +kernel
theorem dX8_lodgersOf_23 : decode cX8_lodgersOf 23 = .ok (.iconst 1, 1) := by decide +kernel
theorem dX8_lodgersOf_24 : decode cX8_lodgersOf 24 = .ok (.iload_n 3, 1) := by decide +kernel
theorem dX8_lodgersOf_25 : decode cX8_lodgersOf 25 = .ok (.ishl, 1) := by decide +kernel
theorem dX8_lodgersOf_26 : decode cX8_lodgersOf 26 = .ok (.goto 4, 3) := by decide +kernel
theorem dX8_lodgersOf_29 : decode cX8_lodgersOf 29 = .ok (.iconst 0, 1) := by decide +kernel
theorem dX8_lodgersOf_30 : decode cX8_lodgersOf 30 = .ok (.ior, 1) := by decide +kernel
theorem dX8_lodgersOf_31 : decode cX8_lodgersOf 31 = .ok (.istore_n 2, 1) := by decide +kernel
theorem dX8_lodgersOf_32 : decode cX8_lodgersOf 32 = .ok (.iinc 3 1, 3) := by decide +kernel
theorem dX8_lodgersOf_35 : decode cX8_lodgersOf 35 = .ok (.goto (-31), 3) := by decide +kernel
theorem dX8_lodgersOf_38 : decode cX8_lodgersOf 38 = .ok (.iload_n 2, 1) := by decide +kernel
theorem dX8_lodgersOf_39 : decode cX8_lodgersOf 39 = .ok (.ireturn, 1) := by decide +kernel
theorem dX8_size_0 : decode cX8_size 0 = .ok (.iconst 0, 1) := by decide +kernel
theorem dX8_size_1 : decode cX8_size 1 = .ok (.istore_n 1, 1) := by decide +kernel
theorem dX8_size_2 : decode cX8_size 2 = .ok (.iload_n 0, 1) := by decide +kernel
theorem dX8_size_3 : decode cX8_size 3 = .ok (.istore_n 2, 1) := by decide +kernel
theorem dX8_size_4 : decode cX8_size 4 = .ok (.iload_n 2, 1) := by decide +kernel
theorem dX8_size_5 : decode cX8_size 5 = .ok (.ifCond .le 16, 3) := by decide +kernel
theorem dX8_size_8 : decode cX8_size 8 = .ok (.iload_n 1, 1) := by decide +kernel
theorem dX8_size_9 : decode cX8_size 9 = .ok (.iload_n 2, 1) := by decide +kernel
theorem dX8_size_10 : decode cX8_size 10 = .ok (.iconst 1, 1) := by decide +kernel
theorem dX8_size_11 : decode cX8_size 11 = .ok (.iand, 1) := by decide +kernel
theorem dX8_size_12 : decode cX8_size 12 = .ok (.iadd, 1) := by decide +kernel
theorem dX8_size_13 : decode cX8_size 13 = .ok (.istore_n 1, 1) := by decide +kernel
theorem dX8_size_14 : decode cX8_size 14 = .ok (.iload_n 2, 1) := by decide +kernel
theorem dX8_size_15 : decode cX8_size 15 = .ok (.iconst 1, 1) := by decide +kernel
theorem dX8_size_16 : decode cX8_size 16 = .ok (.ishr, 1) := by decide +kernel
theorem dX8_size_17 : decode cX8_size 17 = .ok (.istore_n 2, 1) := by decide +kernel
theorem dX8_size_18 : decode cX8_size 18 = .ok (.goto (-14), 3) := by decide +kernel
theorem dX8_size_21 : decode cX8_size 21 = .ok (.iload_n 1, 1) := by decide +kernel
theorem dX8_size_22 : decode cX8_size 22 = .ok (.ireturn, 1) := by decide +kernel
theorem dX8_ofBarrow_0 : decode cX8_ofBarrow 0 = .ok (.aload_n 0, 1) := by decide +kernel
theorem dX8_ofBarrow_1 : decode cX8_ofBarrow 1 = .ok (.iload_n 1, 1) := by decide +kernel
theorem dX8_ofBarrow_2 : decode cX8_ofBarrow 2 = .ok (.invokevirtual 152, 3) := by decide +kernel
theorem dX8_ofBarrow_5 : decode cX8_ofBarrow 5 = .ok (.ifCond .ne 5, 3) := by decide +kernel
theorem dX8_ofBarrow_8 : decode cX8_ofBarrow 8 = .ok (.iconst (-1), 1) := by decide +kernel
theorem dX8_ofBarrow_9 : decode cX8_ofBarrow 9 = .ok (.ireturn, 1) := by decide +kernel
theorem dX8_ofBarrow_10 : decode cX8_ofBarrow 10 = .ok (.iload_n 2, 1) := by decide +kernel
theorem dX8_ofBarrow_11 : decode cX8_ofBarrow 11 = .ok (.tableswitch 77 0 5 #[37, 44, 51, 58, 65, 71], 37) := by decide +kernel
theorem dX8_ofBarrow_48 : decode cX8_ofBarrow 48 = .ok (.aload_n 0, 1) := by decide +kernel
theorem dX8_ofBarrow_49 : decode cX8_ofBarrow 49 = .ok (.getfield 19, 3) := by decide +kernel
theorem dX8_ofBarrow_52 : decode cX8_ofBarrow 52 = .ok (.iload_n 1, 1) := by decide +kernel
theorem dX8_ofBarrow_53 : decode cX8_ofBarrow 53 = .ok (.iaload, 1) := by decide +kernel
theorem dX8_ofBarrow_54 : decode cX8_ofBarrow 54 = .ok (.ireturn, 1) := by decide +kernel
theorem dX8_ofBarrow_55 : decode cX8_ofBarrow 55 = .ok (.aload_n 0, 1) := by decide +kernel
theorem dX8_ofBarrow_56 : decode cX8_ofBarrow 56 = .ok (.getfield 22, 3) := by decide +kernel
theorem dX8_ofBarrow_59 : decode cX8_ofBarrow 59 = .ok (.iload_n 1, 1) := by decide +kernel
theorem dX8_ofBarrow_60 : decode cX8_ofBarrow 60 = .ok (.iaload, 1) := by decide +kernel
theorem dX8_ofBarrow_61 : decode cX8_ofBarrow 61 = .ok (.ireturn, 1) := by decide +kernel
theorem dX8_ofBarrow_62 : decode cX8_ofBarrow 62 = .ok (.aload_n 0, 1) := by decide +kernel
theorem dX8_ofBarrow_63 : decode cX8_ofBarrow 63 = .ok (.getfield 25, 3) := by decide +kernel
theorem dX8_ofBarrow_66 : decode cX8_ofBarrow 66 = .ok (.iload_n 1, 1) := by decide +kernel
theorem dX8_ofBarrow_67 : decode cX8_ofBarrow 67 = .ok (.iaload, 1) := by decide +kernel
theorem dX8_ofBarrow_68 : decode cX8_ofBarrow 68 = .ok (.ireturn, 1) := by decide +kernel
theorem dX8_ofBarrow_69 : decode cX8_ofBarrow 69 = .ok (.aload_n 0, 1) := by decide +kernel
theorem dX8_ofBarrow_70 : decode cX8_ofBarrow 70 = .ok (.getfield 28, 3) := by decide +kernel
theorem dX8_ofBarrow_73 : decode cX8_ofBarrow 73 = .ok (.iload_n 1, 1) := by decide +kernel
theorem dX8_ofBarrow_74 : decode cX8_ofBarrow 74 = .ok (.iaload, 1) := by decide +kernel
theorem dX8_ofBarrow_75 : decode cX8_ofBarrow 75 = .ok (.ireturn, 1) := by decide +kernel
theorem dX8_ofBarrow_76 : decode cX8_ofBarrow 76 = .ok (.aload_n 0, 1) := by decide +kernel
theorem dX8_ofBarrow_77 : decode cX8_ofBarrow 77 = .ok (.iload_n 1, 1) := by decide +kernel
theorem dX8_ofBarrow_78 : decode cX8_ofBarrow 78 = .ok (.invokevirtual 155, 3) := by decide +kernel
theorem dX8_ofBarrow_81 : decode cX8_ofBarrow 81 = .ok (.ireturn, 1) := by decide +kernel
theorem dX8_ofBarrow_82 : decode cX8_ofBarrow 82 = .ok (.aload_n 0, 1) := by decide +kernel
theorem dX8_ofBarrow_83 : decode cX8_ofBarrow 83 = .ok (.iload_n 1, 1) := by decide +kernel
theorem dX8_ofBarrow_84 : decode cX8_ofBarrow 84 = .ok (.invokevirtual 158, 3) := by decide +kernel
theorem dX8_ofBarrow_87 : decode cX8_ofBarrow 87 = .ok (.ireturn, 1) := by decide +kernel
theorem dX8_ofBarrow_88 : decode cX8_ofBarrow 88 = .ok (.bipush (-2), 2) := by decide +kernel
theorem dX8_ofBarrow_90 : decode cX8_ofBarrow 90 = .ok (.ireturn, 1) := by decide +kernel
theorem dX8_dreamOf_0 : decode cX8_dreamOf 0 = .ok (.iload_n 1, 1) := by decide +kernel
theorem dX8_dreamOf_1 : decode cX8_dreamOf 1 = .ok (.iconst 1, 1) := by decide +kernel
theorem dX8_dreamOf_2 : decode cX8_dreamOf 2 = .ok (.isub, 1) := by decide +kernel
theorem dX8_dreamOf_3 : decode cX8_dreamOf 3 = .ok (.istore_n 2, 1) := by decide +kernel
theorem dX8_dreamOf_4 : decode cX8_dreamOf 4 = .ok (.iload_n 2, 1) := by decide +kernel
theorem dX8_dreamOf_5 : decode cX8_dreamOf 5 = .ok (.ifCond .lt 20, 3) := by decide +kernel
theorem dX8_dreamOf_8 : decode cX8_dreamOf 8 = .ok (.aload_n 0, 1) := by decide +kernel
theorem dX8_dreamOf_9 : decode cX8_dreamOf 9 = .ok (.iload_n 2, 1) := by decide +kernel
theorem dX8_dreamOf_10 : decode cX8_dreamOf 10 = .ok (.iaload, 1) := by decide +kernel
theorem dX8_dreamOf_11 : decode cX8_dreamOf 11 = .ok (.aload_n 0, 1) := by decide +kernel
theorem dX8_dreamOf_12 : decode cX8_dreamOf 12 = .ok (.iload_n 1, 1) := by decide +kernel
theorem dX8_dreamOf_13 : decode cX8_dreamOf 13 = .ok (.iaload, 1) := by decide +kernel
theorem dX8_dreamOf_14 : decode cX8_dreamOf 14 = .ok (.if_icmp .ne 5, 3) := by decide +kernel
theorem dX8_dreamOf_17 : decode cX8_dreamOf 17 = .ok (.iload_n 2, 1) := by decide +kernel
theorem dX8_dreamOf_18 : decode cX8_dreamOf 18 = .ok (.ireturn, 1) := by decide +kernel
theorem dX8_dreamOf_19 : decode cX8_dreamOf 19 = .ok (.iinc 2 (-1), 3) := by decide +kernel
theorem dX8_dreamOf_22 : decode cX8_dreamOf 22 = .ok (.goto (-18), 3) := by decide +kernel
theorem dX8_dreamOf_25 : decode cX8_dreamOf 25 = .ok (.bipush 10, 2) := by decide +kernel
theorem dX8_dreamOf_27 : decode cX8_dreamOf 27 = .ok (.aload_n 0, 1) := by decide +kernel
theorem dX8_dreamOf_28 : decode cX8_dreamOf 28 = .ok (.iload_n 1, 1) := by decide +kernel
theorem dX8_dreamOf_29 : decode cX8_dreamOf 29 = .ok (.iaload, 1) := by decide +kernel
theorem dX8_dreamOf_30 : decode cX8_dreamOf 30 = .ok (.iadd, 1) := by decide +kernel
theorem dX8_dreamOf_31 : decode cX8_dreamOf 31 = .ok (.ireturn, 1) := by decide +kernel
theorem dX8_ofWalker_0 : decode cX8_ofWalker 0 = .ok (.aload_n 0, 1) := by decide +kernel
theorem dX8_ofWalker_1 : decode cX8_ofWalker 1 = .ok (.iload_n 1, 1) := by decide +kernel
theorem dX8_ofWalker_2 : decode cX8_ofWalker 2 = .ok (.invokevirtual 161, 3) := by decide +kernel
theorem dX8_ofWalker_5 : decode cX8_ofWalker 5 = .ok (.ifCond .ne 5, 3) := by decide +kernel
theorem dX8_ofWalker_8 : decode cX8_ofWalker 8 = .ok (.iconst (-1), 1) := by decide +kernel
theorem dX8_ofWalker_9 : decode cX8_ofWalker 9 = .ok (.ireturn, 1) := by decide +kernel
theorem dX8_ofWalker_10 : decode cX8_ofWalker 10 = .ok (.iload_n 2, 1) := by decide +kernel
theorem dX8_ofWalker_11 : decode cX8_ofWalker 11 = .ok (.tableswitch 97 0 5 #[37, 44, 51, 58, 65, 72], 37) := by decide +kernel
theorem dX8_ofWalker_48 : decode cX8_ofWalker 48 = .ok (.aload_n 0, 1) := by decide +kernel
theorem dX8_ofWalker_49 : decode cX8_ofWalker 49 = .ok (.getfield 31, 3) := by decide +kernel
theorem dX8_ofWalker_52 : decode cX8_ofWalker 52 = .ok (.iload_n 1, 1) := by decide +kernel
theorem dX8_ofWalker_53 : decode cX8_ofWalker 53 = .ok (.iaload, 1) := by decide +kernel
theorem dX8_ofWalker_54 : decode cX8_ofWalker 54 = .ok (.ireturn, 1) := by decide +kernel
theorem dX8_ofWalker_55 : decode cX8_ofWalker 55 = .ok (.aload_n 0, 1) := by decide +kernel
theorem dX8_ofWalker_56 : decode cX8_ofWalker 56 = .ok (.getfield 34, 3) := by decide +kernel
theorem dX8_ofWalker_59 : decode cX8_ofWalker 59 = .ok (.iload_n 1, 1) := by decide +kernel
theorem dX8_ofWalker_60 : decode cX8_ofWalker 60 = .ok (.iaload, 1) := by decide +kernel
theorem dX8_ofWalker_61 : decode cX8_ofWalker 61 = .ok (.ireturn, 1) := by decide +kernel
theorem dX8_ofWalker_62 : decode cX8_ofWalker 62 = .ok (.aload_n 0, 1) := by decide +kernel
theorem dX8_ofWalker_63 : decode cX8_ofWalker 63 = .ok (.getfield 37, 3) := by decide +kernel
theorem dX8_ofWalker_66 : decode cX8_ofWalker 66 = .ok (.iload_n 1, 1) := by decide +kernel
theorem dX8_ofWalker_67 : decode cX8_ofWalker 67 = .ok (.iaload, 1) := by decide +kernel
theorem dX8_ofWalker_68 : decode cX8_ofWalker 68 = .ok (.ireturn, 1) := by decide +kernel
theorem dX8_ofWalker_69 : decode cX8_ofWalker 69 = .ok (.aload_n 0, 1) := by decide +kernel
theorem dX8_ofWalker_70 : decode cX8_ofWalker 70 = .ok (.getfield 40, 3) := by decide +kernel
theorem dX8_ofWalker_73 : decode cX8_ofWalker 73 = .ok (.iload_n 1, 1) := by decide +kernel
theorem dX8_ofWalker_74 : decode cX8_ofWalker 74 = .ok (.iaload, 1) := by decide +kernel
theorem dX8_ofWalker_75 : decode cX8_ofWalker 75 = .ok (.ireturn, 1) := by decide +kernel
theorem dX8_ofWalker_76 : decode cX8_ofWalker 76 = .ok (.aload_n 0, 1) := by decide +kernel
theorem dX8_ofWalker_77 : decode cX8_ofWalker 77 = .ok (.getfield 43, 3) := by decide +kernel
theorem dX8_ofWalker_80 : decode cX8_ofWalker 80 = .ok (.iload_n 1, 1) := by decide +kernel
theorem dX8_ofWalker_81 : decode cX8_ofWalker 81 = .ok (.iaload, 1) := by decide +kernel
theorem dX8_ofWalker_82 : decode cX8_ofWalker 82 = .ok (.ireturn, 1) := by decide +kernel
theorem dX8_ofWalker_83 : decode cX8_ofWalker 83 = .ok (.aload_n 0, 1) := by decide +kernel
theorem dX8_ofWalker_84 : decode cX8_ofWalker 84 = .ok (.getfield 40, 3) := by decide +kernel
theorem dX8_ofWalker_87 : decode cX8_ofWalker 87 = .ok (.iload_n 1, 1) := by decide +kernel
theorem dX8_ofWalker_88 : decode cX8_ofWalker 88 = .ok (.iaload, 1) := by decide +kernel
theorem dX8_ofWalker_89 : decode cX8_ofWalker 89 = .ok (.bipush (-9), 2) := by decide +kernel
theorem dX8_ofWalker_91 : decode cX8_ofWalker 91 = .ok (.if_icmp .ne 8, 3) := by decide +kernel
theorem dX8_ofWalker_94 : decode cX8_ofWalker 94 = .ok (.bipush (-9), 2) := by decide +kernel
theorem dX8_ofWalker_96 : decode cX8_ofWalker 96 = .ok (.goto 11, 3) := by decide +kernel
theorem dX8_ofWalker_99 : decode cX8_ofWalker 99 = .ok (.aload_n 0, 1) := by decide +kernel
theorem dX8_ofWalker_100 : decode cX8_ofWalker 100 = .ok (.getfield 40, 3) := by decide +kernel
theorem dX8_ofWalker_103 : decode cX8_ofWalker 103 = .ok (.iload_n 1, 1) := by decide +kernel
theorem dX8_ofWalker_104 : decode cX8_ofWalker 104 = .ok (.invokestatic 164, 3) := by decide +kernel
theorem dX8_ofWalker_107 : decode cX8_ofWalker 107 = .ok (.ireturn, 1) := by decide +kernel
theorem dX8_ofWalker_108 : decode cX8_ofWalker 108 = .ok (.bipush (-2), 2) := by decide +kernel
theorem dX8_ofWalker_110 : decode cX8_ofWalker 110 = .ok (.ireturn, 1) := by decide +kernel
theorem dX8_charge_0 : decode cX8_charge 0 = .ok (.aload_n 0, 1) := by decide +kernel
theorem dX8_charge_1 : decode cX8_charge 1 = .ok (.iload_n 1, 1) := by decide +kernel
theorem dX8_charge_2 : decode cX8_charge 2 = .ok (.invokevirtual 152, 3) := by decide +kernel
theorem dX8_charge_5 : decode cX8_charge 5 = .ok (.ifCond .ne 5, 3) := by decide +kernel
theorem dX8_charge_8 : decode cX8_charge 8 = .ok (.iconst (-1), 1) := by decide +kernel
theorem dX8_charge_9 : decode cX8_charge 9 = .ok (.ireturn, 1) := by decide +kernel
theorem dX8_charge_10 : decode cX8_charge 10 = .ok (.iload_n 2, 1) := by decide +kernel
theorem dX8_charge_11 : decode cX8_charge 11 = .ok (.iconst 0, 1) := by decide +kernel
theorem dX8_charge_12 : decode cX8_charge 12 = .ok (.bipush 9, 2) := by decide +kernel
theorem dX8_charge_14 : decode cX8_charge 14 = .ok (.invokestatic 88, 3) := by decide +kernel
theorem dX8_charge_17 : decode cX8_charge 17 = .ok (.ifCond .ne 6, 3) := by decide +kernel
theorem dX8_charge_20 : decode cX8_charge 20 = .ok (.bipush (-2), 2) := by decide +kernel
theorem dX8_charge_22 : decode cX8_charge 22 = .ok (.ireturn, 1) := by decide +kernel
theorem dX8_charge_23 : decode cX8_charge 23 = .ok (.aload_n 0, 1) := by decide +kernel
theorem dX8_charge_24 : decode cX8_charge 24 = .ok (.getfield 25, 3) := by decide +kernel
theorem dX8_charge_27 : decode cX8_charge 27 = .ok (.iload_n 1, 1) := by decide +kernel
theorem dX8_charge_28 : decode cX8_charge 28 = .ok (.iaload, 1) := by decide +kernel
theorem dX8_charge_29 : decode cX8_charge 29 = .ok (.istore_n 3, 1) := by decide +kernel
theorem dX8_charge_30 : decode cX8_charge 30 = .ok (.aload_n 0, 1) := by decide +kernel
theorem dX8_charge_31 : decode cX8_charge 31 = .ok (.getfield 25, 3) := by decide +kernel
theorem dX8_charge_34 : decode cX8_charge 34 = .ok (.iload_n 1, 1) := by decide +kernel
theorem dX8_charge_35 : decode cX8_charge 35 = .ok (.iload_n 2, 1) := by decide +kernel
theorem dX8_charge_36 : decode cX8_charge 36 = .ok (.iastore, 1) := by decide +kernel
theorem dX8_charge_37 : decode cX8_charge 37 = .ok (.iload_n 3, 1) := by decide +kernel
theorem dX8_charge_38 : decode cX8_charge 38 = .ok (.ireturn, 1) := by decide +kernel
theorem dX8_earn_0 : decode cX8_earn 0 = .ok (.aload_n 0, 1) := by decide +kernel
theorem dX8_earn_1 : decode cX8_earn 1 = .ok (.iload_n 1, 1) := by decide +kernel
theorem dX8_earn_2 : decode cX8_earn 2 = .ok (.invokevirtual 161, 3) := by decide +kernel
theorem dX8_earn_5 : decode cX8_earn 5 = .ok (.ifCond .ne 5, 3) := by decide +kernel
theorem dX8_earn_8 : decode cX8_earn 8 = .ok (.iconst (-1), 1) := by decide +kernel
theorem dX8_earn_9 : decode cX8_earn 9 = .ok (.ireturn, 1) := by decide +kernel
theorem dX8_earn_10 : decode cX8_earn 10 = .ok (.iload_n 2, 1) := by decide +kernel
theorem dX8_earn_11 : decode cX8_earn 11 = .ok (.iconst 0, 1) := by decide +kernel
theorem dX8_earn_12 : decode cX8_earn 12 = .ok (.bipush 99, 2) := by decide +kernel
theorem dX8_earn_14 : decode cX8_earn 14 = .ok (.invokestatic 88, 3) := by decide +kernel
theorem dX8_earn_17 : decode cX8_earn 17 = .ok (.ifCond .ne 6, 3) := by decide +kernel
theorem dX8_earn_20 : decode cX8_earn 20 = .ok (.bipush (-2), 2) := by decide +kernel
theorem dX8_earn_22 : decode cX8_earn 22 = .ok (.ireturn, 1) := by decide +kernel
theorem dX8_earn_23 : decode cX8_earn 23 = .ok (.aload_n 0, 1) := by decide +kernel
theorem dX8_earn_24 : decode cX8_earn 24 = .ok (.getfield 31, 3) := by decide +kernel
theorem dX8_earn_27 : decode cX8_earn 27 = .ok (.iload_n 1, 1) := by decide +kernel
theorem dX8_earn_28 : decode cX8_earn 28 = .ok (.iaload, 1) := by decide +kernel
theorem dX8_earn_29 : decode cX8_earn 29 = .ok (.istore_n 3, 1) := by decide +kernel
theorem dX8_earn_30 : decode cX8_earn 30 = .ok (.aload_n 0, 1) := by decide +kernel
theorem dX8_earn_31 : decode cX8_earn 31 = .ok (.getfield 31, 3) := by decide +kernel
theorem dX8_earn_34 : decode cX8_earn 34 = .ok (.iload_n 1, 1) := by decide +kernel
theorem dX8_earn_35 : decode cX8_earn 35 = .ok (.iload_n 2, 1) := by decide +kernel
theorem dX8_earn_36 : decode cX8_earn 36 = .ok (.iastore, 1) := by decide +kernel
theorem dX8_earn_37 : decode cX8_earn 37 = .ok (.iload_n 3, 1) := by decide +kernel
theorem dX8_earn_38 : decode cX8_earn 38 = .ok (.ireturn, 1) := by decide +kernel
theorem dX8_apart_0 : decode cX8_apart 0 = .ok (.iload_n 0, 1) := by decide +kernel
theorem dX8_apart_1 : decode cX8_apart 1 = .ok (.iload_n 1, 1) := by decide +kernel
theorem dX8_apart_2 : decode cX8_apart 2 = .ok (.if_icmp .ge 9, 3) := by decide +kernel
theorem dX8_apart_5 : decode cX8_apart 5 = .ok (.iload_n 1, 1) := by decide +kernel
theorem dX8_apart_6 : decode cX8_apart 6 = .ok (.iload_n 0, 1) := by decide +kernel
theorem dX8_apart_7 : decode cX8_apart 7 = .ok (.isub, 1) := by decide +kernel
theorem dX8_apart_8 : decode cX8_apart 8 = .ok (.goto 6, 3) := by decide +kernel
theorem dX8_apart_11 : decode cX8_apart 11 = .ok (.iload_n 0, 1) := by decide +kernel
theorem dX8_apart_12 : decode cX8_apart 12 = .ok (.iload_n 1, 1) := by decide +kernel
theorem dX8_apart_13 : decode cX8_apart 13 = .ok (.isub, 1) := by decide +kernel
theorem dX8_apart_14 : decode cX8_apart 14 = .ok (.ireturn, 1) := by decide +kernel
theorem dX8_mayGo_0 : decode cX8_mayGo 0 = .ok (.aload_n 0, 1) := by decide +kernel
theorem dX8_mayGo_1 : decode cX8_mayGo 1 = .ok (.getfield 34, 3) := by decide +kernel
theorem dX8_mayGo_4 : decode cX8_mayGo 4 = .ok (.iload_n 1, 1) := by decide +kernel
theorem dX8_mayGo_5 : decode cX8_mayGo 5 = .ok (.iaload, 1) := by decide +kernel
theorem dX8_mayGo_6 : decode cX8_mayGo 6 = .ok (.aload_n 0, 1) := by decide +kernel
theorem dX8_mayGo_7 : decode cX8_mayGo 7 = .ok (.getfield 28, 3) := by decide +kernel
theorem dX8_mayGo_10 : decode cX8_mayGo 10 = .ok (.iload_n 2, 1) := by decide +kernel
theorem dX8_mayGo_11 : decode cX8_mayGo 11 = .ok (.iaload, 1) := by decide +kernel
theorem dX8_mayGo_12 : decode cX8_mayGo 12 = .ok (.invokestatic 168, 3) := by decide +kernel
theorem dX8_mayGo_15 : decode cX8_mayGo 15 = .ok (.aload_n 0, 1) := by decide +kernel
theorem dX8_mayGo_16 : decode cX8_mayGo 16 = .ok (.getfield 37, 3) := by decide +kernel
theorem dX8_mayGo_19 : decode cX8_mayGo 19 = .ok (.iload_n 1, 1) := by decide +kernel
theorem dX8_mayGo_20 : decode cX8_mayGo 20 = .ok (.iaload, 1) := by decide +kernel
theorem dX8_mayGo_21 : decode cX8_mayGo 21 = .ok (.if_icmp .gt 22, 3) := by decide +kernel
theorem dX8_mayGo_24 : decode cX8_mayGo 24 = .ok (.aload_n 0, 1) := by decide +kernel
theorem dX8_mayGo_25 : decode cX8_mayGo 25 = .ok (.getfield 25, 3) := by decide +kernel
theorem dX8_mayGo_28 : decode cX8_mayGo 28 = .ok (.iload_n 2, 1) := by decide +kernel
theorem dX8_mayGo_29 : decode cX8_mayGo 29 = .ok (.iaload, 1) := by decide +kernel
theorem dX8_mayGo_30 : decode cX8_mayGo 30 = .ok (.aload_n 0, 1) := by decide +kernel
theorem dX8_mayGo_31 : decode cX8_mayGo 31 = .ok (.getfield 31, 3) := by decide +kernel
theorem dX8_mayGo_34 : decode cX8_mayGo 34 = .ok (.iload_n 1, 1) := by decide +kernel
theorem dX8_mayGo_35 : decode cX8_mayGo 35 = .ok (.iaload, 1) := by decide +kernel
theorem dX8_mayGo_36 : decode cX8_mayGo 36 = .ok (.if_icmp .gt 7, 3) := by decide +kernel
theorem dX8_mayGo_39 : decode cX8_mayGo 39 = .ok (.iconst 1, 1) := by decide +kernel
theorem dX8_mayGo_40 : decode cX8_mayGo 40 = .ok (.goto 4, 3) := by decide +kernel
theorem dX8_mayGo_43 : decode cX8_mayGo 43 = .ok (.iconst 0, 1) := by decide +kernel
theorem dX8_mayGo_44 : decode cX8_mayGo 44 = .ok (.ireturn, 1) := by decide +kernel
theorem dX8_doLodge_0 : decode cX8_doLodge 0 = .ok (.aload_n 0, 1) := by decide +kernel
theorem dX8_doLodge_1 : decode cX8_doLodge 1 = .ok (.getfield 40, 3) := by decide +kernel
theorem dX8_doLodge_4 : decode cX8_doLodge 4 = .ok (.iload_n 1, 1) := by decide +kernel
theorem dX8_doLodge_5 : decode cX8_doLodge 5 = .ok (.iaload, 1) := by decide +kernel
theorem dX8_doLodge_6 : decode cX8_doLodge 6 = .ok (.bipush (-9), 2) := by decide +kernel
theorem dX8_doLodge_8 : decode cX8_doLodge 8 = .ok (.if_icmp .ne 28, 3) := by decide +kernel
theorem dX8_doLodge_11 : decode cX8_doLodge 11 = .ok (.aload_n 0, 1) := by decide +kernel
theorem dX8_doLodge_12 : decode cX8_doLodge 12 = .ok (.iload_n 1, 1) := by decide +kernel
theorem dX8_doLodge_13 : decode cX8_doLodge 13 = .ok (.iload_n 2, 1) := by decide +kernel
theorem dX8_doLodge_14 : decode cX8_doLodge 14 = .ok (.invokevirtual 171, 3) := by decide +kernel
theorem dX8_doLodge_17 : decode cX8_doLodge 17 = .ok (.ifCond .eq 19, 3) := by decide +kernel
theorem dX8_doLodge_20 : decode cX8_doLodge 20 = .ok (.aload_n 0, 1) := by decide +kernel
theorem dX8_doLodge_21 : decode cX8_doLodge 21 = .ok (.iload_n 2, 1) := by decide +kernel
theorem dX8_doLodge_22 : decode cX8_doLodge 22 = .ok (.invokevirtual 158, 3) := by decide +kernel
theorem dX8_doLodge_25 : decode cX8_doLodge 25 = .ok (.invokestatic 174, 3) := by decide +kernel
theorem dX8_doLodge_28 : decode cX8_doLodge 28 = .ok (.aload_n 0, 1) := by decide +kernel
theorem dX8_doLodge_29 : decode cX8_doLodge 29 = .ok (.iload_n 2, 1) := by decide +kernel
theorem dX8_doLodge_30 : decode cX8_doLodge 30 = .ok (.invokevirtual 155, 3) := by decide +kernel
theorem dX8_doLodge_33 : decode cX8_doLodge 33 = .ok (.if_icmp .lt 5, 3) := by decide +kernel
theorem dX8_doLodge_36 : decode cX8_doLodge 36 = .ok (.iconst 0, 1) := by decide +kernel
theorem dX8_doLodge_37 : decode cX8_doLodge 37 = .ok (.ireturn, 1) := by decide +kernel
theorem dX8_doLodge_38 : decode cX8_doLodge 38 = .ok (.aload_n 0, 1) := by decide +kernel
theorem dX8_doLodge_39 : decode cX8_doLodge 39 = .ok (.getfield 40, 3) := by decide +kernel
theorem dX8_doLodge_42 : decode cX8_doLodge 42 = .ok (.iload_n 1, 1) := by decide +kernel
theorem dX8_doLodge_43 : decode cX8_doLodge 43 = .ok (.iload_n 2, 1) := by decide +kernel
theorem dX8_doLodge_44 : decode cX8_doLodge 44 = .ok (.iastore, 1) := by decide +kernel
theorem dX8_doLodge_45 : decode cX8_doLodge 45 = .ok (.aload_n 0, 1) := by decide +kernel
theorem dX8_doLodge_46 : decode cX8_doLodge 46 = .ok (.getfield 34, 3) := by decide +kernel
theorem dX8_doLodge_49 : decode cX8_doLodge 49 = .ok (.iload_n 1, 1) := by decide +kernel
theorem dX8_doLodge_50 : decode cX8_doLodge 50 = .ok (.aload_n 0, 1) := by decide +kernel
theorem dX8_doLodge_51 : decode cX8_doLodge 51 = .ok (.getfield 28, 3) := by decide +kernel
theorem dX8_doLodge_54 : decode cX8_doLodge 54 = .ok (.iload_n 2, 1) := by decide +kernel
theorem dX8_doLodge_55 : decode cX8_doLodge 55 = .ok (.iaload, 1) := by decide +kernel
theorem dX8_doLodge_56 : decode cX8_doLodge 56 = .ok (.iastore, 1) := by decide +kernel
theorem dX8_doLodge_57 : decode cX8_doLodge 57 = .ok (.iconst 1, 1) := by decide +kernel
theorem dX8_doLodge_58 : decode cX8_doLodge 58 = .ok (.ireturn, 1) := by decide +kernel
theorem dX8_lodge_0 : decode cX8_lodge 0 = .ok (.aload_n 0, 1) := by decide +kernel
theorem dX8_lodge_1 : decode cX8_lodge 1 = .ok (.iload_n 1, 1) := by decide +kernel
theorem dX8_lodge_2 : decode cX8_lodge 2 = .ok (.invokevirtual 161, 3) := by decide +kernel
theorem dX8_lodge_5 : decode cX8_lodge 5 = .ok (.ifCond .eq 11, 3) := by decide +kernel
theorem dX8_lodge_8 : decode cX8_lodge 8 = .ok (.aload_n 0, 1) := by decide +kernel
theorem dX8_lodge_9 : decode cX8_lodge 9 = .ok (.iload_n 2, 1) := by decide +kernel
theorem dX8_lodge_10 : decode cX8_lodge 10 = .ok (.invokevirtual 152, 3) := by decide +kernel
theorem dX8_lodge_13 : decode cX8_lodge 13 = .ok (.ifCond .ne 5, 3) := by decide +kernel
theorem dX8_lodge_16 : decode cX8_lodge 16 = .ok (.iconst (-1), 1) := by decide +kernel
theorem dX8_lodge_17 : decode cX8_lodge 17 = .ok (.ireturn, 1) := by decide +kernel
theorem dX8_lodge_18 : decode cX8_lodge 18 = .ok (.aload_n 0, 1) := by decide +kernel
theorem dX8_lodge_19 : decode cX8_lodge 19 = .ok (.iload_n 1, 1) := by decide +kernel
theorem dX8_lodge_20 : decode cX8_lodge 20 = .ok (.iload_n 2, 1) := by decide +kernel
theorem dX8_lodge_21 : decode cX8_lodge 21 = .ok (.invokevirtual 177, 3) := by decide +kernel
theorem dX8_lodge_24 : decode cX8_lodge 24 = .ok (.ifCond .eq 14, 3) := by decide +kernel
theorem dX8_lodge_27 : decode cX8_lodge 27 = .ok (.aload_n 0, 1) := by decide +kernel
theorem dX8_lodge_28 : decode cX8_lodge 28 = .ok (.iload_n 2, 1) := by decide +kernel
theorem dX8_lodge_29 : decode cX8_lodge 29 = .ok (.invokevirtual 158, 3) := by decide +kernel
theorem dX8_lodge_32 : decode cX8_lodge 32 = .ok (.invokestatic 174, 3) := by decide +kernel
theorem dX8_lodge_35 : decode cX8_lodge 35 = .ok (.goto 5, 3) := by decide +kernel
theorem dX8_lodge_38 : decode cX8_lodge 38 = .ok (.bipush (-3), 2) := by decide +kernel
theorem dX8_lodge_40 : decode cX8_lodge 40 = .ok (.ireturn, 1) := by decide +kernel
theorem dX8_leave_0 : decode cX8_leave 0 = .ok (.aload_n 0, 1) := by decide +kernel
theorem dX8_leave_1 : decode cX8_leave 1 = .ok (.iload_n 1, 1) := by decide +kernel
theorem dX8_leave_2 : decode cX8_leave 2 = .ok (.invokevirtual 161, 3) := by decide +kernel
theorem dX8_leave_5 : decode cX8_leave 5 = .ok (.ifCond .ne 5, 3) := by decide +kernel
theorem dX8_leave_8 : decode cX8_leave 8 = .ok (.iconst (-1), 1) := by decide +kernel
theorem dX8_leave_9 : decode cX8_leave 9 = .ok (.ireturn, 1) := by decide +kernel
theorem dX8_leave_10 : decode cX8_leave 10 = .ok (.aload_n 0, 1) := by decide +kernel
theorem dX8_leave_11 : decode cX8_leave 11 = .ok (.getfield 40, 3) := by decide +kernel
theorem dX8_leave_14 : decode cX8_leave 14 = .ok (.iload_n 1, 1) := by decide +kernel
theorem dX8_leave_15 : decode cX8_leave 15 = .ok (.iaload, 1) := by decide +kernel
theorem dX8_leave_16 : decode cX8_leave 16 = .ok (.bipush (-9), 2) := by decide +kernel
theorem dX8_leave_18 : decode cX8_leave 18 = .ok (.if_icmp .ne 6, 3) := by decide +kernel
theorem dX8_leave_21 : decode cX8_leave 21 = .ok (.bipush (-3), 2) := by decide +kernel
theorem dX8_leave_23 : decode cX8_leave 23 = .ok (.ireturn, 1) := by decide +kernel
theorem dX8_leave_24 : decode cX8_leave 24 = .ok (.aload_n 0, 1) := by decide +kernel
theorem dX8_leave_25 : decode cX8_leave 25 = .ok (.getfield 40, 3) := by decide +kernel
theorem dX8_leave_28 : decode cX8_leave 28 = .ok (.iload_n 1, 1) := by decide +kernel
theorem dX8_leave_29 : decode cX8_leave 29 = .ok (.iaload, 1) := by decide +kernel
theorem dX8_leave_30 : decode cX8_leave 30 = .ok (.istore_n 2, 1) := by decide +kernel
theorem dX8_leave_31 : decode cX8_leave 31 = .ok (.aload_n 0, 1) := by decide +kernel
theorem dX8_leave_32 : decode cX8_leave 32 = .ok (.getfield 40, 3) := by decide +kernel
theorem dX8_leave_35 : decode cX8_leave 35 = .ok (.iload_n 1, 1) := by decide +kernel
theorem dX8_leave_36 : decode cX8_leave 36 = .ok (.bipush (-9), 2) := by decide +kernel
theorem dX8_leave_38 : decode cX8_leave 38 = .ok (.iastore, 1) := by decide +kernel
theorem dX8_leave_39 : decode cX8_leave 39 = .ok (.iload_n 2, 1) := by decide +kernel
theorem dX8_leave_40 : decode cX8_leave 40 = .ok (.ireturn, 1) := by decide +kernel
theorem dX8_goNight_0 : decode cX8_goNight 0 = .ok (.iconst 0, 1) := by decide +kernel
theorem dX8_goNight_1 : decode cX8_goNight 1 = .ok (.istore_n 1, 1) := by decide +kernel
theorem dX8_goNight_2 : decode cX8_goNight 2 = .ok (.iconst 0, 1) := by decide +kernel
theorem dX8_goNight_3 : decode cX8_goNight 3 = .ok (.istore_n 2, 1) := by decide +kernel
theorem dX8_goNight_4 : decode cX8_goNight 4 = .ok (.iload_n 2, 1) := by decide +kernel
theorem dX8_goNight_5 : decode cX8_goNight 5 = .ok (.aload_n 0, 1) := by decide +kernel
theorem dX8_goNight_6 : decode cX8_goNight 6 = .ok (.getfield 95, 3) := by decide +kernel
theorem dX8_goNight_9 : decode cX8_goNight 9 = .ok (.if_icmp .ge 87, 3) := by decide +kernel
theorem dX8_goNight_12 : decode cX8_goNight 12 = .ok (.aload_n 0, 1) := by decide +kernel
theorem dX8_goNight_13 : decode cX8_goNight 13 = .ok (.getfield 40, 3) := by decide +kernel
theorem dX8_goNight_16 : decode cX8_goNight 16 = .ok (.iload_n 2, 1) := by decide +kernel
theorem dX8_goNight_17 : decode cX8_goNight 17 = .ok (.iaload, 1) := by decide +kernel
theorem dX8_goNight_18 : decode cX8_goNight 18 = .ok (.istore_n 3, 1) := by decide +kernel
theorem dX8_goNight_19 : decode cX8_goNight 19 = .ok (.iload_n 3, 1) := by decide +kernel
theorem dX8_goNight_20 : decode cX8_goNight 20 = .ok (.bipush (-9), 2) := by decide +kernel
theorem dX8_goNight_22 : decode cX8_goNight 22 = .ok (.if_icmp .eq 36, 3) := by decide +kernel
theorem dX8_goNight_25 : decode cX8_goNight 25 = .ok (.aload_n 0, 1) := by decide +kernel
theorem dX8_goNight_26 : decode cX8_goNight 26 = .ok (.getfield 25, 3) := by decide +kernel
theorem dX8_goNight_29 : decode cX8_goNight 29 = .ok (.iload_n 3, 1) := by decide +kernel
theorem dX8_goNight_30 : decode cX8_goNight 30 = .ok (.iaload, 1) := by decide +kernel
theorem dX8_goNight_31 : decode cX8_goNight 31 = .ok (.aload_n 0, 1) := by decide +kernel
theorem dX8_goNight_32 : decode cX8_goNight 32 = .ok (.getfield 31, 3) := by decide +kernel
theorem dX8_goNight_35 : decode cX8_goNight 35 = .ok (.iload_n 2, 1) := by decide +kernel
theorem dX8_goNight_36 : decode cX8_goNight 36 = .ok (.iaload, 1) := by decide +kernel
theorem dX8_goNight_37 : decode cX8_goNight 37 = .ok (.if_icmp .gt 21, 3) := by decide +kernel
theorem dX8_goNight_40 : decode cX8_goNight 40 = .ok (.aload_n 0, 1) := by decide +kernel
theorem dX8_goNight_41 : decode cX8_goNight 41 = .ok (.getfield 31, 3) := by decide +kernel
theorem dX8_goNight_44 : decode cX8_goNight 44 = .ok (.iload_n 2, 1) := by decide +kernel
theorem dX8_goNight_45 : decode cX8_goNight 45 = .ok (.dup2, 1) := by decide +kernel
theorem dX8_goNight_46 : decode cX8_goNight 46 = .ok (.iaload, 1) := by decide +kernel
theorem dX8_goNight_47 : decode cX8_goNight 47 = .ok (.aload_n 0, 1) := by decide +kernel
theorem dX8_goNight_48 : decode cX8_goNight 48 = .ok (.getfield 25, 3) := by decide +kernel
theorem dX8_goNight_51 : decode cX8_goNight 51 = .ok (.iload_n 3, 1) := by decide +kernel
theorem dX8_goNight_52 : decode cX8_goNight 52 = .ok (.iaload, 1) := by decide +kernel
theorem dX8_goNight_53 : decode cX8_goNight 53 = .ok (.isub, 1) := by decide +kernel
theorem dX8_goNight_54 : decode cX8_goNight 54 = .ok (.iastore, 1) := by decide +kernel
theorem dX8_goNight_55 : decode cX8_goNight 55 = .ok (.goto 35, 3) := by decide +kernel
theorem dX8_goNight_58 : decode cX8_goNight 58 = .ok (.iload_n 1, 1) := by decide +kernel
theorem dX8_goNight_59 : decode cX8_goNight 59 = .ok (.iload_n 3, 1) := by decide +kernel
theorem dX8_goNight_60 : decode cX8_goNight 60 = .ok (.bipush (-9), 2) := by decide +kernel
theorem dX8_goNight_62 : decode cX8_goNight 62 = .ok (.if_icmp .ne 7, 3) := by decide +kernel
theorem dX8_goNight_65 : decode cX8_goNight 65 = .ok (.iconst 0, 1) := by decide +kernel
theorem dX8_goNight_66 : decode cX8_goNight 66 = .ok (.goto 4, 3) := by decide +kernel
theorem dX8_goNight_69 : decode cX8_goNight 69 = .ok (.iconst 1, 1) := by decide +kernel
theorem dX8_goNight_70 : decode cX8_goNight 70 = .ok (.iadd, 1) := by decide +kernel
theorem dX8_goNight_71 : decode cX8_goNight 71 = .ok (.istore_n 1, 1) := by decide +kernel
theorem dX8_goNight_72 : decode cX8_goNight 72 = .ok (.aload_n 0, 1) := by decide +kernel
theorem dX8_goNight_73 : decode cX8_goNight 73 = .ok (.getfield 40, 3) := by decide +kernel
theorem dX8_goNight_76 : decode cX8_goNight 76 = .ok (.iload_n 2, 1) := by decide +kernel
theorem dX8_goNight_77 : decode cX8_goNight 77 = .ok (.bipush (-9), 2) := by decide +kernel
theorem dX8_goNight_79 : decode cX8_goNight 79 = .ok (.iastore, 1) := by decide +kernel
theorem dX8_goNight_80 : decode cX8_goNight 80 = .ok (.aload_n 0, 1) := by decide +kernel
theorem dX8_goNight_81 : decode cX8_goNight 81 = .ok (.getfield 43, 3) := by decide +kernel
theorem dX8_goNight_84 : decode cX8_goNight 84 = .ok (.iload_n 2, 1) := by decide +kernel
theorem dX8_goNight_85 : decode cX8_goNight 85 = .ok (.dup2, 1) := by decide +kernel
theorem dX8_goNight_86 : decode cX8_goNight 86 = .ok (.iaload, 1) := by decide +kernel
theorem dX8_goNight_87 : decode cX8_goNight 87 = .ok (.iconst 1, 1) := by decide +kernel
theorem dX8_goNight_88 : decode cX8_goNight 88 = .ok (.iadd, 1) := by decide +kernel
theorem dX8_goNight_89 : decode cX8_goNight 89 = .ok (.iastore, 1) := by decide +kernel
theorem dX8_goNight_90 : decode cX8_goNight 90 = .ok (.iinc 2 1, 3) := by decide +kernel
theorem dX8_goNight_93 : decode cX8_goNight 93 = .ok (.goto (-89), 3) := by decide +kernel
theorem dX8_goNight_96 : decode cX8_goNight 96 = .ok (.iload_n 1, 1) := by decide +kernel
theorem dX8_goNight_97 : decode cX8_goNight 97 = .ok (.ireturn, 1) := by decide +kernel
theorem dX8_night_0 : decode cX8_night 0 = .ok (.iload_n 1, 1) := by decide +kernel
theorem dX8_night_1 : decode cX8_night 1 = .ok (.iconst 1, 1) := by decide +kernel
theorem dX8_night_2 : decode cX8_night 2 = .ok (.bipush 30, 2) := by decide +kernel
theorem dX8_night_4 : decode cX8_night 4 = .ok (.invokestatic 88, 3) := by decide +kernel
theorem dX8_night_7 : decode cX8_night 7 = .ok (.ifCond .ne 6, 3) := by decide +kernel
theorem dX8_night_10 : decode cX8_night 10 = .ok (.bipush (-2), 2) := by decide +kernel
theorem dX8_night_12 : decode cX8_night 12 = .ok (.ireturn, 1) := by decide +kernel
theorem dX8_night_13 : decode cX8_night 13 = .ok (.aload_n 0, 1) := by decide +kernel
theorem dX8_night_14 : decode cX8_night 14 = .ok (.getfield 92, 3) := by decide +kernel
theorem dX8_night_17 : decode cX8_night 17 = .ok (.ifCond .ne 6, 3) := by decide +kernel
theorem dX8_night_20 : decode cX8_night 20 = .ok (.bipush (-3), 2) := by decide +kernel
theorem dX8_night_22 : decode cX8_night 22 = .ok (.ireturn, 1) := by decide +kernel
theorem dX8_night_23 : decode cX8_night 23 = .ok (.iconst 0, 1) := by decide +kernel
theorem dX8_night_24 : decode cX8_night 24 = .ok (.istore_n 2, 1) := by decide +kernel
theorem dX8_night_25 : decode cX8_night 25 = .ok (.iconst 0, 1) := by decide +kernel
theorem dX8_night_26 : decode cX8_night 26 = .ok (.istore_n 3, 1) := by decide +kernel
theorem dX8_night_27 : decode cX8_night 27 = .ok (.iload_n 3, 1) := by decide +kernel
theorem dX8_night_28 : decode cX8_night 28 = .ok (.iload_n 1, 1) := by decide +kernel
theorem dX8_night_29 : decode cX8_night 29 = .ok (.if_icmp .ge 16, 3) := by decide +kernel
theorem dX8_night_32 : decode cX8_night 32 = .ok (.iload_n 2, 1) := by decide +kernel
theorem dX8_night_33 : decode cX8_night 33 = .ok (.aload_n 0, 1) := by decide +kernel
theorem dX8_night_34 : decode cX8_night 34 = .ok (.invokevirtual 180, 3) := by decide +kernel
theorem dX8_night_37 : decode cX8_night 37 = .ok (.iadd, 1) := by decide +kernel
theorem dX8_night_38 : decode cX8_night 38 = .ok (.istore_n 2, 1) := by decide +kernel
theorem dX8_night_39 : decode cX8_night 39 = .ok (.iinc 3 1, 3) := by decide +kernel
theorem dX8_night_42 : decode cX8_night 42 = .ok (.goto (-15), 3) := by decide +kernel
theorem dX8_night_45 : decode cX8_night 45 = .ok (.aload_n 0, 1) := by decide +kernel
theorem dX8_night_46 : decode cX8_night 46 = .ok (.dup, 1) := by decide +kernel
theorem dX8_night_47 : decode cX8_night 47 = .ok (.getfield 128, 3) := by decide +kernel
theorem dX8_night_50 : decode cX8_night 50 = .ok (.iload_n 1, 1) := by decide +kernel
theorem dX8_night_51 : decode cX8_night 51 = .ok (.iadd, 1) := by decide +kernel
theorem dX8_night_52 : decode cX8_night 52 = .ok (.putfield 128, 3) := by decide +kernel
theorem dX8_night_55 : decode cX8_night 55 = .ok (.iload_n 2, 1) := by decide +kernel
theorem dX8_night_56 : decode cX8_night 56 = .ok (.ireturn, 1) := by decide +kernel
theorem dX8_keep_0 : decode cX8_keep 0 = .ok (.iconst 0, 1) := by decide +kernel
theorem dX8_keep_1 : decode cX8_keep 1 = .ok (.istore_n 1, 1) := by decide +kernel
theorem dX8_keep_2 : decode cX8_keep 2 = .ok (.iload_n 1, 1) := by decide +kernel
theorem dX8_keep_3 : decode cX8_keep 3 = .ok (.aload_n 0, 1) := by decide +kernel
theorem dX8_keep_4 : decode cX8_keep 4 = .ok (.getfield 95, 3) := by decide +kernel
theorem dX8_keep_7 : decode cX8_keep 7 = .ok (.if_icmp .ge 57, 3) := by decide +kernel
theorem dX8_keep_10 : decode cX8_keep 10 = .ok (.aload_n 0, 1) := by decide +kernel
theorem dX8_keep_11 : decode cX8_keep 11 = .ok (.getfield 52, 3) := by decide +kernel
theorem dX8_keep_14 : decode cX8_keep 14 = .ok (.iload_n 1, 1) := by decide +kernel
theorem dX8_keep_15 : decode cX8_keep 15 = .ok (.aload_n 0, 1) := by decide +kernel
theorem dX8_keep_16 : decode cX8_keep 16 = .ok (.getfield 31, 3) := by decide +kernel
theorem dX8_keep_19 : decode cX8_keep 19 = .ok (.iload_n 1, 1) := by decide +kernel
theorem dX8_keep_20 : decode cX8_keep 20 = .ok (.iaload, 1) := by decide +kernel
theorem dX8_keep_21 : decode cX8_keep 21 = .ok (.iastore, 1) := by decide +kernel
theorem dX8_keep_22 : decode cX8_keep 22 = .ok (.aload_n 0, 1) := by decide +kernel
theorem dX8_keep_23 : decode cX8_keep 23 = .ok (.getfield 55, 3) := by decide +kernel
theorem dX8_keep_26 : decode cX8_keep 26 = .ok (.iload_n 1, 1) := by decide +kernel
theorem dX8_keep_27 : decode cX8_keep 27 = .ok (.aload_n 0, 1) := by decide +kernel
theorem dX8_keep_28 : decode cX8_keep 28 = .ok (.getfield 34, 3) := by decide +kernel
theorem dX8_keep_31 : decode cX8_keep 31 = .ok (.iload_n 1, 1) := by decide +kernel
theorem dX8_keep_32 : decode cX8_keep 32 = .ok (.iaload, 1) := by decide +kernel
theorem dX8_keep_33 : decode cX8_keep 33 = .ok (.iastore, 1) := by decide +kernel
theorem dX8_keep_34 : decode cX8_keep 34 = .ok (.aload_n 0, 1) := by decide +kernel
theorem dX8_keep_35 : decode cX8_keep 35 = .ok (.getfield 58, 3) := by decide +kernel
theorem dX8_keep_38 : decode cX8_keep 38 = .ok (.iload_n 1, 1) := by decide +kernel
theorem dX8_keep_39 : decode cX8_keep 39 = .ok (.aload_n 0, 1) := by decide +kernel
theorem dX8_keep_40 : decode cX8_keep 40 = .ok (.getfield 40, 3) := by decide +kernel
theorem dX8_keep_43 : decode cX8_keep 43 = .ok (.iload_n 1, 1) := by decide +kernel
theorem dX8_keep_44 : decode cX8_keep 44 = .ok (.iaload, 1) := by decide +kernel
theorem dX8_keep_45 : decode cX8_keep 45 = .ok (.iastore, 1) := by decide +kernel
theorem dX8_keep_46 : decode cX8_keep 46 = .ok (.aload_n 0, 1) := by decide +kernel
theorem dX8_keep_47 : decode cX8_keep 47 = .ok (.getfield 61, 3) := by decide +kernel
theorem dX8_keep_50 : decode cX8_keep 50 = .ok (.iload_n 1, 1) := by decide +kernel
theorem dX8_keep_51 : decode cX8_keep 51 = .ok (.aload_n 0, 1) := by decide +kernel
theorem dX8_keep_52 : decode cX8_keep 52 = .ok (.getfield 43, 3) := by decide +kernel
theorem dX8_keep_55 : decode cX8_keep 55 = .ok (.iload_n 1, 1) := by decide +kernel
theorem dX8_keep_56 : decode cX8_keep 56 = .ok (.iaload, 1) := by decide +kernel
theorem dX8_keep_57 : decode cX8_keep 57 = .ok (.iastore, 1) := by decide +kernel
theorem dX8_keep_58 : decode cX8_keep 58 = .ok (.iinc 1 1, 3) := by decide +kernel
theorem dX8_keep_61 : decode cX8_keep 61 = .ok (.goto (-59), 3) := by decide +kernel
theorem dX8_keep_64 : decode cX8_keep 64 = .ok (.return_, 1) := by decide +kernel
theorem dX8_putBack_0 : decode cX8_putBack 0 = .ok (.iconst 0, 1) := by decide +kernel
theorem dX8_putBack_1 : decode cX8_putBack 1 = .ok (.istore_n 1, 1) := by decide +kernel
theorem dX8_putBack_2 : decode cX8_putBack 2 = .ok (.iload_n 1, 1) := by decide +kernel
theorem dX8_putBack_3 : decode cX8_putBack 3 = .ok (.aload_n 0, 1) := by decide +kernel
theorem dX8_putBack_4 : decode cX8_putBack 4 = .ok (.getfield 95, 3) := by decide +kernel
theorem dX8_putBack_7 : decode cX8_putBack 7 = .ok (.if_icmp .ge 57, 3) := by decide +kernel
theorem dX8_putBack_10 : decode cX8_putBack 10 = .ok (.aload_n 0, 1) := by decide +kernel
theorem dX8_putBack_11 : decode cX8_putBack 11 = .ok (.getfield 31, 3) := by decide +kernel
theorem dX8_putBack_14 : decode cX8_putBack 14 = .ok (.iload_n 1, 1) := by decide +kernel
theorem dX8_putBack_15 : decode cX8_putBack 15 = .ok (.aload_n 0, 1) := by decide +kernel
theorem dX8_putBack_16 : decode cX8_putBack 16 = .ok (.getfield 52, 3) := by decide +kernel
theorem dX8_putBack_19 : decode cX8_putBack 19 = .ok (.iload_n 1, 1) := by decide +kernel
theorem dX8_putBack_20 : decode cX8_putBack 20 = .ok (.iaload, 1) := by decide +kernel
theorem dX8_putBack_21 : decode cX8_putBack 21 = .ok (.iastore, 1) := by decide +kernel
theorem dX8_putBack_22 : decode cX8_putBack 22 = .ok (.aload_n 0, 1) := by decide +kernel
theorem dX8_putBack_23 : decode cX8_putBack 23 = .ok (.getfield 34, 3) := by decide +kernel
theorem dX8_putBack_26 : decode cX8_putBack 26 = .ok (.iload_n 1, 1) := by decide +kernel
theorem dX8_putBack_27 : decode cX8_putBack 27 = .ok (.aload_n 0, 1) := by decide +kernel
theorem dX8_putBack_28 : decode cX8_putBack 28 = .ok (.getfield 55, 3) := by decide +kernel
theorem dX8_putBack_31 : decode cX8_putBack 31 = .ok (.iload_n 1, 1) := by decide +kernel
theorem dX8_putBack_32 : decode cX8_putBack 32 = .ok (.iaload, 1) := by decide +kernel
theorem dX8_putBack_33 : decode cX8_putBack 33 = .ok (.iastore, 1) := by decide +kernel
theorem dX8_putBack_34 : decode cX8_putBack 34 = .ok (.aload_n 0, 1) := by decide +kernel
theorem dX8_putBack_35 : decode cX8_putBack 35 = .ok (.getfield 40, 3) := by decide +kernel
theorem dX8_putBack_38 : decode cX8_putBack 38 = .ok (.iload_n 1, 1) := by decide +kernel
theorem dX8_putBack_39 : decode cX8_putBack 39 = .ok (.aload_n 0, 1) := by decide +kernel
theorem dX8_putBack_40 : decode cX8_putBack 40 = .ok (.getfield 58, 3) := by decide +kernel
theorem dX8_putBack_43 : decode cX8_putBack 43 = .ok (.iload_n 1, 1) := by decide +kernel
theorem dX8_putBack_44 : decode cX8_putBack 44 = .ok (.iaload, 1) := by decide +kernel
theorem dX8_putBack_45 : decode cX8_putBack 45 = .ok (.iastore, 1) := by decide +kernel
theorem dX8_putBack_46 : decode cX8_putBack 46 = .ok (.aload_n 0, 1) := by decide +kernel
theorem dX8_putBack_47 : decode cX8_putBack 47 = .ok (.getfield 43, 3) := by decide +kernel
theorem dX8_putBack_50 : decode cX8_putBack 50 = .ok (.iload_n 1, 1) := by decide +kernel
theorem dX8_putBack_51 : decode cX8_putBack 51 = .ok (.aload_n 0, 1) := by decide +kernel
theorem dX8_putBack_52 : decode cX8_putBack 52 = .ok (.getfield 61, 3) := by decide +kernel
theorem dX8_putBack_55 : decode cX8_putBack 55 = .ok (.iload_n 1, 1) := by decide +kernel
theorem dX8_putBack_56 : decode cX8_putBack 56 = .ok (.iaload, 1) := by decide +kernel
theorem dX8_putBack_57 : decode cX8_putBack 57 = .ok (.iastore, 1) := by decide +kernel
theorem dX8_putBack_58 : decode cX8_putBack 58 = .ok (.iinc 1 1, 3) := by decide +kernel
theorem dX8_putBack_61 : decode cX8_putBack 61 = .ok (.goto (-59), 3) := by decide +kernel
theorem dX8_putBack_64 : decode cX8_putBack 64 = .ok (.return_, 1) := by decide +kernel
theorem dX8_does_0 : decode cX8_does 0 = .ok (.iload_n 2, 1) := by decide +kernel
theorem dX8_does_1 : decode cX8_does 1 = .ok (.bipush 8, 2) := by decide +kernel
theorem dX8_does_3 : decode cX8_does 3 = .ok (.if_icmp .ne 31, 3) := by decide +kernel
theorem dX8_does_6 : decode cX8_does 6 = .ok (.iconst 0, 1) := by decide +kernel
theorem dX8_does_7 : decode cX8_does 7 = .ok (.istore_n 3, 1) := by decide +kernel
theorem dX8_does_8 : decode cX8_does 8 = .ok (.iload_n 3, 1) := by decide +kernel
theorem dX8_does_9 : decode cX8_does 9 = .ok (.iload_n 1, 1) := by decide +kernel
theorem dX8_does_10 : decode cX8_does 10 = .ok (.if_icmp .ge 22, 3) := by decide +kernel
theorem dX8_does_13 : decode cX8_does 13 = .ok (.aload_n 0, 1) := by decide +kernel
theorem dX8_does_14 : decode cX8_does 14 = .ok (.dup, 1) := by decide +kernel
theorem dX8_does_15 : decode cX8_does 15 = .ok (.getfield 184, 3) := by decide +kernel
theorem dX8_does_18 : decode cX8_does 18 = .ok (.aload_n 0, 1) := by decide +kernel
theorem dX8_does_19 : decode cX8_does 19 = .ok (.invokevirtual 180, 3) := by decide +kernel
theorem dX8_does_22 : decode cX8_does 22 = .ok (.iadd, 1) := by decide +kernel
theorem dX8_does_23 : decode cX8_does 23 = .ok (.putfield 184, 3) := by decide +kernel
theorem dX8_does_26 : decode cX8_does 26 = .ok (.iinc 3 1, 3) := by decide +kernel
theorem dX8_does_29 : decode cX8_does 29 = .ok (.goto (-21), 3) := by decide +kernel
theorem dX8_does_32 : decode cX8_does 32 = .ok (.iconst 1, 1) := by decide +kernel
theorem dX8_does_33 : decode cX8_does 33 = .ok (.ireturn, 1) := by decide +kernel
theorem dX8_does_34 : decode cX8_does 34 = .ok (.iload_n 2, 1) := by decide +kernel
theorem dX8_does_35 : decode cX8_does 35 = .ok (.bipush 9, 2) := by decide +kernel
theorem dX8_does_37 : decode cX8_does 37 = .ok (.if_icmp .ne 30, 3) := by decide +kernel
theorem dX8_does_40 : decode cX8_does 40 = .ok (.aload_n 0, 1) := by decide +kernel
theorem dX8_does_41 : decode cX8_does 41 = .ok (.getfield 40, 3) := by decide +kernel
theorem dX8_does_44 : decode cX8_does 44 = .ok (.iload_n 1, 1) := by decide +kernel
theorem dX8_does_45 : decode cX8_does 45 = .ok (.iaload, 1) := by decide +kernel
theorem dX8_does_46 : decode cX8_does 46 = .ok (.bipush (-9), 2) := by decide +kernel
theorem dX8_does_48 : decode cX8_does 48 = .ok (.if_icmp .eq 7, 3) := by decide +kernel
theorem dX8_does_51 : decode cX8_does 51 = .ok (.iconst 1, 1) := by decide +kernel
theorem dX8_does_52 : decode cX8_does 52 = .ok (.goto 4, 3) := by decide +kernel
theorem dX8_does_55 : decode cX8_does 55 = .ok (.iconst 0, 1) := by decide +kernel
theorem dX8_does_56 : decode cX8_does 56 = .ok (.istore_n 3, 1) := by decide +kernel
theorem dX8_does_57 : decode cX8_does 57 = .ok (.aload_n 0, 1) := by decide +kernel
theorem dX8_does_58 : decode cX8_does 58 = .ok (.getfield 40, 3) := by decide +kernel
theorem dX8_does_61 : decode cX8_does 61 = .ok (.iload_n 1, 1) := by decide +kernel
theorem dX8_does_62 : decode cX8_does 62 = .ok (.bipush (-9), 2) := by decide +kernel
theorem dX8_does_64 : decode cX8_does 64 = .ok (.iastore, 1) := by decide +kernel
theorem dX8_does_65 : decode cX8_does 65 = .ok (.iload_n 3, 1) := by decide +kernel
theorem dX8_does_66 : decode cX8_does 66 = .ok (.ireturn, 1) := by decide +kernel
theorem dX8_does_67 : decode cX8_does 67 = .ok (.aload_n 0, 1) := by decide +kernel
theorem dX8_does_68 : decode cX8_does 68 = .ok (.iload_n 1, 1) := by decide +kernel
theorem dX8_does_69 : decode cX8_does 69 = .ok (.iload_n 2, 1) := by decide +kernel
theorem dX8_does_70 : decode cX8_does 70 = .ok (.invokevirtual 177, 3) := by decide +kernel
theorem dX8_does_73 : decode cX8_does 73 = .ok (.ireturn, 1) := by decide +kernel
theorem dX8_goSeason_0 : decode cX8_goSeason 0 = .ok (.aload_n 0, 1) := by decide +kernel
theorem dX8_goSeason_1 : decode cX8_goSeason 1 = .ok (.iconst 0, 1) := by decide +kernel
theorem dX8_goSeason_2 : decode cX8_goSeason 2 = .ok (.putfield 184, 3) := by decide +kernel
theorem dX8_goSeason_5 : decode cX8_goSeason 5 = .ok (.iconst 0, 1) := by decide +kernel
theorem dX8_goSeason_6 : decode cX8_goSeason 6 = .ok (.istore_n 3, 1) := by decide +kernel
theorem dX8_goSeason_7 : decode cX8_goSeason 7 = .ok (.iload_n 3, 1) := by decide +kernel
theorem dX8_goSeason_8 : decode cX8_goSeason 8 = .ok (.iload_n 2, 1) := by decide +kernel
theorem dX8_goSeason_9 : decode cX8_goSeason 9 = .ok (.if_icmp .ge 40, 3) := by decide +kernel
theorem dX8_goSeason_12 : decode cX8_goSeason 12 = .ok (.aload_n 0, 1) := by decide +kernel
theorem dX8_goSeason_13 : decode cX8_goSeason 13 = .ok (.aload_n 0, 1) := by decide +kernel
theorem dX8_goSeason_14 : decode cX8_goSeason 14 = .ok (.getfield 16, 3) := by decide +kernel
theorem dX8_goSeason_17 : decode cX8_goSeason 17 = .ok (.iload_n 1, 1) := by decide +kernel
theorem dX8_goSeason_18 : decode cX8_goSeason 18 = .ok (.iconst 2, 1) := by decide +kernel
theorem dX8_goSeason_19 : decode cX8_goSeason 19 = .ok (.iload_n 3, 1) := by decide +kernel
theorem dX8_goSeason_20 : decode cX8_goSeason 20 = .ok (.imul, 1) := by decide +kernel
theorem dX8_goSeason_21 : decode cX8_goSeason 21 = .ok (.iadd, 1) := by decide +kernel
theorem dX8_goSeason_22 : decode cX8_goSeason 22 = .ok (.iaload, 1) := by decide +kernel
theorem dX8_goSeason_23 : decode cX8_goSeason 23 = .ok (.aload_n 0, 1) := by decide +kernel
theorem dX8_goSeason_24 : decode cX8_goSeason 24 = .ok (.getfield 16, 3) := by decide +kernel
theorem dX8_goSeason_27 : decode cX8_goSeason 27 = .ok (.iload_n 1, 1) := by decide +kernel
theorem dX8_goSeason_28 : decode cX8_goSeason 28 = .ok (.iconst 2, 1) := by decide +kernel
theorem dX8_goSeason_29 : decode cX8_goSeason 29 = .ok (.iload_n 3, 1) := by decide +kernel
theorem dX8_goSeason_30 : decode cX8_goSeason 30 = .ok (.imul, 1) := by decide +kernel
theorem dX8_goSeason_31 : decode cX8_goSeason 31 = .ok (.iadd, 1) := by decide +kernel
theorem dX8_goSeason_32 : decode cX8_goSeason 32 = .ok (.iconst 1, 1) := by decide +kernel
theorem dX8_goSeason_33 : decode cX8_goSeason 33 = .ok (.iadd, 1) := by decide +kernel
theorem dX8_goSeason_34 : decode cX8_goSeason 34 = .ok (.iaload, 1) := by decide +kernel
theorem dX8_goSeason_35 : decode cX8_goSeason 35 = .ok (.invokevirtual 187, 3) := by decide +kernel
theorem dX8_goSeason_38 : decode cX8_goSeason 38 = .ok (.ifCond .ne 5, 3) := by decide +kernel
theorem dX8_goSeason_41 : decode cX8_goSeason 41 = .ok (.iload_n 3, 1) := by decide +kernel
theorem dX8_goSeason_42 : decode cX8_goSeason 42 = .ok (.ireturn, 1) := by decide +kernel
theorem dX8_goSeason_43 : decode cX8_goSeason 43 = .ok (.iinc 3 1, 3) := by decide +kernel
theorem dX8_goSeason_46 : decode cX8_goSeason 46 = .ok (.goto (-39), 3) := by decide +kernel
theorem dX8_goSeason_49 : decode cX8_goSeason 49 = .ok (.bipush (-9), 2) := by decide +kernel
theorem dX8_goSeason_51 : decode cX8_goSeason 51 = .ok (.ireturn, 1) := by decide +kernel
theorem dX8_refusesPair_0 : decode cX8_refusesPair 0 = .ok (.aload_n 0, 1) := by decide +kernel
theorem dX8_refusesPair_1 : decode cX8_refusesPair 1 = .ok (.iload_n 2, 1) := by decide +kernel
theorem dX8_refusesPair_2 : decode cX8_refusesPair 2 = .ok (.invokevirtual 152, 3) := by decide +kernel
theorem dX8_refusesPair_5 : decode cX8_refusesPair 5 = .ok (.ifCond .ne 15, 3) := by decide +kernel
theorem dX8_refusesPair_8 : decode cX8_refusesPair 8 = .ok (.iload_n 2, 1) := by decide +kernel
theorem dX8_refusesPair_9 : decode cX8_refusesPair 9 = .ok (.bipush 8, 2) := by decide +kernel
theorem dX8_refusesPair_11 : decode cX8_refusesPair 11 = .ok (.if_icmp .eq 9, 3) := by decide +kernel
theorem dX8_refusesPair_14 : decode cX8_refusesPair 14 = .ok (.iload_n 2, 1) := by decide +kernel
theorem dX8_refusesPair_15 : decode cX8_refusesPair 15 = .ok (.bipush 9, 2) := by decide +kernel
theorem dX8_refusesPair_17 : decode cX8_refusesPair 17 = .ok (.if_icmp .ne 19, 3) := by decide +kernel
theorem dX8_refusesPair_20 : decode cX8_refusesPair 20 = .ok (.iload_n 2, 1) := by decide +kernel
theorem dX8_refusesPair_21 : decode cX8_refusesPair 21 = .ok (.bipush 8, 2) := by decide +kernel
theorem dX8_refusesPair_23 : decode cX8_refusesPair 23 = .ok (.if_icmp .ne 16, 3) := by decide +kernel
theorem dX8_refusesPair_26 : decode cX8_refusesPair 26 = .ok (.iload_n 1, 1) := by decide +kernel
theorem dX8_refusesPair_27 : decode cX8_refusesPair 27 = .ok (.iconst 0, 1) := by decide +kernel
theorem dX8_refusesPair_28 : decode cX8_refusesPair 28 = .ok (.bipush 9, 2) := by decide +kernel
theorem dX8_refusesPair_30 : decode cX8_refusesPair 30 = .ok (.invokestatic 88, 3) := by decide +kernel
theorem dX8_refusesPair_33 : decode cX8_refusesPair 33 = .ok (.ifCond .ne 6, 3) := by decide +kernel
theorem dX8_refusesPair_36 : decode cX8_refusesPair 36 = .ok (.bipush (-2), 2) := by decide +kernel
theorem dX8_refusesPair_38 : decode cX8_refusesPair 38 = .ok (.ireturn, 1) := by decide +kernel
theorem dX8_refusesPair_39 : decode cX8_refusesPair 39 = .ok (.iload_n 2, 1) := by decide +kernel
theorem dX8_refusesPair_40 : decode cX8_refusesPair 40 = .ok (.bipush 8, 2) := by decide +kernel
theorem dX8_refusesPair_42 : decode cX8_refusesPair 42 = .ok (.if_icmp .eq 15, 3) := by decide +kernel
theorem dX8_refusesPair_45 : decode cX8_refusesPair 45 = .ok (.aload_n 0, 1) := by decide +kernel
theorem dX8_refusesPair_46 : decode cX8_refusesPair 46 = .ok (.iload_n 1, 1) := by decide +kernel
theorem dX8_refusesPair_47 : decode cX8_refusesPair 47 = .ok (.invokevirtual 161, 3) := by decide +kernel
theorem dX8_refusesPair_50 : decode cX8_refusesPair 50 = .ok (.ifCond .ne 7, 3) := by decide +kernel
theorem dX8_refusesPair_53 : decode cX8_refusesPair 53 = .ok (.iconst (-1), 1) := by decide +kernel
theorem dX8_refusesPair_54 : decode cX8_refusesPair 54 = .ok (.goto 4, 3) := by decide +kernel
theorem dX8_refusesPair_57 : decode cX8_refusesPair 57 = .ok (.iconst 0, 1) := by decide +kernel
theorem dX8_refusesPair_58 : decode cX8_refusesPair 58 = .ok (.ireturn, 1) := by decide +kernel
theorem dX8_season_0 : decode cX8_season 0 = .ok (.aload_n 0, 1) := by decide +kernel
theorem dX8_season_1 : decode cX8_season 1 = .ok (.iconst 0, 1) := by decide +kernel
theorem dX8_season_2 : decode cX8_season 2 = .ok (.putfield 82, 3) := by decide +kernel
theorem dX8_season_5 : decode cX8_season 5 = .ok (.iload_n 1, 1) := by decide +kernel
theorem dX8_season_6 : decode cX8_season 6 = .ok (.invokestatic 101, 3) := by decide +kernel
theorem dX8_season_9 : decode cX8_season 9 = .ok (.ifCond .ne 5, 3) := by decide +kernel
theorem dX8_season_12 : decode cX8_season 12 = .ok (.iconst (-1), 1) := by decide +kernel
theorem dX8_season_13 : decode cX8_season 13 = .ok (.ireturn, 1) := by decide +kernel
theorem dX8_season_14 : decode cX8_season 14 = .ok (.iload_n 2, 1) := by decide +kernel
theorem dX8_season_15 : decode cX8_season 15 = .ok (.invokestatic 105, 3) := by decide +kernel
theorem dX8_season_18 : decode cX8_season 18 = .ok (.ifCond .eq 48, 3) := by decide +kernel
theorem dX8_season_21 : decode cX8_season 21 = .ok (.iload 4, 2) := by decide +kernel
theorem dX8_season_23 : decode cX8_season 23 = .ok (.iconst 0, 1) := by decide +kernel
theorem dX8_season_24 : decode cX8_season 24 = .ok (.bipush 20, 2) := by decide +kernel
theorem dX8_season_26 : decode cX8_season 26 = .ok (.invokestatic 88, 3) := by decide +kernel
theorem dX8_season_29 : decode cX8_season 29 = .ok (.ifCond .eq 37, 3) := by decide +kernel
theorem dX8_season_32 : decode cX8_season 32 = .ok (.iload 5, 2) := by decide +kernel
theorem dX8_season_34 : decode cX8_season 34 = .ok (.iconst 0, 1) := by decide +kernel
theorem dX8_season_35 : decode cX8_season 35 = .ok (.iconst 3, 1) := by decide +kernel
theorem dX8_season_36 : decode cX8_season 36 = .ok (.invokestatic 88, 3) := by decide +kernel
theorem dX8_season_39 : decode cX8_season 39 = .ok (.ifCond .ne 30, 3) := by decide +kernel
theorem dX8_season_42 : decode cX8_season 42 = .ok (.iload 5, 2) := by decide +kernel
theorem dX8_season_44 : decode cX8_season 44 = .ok (.bipush 10, 2) := by decide +kernel
theorem dX8_season_46 : decode cX8_season 46 = .ok (.bipush 14, 2) := by decide +kernel
theorem dX8_season_48 : decode cX8_season 48 = .ok (.invokestatic 88, 3) := by decide +kernel
theorem dX8_season_51 : decode cX8_season 51 = .ok (.ifCond .ne 18, 3) := by decide +kernel
theorem dX8_season_54 : decode cX8_season 54 = .ok (.iload 5, 2) := by decide +kernel
theorem dX8_season_56 : decode cX8_season 56 = .ok (.bipush 20, 2) := by decide +kernel
theorem dX8_season_58 : decode cX8_season 58 = .ok (.bipush 24, 2) := by decide +kernel
theorem dX8_season_60 : decode cX8_season 60 = .ok (.invokestatic 88, 3) := by decide +kernel
theorem dX8_season_63 : decode cX8_season 63 = .ok (.ifCond .ne 6, 3) := by decide +kernel
theorem dX8_season_66 : decode cX8_season 66 = .ok (.bipush (-2), 2) := by decide +kernel
theorem dX8_season_68 : decode cX8_season 68 = .ok (.ireturn, 1) := by decide +kernel
theorem dX8_season_69 : decode cX8_season 69 = .ok (.aload_n 0, 1) := by decide +kernel
theorem dX8_season_70 : decode cX8_season 70 = .ok (.iload_n 1, 1) := by decide +kernel
theorem dX8_season_71 : decode cX8_season 71 = .ok (.iload_n 2, 1) := by decide +kernel
theorem dX8_season_72 : decode cX8_season 72 = .ok (.iload_n 3, 1) := by decide +kernel
theorem dX8_season_73 : decode cX8_season 73 = .ok (.iconst 2, 1) := by decide +kernel
theorem dX8_season_74 : decode cX8_season 74 = .ok (.iload 4, 2) := by decide +kernel
theorem dX8_season_76 : decode cX8_season 76 = .ok (.imul, 1) := by decide +kernel
theorem dX8_season_77 : decode cX8_season 77 = .ok (.invokevirtual 108, 3) := by decide +kernel
theorem dX8_season_80 : decode cX8_season 80 = .ok (.istore 6, 2) := by decide +kernel
theorem dX8_season_82 : decode cX8_season 82 = .ok (.iload 6, 2) := by decide +kernel
theorem dX8_season_84 : decode cX8_season 84 = .ok (.ifCond .eq 10, 3) := by decide +kernel
theorem dX8_season_87 : decode cX8_season 87 = .ok (.aload_n 0, 1) := by decide +kernel
theorem dX8_season_88 : decode cX8_season 88 = .ok (.iload 6, 2) := by decide +kernel
theorem dX8_season_90 : decode cX8_season 90 = .ok (.invokevirtual 112, 3) := by decide +kernel
theorem dX8_season_93 : decode cX8_season 93 = .ok (.ireturn, 1) := by decide +kernel
theorem dX8_season_94 : decode cX8_season 94 = .ok (.aload_n 0, 1) := by decide +kernel
theorem dX8_season_95 : decode cX8_season 95 = .ok (.getfield 92, 3) := by decide +kernel
theorem dX8_season_98 : decode cX8_season 98 = .ok (.ifCond .ne 6, 3) := by decide +kernel
theorem dX8_season_101 : decode cX8_season 101 = .ok (.bipush (-3), 2) := by decide +kernel
theorem dX8_season_103 : decode cX8_season 103 = .ok (.ireturn, 1) := by decide +kernel
theorem dX8_season_104 : decode cX8_season 104 = .ok (.bipush 60, 2) := by decide +kernel
theorem dX8_season_106 : decode cX8_season 106 = .ok (.iload_n 1, 1) := by decide +kernel
theorem dX8_season_107 : decode cX8_season 107 = .ok (.imul, 1) := by decide +kernel
end
section
theorem dX8_season_108 : decode cX8_season 108 = .ok (.iload_n 3, 1) := by decide +kernel
theorem dX8_season_109 : decode cX8_season 109 = .ok (.iadd, 1) := by decide +kernel
theorem dX8_season_110 : decode cX8_season 110 = .ok (.istore 7, 2) := by decide +kernel
theorem dX8_season_112 : decode cX8_season 112 = .ok (.iconst 0, 1) := by decide +kernel
theorem dX8_season_113 : decode cX8_season 113 = .ok (.istore 8, 2) := by decide +kernel
theorem dX8_season_115 : decode cX8_season 115 = .ok (.iload 8, 2) := by decide +kernel
theorem dX8_season_117 : decode cX8_season 117 = .ok (.iload 4, 2) := by decide +kernel
theorem dX8_season_119 : decode cX8_season 119 = .ok (.if_icmp .ge 49, 3) := by decide +kernel
theorem dX8_season_122 : decode cX8_season 122 = .ok (.aload_n 0, 1) := by decide +kernel
theorem dX8_season_123 : decode cX8_season 123 = .ok (.aload_n 0, 1) := by decide +kernel
theorem dX8_season_124 : decode cX8_season 124 = .ok (.getfield 16, 3) := by decide +kernel
theorem dX8_season_127 : decode cX8_season 127 = .ok (.iload 7, 2) := by decide +kernel
theorem dX8_season_129 : decode cX8_season 129 = .ok (.iconst 2, 1) := by decide +kernel
theorem dX8_season_130 : decode cX8_season 130 = .ok (.iload 8, 2) := by decide +kernel
theorem dX8_season_132 : decode cX8_season 132 = .ok (.imul, 1) := by decide +kernel
theorem dX8_season_133 : decode cX8_season 133 = .ok (.iadd, 1) := by decide +kernel
theorem dX8_season_134 : decode cX8_season 134 = .ok (.iaload, 1) := by decide +kernel
theorem dX8_season_135 : decode cX8_season 135 = .ok (.aload_n 0, 1) := by decide +kernel
theorem dX8_season_136 : decode cX8_season 136 = .ok (.getfield 16, 3) := by decide +kernel
theorem dX8_season_139 : decode cX8_season 139 = .ok (.iload 7, 2) := by decide +kernel
theorem dX8_season_141 : decode cX8_season 141 = .ok (.iconst 2, 1) := by decide +kernel
theorem dX8_season_142 : decode cX8_season 142 = .ok (.iload 8, 2) := by decide +kernel
theorem dX8_season_144 : decode cX8_season 144 = .ok (.imul, 1) := by decide +kernel
theorem dX8_season_145 : decode cX8_season 145 = .ok (.iadd, 1) := by decide +kernel
theorem dX8_season_146 : decode cX8_season 146 = .ok (.iconst 1, 1) := by decide +kernel
theorem dX8_season_147 : decode cX8_season 147 = .ok (.iadd, 1) := by decide +kernel
theorem dX8_season_148 : decode cX8_season 148 = .ok (.iaload, 1) := by decide +kernel
theorem dX8_season_149 : decode cX8_season 149 = .ok (.invokevirtual 190, 3) := by decide +kernel
theorem dX8_season_152 : decode cX8_season 152 = .ok (.istore 9, 2) := by decide +kernel
theorem dX8_season_154 : decode cX8_season 154 = .ok (.iload 9, 2) := by decide +kernel
theorem dX8_season_156 : decode cX8_season 156 = .ok (.ifCond .eq 6, 3) := by decide +kernel
theorem dX8_season_159 : decode cX8_season 159 = .ok (.iload 9, 2) := by decide +kernel
theorem dX8_season_161 : decode cX8_season 161 = .ok (.ireturn, 1) := by decide +kernel
theorem dX8_season_162 : decode cX8_season 162 = .ok (.iinc 8 1, 3) := by decide +kernel
theorem dX8_season_165 : decode cX8_season 165 = .ok (.goto (-50), 3) := by decide +kernel
theorem dX8_season_168 : decode cX8_season 168 = .ok (.aload_n 0, 1) := by decide +kernel
theorem dX8_season_169 : decode cX8_season 169 = .ok (.invokevirtual 193, 3) := by decide +kernel
theorem dX8_season_172 : decode cX8_season 172 = .ok (.aload_n 0, 1) := by decide +kernel
theorem dX8_season_173 : decode cX8_season 173 = .ok (.iload 7, 2) := by decide +kernel
theorem dX8_season_175 : decode cX8_season 175 = .ok (.iload 4, 2) := by decide +kernel
theorem dX8_season_177 : decode cX8_season 177 = .ok (.invokevirtual 196, 3) := by decide +kernel
theorem dX8_season_180 : decode cX8_season 180 = .ok (.istore 8, 2) := by decide +kernel
theorem dX8_season_182 : decode cX8_season 182 = .ok (.aload_n 0, 1) := by decide +kernel
theorem dX8_season_183 : decode cX8_season 183 = .ok (.iload 5, 2) := by decide +kernel
theorem dX8_season_185 : decode cX8_season 185 = .ok (.invokevirtual 199, 3) := by decide +kernel
theorem dX8_season_188 : decode cX8_season 188 = .ok (.istore 9, 2) := by decide +kernel
theorem dX8_season_190 : decode cX8_season 190 = .ok (.aload_n 0, 1) := by decide +kernel
theorem dX8_season_191 : decode cX8_season 191 = .ok (.invokevirtual 202, 3) := by decide +kernel
theorem dX8_season_194 : decode cX8_season 194 = .ok (.iload 5, 2) := by decide +kernel
theorem dX8_season_196 : decode cX8_season 196 = .ok (.iconst 1, 1) := by decide +kernel
theorem dX8_season_197 : decode cX8_season 197 = .ok (.if_icmp .ne 8, 3) := by decide +kernel
theorem dX8_season_200 : decode cX8_season 200 = .ok (.iload 8, 2) := by decide +kernel
theorem dX8_season_202 : decode cX8_season 202 = .ok (.goto 20, 3) := by decide +kernel
theorem dX8_season_205 : decode cX8_season 205 = .ok (.iload 8, 2) := by decide +kernel
theorem dX8_season_207 : decode cX8_season 207 = .ok (.bipush (-9), 2) := by decide +kernel
theorem dX8_season_209 : decode cX8_season 209 = .ok (.if_icmp .ne 8, 3) := by decide +kernel
theorem dX8_season_212 : decode cX8_season 212 = .ok (.iload 9, 2) := by decide +kernel
theorem dX8_season_214 : decode cX8_season 214 = .ok (.goto 8, 3) := by decide +kernel
theorem dX8_season_217 : decode cX8_season 217 = .ok (.bipush (-100), 2) := by decide +kernel
theorem dX8_season_219 : decode cX8_season 219 = .ok (.iload 8, 2) := by decide +kernel
theorem dX8_season_221 : decode cX8_season 221 = .ok (.isub, 1) := by decide +kernel
theorem dX8_season_222 : decode cX8_season 222 = .ok (.ireturn, 1) := by decide +kernel
theorem dX8_whoLodges_0 : decode cX8_whoLodges 0 = .ok (.iconst 0, 1) := by decide +kernel
theorem dX8_whoLodges_1 : decode cX8_whoLodges 1 = .ok (.istore_n 1, 1) := by decide +kernel
theorem dX8_whoLodges_2 : decode cX8_whoLodges 2 = .ok (.iconst 0, 1) := by decide +kernel
theorem dX8_whoLodges_3 : decode cX8_whoLodges 3 = .ok (.istore_n 2, 1) := by decide +kernel
theorem dX8_whoLodges_4 : decode cX8_whoLodges 4 = .ok (.iload_n 2, 1) := by decide +kernel
theorem dX8_whoLodges_5 : decode cX8_whoLodges 5 = .ok (.aload_n 0, 1) := by decide +kernel
theorem dX8_whoLodges_6 : decode cX8_whoLodges 6 = .ok (.getfield 95, 3) := by decide +kernel
theorem dX8_whoLodges_9 : decode cX8_whoLodges 9 = .ok (.if_icmp .ge 30, 3) := by decide +kernel
theorem dX8_whoLodges_12 : decode cX8_whoLodges 12 = .ok (.iload_n 1, 1) := by decide +kernel
theorem dX8_whoLodges_13 : decode cX8_whoLodges 13 = .ok (.aload_n 0, 1) := by decide +kernel
theorem dX8_whoLodges_14 : decode cX8_whoLodges 14 = .ok (.getfield 40, 3) := by decide +kernel
theorem dX8_whoLodges_17 : decode cX8_whoLodges 17 = .ok (.iload_n 2, 1) := by decide +kernel
theorem dX8_whoLodges_18 : decode cX8_whoLodges 18 = .ok (.iaload, 1) := by decide +kernel
theorem dX8_whoLodges_19 : decode cX8_whoLodges 19 = .ok (.bipush (-9), 2) := by decide +kernel
theorem dX8_whoLodges_21 : decode cX8_whoLodges 21 = .ok (.if_icmp .ne 7, 3) := by decide +kernel
theorem dX8_whoLodges_24 : decode cX8_whoLodges 24 = .ok (.iconst 0, 1) := by decide +kernel
theorem dX8_whoLodges_25 : decode cX8_whoLodges 25 = .ok (.goto 6, 3) := by decide +kernel
theorem dX8_whoLodges_28 : decode cX8_whoLodges 28 = .ok (.iconst 1, 1) := by decide +kernel
theorem dX8_whoLodges_29 : decode cX8_whoLodges 29 = .ok (.iload_n 2, 1) := by decide +kernel
theorem dX8_whoLodges_30 : decode cX8_whoLodges 30 = .ok (.ishl, 1) := by decide +kernel
theorem dX8_whoLodges_31 : decode cX8_whoLodges 31 = .ok (.ior, 1) := by decide +kernel
theorem dX8_whoLodges_32 : decode cX8_whoLodges 32 = .ok (.istore_n 1, 1) := by decide +kernel
theorem dX8_whoLodges_33 : decode cX8_whoLodges 33 = .ok (.iinc 2 1, 3) := by decide +kernel
theorem dX8_whoLodges_36 : decode cX8_whoLodges 36 = .ok (.goto (-32), 3) := by decide +kernel
theorem dX8_whoLodges_39 : decode cX8_whoLodges 39 = .ok (.iload_n 1, 1) := by decide +kernel
theorem dX8_whoLodges_40 : decode cX8_whoLodges 40 = .ok (.ireturn, 1) := by decide +kernel
theorem dX8_tellSeason_0 : decode cX8_tellSeason 0 = .ok (.iload_n 1, 1) := by decide +kernel
theorem dX8_tellSeason_1 : decode cX8_tellSeason 1 = .ok (.bipush 20, 2) := by decide +kernel
theorem dX8_tellSeason_3 : decode cX8_tellSeason 3 = .ok (.if_icmp .lt 29, 3) := by decide +kernel
theorem dX8_tellSeason_6 : decode cX8_tellSeason 6 = .ok (.aload_n 0, 1) := by decide +kernel
theorem dX8_tellSeason_7 : decode cX8_tellSeason 7 = .ok (.iload_n 1, 1) := by decide +kernel
theorem dX8_tellSeason_8 : decode cX8_tellSeason 8 = .ok (.bipush 20, 2) := by decide +kernel
theorem dX8_tellSeason_10 : decode cX8_tellSeason 10 = .ok (.isub, 1) := by decide +kernel
theorem dX8_tellSeason_11 : decode cX8_tellSeason 11 = .ok (.invokevirtual 161, 3) := by decide +kernel
theorem dX8_tellSeason_14 : decode cX8_tellSeason 14 = .ok (.ifCond .eq 15, 3) := by decide +kernel
theorem dX8_tellSeason_17 : decode cX8_tellSeason 17 = .ok (.aload_n 0, 1) := by decide +kernel
theorem dX8_tellSeason_18 : decode cX8_tellSeason 18 = .ok (.getfield 43, 3) := by decide +kernel
theorem dX8_tellSeason_21 : decode cX8_tellSeason 21 = .ok (.iload_n 1, 1) := by decide +kernel
theorem dX8_tellSeason_22 : decode cX8_tellSeason 22 = .ok (.bipush 20, 2) := by decide +kernel
theorem dX8_tellSeason_24 : decode cX8_tellSeason 24 = .ok (.isub, 1) := by decide +kernel
theorem dX8_tellSeason_25 : decode cX8_tellSeason 25 = .ok (.iaload, 1) := by decide +kernel
theorem dX8_tellSeason_26 : decode cX8_tellSeason 26 = .ok (.goto 5, 3) := by decide +kernel
theorem dX8_tellSeason_29 : decode cX8_tellSeason 29 = .ok (.bipush (-9), 2) := by decide +kernel
theorem dX8_tellSeason_31 : decode cX8_tellSeason 31 = .ok (.ireturn, 1) := by decide +kernel
theorem dX8_tellSeason_32 : decode cX8_tellSeason 32 = .ok (.iload_n 1, 1) := by decide +kernel
theorem dX8_tellSeason_33 : decode cX8_tellSeason 33 = .ok (.bipush 10, 2) := by decide +kernel
theorem dX8_tellSeason_35 : decode cX8_tellSeason 35 = .ok (.if_icmp .lt 29, 3) := by decide +kernel
theorem dX8_tellSeason_38 : decode cX8_tellSeason 38 = .ok (.aload_n 0, 1) := by decide +kernel
theorem dX8_tellSeason_39 : decode cX8_tellSeason 39 = .ok (.iload_n 1, 1) := by decide +kernel
theorem dX8_tellSeason_40 : decode cX8_tellSeason 40 = .ok (.bipush 10, 2) := by decide +kernel
theorem dX8_tellSeason_42 : decode cX8_tellSeason 42 = .ok (.isub, 1) := by decide +kernel
theorem dX8_tellSeason_43 : decode cX8_tellSeason 43 = .ok (.invokevirtual 161, 3) := by decide +kernel
theorem dX8_tellSeason_46 : decode cX8_tellSeason 46 = .ok (.ifCond .eq 15, 3) := by decide +kernel
theorem dX8_tellSeason_49 : decode cX8_tellSeason 49 = .ok (.aload_n 0, 1) := by decide +kernel
theorem dX8_tellSeason_50 : decode cX8_tellSeason 50 = .ok (.getfield 40, 3) := by decide +kernel
theorem dX8_tellSeason_53 : decode cX8_tellSeason 53 = .ok (.iload_n 1, 1) := by decide +kernel
theorem dX8_tellSeason_54 : decode cX8_tellSeason 54 = .ok (.bipush 10, 2) := by decide +kernel
theorem dX8_tellSeason_56 : decode cX8_tellSeason 56 = .ok (.isub, 1) := by decide +kernel
theorem dX8_tellSeason_57 : decode cX8_tellSeason 57 = .ok (.iaload, 1) := by decide +kernel
theorem dX8_tellSeason_58 : decode cX8_tellSeason 58 = .ok (.goto 5, 3) := by decide +kernel
theorem dX8_tellSeason_61 : decode cX8_tellSeason 61 = .ok (.bipush (-9), 2) := by decide +kernel
theorem dX8_tellSeason_63 : decode cX8_tellSeason 63 = .ok (.ireturn, 1) := by decide +kernel
theorem dX8_tellSeason_64 : decode cX8_tellSeason 64 = .ok (.iload_n 1, 1) := by decide +kernel
theorem dX8_tellSeason_65 : decode cX8_tellSeason 65 = .ok (.iconst 3, 1) := by decide +kernel
theorem dX8_tellSeason_66 : decode cX8_tellSeason 66 = .ok (.if_icmp .ge 19, 3) := by decide +kernel
theorem dX8_tellSeason_69 : decode cX8_tellSeason 69 = .ok (.iload_n 1, 1) := by decide +kernel
theorem dX8_tellSeason_70 : decode cX8_tellSeason 70 = .ok (.ifCond .ne 10, 3) := by decide +kernel
theorem dX8_tellSeason_73 : decode cX8_tellSeason 73 = .ok (.aload_n 0, 1) := by decide +kernel
theorem dX8_tellSeason_74 : decode cX8_tellSeason 74 = .ok (.invokevirtual 205, 3) := by decide +kernel
theorem dX8_tellSeason_77 : decode cX8_tellSeason 77 = .ok (.goto 7, 3) := by decide +kernel
theorem dX8_tellSeason_80 : decode cX8_tellSeason 80 = .ok (.aload_n 0, 1) := by decide +kernel
theorem dX8_tellSeason_81 : decode cX8_tellSeason 81 = .ok (.getfield 184, 3) := by decide +kernel
theorem dX8_tellSeason_84 : decode cX8_tellSeason 84 = .ok (.ireturn, 1) := by decide +kernel
theorem dX8_tellSeason_85 : decode cX8_tellSeason 85 = .ok (.iconst 0, 1) := by decide +kernel
theorem dX8_tellSeason_86 : decode cX8_tellSeason 86 = .ok (.istore_n 2, 1) := by decide +kernel
theorem dX8_tellSeason_87 : decode cX8_tellSeason 87 = .ok (.iconst 0, 1) := by decide +kernel
theorem dX8_tellSeason_88 : decode cX8_tellSeason 88 = .ok (.istore_n 3, 1) := by decide +kernel
theorem dX8_tellSeason_89 : decode cX8_tellSeason 89 = .ok (.iload_n 3, 1) := by decide +kernel
theorem dX8_tellSeason_90 : decode cX8_tellSeason 90 = .ok (.aload_n 0, 1) := by decide +kernel
theorem dX8_tellSeason_91 : decode cX8_tellSeason 91 = .ok (.getfield 95, 3) := by decide +kernel
theorem dX8_tellSeason_94 : decode cX8_tellSeason 94 = .ok (.if_icmp .ge 18, 3) := by decide +kernel
theorem dX8_tellSeason_97 : decode cX8_tellSeason 97 = .ok (.iload_n 2, 1) := by decide +kernel
theorem dX8_tellSeason_98 : decode cX8_tellSeason 98 = .ok (.aload_n 0, 1) := by decide +kernel
theorem dX8_tellSeason_99 : decode cX8_tellSeason 99 = .ok (.getfield 31, 3) := by decide +kernel
theorem dX8_tellSeason_102 : decode cX8_tellSeason 102 = .ok (.iload_n 3, 1) := by decide +kernel
theorem dX8_tellSeason_103 : decode cX8_tellSeason 103 = .ok (.iaload, 1) := by decide +kernel
theorem dX8_tellSeason_104 : decode cX8_tellSeason 104 = .ok (.iadd, 1) := by decide +kernel
theorem dX8_tellSeason_105 : decode cX8_tellSeason 105 = .ok (.istore_n 2, 1) := by decide +kernel
theorem dX8_tellSeason_106 : decode cX8_tellSeason 106 = .ok (.iinc 3 1, 3) := by decide +kernel
theorem dX8_tellSeason_109 : decode cX8_tellSeason 109 = .ok (.goto (-20), 3) := by decide +kernel
theorem dX8_tellSeason_112 : decode cX8_tellSeason 112 = .ok (.iload_n 2, 1) := by decide +kernel
theorem dX8_tellSeason_113 : decode cX8_tellSeason 113 = .ok (.ireturn, 1) := by decide +kernel
theorem dX8_rowsOf_0 : decode cX8_rowsOf 0 = .ok (.iconst 1, 1) := by decide +kernel
theorem dX8_rowsOf_1 : decode cX8_rowsOf 1 = .ok (.istore_n 1, 1) := by decide +kernel
theorem dX8_rowsOf_2 : decode cX8_rowsOf 2 = .ok (.iconst 0, 1) := by decide +kernel
theorem dX8_rowsOf_3 : decode cX8_rowsOf 3 = .ok (.istore_n 2, 1) := by decide +kernel
theorem dX8_rowsOf_4 : decode cX8_rowsOf 4 = .ok (.iload_n 2, 1) := by decide +kernel
theorem dX8_rowsOf_5 : decode cX8_rowsOf 5 = .ok (.aload_n 0, 1) := by decide +kernel
theorem dX8_rowsOf_6 : decode cX8_rowsOf 6 = .ok (.getfield 95, 3) := by decide +kernel
theorem dX8_rowsOf_9 : decode cX8_rowsOf 9 = .ok (.if_icmp .ge 18, 3) := by decide +kernel
theorem dX8_rowsOf_12 : decode cX8_rowsOf 12 = .ok (.iload_n 1, 1) := by decide +kernel
theorem dX8_rowsOf_13 : decode cX8_rowsOf 13 = .ok (.aload_n 0, 1) := by decide +kernel
theorem dX8_rowsOf_14 : decode cX8_rowsOf 14 = .ok (.getfield 92, 3) := by decide +kernel
theorem dX8_rowsOf_17 : decode cX8_rowsOf 17 = .ok (.iconst 1, 1) := by decide +kernel
theorem dX8_rowsOf_18 : decode cX8_rowsOf 18 = .ok (.iadd, 1) := by decide +kernel
theorem dX8_rowsOf_19 : decode cX8_rowsOf 19 = .ok (.imul, 1) := by decide +kernel
theorem dX8_rowsOf_20 : decode cX8_rowsOf 20 = .ok (.istore_n 1, 1) := by decide +kernel
theorem dX8_rowsOf_21 : decode cX8_rowsOf 21 = .ok (.iinc 2 1, 3) := by decide +kernel
theorem dX8_rowsOf_24 : decode cX8_rowsOf 24 = .ok (.goto (-20), 3) := by decide +kernel
theorem dX8_rowsOf_27 : decode cX8_rowsOf 27 = .ok (.iload_n 1, 1) := by decide +kernel
theorem dX8_rowsOf_28 : decode cX8_rowsOf 28 = .ok (.ireturn, 1) := by decide +kernel
theorem dX8_rowOf_0 : decode cX8_rowOf 0 = .ok (.iload_n 1, 1) := by decide +kernel
theorem dX8_rowOf_1 : decode cX8_rowOf 1 = .ok (.istore_n 2, 1) := by decide +kernel
theorem dX8_rowOf_2 : decode cX8_rowOf 2 = .ok (.aload_n 0, 1) := by decide +kernel
theorem dX8_rowOf_3 : decode cX8_rowOf 3 = .ok (.getfield 95, 3) := by decide +kernel
theorem dX8_rowOf_6 : decode cX8_rowOf 6 = .ok (.iconst 1, 1) := by decide +kernel
theorem dX8_rowOf_7 : decode cX8_rowOf 7 = .ok (.isub, 1) := by decide +kernel
theorem dX8_rowOf_8 : decode cX8_rowOf 8 = .ok (.istore_n 3, 1) := by decide +kernel
theorem dX8_rowOf_9 : decode cX8_rowOf 9 = .ok (.iload_n 3, 1) := by decide +kernel
theorem dX8_rowOf_10 : decode cX8_rowOf 10 = .ok (.ifCond .lt 32, 3) := by decide +kernel
theorem dX8_rowOf_13 : decode cX8_rowOf 13 = .ok (.aload_n 0, 1) := by decide +kernel
theorem dX8_rowOf_14 : decode cX8_rowOf 14 = .ok (.getfield 64, 3) := by decide +kernel
theorem dX8_rowOf_17 : decode cX8_rowOf 17 = .ok (.iload_n 3, 1) := by decide +kernel
theorem dX8_rowOf_18 : decode cX8_rowOf 18 = .ok (.iload_n 2, 1) := by decide +kernel
theorem dX8_rowOf_19 : decode cX8_rowOf 19 = .ok (.aload_n 0, 1) := by decide +kernel
theorem dX8_rowOf_20 : decode cX8_rowOf 20 = .ok (.getfield 92, 3) := by decide +kernel
theorem dX8_rowOf_23 : decode cX8_rowOf 23 = .ok (.iconst 1, 1) := by decide +kernel
theorem dX8_rowOf_24 : decode cX8_rowOf 24 = .ok (.iadd, 1) := by decide +kernel
theorem dX8_rowOf_25 : decode cX8_rowOf 25 = .ok (.irem, 1) := by decide +kernel
theorem dX8_rowOf_26 : decode cX8_rowOf 26 = .ok (.iastore, 1) := by decide +kernel
theorem dX8_rowOf_27 : decode cX8_rowOf 27 = .ok (.iload_n 2, 1) := by decide +kernel
theorem dX8_rowOf_28 : decode cX8_rowOf 28 = .ok (.aload_n 0, 1) := by decide +kernel
theorem dX8_rowOf_29 : decode cX8_rowOf 29 = .ok (.getfield 92, 3) := by decide +kernel
theorem dX8_rowOf_32 : decode cX8_rowOf 32 = .ok (.iconst 1, 1) := by decide +kernel
theorem dX8_rowOf_33 : decode cX8_rowOf 33 = .ok (.iadd, 1) := by decide +kernel
theorem dX8_rowOf_34 : decode cX8_rowOf 34 = .ok (.idiv, 1) := by decide +kernel
theorem dX8_rowOf_35 : decode cX8_rowOf 35 = .ok (.istore_n 2, 1) := by decide +kernel
theorem dX8_rowOf_36 : decode cX8_rowOf 36 = .ok (.iinc 3 (-1), 3) := by decide +kernel
theorem dX8_rowOf_39 : decode cX8_rowOf 39 = .ok (.goto (-30), 3) := by decide +kernel
theorem dX8_rowOf_42 : decode cX8_rowOf 42 = .ok (.return_, 1) := by decide +kernel
theorem dX8_isHeld_0 : decode cX8_isHeld 0 = .ok (.iconst 0, 1) := by decide +kernel
theorem dX8_isHeld_1 : decode cX8_isHeld 1 = .ok (.istore_n 1, 1) := by decide +kernel
theorem dX8_isHeld_2 : decode cX8_isHeld 2 = .ok (.iload_n 1, 1) := by decide +kernel
theorem dX8_isHeld_3 : decode cX8_isHeld 3 = .ok (.aload_n 0, 1) := by decide +kernel
theorem dX8_isHeld_4 : decode cX8_isHeld 4 = .ok (.getfield 92, 3) := by decide +kernel
theorem dX8_isHeld_7 : decode cX8_isHeld 7 = .ok (.if_icmp .ge 56, 3) := by decide +kernel
theorem dX8_isHeld_10 : decode cX8_isHeld 10 = .ok (.iconst 0, 1) := by decide +kernel
theorem dX8_isHeld_11 : decode cX8_isHeld 11 = .ok (.istore_n 2, 1) := by decide +kernel
theorem dX8_isHeld_12 : decode cX8_isHeld 12 = .ok (.iconst 0, 1) := by decide +kernel
theorem dX8_isHeld_13 : decode cX8_isHeld 13 = .ok (.istore_n 3, 1) := by decide +kernel
theorem dX8_isHeld_14 : decode cX8_isHeld 14 = .ok (.iload_n 3, 1) := by decide +kernel
theorem dX8_isHeld_15 : decode cX8_isHeld 15 = .ok (.aload_n 0, 1) := by decide +kernel
theorem dX8_isHeld_16 : decode cX8_isHeld 16 = .ok (.getfield 95, 3) := by decide +kernel
theorem dX8_isHeld_19 : decode cX8_isHeld 19 = .ok (.if_icmp .ge 27, 3) := by decide +kernel
theorem dX8_isHeld_22 : decode cX8_isHeld 22 = .ok (.iload_n 2, 1) := by decide +kernel
theorem dX8_isHeld_23 : decode cX8_isHeld 23 = .ok (.aload_n 0, 1) := by decide +kernel
theorem dX8_isHeld_24 : decode cX8_isHeld 24 = .ok (.getfield 64, 3) := by decide +kernel
theorem dX8_isHeld_27 : decode cX8_isHeld 27 = .ok (.iload_n 3, 1) := by decide +kernel
theorem dX8_isHeld_28 : decode cX8_isHeld 28 = .ok (.iaload, 1) := by decide +kernel
theorem dX8_isHeld_29 : decode cX8_isHeld 29 = .ok (.iload_n 1, 1) := by decide +kernel
theorem dX8_isHeld_30 : decode cX8_isHeld 30 = .ok (.if_icmp .ne 7, 3) := by decide +kernel
theorem dX8_isHeld_33 : decode cX8_isHeld 33 = .ok (.iconst 1, 1) := by decide +kernel
theorem dX8_isHeld_34 : decode cX8_isHeld 34 = .ok (.goto 4, 3) := by decide +kernel
theorem dX8_isHeld_37 : decode cX8_isHeld 37 = .ok (.iconst 0, 1) := by decide +kernel
theorem dX8_isHeld_38 : decode cX8_isHeld 38 = .ok (.iadd, 1) := by decide +kernel
theorem dX8_isHeld_39 : decode cX8_isHeld 39 = .ok (.istore_n 2, 1) := by decide +kernel
theorem dX8_isHeld_40 : decode cX8_isHeld 40 = .ok (.iinc 3 1, 3) := by decide +kernel
theorem dX8_isHeld_43 : decode cX8_isHeld 43 = .ok (.goto (-29), 3) := by decide +kernel
theorem dX8_isHeld_46 : decode cX8_isHeld 46 = .ok (.iload_n 2, 1) := by decide +kernel
theorem dX8_isHeld_47 : decode cX8_isHeld 47 = .ok (.aload_n 0, 1) := by decide +kernel
theorem dX8_isHeld_48 : decode cX8_isHeld 48 = .ok (.iload_n 1, 1) := by decide +kernel
theorem dX8_isHeld_49 : decode cX8_isHeld 49 = .ok (.invokevirtual 155, 3) := by decide +kernel
theorem dX8_isHeld_52 : decode cX8_isHeld 52 = .ok (.if_icmp .le 5, 3) := by decide +kernel
theorem dX8_isHeld_55 : decode cX8_isHeld 55 = .ok (.iconst 0, 1) := by decide +kernel
theorem dX8_isHeld_56 : decode cX8_isHeld 56 = .ok (.ireturn, 1) := by decide +kernel
theorem dX8_isHeld_57 : decode cX8_isHeld 57 = .ok (.iinc 1 1, 3) := by decide +kernel
theorem dX8_isHeld_60 : decode cX8_isHeld 60 = .ok (.goto (-58), 3) := by decide +kernel
theorem dX8_isHeld_63 : decode cX8_isHeld 63 = .ok (.iconst 1, 1) := by decide +kernel
theorem dX8_isHeld_64 : decode cX8_isHeld 64 = .ok (.ireturn, 1) := by decide +kernel
theorem dX8_canRow_0 : decode cX8_canRow 0 = .ok (.iconst 0, 1) := by decide +kernel
theorem dX8_canRow_1 : decode cX8_canRow 1 = .ok (.istore_n 2, 1) := by decide +kernel
theorem dX8_canRow_2 : decode cX8_canRow 2 = .ok (.iload_n 2, 1) := by decide +kernel
theorem dX8_canRow_3 : decode cX8_canRow 3 = .ok (.aload_n 0, 1) := by decide +kernel
theorem dX8_canRow_4 : decode cX8_canRow 4 = .ok (.getfield 95, 3) := by decide +kernel
theorem dX8_canRow_7 : decode cX8_canRow 7 = .ok (.if_icmp .ge 48, 3) := by decide +kernel
theorem dX8_canRow_10 : decode cX8_canRow 10 = .ok (.aload_n 0, 1) := by decide +kernel
theorem dX8_canRow_11 : decode cX8_canRow 11 = .ok (.getfield 64, 3) := by decide +kernel
theorem dX8_canRow_14 : decode cX8_canRow 14 = .ok (.iload_n 2, 1) := by decide +kernel
theorem dX8_canRow_15 : decode cX8_canRow 15 = .ok (.iaload, 1) := by decide +kernel
theorem dX8_canRow_16 : decode cX8_canRow 16 = .ok (.aload_n 0, 1) := by decide +kernel
theorem dX8_canRow_17 : decode cX8_canRow 17 = .ok (.getfield 92, 3) := by decide +kernel
theorem dX8_canRow_20 : decode cX8_canRow 20 = .ok (.if_icmp .ge 29, 3) := by decide +kernel
theorem dX8_canRow_23 : decode cX8_canRow 23 = .ok (.aload_n 0, 1) := by decide +kernel
theorem dX8_canRow_24 : decode cX8_canRow 24 = .ok (.getfield 64, 3) := by decide +kernel
theorem dX8_canRow_27 : decode cX8_canRow 27 = .ok (.iload_n 2, 1) := by decide +kernel
theorem dX8_canRow_28 : decode cX8_canRow 28 = .ok (.iaload, 1) := by decide +kernel
theorem dX8_canRow_29 : decode cX8_canRow 29 = .ok (.iload_n 1, 1) := by decide +kernel
theorem dX8_canRow_30 : decode cX8_canRow 30 = .ok (.if_icmp .eq 17, 3) := by decide +kernel
theorem dX8_canRow_33 : decode cX8_canRow 33 = .ok (.aload_n 0, 1) := by decide +kernel
theorem dX8_canRow_34 : decode cX8_canRow 34 = .ok (.iload_n 2, 1) := by decide +kernel
theorem dX8_canRow_35 : decode cX8_canRow 35 = .ok (.aload_n 0, 1) := by decide +kernel
theorem dX8_canRow_36 : decode cX8_canRow 36 = .ok (.getfield 64, 3) := by decide +kernel
theorem dX8_canRow_39 : decode cX8_canRow 39 = .ok (.iload_n 2, 1) := by decide +kernel
theorem dX8_canRow_40 : decode cX8_canRow 40 = .ok (.iaload, 1) := by decide +kernel
theorem dX8_canRow_41 : decode cX8_canRow 41 = .ok (.invokevirtual 171, 3) := by decide +kernel
theorem dX8_canRow_44 : decode cX8_canRow 44 = .ok (.ifCond .ne 5, 3) := by decide +kernel
theorem dX8_canRow_47 : decode cX8_canRow 47 = .ok (.iconst 0, 1) := by decide +kernel
theorem dX8_canRow_48 : decode cX8_canRow 48 = .ok (.ireturn, 1) := by decide +kernel
theorem dX8_canRow_49 : decode cX8_canRow 49 = .ok (.iinc 2 1, 3) := by decide +kernel
theorem dX8_canRow_52 : decode cX8_canRow 52 = .ok (.goto (-50), 3) := by decide +kernel
theorem dX8_canRow_55 : decode cX8_canRow 55 = .ok (.aload_n 0, 1) := by decide +kernel
theorem dX8_canRow_56 : decode cX8_canRow 56 = .ok (.invokevirtual 208, 3) := by decide +kernel
theorem dX8_canRow_59 : decode cX8_canRow 59 = .ok (.ireturn, 1) := by decide +kernel
theorem dX8_findHoused_0 : decode cX8_findHoused 0 = .ok (.aload_n 0, 1) := by decide +kernel
theorem dX8_findHoused_1 : decode cX8_findHoused 1 = .ok (.bipush (-9), 2) := by decide +kernel
theorem dX8_findHoused_3 : decode cX8_findHoused 3 = .ok (.putfield 212, 3) := by decide +kernel
theorem dX8_findHoused_6 : decode cX8_findHoused 6 = .ok (.iconst 0, 1) := by decide +kernel
theorem dX8_findHoused_7 : decode cX8_findHoused 7 = .ok (.istore_n 2, 1) := by decide +kernel
theorem dX8_findHoused_8 : decode cX8_findHoused 8 = .ok (.iload_n 2, 1) := by decide +kernel
theorem dX8_findHoused_9 : decode cX8_findHoused 9 = .ok (.aload_n 0, 1) := by decide +kernel
theorem dX8_findHoused_10 : decode cX8_findHoused 10 = .ok (.invokevirtual 215, 3) := by decide +kernel
theorem dX8_findHoused_13 : decode cX8_findHoused 13 = .ok (.if_icmp .ge 182, 3) := by decide +kernel
theorem dX8_findHoused_16 : decode cX8_findHoused 16 = .ok (.aload_n 0, 1) := by decide +kernel
theorem dX8_findHoused_17 : decode cX8_findHoused 17 = .ok (.iload_n 2, 1) := by decide +kernel
theorem dX8_findHoused_18 : decode cX8_findHoused 18 = .ok (.invokevirtual 218, 3) := by decide +kernel
theorem dX8_findHoused_21 : decode cX8_findHoused 21 = .ok (.iconst 0, 1) := by decide +kernel
theorem dX8_findHoused_22 : decode cX8_findHoused 22 = .ok (.istore_n 3, 1) := by decide +kernel
theorem dX8_findHoused_23 : decode cX8_findHoused 23 = .ok (.iconst 0, 1) := by decide +kernel
theorem dX8_findHoused_24 : decode cX8_findHoused 24 = .ok (.istore 4, 2) := by decide +kernel
theorem dX8_findHoused_26 : decode cX8_findHoused 26 = .ok (.iconst 0, 1) := by decide +kernel
theorem dX8_findHoused_27 : decode cX8_findHoused 27 = .ok (.istore 5, 2) := by decide +kernel
theorem dX8_findHoused_29 : decode cX8_findHoused 29 = .ok (.iload 5, 2) := by decide +kernel
theorem dX8_findHoused_31 : decode cX8_findHoused 31 = .ok (.aload_n 0, 1) := by decide +kernel
theorem dX8_findHoused_32 : decode cX8_findHoused 32 = .ok (.getfield 95, 3) := by decide +kernel
theorem dX8_findHoused_35 : decode cX8_findHoused 35 = .ok (.if_icmp .ge 66, 3) := by decide +kernel
theorem dX8_findHoused_38 : decode cX8_findHoused 38 = .ok (.iload_n 3, 1) := by decide +kernel
theorem dX8_findHoused_39 : decode cX8_findHoused 39 = .ok (.aload_n 0, 1) := by decide +kernel
theorem dX8_findHoused_40 : decode cX8_findHoused 40 = .ok (.getfield 64, 3) := by decide +kernel
theorem dX8_findHoused_43 : decode cX8_findHoused 43 = .ok (.iload 5, 2) := by decide +kernel
theorem dX8_findHoused_45 : decode cX8_findHoused 45 = .ok (.iaload, 1) := by decide +kernel
theorem dX8_findHoused_46 : decode cX8_findHoused 46 = .ok (.aload_n 0, 1) := by decide +kernel
theorem dX8_findHoused_47 : decode cX8_findHoused 47 = .ok (.getfield 92, 3) := by decide +kernel
theorem dX8_findHoused_50 : decode cX8_findHoused 50 = .ok (.if_icmp .ge 7, 3) := by decide +kernel
theorem dX8_findHoused_53 : decode cX8_findHoused 53 = .ok (.iconst 1, 1) := by decide +kernel
theorem dX8_findHoused_54 : decode cX8_findHoused 54 = .ok (.goto 4, 3) := by decide +kernel
theorem dX8_findHoused_57 : decode cX8_findHoused 57 = .ok (.iconst 0, 1) := by decide +kernel
theorem dX8_findHoused_58 : decode cX8_findHoused 58 = .ok (.iadd, 1) := by decide +kernel
theorem dX8_findHoused_59 : decode cX8_findHoused 59 = .ok (.istore_n 3, 1) := by decide +kernel
theorem dX8_findHoused_60 : decode cX8_findHoused 60 = .ok (.iload 4, 2) := by decide +kernel
theorem dX8_findHoused_62 : decode cX8_findHoused 62 = .ok (.aload_n 0, 1) := by decide +kernel
theorem dX8_findHoused_63 : decode cX8_findHoused 63 = .ok (.getfield 64, 3) := by decide +kernel
theorem dX8_findHoused_66 : decode cX8_findHoused 66 = .ok (.iload 5, 2) := by decide +kernel
theorem dX8_findHoused_68 : decode cX8_findHoused 68 = .ok (.iaload, 1) := by decide +kernel
theorem dX8_findHoused_69 : decode cX8_findHoused 69 = .ok (.aload_n 0, 1) := by decide +kernel
theorem dX8_findHoused_70 : decode cX8_findHoused 70 = .ok (.getfield 92, 3) := by decide +kernel
theorem dX8_findHoused_73 : decode cX8_findHoused 73 = .ok (.if_icmp .ge 18, 3) := by decide +kernel
theorem dX8_findHoused_76 : decode cX8_findHoused 76 = .ok (.aload_n 0, 1) := by decide +kernel
theorem dX8_findHoused_77 : decode cX8_findHoused 77 = .ok (.getfield 25, 3) := by decide +kernel
theorem dX8_findHoused_80 : decode cX8_findHoused 80 = .ok (.aload_n 0, 1) := by decide +kernel
theorem dX8_findHoused_81 : decode cX8_findHoused 81 = .ok (.getfield 64, 3) := by decide +kernel
theorem dX8_findHoused_84 : decode cX8_findHoused 84 = .ok (.iload 5, 2) := by decide +kernel
theorem dX8_findHoused_86 : decode cX8_findHoused 86 = .ok (.iaload, 1) := by decide +kernel
theorem dX8_findHoused_87 : decode cX8_findHoused 87 = .ok (.iaload, 1) := by decide +kernel
theorem dX8_findHoused_88 : decode cX8_findHoused 88 = .ok (.goto 4, 3) := by decide +kernel
theorem dX8_findHoused_91 : decode cX8_findHoused 91 = .ok (.iconst 0, 1) := by decide +kernel
theorem dX8_findHoused_92 : decode cX8_findHoused 92 = .ok (.iadd, 1) := by decide +kernel
theorem dX8_findHoused_93 : decode cX8_findHoused 93 = .ok (.istore 4, 2) := by decide +kernel
theorem dX8_findHoused_95 : decode cX8_findHoused 95 = .ok (.iinc 5 1, 3) := by decide +kernel
theorem dX8_findHoused_98 : decode cX8_findHoused 98 = .ok (.goto (-69), 3) := by decide +kernel
theorem dX8_findHoused_101 : decode cX8_findHoused 101 = .ok (.iload_n 3, 1) := by decide +kernel
theorem dX8_findHoused_102 : decode cX8_findHoused 102 = .ok (.aload_n 0, 1) := by decide +kernel
theorem dX8_findHoused_103 : decode cX8_findHoused 103 = .ok (.getfield 212, 3) := by decide +kernel
theorem dX8_findHoused_106 : decode cX8_findHoused 106 = .ok (.if_icmp .gt 20, 3) := by decide +kernel
theorem dX8_findHoused_109 : decode cX8_findHoused 109 = .ok (.iload_n 3, 1) := by decide +kernel
theorem dX8_findHoused_110 : decode cX8_findHoused 110 = .ok (.aload_n 0, 1) := by decide +kernel
theorem dX8_findHoused_111 : decode cX8_findHoused 111 = .ok (.getfield 212, 3) := by decide +kernel
theorem dX8_findHoused_114 : decode cX8_findHoused 114 = .ok (.if_icmp .ne 16, 3) := by decide +kernel
theorem dX8_findHoused_117 : decode cX8_findHoused 117 = .ok (.iload 4, 2) := by decide +kernel
theorem dX8_findHoused_119 : decode cX8_findHoused 119 = .ok (.aload_n 0, 1) := by decide +kernel
theorem dX8_findHoused_120 : decode cX8_findHoused 120 = .ok (.getfield 222, 3) := by decide +kernel
theorem dX8_findHoused_123 : decode cX8_findHoused 123 = .ok (.if_icmp .ge 7, 3) := by decide +kernel
theorem dX8_findHoused_126 : decode cX8_findHoused 126 = .ok (.iconst 1, 1) := by decide +kernel
theorem dX8_findHoused_127 : decode cX8_findHoused 127 = .ok (.goto 4, 3) := by decide +kernel
theorem dX8_findHoused_130 : decode cX8_findHoused 130 = .ok (.iconst 0, 1) := by decide +kernel
theorem dX8_findHoused_131 : decode cX8_findHoused 131 = .ok (.istore 5, 2) := by decide +kernel
theorem dX8_findHoused_133 : decode cX8_findHoused 133 = .ok (.iload 5, 2) := by decide +kernel
theorem dX8_findHoused_135 : decode cX8_findHoused 135 = .ok (.ifCond .eq 54, 3) := by decide +kernel
theorem dX8_findHoused_138 : decode cX8_findHoused 138 = .ok (.aload_n 0, 1) := by decide +kernel
theorem dX8_findHoused_139 : decode cX8_findHoused 139 = .ok (.iload_n 1, 1) := by decide +kernel
theorem dX8_findHoused_140 : decode cX8_findHoused 140 = .ok (.invokevirtual 225, 3) := by decide +kernel
theorem dX8_findHoused_143 : decode cX8_findHoused 143 = .ok (.ifCond .eq 46, 3) := by decide +kernel
theorem dX8_findHoused_146 : decode cX8_findHoused 146 = .ok (.aload_n 0, 1) := by decide +kernel
theorem dX8_findHoused_147 : decode cX8_findHoused 147 = .ok (.iload_n 3, 1) := by decide +kernel
theorem dX8_findHoused_148 : decode cX8_findHoused 148 = .ok (.putfield 212, 3) := by decide +kernel
theorem dX8_findHoused_151 : decode cX8_findHoused 151 = .ok (.aload_n 0, 1) := by decide +kernel
theorem dX8_findHoused_152 : decode cX8_findHoused 152 = .ok (.iload 4, 2) := by decide +kernel
theorem dX8_findHoused_154 : decode cX8_findHoused 154 = .ok (.putfield 222, 3) := by decide +kernel
theorem dX8_findHoused_157 : decode cX8_findHoused 157 = .ok (.iconst 0, 1) := by decide +kernel
theorem dX8_findHoused_158 : decode cX8_findHoused 158 = .ok (.istore 6, 2) := by decide +kernel
theorem dX8_findHoused_160 : decode cX8_findHoused 160 = .ok (.iload 6, 2) := by decide +kernel
theorem dX8_findHoused_162 : decode cX8_findHoused 162 = .ok (.aload_n 0, 1) := by decide +kernel
theorem dX8_findHoused_163 : decode cX8_findHoused 163 = .ok (.getfield 95, 3) := by decide +kernel
theorem dX8_findHoused_166 : decode cX8_findHoused 166 = .ok (.if_icmp .ge 23, 3) := by decide +kernel
theorem dX8_findHoused_169 : decode cX8_findHoused 169 = .ok (.aload_n 0, 1) := by decide +kernel
theorem dX8_findHoused_170 : decode cX8_findHoused 170 = .ok (.getfield 67, 3) := by decide +kernel
theorem dX8_findHoused_173 : decode cX8_findHoused 173 = .ok (.iload 6, 2) := by decide +kernel
theorem dX8_findHoused_175 : decode cX8_findHoused 175 = .ok (.aload_n 0, 1) := by decide +kernel
theorem dX8_findHoused_176 : decode cX8_findHoused 176 = .ok (.getfield 64, 3) := by decide +kernel
theorem dX8_findHoused_179 : decode cX8_findHoused 179 = .ok (.iload 6, 2) := by decide +kernel
theorem dX8_findHoused_181 : decode cX8_findHoused 181 = .ok (.iaload, 1) := by decide +kernel
theorem dX8_findHoused_182 : decode cX8_findHoused 182 = .ok (.iastore, 1) := by decide +kernel
theorem dX8_findHoused_183 : decode cX8_findHoused 183 = .ok (.iinc 6 1, 3) := by decide +kernel
theorem dX8_findHoused_186 : decode cX8_findHoused 186 = .ok (.goto (-26), 3) := by decide +kernel
theorem dX8_findHoused_189 : decode cX8_findHoused 189 = .ok (.iinc 2 1, 3) := by decide +kernel
theorem dX8_findHoused_192 : decode cX8_findHoused 192 = .ok (.goto (-184), 3) := by decide +kernel
theorem dX8_findHoused_195 : decode cX8_findHoused 195 = .ok (.return_, 1) := by decide +kernel
theorem dX8_housed_0 : decode cX8_housed 0 = .ok (.iload_n 1, 1) := by decide +kernel
theorem dX8_housed_1 : decode cX8_housed 1 = .ok (.bipush (-2), 2) := by decide +kernel
theorem dX8_housed_3 : decode cX8_housed 3 = .ok (.iconst 4, 1) := by decide +kernel
theorem dX8_housed_4 : decode cX8_housed 4 = .ok (.invokestatic 88, 3) := by decide +kernel
theorem dX8_housed_7 : decode cX8_housed 7 = .ok (.ifCond .ne 6, 3) := by decide +kernel
theorem dX8_housed_10 : decode cX8_housed 10 = .ok (.bipush (-2), 2) := by decide +kernel
theorem dX8_housed_12 : decode cX8_housed 12 = .ok (.ireturn, 1) := by decide +kernel
theorem dX8_housed_13 : decode cX8_housed 13 = .ok (.aload_n 0, 1) := by decide +kernel
theorem dX8_housed_14 : decode cX8_housed 14 = .ok (.getfield 92, 3) := by decide +kernel
theorem dX8_housed_17 : decode cX8_housed 17 = .ok (.ifCond .ne 6, 3) := by decide +kernel
theorem dX8_housed_20 : decode cX8_housed 20 = .ok (.bipush (-3), 2) := by decide +kernel
theorem dX8_housed_22 : decode cX8_housed 22 = .ok (.ireturn, 1) := by decide +kernel
theorem dX8_housed_23 : decode cX8_housed 23 = .ok (.aload_n 0, 1) := by decide +kernel
theorem dX8_housed_24 : decode cX8_housed 24 = .ok (.bipush (-9), 2) := by decide +kernel
theorem dX8_housed_26 : decode cX8_housed 26 = .ok (.invokevirtual 228, 3) := by decide +kernel
theorem dX8_housed_29 : decode cX8_housed 29 = .ok (.iload_n 1, 1) := by decide +kernel
theorem dX8_housed_30 : decode cX8_housed 30 = .ok (.ifCond .ge 21, 3) := by decide +kernel
theorem dX8_housed_33 : decode cX8_housed 33 = .ok (.iload_n 1, 1) := by decide +kernel
theorem dX8_housed_34 : decode cX8_housed 34 = .ok (.bipush (-2), 2) := by decide +kernel
theorem dX8_housed_36 : decode cX8_housed 36 = .ok (.if_icmp .ne 10, 3) := by decide +kernel
theorem dX8_housed_39 : decode cX8_housed 39 = .ok (.aload_n 0, 1) := by decide +kernel
theorem dX8_housed_40 : decode cX8_housed 40 = .ok (.getfield 212, 3) := by decide +kernel
theorem dX8_housed_43 : decode cX8_housed 43 = .ok (.goto 7, 3) := by decide +kernel
theorem dX8_housed_46 : decode cX8_housed 46 = .ok (.aload_n 0, 1) := by decide +kernel
theorem dX8_housed_47 : decode cX8_housed 47 = .ok (.getfield 222, 3) := by decide +kernel
theorem dX8_housed_50 : decode cX8_housed 50 = .ok (.ireturn, 1) := by decide +kernel
theorem dX8_housed_51 : decode cX8_housed 51 = .ok (.aload_n 0, 1) := by decide +kernel
theorem dX8_housed_52 : decode cX8_housed 52 = .ok (.iload_n 1, 1) := by decide +kernel
theorem dX8_housed_53 : decode cX8_housed 53 = .ok (.invokevirtual 161, 3) := by decide +kernel
theorem dX8_housed_56 : decode cX8_housed 56 = .ok (.ifCond .eq 25, 3) := by decide +kernel
theorem dX8_housed_59 : decode cX8_housed 59 = .ok (.aload_n 0, 1) := by decide +kernel
theorem dX8_housed_60 : decode cX8_housed 60 = .ok (.getfield 67, 3) := by decide +kernel
theorem dX8_housed_63 : decode cX8_housed 63 = .ok (.iload_n 1, 1) := by decide +kernel
theorem dX8_housed_64 : decode cX8_housed 64 = .ok (.iaload, 1) := by decide +kernel
theorem dX8_housed_65 : decode cX8_housed 65 = .ok (.aload_n 0, 1) := by decide +kernel
theorem dX8_housed_66 : decode cX8_housed 66 = .ok (.getfield 92, 3) := by decide +kernel
theorem dX8_housed_69 : decode cX8_housed 69 = .ok (.if_icmp .ge 12, 3) := by decide +kernel
theorem dX8_housed_72 : decode cX8_housed 72 = .ok (.aload_n 0, 1) := by decide +kernel
theorem dX8_housed_73 : decode cX8_housed 73 = .ok (.getfield 67, 3) := by decide +kernel
theorem dX8_housed_76 : decode cX8_housed 76 = .ok (.iload_n 1, 1) := by decide +kernel
theorem dX8_housed_77 : decode cX8_housed 77 = .ok (.iaload, 1) := by decide +kernel
theorem dX8_housed_78 : decode cX8_housed 78 = .ok (.goto 5, 3) := by decide +kernel
theorem dX8_housed_81 : decode cX8_housed 81 = .ok (.bipush (-9), 2) := by decide +kernel
theorem dX8_housed_83 : decode cX8_housed 83 = .ok (.ireturn, 1) := by decide +kernel
theorem dX8_ploughed_0 : decode cX8_ploughed 0 = .ok (.aload_n 0, 1) := by decide +kernel
theorem dX8_ploughed_1 : decode cX8_ploughed 1 = .ok (.iload_n 1, 1) := by decide +kernel
theorem dX8_ploughed_2 : decode cX8_ploughed 2 = .ok (.invokevirtual 152, 3) := by decide +kernel
theorem dX8_ploughed_5 : decode cX8_ploughed 5 = .ok (.ifCond .ne 5, 3) := by decide +kernel
theorem dX8_ploughed_8 : decode cX8_ploughed 8 = .ok (.iconst (-1), 1) := by decide +kernel
theorem dX8_ploughed_9 : decode cX8_ploughed 9 = .ok (.ireturn, 1) := by decide +kernel
theorem dX8_ploughed_10 : decode cX8_ploughed 10 = .ok (.aload_n 0, 1) := by decide +kernel
theorem dX8_ploughed_11 : decode cX8_ploughed 11 = .ok (.iload_n 1, 1) := by decide +kernel
theorem dX8_ploughed_12 : decode cX8_ploughed 12 = .ok (.invokevirtual 228, 3) := by decide +kernel
theorem dX8_ploughed_15 : decode cX8_ploughed 15 = .ok (.aload_n 0, 1) := by decide +kernel
theorem dX8_ploughed_16 : decode cX8_ploughed 16 = .ok (.getfield 212, 3) := by decide +kernel
theorem dX8_ploughed_19 : decode cX8_ploughed 19 = .ok (.ireturn, 1) := by decide +kernel
theorem dX8_way_0 : decode cX8_way 0 = .ok (.aload_n 0, 1) := by decide +kernel
theorem dX8_way_1 : decode cX8_way 1 = .ok (.iload_n 1, 1) := by decide +kernel
theorem dX8_way_2 : decode cX8_way 2 = .ok (.invokevirtual 161, 3) := by decide +kernel
theorem dX8_way_5 : decode cX8_way 5 = .ok (.ifCond .ne 5, 3) := by decide +kernel
theorem dX8_way_8 : decode cX8_way 8 = .ok (.iconst (-1), 1) := by decide +kernel
theorem dX8_way_9 : decode cX8_way 9 = .ok (.ireturn, 1) := by decide +kernel
theorem dX8_way_10 : decode cX8_way 10 = .ok (.iload_n 2, 1) := by decide +kernel
theorem dX8_way_11 : decode cX8_way 11 = .ok (.iconst 0, 1) := by decide +kernel
theorem dX8_way_12 : decode cX8_way 12 = .ok (.bipush 9, 2) := by decide +kernel
theorem dX8_way_14 : decode cX8_way 14 = .ok (.invokestatic 88, 3) := by decide +kernel
theorem dX8_way_17 : decode cX8_way 17 = .ok (.ifCond .ne 6, 3) := by decide +kernel
theorem dX8_way_20 : decode cX8_way 20 = .ok (.bipush (-2), 2) := by decide +kernel
theorem dX8_way_22 : decode cX8_way 22 = .ok (.ireturn, 1) := by decide +kernel
theorem dX8_way_23 : decode cX8_way 23 = .ok (.aload_n 0, 1) := by decide +kernel
theorem dX8_way_24 : decode cX8_way 24 = .ok (.getfield 34, 3) := by decide +kernel
theorem dX8_way_27 : decode cX8_way 27 = .ok (.iload_n 1, 1) := by decide +kernel
theorem dX8_way_28 : decode cX8_way 28 = .ok (.iaload, 1) := by decide +kernel
theorem dX8_way_29 : decode cX8_way 29 = .ok (.iload_n 2, 1) := by decide +kernel
theorem dX8_way_30 : decode cX8_way 30 = .ok (.invokestatic 168, 3) := by decide +kernel
theorem dX8_way_33 : decode cX8_way 33 = .ok (.aload_n 0, 1) := by decide +kernel
theorem dX8_way_34 : decode cX8_way 34 = .ok (.getfield 37, 3) := by decide +kernel
theorem dX8_way_37 : decode cX8_way 37 = .ok (.iload_n 1, 1) := by decide +kernel
theorem dX8_way_38 : decode cX8_way 38 = .ok (.iaload, 1) := by decide +kernel
theorem dX8_way_39 : decode cX8_way 39 = .ok (.if_icmp .gt 5, 3) := by decide +kernel
theorem dX8_way_42 : decode cX8_way 42 = .ok (.iconst 0, 1) := by decide +kernel
theorem dX8_way_43 : decode cX8_way 43 = .ok (.ireturn, 1) := by decide +kernel
theorem dX8_way_44 : decode cX8_way 44 = .ok (.iconst 0, 1) := by decide +kernel
theorem dX8_way_45 : decode cX8_way 45 = .ok (.istore_n 3, 1) := by decide +kernel
theorem dX8_way_46 : decode cX8_way 46 = .ok (.iload_n 3, 1) := by decide +kernel
theorem dX8_way_47 : decode cX8_way 47 = .ok (.aload_n 0, 1) := by decide +kernel
theorem dX8_way_48 : decode cX8_way 48 = .ok (.getfield 92, 3) := by decide +kernel
theorem dX8_way_51 : decode cX8_way 51 = .ok (.if_icmp .ge 45, 3) := by decide +kernel
theorem dX8_way_54 : decode cX8_way 54 = .ok (.aload_n 0, 1) := by decide +kernel
theorem dX8_way_55 : decode cX8_way 55 = .ok (.getfield 70, 3) := by decide +kernel
theorem dX8_way_58 : decode cX8_way 58 = .ok (.iload_n 3, 1) := by decide +kernel
theorem dX8_way_59 : decode cX8_way 59 = .ok (.aload_n 0, 1) := by decide +kernel
theorem dX8_way_60 : decode cX8_way 60 = .ok (.getfield 34, 3) := by decide +kernel
theorem dX8_way_63 : decode cX8_way 63 = .ok (.iload_n 1, 1) := by decide +kernel
theorem dX8_way_64 : decode cX8_way 64 = .ok (.iaload, 1) := by decide +kernel
theorem dX8_way_65 : decode cX8_way 65 = .ok (.aload_n 0, 1) := by decide +kernel
theorem dX8_way_66 : decode cX8_way 66 = .ok (.getfield 28, 3) := by decide +kernel
theorem dX8_way_69 : decode cX8_way 69 = .ok (.iload_n 3, 1) := by decide +kernel
theorem dX8_way_70 : decode cX8_way 70 = .ok (.iaload, 1) := by decide +kernel
theorem dX8_way_71 : decode cX8_way 71 = .ok (.invokestatic 168, 3) := by decide +kernel
theorem dX8_way_74 : decode cX8_way 74 = .ok (.aload_n 0, 1) := by decide +kernel
theorem dX8_way_75 : decode cX8_way 75 = .ok (.getfield 37, 3) := by decide +kernel
theorem dX8_way_78 : decode cX8_way 78 = .ok (.iload_n 1, 1) := by decide +kernel
theorem dX8_way_79 : decode cX8_way 79 = .ok (.iaload, 1) := by decide +kernel
theorem dX8_way_80 : decode cX8_way 80 = .ok (.if_icmp .gt 7, 3) := by decide +kernel
theorem dX8_way_83 : decode cX8_way 83 = .ok (.iconst 1, 1) := by decide +kernel
theorem dX8_way_84 : decode cX8_way 84 = .ok (.goto 5, 3) := by decide +kernel
theorem dX8_way_87 : decode cX8_way 87 = .ok (.bipush (-9), 2) := by decide +kernel
theorem dX8_way_89 : decode cX8_way 89 = .ok (.iastore, 1) := by decide +kernel
theorem dX8_way_90 : decode cX8_way 90 = .ok (.iinc 3 1, 3) := by decide +kernel
theorem dX8_way_93 : decode cX8_way 93 = .ok (.goto (-47), 3) := by decide +kernel
theorem dX8_way_96 : decode cX8_way 96 = .ok (.iconst 1, 1) := by decide +kernel
theorem dX8_way_97 : decode cX8_way 97 = .ok (.istore_n 3, 1) := by decide +kernel
theorem dX8_way_98 : decode cX8_way 98 = .ok (.iload_n 3, 1) := by decide +kernel
theorem dX8_way_99 : decode cX8_way 99 = .ok (.aload_n 0, 1) := by decide +kernel
theorem dX8_way_100 : decode cX8_way 100 = .ok (.getfield 92, 3) := by decide +kernel
theorem dX8_way_103 : decode cX8_way 103 = .ok (.if_icmp .gt 66, 3) := by decide +kernel
theorem dX8_way_106 : decode cX8_way 106 = .ok (.iconst 0, 1) := by decide +kernel
theorem dX8_way_107 : decode cX8_way 107 = .ok (.istore 4, 2) := by decide +kernel
theorem dX8_way_109 : decode cX8_way 109 = .ok (.iload 4, 2) := by decide +kernel
theorem dX8_way_111 : decode cX8_way 111 = .ok (.aload_n 0, 1) := by decide +kernel
theorem dX8_way_112 : decode cX8_way 112 = .ok (.getfield 92, 3) := by decide +kernel
theorem dX8_way_115 : decode cX8_way 115 = .ok (.if_icmp .ge 42, 3) := by decide +kernel
theorem dX8_way_118 : decode cX8_way 118 = .ok (.aload_n 0, 1) := by decide +kernel
theorem dX8_way_119 : decode cX8_way 119 = .ok (.getfield 70, 3) := by decide +kernel
theorem dX8_way_122 : decode cX8_way 122 = .ok (.iload 4, 2) := by decide +kernel
theorem dX8_way_124 : decode cX8_way 124 = .ok (.iaload, 1) := by decide +kernel
theorem dX8_way_125 : decode cX8_way 125 = .ok (.iload_n 3, 1) := by decide +kernel
theorem dX8_way_126 : decode cX8_way 126 = .ok (.if_icmp .ne 25, 3) := by decide +kernel
theorem dX8_way_129 : decode cX8_way 129 = .ok (.aload_n 0, 1) := by decide +kernel
theorem dX8_way_130 : decode cX8_way 130 = .ok (.getfield 28, 3) := by decide +kernel
theorem dX8_way_133 : decode cX8_way 133 = .ok (.iload 4, 2) := by decide +kernel
theorem dX8_way_135 : decode cX8_way 135 = .ok (.iaload, 1) := by decide +kernel
theorem dX8_way_136 : decode cX8_way 136 = .ok (.iload_n 2, 1) := by decide +kernel
theorem dX8_way_137 : decode cX8_way 137 = .ok (.invokestatic 168, 3) := by decide +kernel
theorem dX8_way_140 : decode cX8_way 140 = .ok (.aload_n 0, 1) := by decide +kernel
theorem dX8_way_141 : decode cX8_way 141 = .ok (.getfield 37, 3) := by decide +kernel
theorem dX8_way_144 : decode cX8_way 144 = .ok (.iload_n 1, 1) := by decide +kernel
theorem dX8_way_145 : decode cX8_way 145 = .ok (.iaload, 1) := by decide +kernel
theorem dX8_way_146 : decode cX8_way 146 = .ok (.if_icmp .gt 5, 3) := by decide +kernel
theorem dX8_way_149 : decode cX8_way 149 = .ok (.iload_n 3, 1) := by decide +kernel
theorem dX8_way_150 : decode cX8_way 150 = .ok (.ireturn, 1) := by decide +kernel
theorem dX8_way_151 : decode cX8_way 151 = .ok (.iinc 4 1, 3) := by decide +kernel
theorem dX8_way_154 : decode cX8_way 154 = .ok (.goto (-45), 3) := by decide +kernel
theorem dX8_way_157 : decode cX8_way 157 = .ok (.aload_n 0, 1) := by decide +kernel
theorem dX8_way_158 : decode cX8_way 158 = .ok (.iload_n 1, 1) := by decide +kernel
theorem dX8_way_159 : decode cX8_way 159 = .ok (.iload_n 3, 1) := by decide +kernel
theorem dX8_way_160 : decode cX8_way 160 = .ok (.invokevirtual 231, 3) := by decide +kernel
theorem dX8_way_163 : decode cX8_way 163 = .ok (.iinc 3 1, 3) := by decide +kernel
theorem dX8_way_166 : decode cX8_way 166 = .ok (.goto (-68), 3) := by decide +kernel
theorem dX8_way_169 : decode cX8_way 169 = .ok (.bipush (-9), 2) := by decide +kernel
theorem dX8_way_171 : decode cX8_way 171 = .ok (.ireturn, 1) := by decide +kernel
theorem dX8_stepOn_0 : decode cX8_stepOn 0 = .ok (.iconst 0, 1) := by decide +kernel
theorem dX8_stepOn_1 : decode cX8_stepOn 1 = .ok (.istore_n 3, 1) := by decide +kernel
theorem dX8_stepOn_2 : decode cX8_stepOn 2 = .ok (.iload_n 3, 1) := by decide +kernel
theorem dX8_stepOn_3 : decode cX8_stepOn 3 = .ok (.aload_n 0, 1) := by decide +kernel
theorem dX8_stepOn_4 : decode cX8_stepOn 4 = .ok (.getfield 92, 3) := by decide +kernel
theorem dX8_stepOn_7 : decode cX8_stepOn 7 = .ok (.aload_n 0, 1) := by decide +kernel
theorem dX8_stepOn_8 : decode cX8_stepOn 8 = .ok (.getfield 92, 3) := by decide +kernel
theorem dX8_stepOn_11 : decode cX8_stepOn 11 = .ok (.imul, 1) := by decide +kernel
theorem dX8_stepOn_12 : decode cX8_stepOn 12 = .ok (.if_icmp .ge 84, 3) := by decide +kernel
theorem dX8_stepOn_15 : decode cX8_stepOn 15 = .ok (.iload_n 3, 1) := by decide +kernel
theorem dX8_stepOn_16 : decode cX8_stepOn 16 = .ok (.aload_n 0, 1) := by decide +kernel
theorem dX8_stepOn_17 : decode cX8_stepOn 17 = .ok (.getfield 92, 3) := by decide +kernel
theorem dX8_stepOn_20 : decode cX8_stepOn 20 = .ok (.idiv, 1) := by decide +kernel
theorem dX8_stepOn_21 : decode cX8_stepOn 21 = .ok (.istore 4, 2) := by decide +kernel
theorem dX8_stepOn_23 : decode cX8_stepOn 23 = .ok (.iload_n 3, 1) := by decide +kernel
theorem dX8_stepOn_24 : decode cX8_stepOn 24 = .ok (.aload_n 0, 1) := by decide +kernel
theorem dX8_stepOn_25 : decode cX8_stepOn 25 = .ok (.getfield 92, 3) := by decide +kernel
theorem dX8_stepOn_28 : decode cX8_stepOn 28 = .ok (.irem, 1) := by decide +kernel
theorem dX8_stepOn_29 : decode cX8_stepOn 29 = .ok (.istore 5, 2) := by decide +kernel
theorem dX8_stepOn_31 : decode cX8_stepOn 31 = .ok (.aload_n 0, 1) := by decide +kernel
theorem dX8_stepOn_32 : decode cX8_stepOn 32 = .ok (.getfield 70, 3) := by decide +kernel
theorem dX8_stepOn_35 : decode cX8_stepOn 35 = .ok (.iload 4, 2) := by decide +kernel
theorem dX8_stepOn_37 : decode cX8_stepOn 37 = .ok (.iaload, 1) := by decide +kernel
theorem dX8_stepOn_38 : decode cX8_stepOn 38 = .ok (.iload_n 2, 1) := by decide +kernel
theorem dX8_stepOn_39 : decode cX8_stepOn 39 = .ok (.if_icmp .ne 51, 3) := by decide +kernel
theorem dX8_stepOn_42 : decode cX8_stepOn 42 = .ok (.aload_n 0, 1) := by decide +kernel
theorem dX8_stepOn_43 : decode cX8_stepOn 43 = .ok (.getfield 70, 3) := by decide +kernel
theorem dX8_stepOn_46 : decode cX8_stepOn 46 = .ok (.iload 5, 2) := by decide +kernel
theorem dX8_stepOn_48 : decode cX8_stepOn 48 = .ok (.iaload, 1) := by decide +kernel
theorem dX8_stepOn_49 : decode cX8_stepOn 49 = .ok (.bipush (-9), 2) := by decide +kernel
theorem dX8_stepOn_51 : decode cX8_stepOn 51 = .ok (.if_icmp .ne 39, 3) := by decide +kernel
theorem dX8_stepOn_54 : decode cX8_stepOn 54 = .ok (.aload_n 0, 1) := by decide +kernel
theorem dX8_stepOn_55 : decode cX8_stepOn 55 = .ok (.getfield 28, 3) := by decide +kernel
theorem dX8_stepOn_58 : decode cX8_stepOn 58 = .ok (.iload 4, 2) := by decide +kernel
theorem dX8_stepOn_60 : decode cX8_stepOn 60 = .ok (.iaload, 1) := by decide +kernel
theorem dX8_stepOn_61 : decode cX8_stepOn 61 = .ok (.aload_n 0, 1) := by decide +kernel
theorem dX8_stepOn_62 : decode cX8_stepOn 62 = .ok (.getfield 28, 3) := by decide +kernel
theorem dX8_stepOn_65 : decode cX8_stepOn 65 = .ok (.iload 5, 2) := by decide +kernel
theorem dX8_stepOn_67 : decode cX8_stepOn 67 = .ok (.iaload, 1) := by decide +kernel
theorem dX8_stepOn_68 : decode cX8_stepOn 68 = .ok (.invokestatic 168, 3) := by decide +kernel
theorem dX8_stepOn_71 : decode cX8_stepOn 71 = .ok (.aload_n 0, 1) := by decide +kernel
theorem dX8_stepOn_72 : decode cX8_stepOn 72 = .ok (.getfield 37, 3) := by decide +kernel
theorem dX8_stepOn_75 : decode cX8_stepOn 75 = .ok (.iload_n 1, 1) := by decide +kernel
theorem dX8_stepOn_76 : decode cX8_stepOn 76 = .ok (.iaload, 1) := by decide +kernel
theorem dX8_stepOn_77 : decode cX8_stepOn 77 = .ok (.if_icmp .gt 13, 3) := by decide +kernel
theorem dX8_stepOn_80 : decode cX8_stepOn 80 = .ok (.aload_n 0, 1) := by decide +kernel
theorem dX8_stepOn_81 : decode cX8_stepOn 81 = .ok (.getfield 70, 3) := by decide +kernel
theorem dX8_stepOn_84 : decode cX8_stepOn 84 = .ok (.iload 5, 2) := by decide +kernel
theorem dX8_stepOn_86 : decode cX8_stepOn 86 = .ok (.iload_n 2, 1) := by decide +kernel
theorem dX8_stepOn_87 : decode cX8_stepOn 87 = .ok (.iconst 1, 1) := by decide +kernel
theorem dX8_stepOn_88 : decode cX8_stepOn 88 = .ok (.iadd, 1) := by decide +kernel
theorem dX8_stepOn_89 : decode cX8_stepOn 89 = .ok (.iastore, 1) := by decide +kernel
theorem dX8_stepOn_90 : decode cX8_stepOn 90 = .ok (.iinc 3 1, 3) := by decide +kernel
theorem dX8_stepOn_93 : decode cX8_stepOn 93 = .ok (.goto (-91), 3) := by decide +kernel
theorem dX8_stepOn_96 : decode cX8_stepOn 96 = .ok (.return_, 1) := by decide +kernel
theorem dX8_areDreams_0 : decode cX8_areDreams 0 = .ok (.iconst 0, 1) := by decide +kernel
theorem dX8_areDreams_1 : decode cX8_areDreams 1 = .ok (.istore_n 2, 1) := by decide +kernel
theorem dX8_areDreams_2 : decode cX8_areDreams 2 = .ok (.iload_n 2, 1) := by decide +kernel
theorem dX8_areDreams_3 : decode cX8_areDreams 3 = .ok (.aload_n 0, 1) := by decide +kernel
theorem dX8_areDreams_4 : decode cX8_areDreams 4 = .ok (.getfield 95, 3) := by decide +kernel
theorem dX8_areDreams_7 : decode cX8_areDreams 7 = .ok (.if_icmp .ge 60, 3) := by decide +kernel
theorem dX8_areDreams_10 : decode cX8_areDreams 10 = .ok (.aload_n 0, 1) := by decide +kernel
theorem dX8_areDreams_11 : decode cX8_areDreams 11 = .ok (.getfield 16, 3) := by decide +kernel
theorem dX8_areDreams_14 : decode cX8_areDreams 14 = .ok (.iload_n 1, 1) := by decide +kernel
theorem dX8_areDreams_15 : decode cX8_areDreams 15 = .ok (.iload_n 2, 1) := by decide +kernel
theorem dX8_areDreams_16 : decode cX8_areDreams 16 = .ok (.iadd, 1) := by decide +kernel
theorem dX8_areDreams_17 : decode cX8_areDreams 17 = .ok (.iaload, 1) := by decide +kernel
theorem dX8_areDreams_18 : decode cX8_areDreams 18 = .ok (.istore_n 3, 1) := by decide +kernel
theorem dX8_areDreams_19 : decode cX8_areDreams 19 = .ok (.aload_n 0, 1) := by decide +kernel
theorem dX8_areDreams_20 : decode cX8_areDreams 20 = .ok (.getfield 64, 3) := by decide +kernel
theorem dX8_areDreams_23 : decode cX8_areDreams 23 = .ok (.iload_n 2, 1) := by decide +kernel
theorem dX8_areDreams_24 : decode cX8_areDreams 24 = .ok (.iaload, 1) := by decide +kernel
theorem dX8_areDreams_25 : decode cX8_areDreams 25 = .ok (.aload_n 0, 1) := by decide +kernel
theorem dX8_areDreams_26 : decode cX8_areDreams 26 = .ok (.getfield 92, 3) := by decide +kernel
theorem dX8_areDreams_29 : decode cX8_areDreams 29 = .ok (.if_icmp .ne 8, 3) := by decide +kernel
theorem dX8_areDreams_32 : decode cX8_areDreams 32 = .ok (.bipush 99, 2) := by decide +kernel
theorem dX8_areDreams_34 : decode cX8_areDreams 34 = .ok (.goto 11, 3) := by decide +kernel
theorem dX8_areDreams_37 : decode cX8_areDreams 37 = .ok (.aload_n 0, 1) := by decide +kernel
theorem dX8_areDreams_38 : decode cX8_areDreams 38 = .ok (.getfield 64, 3) := by decide +kernel
theorem dX8_areDreams_41 : decode cX8_areDreams 41 = .ok (.iload_n 2, 1) := by decide +kernel
theorem dX8_areDreams_42 : decode cX8_areDreams 42 = .ok (.invokestatic 164, 3) := by decide +kernel
theorem dX8_areDreams_45 : decode cX8_areDreams 45 = .ok (.istore 4, 2) := by decide +kernel
theorem dX8_areDreams_47 : decode cX8_areDreams 47 = .ok (.iload_n 3, 1) := by decide +kernel
theorem dX8_areDreams_48 : decode cX8_areDreams 48 = .ok (.bipush (-9), 2) := by decide +kernel
theorem dX8_areDreams_50 : decode cX8_areDreams 50 = .ok (.if_icmp .eq 11, 3) := by decide +kernel
theorem dX8_areDreams_53 : decode cX8_areDreams 53 = .ok (.iload_n 3, 1) := by decide +kernel
theorem dX8_areDreams_54 : decode cX8_areDreams 54 = .ok (.iload 4, 2) := by decide +kernel
theorem dX8_areDreams_56 : decode cX8_areDreams 56 = .ok (.if_icmp .eq 5, 3) := by decide +kernel
theorem dX8_areDreams_59 : decode cX8_areDreams 59 = .ok (.iconst 0, 1) := by decide +kernel
theorem dX8_areDreams_60 : decode cX8_areDreams 60 = .ok (.ireturn, 1) := by decide +kernel
theorem dX8_areDreams_61 : decode cX8_areDreams 61 = .ok (.iinc 2 1, 3) := by decide +kernel
theorem dX8_areDreams_64 : decode cX8_areDreams 64 = .ok (.goto (-62), 3) := by decide +kernel
theorem dX8_areDreams_67 : decode cX8_areDreams 67 = .ok (.aload_n 0, 1) := by decide +kernel
theorem dX8_areDreams_68 : decode cX8_areDreams 68 = .ok (.invokevirtual 208, 3) := by decide +kernel
theorem dX8_areDreams_71 : decode cX8_areDreams 71 = .ok (.ireturn, 1) := by decide +kernel
theorem dX8_lain_0 : decode cX8_lain 0 = .ok (.aload_n 0, 1) := by decide +kernel
theorem dX8_lain_1 : decode cX8_lain 1 = .ok (.iconst 0, 1) := by decide +kernel
theorem dX8_lain_2 : decode cX8_lain 2 = .ok (.putfield 82, 3) := by decide +kernel
theorem dX8_lain_5 : decode cX8_lain 5 = .ok (.iload_n 1, 1) := by decide +kernel
theorem dX8_lain_6 : decode cX8_lain 6 = .ok (.invokestatic 101, 3) := by decide +kernel
theorem dX8_lain_9 : decode cX8_lain 9 = .ok (.ifCond .ne 5, 3) := by decide +kernel
theorem dX8_lain_12 : decode cX8_lain 12 = .ok (.iconst (-1), 1) := by decide +kernel
theorem dX8_lain_13 : decode cX8_lain 13 = .ok (.ireturn, 1) := by decide +kernel
theorem dX8_lain_14 : decode cX8_lain 14 = .ok (.iload_n 2, 1) := by decide +kernel
theorem dX8_lain_15 : decode cX8_lain 15 = .ok (.invokestatic 105, 3) := by decide +kernel
theorem dX8_lain_18 : decode cX8_lain 18 = .ok (.ifCond .eq 13, 3) := by decide +kernel
theorem dX8_lain_21 : decode cX8_lain 21 = .ok (.iload 4, 2) := by decide +kernel
theorem dX8_lain_23 : decode cX8_lain 23 = .ok (.iconst (-1), 1) := by decide +kernel
theorem dX8_lain_24 : decode cX8_lain 24 = .ok (.iconst 4, 1) := by decide +kernel
theorem dX8_lain_25 : decode cX8_lain 25 = .ok (.invokestatic 88, 3) := by decide +kernel
theorem dX8_lain_28 : decode cX8_lain 28 = .ok (.ifCond .ne 6, 3) := by decide +kernel
theorem dX8_lain_31 : decode cX8_lain 31 = .ok (.bipush (-2), 2) := by decide +kernel
theorem dX8_lain_33 : decode cX8_lain 33 = .ok (.ireturn, 1) := by decide +kernel
theorem dX8_lain_34 : decode cX8_lain 34 = .ok (.aload_n 0, 1) := by decide +kernel
theorem dX8_lain_35 : decode cX8_lain 35 = .ok (.getfield 92, 3) := by decide +kernel
theorem dX8_lain_38 : decode cX8_lain 38 = .ok (.ifCond .ne 6, 3) := by decide +kernel
theorem dX8_lain_41 : decode cX8_lain 41 = .ok (.bipush (-3), 2) := by decide +kernel
theorem dX8_lain_43 : decode cX8_lain 43 = .ok (.ireturn, 1) := by decide +kernel
theorem dX8_lain_44 : decode cX8_lain 44 = .ok (.aload_n 0, 1) := by decide +kernel
theorem dX8_lain_45 : decode cX8_lain 45 = .ok (.iload_n 1, 1) := by decide +kernel
theorem dX8_lain_46 : decode cX8_lain 46 = .ok (.iload_n 2, 1) := by decide +kernel
theorem dX8_lain_47 : decode cX8_lain 47 = .ok (.iload_n 3, 1) := by decide +kernel
theorem dX8_lain_48 : decode cX8_lain 48 = .ok (.aload_n 0, 1) := by decide +kernel
theorem dX8_lain_49 : decode cX8_lain 49 = .ok (.getfield 95, 3) := by decide +kernel
theorem dX8_lain_52 : decode cX8_lain 52 = .ok (.invokevirtual 108, 3) := by decide +kernel
theorem dX8_lain_55 : decode cX8_lain 55 = .ok (.istore 5, 2) := by decide +kernel
theorem dX8_lain_57 : decode cX8_lain 57 = .ok (.iload 5, 2) := by decide +kernel
theorem dX8_lain_59 : decode cX8_lain 59 = .ok (.ifCond .eq 10, 3) := by decide +kernel
theorem dX8_lain_62 : decode cX8_lain 62 = .ok (.aload_n 0, 1) := by decide +kernel
theorem dX8_lain_63 : decode cX8_lain 63 = .ok (.iload 5, 2) := by decide +kernel
theorem dX8_lain_65 : decode cX8_lain 65 = .ok (.invokevirtual 112, 3) := by decide +kernel
theorem dX8_lain_68 : decode cX8_lain 68 = .ok (.ireturn, 1) := by decide +kernel
theorem dX8_lain_69 : decode cX8_lain 69 = .ok (.iconst 0, 1) := by decide +kernel
theorem dX8_lain_70 : decode cX8_lain 70 = .ok (.istore 6, 2) := by decide +kernel
theorem dX8_lain_72 : decode cX8_lain 72 = .ok (.bipush (-9), 2) := by decide +kernel
theorem dX8_lain_74 : decode cX8_lain 74 = .ok (.istore 7, 2) := by decide +kernel
theorem dX8_lain_76 : decode cX8_lain 76 = .ok (.iconst 0, 1) := by decide +kernel
theorem dX8_lain_77 : decode cX8_lain 77 = .ok (.istore 8, 2) := by decide +kernel
theorem dX8_lain_79 : decode cX8_lain 79 = .ok (.iload 8, 2) := by decide +kernel
theorem dX8_lain_81 : decode cX8_lain 81 = .ok (.aload_n 0, 1) := by decide +kernel
theorem dX8_lain_82 : decode cX8_lain 82 = .ok (.invokevirtual 215, 3) := by decide +kernel
theorem dX8_lain_85 : decode cX8_lain 85 = .ok (.if_icmp .ge 73, 3) := by decide +kernel
theorem dX8_lain_88 : decode cX8_lain 88 = .ok (.aload_n 0, 1) := by decide +kernel
theorem dX8_lain_89 : decode cX8_lain 89 = .ok (.iload 8, 2) := by decide +kernel
theorem dX8_lain_91 : decode cX8_lain 91 = .ok (.invokevirtual 218, 3) := by decide +kernel
theorem dX8_lain_94 : decode cX8_lain 94 = .ok (.aload_n 0, 1) := by decide +kernel
theorem dX8_lain_95 : decode cX8_lain 95 = .ok (.bipush 60, 2) := by decide +kernel
theorem dX8_lain_97 : decode cX8_lain 97 = .ok (.iload_n 1, 1) := by decide +kernel
theorem dX8_lain_98 : decode cX8_lain 98 = .ok (.imul, 1) := by decide +kernel
theorem dX8_lain_99 : decode cX8_lain 99 = .ok (.iload_n 3, 1) := by decide +kernel
theorem dX8_lain_100 : decode cX8_lain 100 = .ok (.iadd, 1) := by decide +kernel
theorem dX8_lain_101 : decode cX8_lain 101 = .ok (.invokevirtual 235, 3) := by decide +kernel
theorem dX8_lain_104 : decode cX8_lain 104 = .ok (.ifCond .eq 48, 3) := by decide +kernel
theorem dX8_lain_107 : decode cX8_lain 107 = .ok (.iload 6, 2) := by decide +kernel
theorem dX8_lain_109 : decode cX8_lain 109 = .ok (.ifCond .ne 36, 3) := by decide +kernel
theorem dX8_lain_112 : decode cX8_lain 112 = .ok (.aload_n 0, 1) := by decide +kernel
theorem dX8_lain_113 : decode cX8_lain 113 = .ok (.iload 4, 2) := by decide +kernel
theorem dX8_lain_115 : decode cX8_lain 115 = .ok (.invokevirtual 161, 3) := by decide +kernel
theorem dX8_lain_118 : decode cX8_lain 118 = .ok (.ifCond .eq 27, 3) := by decide +kernel
theorem dX8_lain_121 : decode cX8_lain 121 = .ok (.aload_n 0, 1) := by decide +kernel
theorem dX8_lain_122 : decode cX8_lain 122 = .ok (.getfield 64, 3) := by decide +kernel
theorem dX8_lain_125 : decode cX8_lain 125 = .ok (.iload 4, 2) := by decide +kernel
theorem dX8_lain_127 : decode cX8_lain 127 = .ok (.iaload, 1) := by decide +kernel
theorem dX8_lain_128 : decode cX8_lain 128 = .ok (.aload_n 0, 1) := by decide +kernel
theorem dX8_lain_129 : decode cX8_lain 129 = .ok (.getfield 92, 3) := by decide +kernel
theorem dX8_lain_132 : decode cX8_lain 132 = .ok (.if_icmp .ge 13, 3) := by decide +kernel
theorem dX8_lain_135 : decode cX8_lain 135 = .ok (.aload_n 0, 1) := by decide +kernel
theorem dX8_lain_136 : decode cX8_lain 136 = .ok (.getfield 64, 3) := by decide +kernel
theorem dX8_lain_139 : decode cX8_lain 139 = .ok (.iload 4, 2) := by decide +kernel
theorem dX8_lain_141 : decode cX8_lain 141 = .ok (.iaload, 1) := by decide +kernel
end
section
theorem dX8_lain_142 : decode cX8_lain 142 = .ok (.goto 5, 3) := by decide +kernel
theorem dX8_lain_145 : decode cX8_lain 145 = .ok (.iload 7, 2) := by decide +kernel
theorem dX8_lain_147 : decode cX8_lain 147 = .ok (.istore 7, 2) := by decide +kernel
theorem dX8_lain_149 : decode cX8_lain 149 = .ok (.iinc 6 1, 3) := by decide +kernel
theorem dX8_lain_152 : decode cX8_lain 152 = .ok (.iinc 8 1, 3) := by decide +kernel
theorem dX8_lain_155 : decode cX8_lain 155 = .ok (.goto (-76), 3) := by decide +kernel
theorem dX8_lain_158 : decode cX8_lain 158 = .ok (.iload 4, 2) := by decide +kernel
theorem dX8_lain_160 : decode cX8_lain 160 = .ok (.iconst (-1), 1) := by decide +kernel
theorem dX8_lain_161 : decode cX8_lain 161 = .ok (.if_icmp .ne 8, 3) := by decide +kernel
theorem dX8_lain_164 : decode cX8_lain 164 = .ok (.iload 6, 2) := by decide +kernel
theorem dX8_lain_166 : decode cX8_lain 166 = .ok (.goto 5, 3) := by decide +kernel
theorem dX8_lain_169 : decode cX8_lain 169 = .ok (.iload 7, 2) := by decide +kernel
theorem dX8_lain_171 : decode cX8_lain 171 = .ok (.ireturn, 1) := by decide +kernel
theorem dX8_reading_0 : decode cX8_reading 0 = .ok (.aload_n 0, 1) := by decide +kernel
theorem dX8_reading_1 : decode cX8_reading 1 = .ok (.iload_n 1, 1) := by decide +kernel
theorem dX8_reading_2 : decode cX8_reading 2 = .ok (.invokevirtual 152, 3) := by decide +kernel
theorem dX8_reading_5 : decode cX8_reading 5 = .ok (.ifCond .ne 5, 3) := by decide +kernel
theorem dX8_reading_8 : decode cX8_reading 8 = .ok (.iconst (-1), 1) := by decide +kernel
theorem dX8_reading_9 : decode cX8_reading 9 = .ok (.ireturn, 1) := by decide +kernel
theorem dX8_reading_10 : decode cX8_reading 10 = .ok (.iload_n 2, 1) := by decide +kernel
theorem dX8_reading_11 : decode cX8_reading 11 = .ok (.iconst 0, 1) := by decide +kernel
theorem dX8_reading_12 : decode cX8_reading 12 = .ok (.bipush 9, 2) := by decide +kernel
theorem dX8_reading_14 : decode cX8_reading 14 = .ok (.invokestatic 88, 3) := by decide +kernel
theorem dX8_reading_17 : decode cX8_reading 17 = .ok (.ifCond .eq 12, 3) := by decide +kernel
theorem dX8_reading_20 : decode cX8_reading 20 = .ok (.iload_n 3, 1) := by decide +kernel
theorem dX8_reading_21 : decode cX8_reading 21 = .ok (.iconst 0, 1) := by decide +kernel
theorem dX8_reading_22 : decode cX8_reading 22 = .ok (.iconst 1, 1) := by decide +kernel
theorem dX8_reading_23 : decode cX8_reading 23 = .ok (.invokestatic 88, 3) := by decide +kernel
theorem dX8_reading_26 : decode cX8_reading 26 = .ok (.ifCond .ne 6, 3) := by decide +kernel
theorem dX8_reading_29 : decode cX8_reading 29 = .ok (.bipush (-2), 2) := by decide +kernel
theorem dX8_reading_31 : decode cX8_reading 31 = .ok (.ireturn, 1) := by decide +kernel
theorem dX8_reading_32 : decode cX8_reading 32 = .ok (.aload_n 0, 1) := by decide +kernel
theorem dX8_reading_33 : decode cX8_reading 33 = .ok (.getfield 131, 3) := by decide +kernel
theorem dX8_reading_36 : decode cX8_reading 36 = .ok (.bipush 8, 2) := by decide +kernel
theorem dX8_reading_38 : decode cX8_reading 38 = .ok (.if_icmp .ne 6, 3) := by decide +kernel
theorem dX8_reading_41 : decode cX8_reading 41 = .ok (.bipush (-4), 2) := by decide +kernel
theorem dX8_reading_43 : decode cX8_reading 43 = .ok (.ireturn, 1) := by decide +kernel
theorem dX8_reading_44 : decode cX8_reading 44 = .ok (.aload_n 0, 1) := by decide +kernel
theorem dX8_reading_45 : decode cX8_reading 45 = .ok (.getfield 73, 3) := by decide +kernel
theorem dX8_reading_48 : decode cX8_reading 48 = .ok (.aload_n 0, 1) := by decide +kernel
theorem dX8_reading_49 : decode cX8_reading 49 = .ok (.getfield 131, 3) := by decide +kernel
theorem dX8_reading_52 : decode cX8_reading 52 = .ok (.iload_n 1, 1) := by decide +kernel
theorem dX8_reading_53 : decode cX8_reading 53 = .ok (.iastore, 1) := by decide +kernel
theorem dX8_reading_54 : decode cX8_reading 54 = .ok (.aload_n 0, 1) := by decide +kernel
theorem dX8_reading_55 : decode cX8_reading 55 = .ok (.getfield 76, 3) := by decide +kernel
theorem dX8_reading_58 : decode cX8_reading 58 = .ok (.aload_n 0, 1) := by decide +kernel
theorem dX8_reading_59 : decode cX8_reading 59 = .ok (.getfield 131, 3) := by decide +kernel
theorem dX8_reading_62 : decode cX8_reading 62 = .ok (.iload_n 2, 1) := by decide +kernel
theorem dX8_reading_63 : decode cX8_reading 63 = .ok (.iastore, 1) := by decide +kernel
theorem dX8_reading_64 : decode cX8_reading 64 = .ok (.aload_n 0, 1) := by decide +kernel
theorem dX8_reading_65 : decode cX8_reading 65 = .ok (.getfield 79, 3) := by decide +kernel
theorem dX8_reading_68 : decode cX8_reading 68 = .ok (.aload_n 0, 1) := by decide +kernel
theorem dX8_reading_69 : decode cX8_reading 69 = .ok (.getfield 131, 3) := by decide +kernel
theorem dX8_reading_72 : decode cX8_reading 72 = .ok (.iload_n 3, 1) := by decide +kernel
theorem dX8_reading_73 : decode cX8_reading 73 = .ok (.iastore, 1) := by decide +kernel
theorem dX8_reading_74 : decode cX8_reading 74 = .ok (.aload_n 0, 1) := by decide +kernel
theorem dX8_reading_75 : decode cX8_reading 75 = .ok (.dup, 1) := by decide +kernel
theorem dX8_reading_76 : decode cX8_reading 76 = .ok (.getfield 131, 3) := by decide +kernel
theorem dX8_reading_79 : decode cX8_reading 79 = .ok (.iconst 1, 1) := by decide +kernel
theorem dX8_reading_80 : decode cX8_reading 80 = .ok (.iadd, 1) := by decide +kernel
theorem dX8_reading_81 : decode cX8_reading 81 = .ok (.putfield 131, 3) := by decide +kernel
theorem dX8_reading_84 : decode cX8_reading 84 = .ok (.aload_n 0, 1) := by decide +kernel
theorem dX8_reading_85 : decode cX8_reading 85 = .ok (.getfield 131, 3) := by decide +kernel
theorem dX8_reading_88 : decode cX8_reading 88 = .ok (.iconst 1, 1) := by decide +kernel
theorem dX8_reading_89 : decode cX8_reading 89 = .ok (.isub, 1) := by decide +kernel
theorem dX8_reading_90 : decode cX8_reading 90 = .ok (.ireturn, 1) := by decide +kernel
theorem dX8_back_0 : decode cX8_back 0 = .ok (.iload_n 1, 1) := by decide +kernel
theorem dX8_back_1 : decode cX8_back 1 = .ok (.iconst 0, 1) := by decide +kernel
theorem dX8_back_2 : decode cX8_back 2 = .ok (.aload_n 0, 1) := by decide +kernel
theorem dX8_back_3 : decode cX8_back 3 = .ok (.getfield 131, 3) := by decide +kernel
theorem dX8_back_6 : decode cX8_back 6 = .ok (.invokestatic 88, 3) := by decide +kernel
theorem dX8_back_9 : decode cX8_back 9 = .ok (.ifCond .ne 6, 3) := by decide +kernel
theorem dX8_back_12 : decode cX8_back 12 = .ok (.bipush (-2), 2) := by decide +kernel
theorem dX8_back_14 : decode cX8_back 14 = .ok (.ireturn, 1) := by decide +kernel
theorem dX8_back_15 : decode cX8_back 15 = .ok (.aload_n 0, 1) := by decide +kernel
theorem dX8_back_16 : decode cX8_back 16 = .ok (.dup, 1) := by decide +kernel
theorem dX8_back_17 : decode cX8_back 17 = .ok (.getfield 131, 3) := by decide +kernel
theorem dX8_back_20 : decode cX8_back 20 = .ok (.iload_n 1, 1) := by decide +kernel
theorem dX8_back_21 : decode cX8_back 21 = .ok (.isub, 1) := by decide +kernel
theorem dX8_back_22 : decode cX8_back 22 = .ok (.putfield 131, 3) := by decide +kernel
theorem dX8_back_25 : decode cX8_back 25 = .ok (.aload_n 0, 1) := by decide +kernel
theorem dX8_back_26 : decode cX8_back 26 = .ok (.getfield 131, 3) := by decide +kernel
theorem dX8_back_29 : decode cX8_back 29 = .ok (.ireturn, 1) := by decide +kernel
theorem dX8_areSo_0 : decode cX8_areSo 0 = .ok (.iconst 0, 1) := by decide +kernel
theorem dX8_areSo_1 : decode cX8_areSo 1 = .ok (.istore_n 1, 1) := by decide +kernel
theorem dX8_areSo_2 : decode cX8_areSo 2 = .ok (.iload_n 1, 1) := by decide +kernel
theorem dX8_areSo_3 : decode cX8_areSo 3 = .ok (.aload_n 0, 1) := by decide +kernel
theorem dX8_areSo_4 : decode cX8_areSo 4 = .ok (.getfield 131, 3) := by decide +kernel
theorem dX8_areSo_7 : decode cX8_areSo 7 = .ok (.if_icmp .ge 46, 3) := by decide +kernel
theorem dX8_areSo_10 : decode cX8_areSo 10 = .ok (.aload_n 0, 1) := by decide +kernel
theorem dX8_areSo_11 : decode cX8_areSo 11 = .ok (.aload_n 0, 1) := by decide +kernel
theorem dX8_areSo_12 : decode cX8_areSo 12 = .ok (.getfield 73, 3) := by decide +kernel
theorem dX8_areSo_15 : decode cX8_areSo 15 = .ok (.iload_n 1, 1) := by decide +kernel
theorem dX8_areSo_16 : decode cX8_areSo 16 = .ok (.iaload, 1) := by decide +kernel
theorem dX8_areSo_17 : decode cX8_areSo 17 = .ok (.invokevirtual 155, 3) := by decide +kernel
theorem dX8_areSo_20 : decode cX8_areSo 20 = .ok (.aload_n 0, 1) := by decide +kernel
theorem dX8_areSo_21 : decode cX8_areSo 21 = .ok (.getfield 76, 3) := by decide +kernel
theorem dX8_areSo_24 : decode cX8_areSo 24 = .ok (.iload_n 1, 1) := by decide +kernel
theorem dX8_areSo_25 : decode cX8_areSo 25 = .ok (.iaload, 1) := by decide +kernel
theorem dX8_areSo_26 : decode cX8_areSo 26 = .ok (.if_icmp .gt 7, 3) := by decide +kernel
theorem dX8_areSo_29 : decode cX8_areSo 29 = .ok (.iconst 1, 1) := by decide +kernel
theorem dX8_areSo_30 : decode cX8_areSo 30 = .ok (.goto 4, 3) := by decide +kernel
theorem dX8_areSo_33 : decode cX8_areSo 33 = .ok (.iconst 0, 1) := by decide +kernel
theorem dX8_areSo_34 : decode cX8_areSo 34 = .ok (.istore_n 2, 1) := by decide +kernel
theorem dX8_areSo_35 : decode cX8_areSo 35 = .ok (.iload_n 2, 1) := by decide +kernel
theorem dX8_areSo_36 : decode cX8_areSo 36 = .ok (.aload_n 0, 1) := by decide +kernel
theorem dX8_areSo_37 : decode cX8_areSo 37 = .ok (.getfield 79, 3) := by decide +kernel
theorem dX8_areSo_40 : decode cX8_areSo 40 = .ok (.iload_n 1, 1) := by decide +kernel
theorem dX8_areSo_41 : decode cX8_areSo 41 = .ok (.iaload, 1) := by decide +kernel
theorem dX8_areSo_42 : decode cX8_areSo 42 = .ok (.if_icmp .eq 5, 3) := by decide +kernel
theorem dX8_areSo_45 : decode cX8_areSo 45 = .ok (.iconst 0, 1) := by decide +kernel
theorem dX8_areSo_46 : decode cX8_areSo 46 = .ok (.ireturn, 1) := by decide +kernel
theorem dX8_areSo_47 : decode cX8_areSo 47 = .ok (.iinc 1 1, 3) := by decide +kernel
theorem dX8_areSo_50 : decode cX8_areSo 50 = .ok (.goto (-48), 3) := by decide +kernel
theorem dX8_areSo_53 : decode cX8_areSo 53 = .ok (.iconst 1, 1) := by decide +kernel
theorem dX8_areSo_54 : decode cX8_areSo 54 = .ok (.ireturn, 1) := by decide +kernel
theorem dX8_rooms_0 : decode cX8_rooms 0 = .ok (.aload_n 0, 1) := by decide +kernel
theorem dX8_rooms_1 : decode cX8_rooms 1 = .ok (.iload_n 1, 1) := by decide +kernel
theorem dX8_rooms_2 : decode cX8_rooms 2 = .ok (.invokevirtual 152, 3) := by decide +kernel
theorem dX8_rooms_5 : decode cX8_rooms 5 = .ok (.ifCond .ne 5, 3) := by decide +kernel
theorem dX8_rooms_8 : decode cX8_rooms 8 = .ok (.iconst (-1), 1) := by decide +kernel
theorem dX8_rooms_9 : decode cX8_rooms 9 = .ok (.ireturn, 1) := by decide +kernel
theorem dX8_rooms_10 : decode cX8_rooms 10 = .ok (.aload_n 0, 1) := by decide +kernel
theorem dX8_rooms_11 : decode cX8_rooms 11 = .ok (.getfield 22, 3) := by decide +kernel
theorem dX8_rooms_14 : decode cX8_rooms 14 = .ok (.iload_n 1, 1) := by decide +kernel
theorem dX8_rooms_15 : decode cX8_rooms 15 = .ok (.iaload, 1) := by decide +kernel
theorem dX8_rooms_16 : decode cX8_rooms 16 = .ok (.istore_n 2, 1) := by decide +kernel
theorem dX8_rooms_17 : decode cX8_rooms 17 = .ok (.iconst 0, 1) := by decide +kernel
theorem dX8_rooms_18 : decode cX8_rooms 18 = .ok (.istore_n 3, 1) := by decide +kernel
theorem dX8_rooms_19 : decode cX8_rooms 19 = .ok (.iconst 1, 1) := by decide +kernel
theorem dX8_rooms_20 : decode cX8_rooms 20 = .ok (.istore 4, 2) := by decide +kernel
theorem dX8_rooms_22 : decode cX8_rooms 22 = .ok (.iload 4, 2) := by decide +kernel
theorem dX8_rooms_24 : decode cX8_rooms 24 = .ok (.iconst 4, 1) := by decide +kernel
theorem dX8_rooms_25 : decode cX8_rooms 25 = .ok (.if_icmp .gt 35, 3) := by decide +kernel
theorem dX8_rooms_28 : decode cX8_rooms 28 = .ok (.aload_n 0, 1) := by decide +kernel
theorem dX8_rooms_29 : decode cX8_rooms 29 = .ok (.getfield 22, 3) := by decide +kernel
theorem dX8_rooms_32 : decode cX8_rooms 32 = .ok (.iload_n 1, 1) := by decide +kernel
theorem dX8_rooms_33 : decode cX8_rooms 33 = .ok (.iload 4, 2) := by decide +kernel
theorem dX8_rooms_35 : decode cX8_rooms 35 = .ok (.iastore, 1) := by decide +kernel
theorem dX8_rooms_36 : decode cX8_rooms 36 = .ok (.iload_n 3, 1) := by decide +kernel
theorem dX8_rooms_37 : decode cX8_rooms 37 = .ok (.aload_n 0, 1) := by decide +kernel
theorem dX8_rooms_38 : decode cX8_rooms 38 = .ok (.invokevirtual 238, 3) := by decide +kernel
theorem dX8_rooms_41 : decode cX8_rooms 41 = .ok (.ifCond .eq 10, 3) := by decide +kernel
theorem dX8_rooms_44 : decode cX8_rooms 44 = .ok (.iconst 1, 1) := by decide +kernel
theorem dX8_rooms_45 : decode cX8_rooms 45 = .ok (.iload 4, 2) := by decide +kernel
theorem dX8_rooms_47 : decode cX8_rooms 47 = .ok (.ishl, 1) := by decide +kernel
theorem dX8_rooms_48 : decode cX8_rooms 48 = .ok (.goto 4, 3) := by decide +kernel
theorem dX8_rooms_51 : decode cX8_rooms 51 = .ok (.iconst 0, 1) := by decide +kernel
theorem dX8_rooms_52 : decode cX8_rooms 52 = .ok (.ior, 1) := by decide +kernel
theorem dX8_rooms_53 : decode cX8_rooms 53 = .ok (.istore_n 3, 1) := by decide +kernel
theorem dX8_rooms_54 : decode cX8_rooms 54 = .ok (.iinc 4 1, 3) := by decide +kernel
theorem dX8_rooms_57 : decode cX8_rooms 57 = .ok (.goto (-35), 3) := by decide +kernel
theorem dX8_rooms_60 : decode cX8_rooms 60 = .ok (.aload_n 0, 1) := by decide +kernel
theorem dX8_rooms_61 : decode cX8_rooms 61 = .ok (.getfield 22, 3) := by decide +kernel
theorem dX8_rooms_64 : decode cX8_rooms 64 = .ok (.iload_n 1, 1) := by decide +kernel
theorem dX8_rooms_65 : decode cX8_rooms 65 = .ok (.iload_n 2, 1) := by decide +kernel
theorem dX8_rooms_66 : decode cX8_rooms 66 = .ok (.iastore, 1) := by decide +kernel
theorem dX8_rooms_67 : decode cX8_rooms 67 = .ok (.iload_n 3, 1) := by decide +kernel
theorem dX8_rooms_68 : decode cX8_rooms 68 = .ok (.ireturn, 1) := by decide +kernel
theorem dX8_kinds_0 : decode cX8_kinds 0 = .ok (.aload_n 0, 1) := by decide +kernel
theorem dX8_kinds_1 : decode cX8_kinds 1 = .ok (.iload_n 1, 1) := by decide +kernel
theorem dX8_kinds_2 : decode cX8_kinds 2 = .ok (.invokevirtual 152, 3) := by decide +kernel
theorem dX8_kinds_5 : decode cX8_kinds 5 = .ok (.ifCond .ne 5, 3) := by decide +kernel
theorem dX8_kinds_8 : decode cX8_kinds 8 = .ok (.iconst (-1), 1) := by decide +kernel
theorem dX8_kinds_9 : decode cX8_kinds 9 = .ok (.ireturn, 1) := by decide +kernel
theorem dX8_kinds_10 : decode cX8_kinds 10 = .ok (.aload_n 0, 1) := by decide +kernel
theorem dX8_kinds_11 : decode cX8_kinds 11 = .ok (.getfield 19, 3) := by decide +kernel
theorem dX8_kinds_14 : decode cX8_kinds 14 = .ok (.iload_n 1, 1) := by decide +kernel
theorem dX8_kinds_15 : decode cX8_kinds 15 = .ok (.iaload, 1) := by decide +kernel
theorem dX8_kinds_16 : decode cX8_kinds 16 = .ok (.istore_n 2, 1) := by decide +kernel
theorem dX8_kinds_17 : decode cX8_kinds 17 = .ok (.iconst 0, 1) := by decide +kernel
theorem dX8_kinds_18 : decode cX8_kinds 18 = .ok (.istore_n 3, 1) := by decide +kernel
theorem dX8_kinds_19 : decode cX8_kinds 19 = .ok (.iconst 0, 1) := by decide +kernel
theorem dX8_kinds_20 : decode cX8_kinds 20 = .ok (.istore 4, 2) := by decide +kernel
theorem dX8_kinds_22 : decode cX8_kinds 22 = .ok (.iload 4, 2) := by decide +kernel
theorem dX8_kinds_24 : decode cX8_kinds 24 = .ok (.iconst 3, 1) := by decide +kernel
theorem dX8_kinds_25 : decode cX8_kinds 25 = .ok (.if_icmp .ge 35, 3) := by decide +kernel
theorem dX8_kinds_28 : decode cX8_kinds 28 = .ok (.aload_n 0, 1) := by decide +kernel
theorem dX8_kinds_29 : decode cX8_kinds 29 = .ok (.getfield 19, 3) := by decide +kernel
theorem dX8_kinds_32 : decode cX8_kinds 32 = .ok (.iload_n 1, 1) := by decide +kernel
theorem dX8_kinds_33 : decode cX8_kinds 33 = .ok (.iload 4, 2) := by decide +kernel
theorem dX8_kinds_35 : decode cX8_kinds 35 = .ok (.iastore, 1) := by decide +kernel
theorem dX8_kinds_36 : decode cX8_kinds 36 = .ok (.iload_n 3, 1) := by decide +kernel
theorem dX8_kinds_37 : decode cX8_kinds 37 = .ok (.aload_n 0, 1) := by decide +kernel
theorem dX8_kinds_38 : decode cX8_kinds 38 = .ok (.invokevirtual 238, 3) := by decide +kernel
theorem dX8_kinds_41 : decode cX8_kinds 41 = .ok (.ifCond .eq 10, 3) := by decide +kernel
theorem dX8_kinds_44 : decode cX8_kinds 44 = .ok (.iconst 1, 1) := by decide +kernel
theorem dX8_kinds_45 : decode cX8_kinds 45 = .ok (.iload 4, 2) := by decide +kernel
theorem dX8_kinds_47 : decode cX8_kinds 47 = .ok (.ishl, 1) := by decide +kernel
theorem dX8_kinds_48 : decode cX8_kinds 48 = .ok (.goto 4, 3) := by decide +kernel
theorem dX8_kinds_51 : decode cX8_kinds 51 = .ok (.iconst 0, 1) := by decide +kernel
theorem dX8_kinds_52 : decode cX8_kinds 52 = .ok (.ior, 1) := by decide +kernel
theorem dX8_kinds_53 : decode cX8_kinds 53 = .ok (.istore_n 3, 1) := by decide +kernel
theorem dX8_kinds_54 : decode cX8_kinds 54 = .ok (.iinc 4 1, 3) := by decide +kernel
theorem dX8_kinds_57 : decode cX8_kinds 57 = .ok (.goto (-35), 3) := by decide +kernel
theorem dX8_kinds_60 : decode cX8_kinds 60 = .ok (.aload_n 0, 1) := by decide +kernel
theorem dX8_kinds_61 : decode cX8_kinds 61 = .ok (.getfield 19, 3) := by decide +kernel
theorem dX8_kinds_64 : decode cX8_kinds 64 = .ok (.iload_n 1, 1) := by decide +kernel
theorem dX8_kinds_65 : decode cX8_kinds 65 = .ok (.iload_n 2, 1) := by decide +kernel
theorem dX8_kinds_66 : decode cX8_kinds 66 = .ok (.iastore, 1) := by decide +kernel
theorem dX8_kinds_67 : decode cX8_kinds 67 = .ok (.iload_n 3, 1) := by decide +kernel
theorem dX8_kinds_68 : decode cX8_kinds 68 = .ok (.ireturn, 1) := by decide +kernel
theorem dX8_inLeastTerms_0 : decode cX8_inLeastTerms 0 = .ok (.lload_n 0, 1) := by decide +kernel
theorem dX8_inLeastTerms_1 : decode cX8_inLeastTerms 1 = .ok (.lstore 5, 2) := by decide +kernel
theorem dX8_inLeastTerms_3 : decode cX8_inLeastTerms 3 = .ok (.lload_n 2, 1) := by decide +kernel
theorem dX8_inLeastTerms_4 : decode cX8_inLeastTerms 4 = .ok (.lstore 7, 2) := by decide +kernel
theorem dX8_inLeastTerms_6 : decode cX8_inLeastTerms 6 = .ok (.lload 7, 2) := by decide +kernel
theorem dX8_inLeastTerms_8 : decode cX8_inLeastTerms 8 = .ok (.lconst 0, 1) := by decide +kernel
theorem dX8_inLeastTerms_9 : decode cX8_inLeastTerms 9 = .ok (.lcmp, 1) := by decide +kernel
theorem dX8_inLeastTerms_10 : decode cX8_inLeastTerms 10 = .ok (.ifCond .eq 21, 3) := by decide +kernel
theorem dX8_inLeastTerms_13 : decode cX8_inLeastTerms 13 = .ok (.lload 5, 2) := by decide +kernel
theorem dX8_inLeastTerms_15 : decode cX8_inLeastTerms 15 = .ok (.lload 7, 2) := by decide +kernel
theorem dX8_inLeastTerms_17 : decode cX8_inLeastTerms 17 = .ok (.lrem, 1) := by decide +kernel
theorem dX8_inLeastTerms_18 : decode cX8_inLeastTerms 18 = .ok (.lstore 9, 2) := by decide +kernel
theorem dX8_inLeastTerms_20 : decode cX8_inLeastTerms 20 = .ok (.lload 7, 2) := by decide +kernel
theorem dX8_inLeastTerms_22 : decode cX8_inLeastTerms 22 = .ok (.lstore 5, 2) := by decide +kernel
theorem dX8_inLeastTerms_24 : decode cX8_inLeastTerms 24 = .ok (.lload 9, 2) := by decide +kernel
theorem dX8_inLeastTerms_26 : decode cX8_inLeastTerms 26 = .ok (.lstore 7, 2) := by decide +kernel
theorem dX8_inLeastTerms_28 : decode cX8_inLeastTerms 28 = .ok (.goto (-22), 3) := by decide +kernel
theorem dX8_inLeastTerms_31 : decode cX8_inLeastTerms 31 = .ok (.iload 4, 2) := by decide +kernel
theorem dX8_inLeastTerms_33 : decode cX8_inLeastTerms 33 = .ok (.ifCond .ne 10, 3) := by decide +kernel
theorem dX8_inLeastTerms_36 : decode cX8_inLeastTerms 36 = .ok (.lload_n 0, 1) := by decide +kernel
theorem dX8_inLeastTerms_37 : decode cX8_inLeastTerms 37 = .ok (.lload 5, 2) := by decide +kernel
theorem dX8_inLeastTerms_39 : decode cX8_inLeastTerms 39 = .ok (.ldiv, 1) := by decide +kernel
theorem dX8_inLeastTerms_40 : decode cX8_inLeastTerms 40 = .ok (.goto 7, 3) := by decide +kernel
theorem dX8_inLeastTerms_43 : decode cX8_inLeastTerms 43 = .ok (.lload_n 2, 1) := by decide +kernel
theorem dX8_inLeastTerms_44 : decode cX8_inLeastTerms 44 = .ok (.lload 5, 2) := by decide +kernel
theorem dX8_inLeastTerms_46 : decode cX8_inLeastTerms 46 = .ok (.ldiv, 1) := by decide +kernel
theorem dX8_inLeastTerms_47 : decode cX8_inLeastTerms 47 = .ok (.lreturn, 1) := by decide +kernel
theorem dX8_odds_0 : decode cX8_odds 0 = .ok (.aload_n 0, 1) := by decide +kernel
theorem dX8_odds_1 : decode cX8_odds 1 = .ok (.iload_n 1, 1) := by decide +kernel
theorem dX8_odds_2 : decode cX8_odds 2 = .ok (.invokevirtual 152, 3) := by decide +kernel
theorem dX8_odds_5 : decode cX8_odds 5 = .ok (.ifCond .eq 12, 3) := by decide +kernel
theorem dX8_odds_8 : decode cX8_odds 8 = .ok (.iload_n 2, 1) := by decide +kernel
theorem dX8_odds_9 : decode cX8_odds 9 = .ok (.iconst 0, 1) := by decide +kernel
theorem dX8_odds_10 : decode cX8_odds 10 = .ok (.iconst 1, 1) := by decide +kernel
theorem dX8_odds_11 : decode cX8_odds 11 = .ok (.invokestatic 88, 3) := by decide +kernel
theorem dX8_odds_14 : decode cX8_odds 14 = .ok (.ifCond .ne 7, 3) := by decide +kernel
theorem dX8_odds_17 : decode cX8_odds 17 = .ok (.ldc2_w 86, 3) := by decide +kernel
theorem dX8_odds_20 : decode cX8_odds 20 = .ok (.lreturn, 1) := by decide +kernel
theorem dX8_odds_21 : decode cX8_odds 21 = .ok (.iconst 0, 1) := by decide +kernel
theorem dX8_odds_22 : decode cX8_odds 22 = .ok (.istore_n 3, 1) := by decide +kernel
theorem dX8_odds_23 : decode cX8_odds 23 = .ok (.iconst 0, 1) := by decide +kernel
theorem dX8_odds_24 : decode cX8_odds 24 = .ok (.istore 4, 2) := by decide +kernel
theorem dX8_odds_26 : decode cX8_odds 26 = .ok (.iload 4, 2) := by decide +kernel
theorem dX8_odds_28 : decode cX8_odds 28 = .ok (.aload_n 0, 1) := by decide +kernel
theorem dX8_odds_29 : decode cX8_odds 29 = .ok (.invokevirtual 215, 3) := by decide +kernel
theorem dX8_odds_32 : decode cX8_odds 32 = .ok (.if_icmp .ge 75, 3) := by decide +kernel
theorem dX8_odds_35 : decode cX8_odds 35 = .ok (.aload_n 0, 1) := by decide +kernel
theorem dX8_odds_36 : decode cX8_odds 36 = .ok (.iload 4, 2) := by decide +kernel
theorem dX8_odds_38 : decode cX8_odds 38 = .ok (.invokevirtual 218, 3) := by decide +kernel
theorem dX8_odds_41 : decode cX8_odds 41 = .ok (.iconst 0, 1) := by decide +kernel
theorem dX8_odds_42 : decode cX8_odds 42 = .ok (.istore 5, 2) := by decide +kernel
theorem dX8_odds_44 : decode cX8_odds 44 = .ok (.iconst 0, 1) := by decide +kernel
theorem dX8_odds_45 : decode cX8_odds 45 = .ok (.istore 6, 2) := by decide +kernel
theorem dX8_odds_47 : decode cX8_odds 47 = .ok (.iload 6, 2) := by decide +kernel
theorem dX8_odds_49 : decode cX8_odds 49 = .ok (.aload_n 0, 1) := by decide +kernel
theorem dX8_odds_50 : decode cX8_odds 50 = .ok (.getfield 95, 3) := by decide +kernel
theorem dX8_odds_53 : decode cX8_odds 53 = .ok (.if_icmp .ge 30, 3) := by decide +kernel
theorem dX8_odds_56 : decode cX8_odds 56 = .ok (.iload 5, 2) := by decide +kernel
theorem dX8_odds_58 : decode cX8_odds 58 = .ok (.aload_n 0, 1) := by decide +kernel
theorem dX8_odds_59 : decode cX8_odds 59 = .ok (.getfield 64, 3) := by decide +kernel
theorem dX8_odds_62 : decode cX8_odds 62 = .ok (.iload 6, 2) := by decide +kernel
theorem dX8_odds_64 : decode cX8_odds 64 = .ok (.iaload, 1) := by decide +kernel
theorem dX8_odds_65 : decode cX8_odds 65 = .ok (.iload_n 1, 1) := by decide +kernel
theorem dX8_odds_66 : decode cX8_odds 66 = .ok (.if_icmp .ne 7, 3) := by decide +kernel
theorem dX8_odds_69 : decode cX8_odds 69 = .ok (.iconst 1, 1) := by decide +kernel
theorem dX8_odds_70 : decode cX8_odds 70 = .ok (.goto 4, 3) := by decide +kernel
theorem dX8_odds_73 : decode cX8_odds 73 = .ok (.iconst 0, 1) := by decide +kernel
theorem dX8_odds_74 : decode cX8_odds 74 = .ok (.iadd, 1) := by decide +kernel
theorem dX8_odds_75 : decode cX8_odds 75 = .ok (.istore 5, 2) := by decide +kernel
theorem dX8_odds_77 : decode cX8_odds 77 = .ok (.iinc 6 1, 3) := by decide +kernel
theorem dX8_odds_80 : decode cX8_odds 80 = .ok (.goto (-33), 3) := by decide +kernel
theorem dX8_odds_83 : decode cX8_odds 83 = .ok (.iload_n 3, 1) := by decide +kernel
theorem dX8_odds_84 : decode cX8_odds 84 = .ok (.iload 5, 2) := by decide +kernel
theorem dX8_odds_86 : decode cX8_odds 86 = .ok (.aload_n 0, 1) := by decide +kernel
theorem dX8_odds_87 : decode cX8_odds 87 = .ok (.iload_n 1, 1) := by decide +kernel
theorem dX8_odds_88 : decode cX8_odds 88 = .ok (.invokevirtual 155, 3) := by decide +kernel
theorem dX8_odds_91 : decode cX8_odds 91 = .ok (.if_icmp .lt 7, 3) := by decide +kernel
theorem dX8_odds_94 : decode cX8_odds 94 = .ok (.iconst 1, 1) := by decide +kernel
theorem dX8_odds_95 : decode cX8_odds 95 = .ok (.goto 4, 3) := by decide +kernel
theorem dX8_odds_98 : decode cX8_odds 98 = .ok (.iconst 0, 1) := by decide +kernel
theorem dX8_odds_99 : decode cX8_odds 99 = .ok (.iadd, 1) := by decide +kernel
theorem dX8_odds_100 : decode cX8_odds 100 = .ok (.istore_n 3, 1) := by decide +kernel
theorem dX8_odds_101 : decode cX8_odds 101 = .ok (.iinc 4 1, 3) := by decide +kernel
theorem dX8_odds_104 : decode cX8_odds 104 = .ok (.goto (-78), 3) := by decide +kernel
theorem dX8_odds_107 : decode cX8_odds 107 = .ok (.iload_n 3, 1) := by decide +kernel
theorem dX8_odds_108 : decode cX8_odds 108 = .ok (.i2l, 1) := by decide +kernel
theorem dX8_odds_109 : decode cX8_odds 109 = .ok (.aload_n 0, 1) := by decide +kernel
theorem dX8_odds_110 : decode cX8_odds 110 = .ok (.invokevirtual 215, 3) := by decide +kernel
theorem dX8_odds_113 : decode cX8_odds 113 = .ok (.i2l, 1) := by decide +kernel
theorem dX8_odds_114 : decode cX8_odds 114 = .ok (.iload_n 2, 1) := by decide +kernel
theorem dX8_odds_115 : decode cX8_odds 115 = .ok (.invokestatic 241, 3) := by decide +kernel
theorem dX8_odds_118 : decode cX8_odds 118 = .ok (.lreturn, 1) := by decide +kernel
theorem dX8_sheet_0 : decode cX8_sheet 0 = .ok (.aload_n 0, 1) := by decide +kernel
theorem dX8_sheet_1 : decode cX8_sheet 1 = .ok (.iconst 0, 1) := by decide +kernel
theorem dX8_sheet_2 : decode cX8_sheet 2 = .ok (.putfield 82, 3) := by decide +kernel
theorem dX8_sheet_5 : decode cX8_sheet 5 = .ok (.iload_n 1, 1) := by decide +kernel
theorem dX8_sheet_6 : decode cX8_sheet 6 = .ok (.invokestatic 101, 3) := by decide +kernel
theorem dX8_sheet_9 : decode cX8_sheet 9 = .ok (.ifCond .ne 5, 3) := by decide +kernel
theorem dX8_sheet_12 : decode cX8_sheet 12 = .ok (.iconst (-1), 1) := by decide +kernel
theorem dX8_sheet_13 : decode cX8_sheet 13 = .ok (.ireturn, 1) := by decide +kernel
theorem dX8_sheet_14 : decode cX8_sheet 14 = .ok (.iload_n 2, 1) := by decide +kernel
theorem dX8_sheet_15 : decode cX8_sheet 15 = .ok (.invokestatic 105, 3) := by decide +kernel
theorem dX8_sheet_18 : decode cX8_sheet 18 = .ok (.ifCond .eq 9, 3) := by decide +kernel
theorem dX8_sheet_21 : decode cX8_sheet 21 = .ok (.iload_n 3, 1) := by decide +kernel
theorem dX8_sheet_22 : decode cX8_sheet 22 = .ok (.bipush 60, 2) := by decide +kernel
theorem dX8_sheet_24 : decode cX8_sheet 24 = .ok (.if_icmp .le 6, 3) := by decide +kernel
theorem dX8_sheet_27 : decode cX8_sheet 27 = .ok (.bipush (-2), 2) := by decide +kernel
theorem dX8_sheet_29 : decode cX8_sheet 29 = .ok (.ireturn, 1) := by decide +kernel
theorem dX8_sheet_30 : decode cX8_sheet 30 = .ok (.iload_n 3, 1) := by decide +kernel
theorem dX8_sheet_31 : decode cX8_sheet 31 = .ok (.ifCond .ge 9, 3) := by decide +kernel
theorem dX8_sheet_34 : decode cX8_sheet 34 = .ok (.aload_n 0, 1) := by decide +kernel
theorem dX8_sheet_35 : decode cX8_sheet 35 = .ok (.iconst 4, 1) := by decide +kernel
theorem dX8_sheet_36 : decode cX8_sheet 36 = .ok (.invokevirtual 112, 3) := by decide +kernel
theorem dX8_sheet_39 : decode cX8_sheet 39 = .ok (.ireturn, 1) := by decide +kernel
theorem dX8_sheet_40 : decode cX8_sheet 40 = .ok (.aload_n 0, 1) := by decide +kernel
theorem dX8_sheet_41 : decode cX8_sheet 41 = .ok (.getfield 9, 3) := by decide +kernel
theorem dX8_sheet_44 : decode cX8_sheet 44 = .ok (.iload_n 1, 1) := by decide +kernel
theorem dX8_sheet_45 : decode cX8_sheet 45 = .ok (.iload_n 2, 1) := by decide +kernel
theorem dX8_sheet_46 : decode cX8_sheet 46 = .ok (.iastore, 1) := by decide +kernel
theorem dX8_sheet_47 : decode cX8_sheet 47 = .ok (.aload_n 0, 1) := by decide +kernel
theorem dX8_sheet_48 : decode cX8_sheet 48 = .ok (.getfield 13, 3) := by decide +kernel
theorem dX8_sheet_51 : decode cX8_sheet 51 = .ok (.iload_n 1, 1) := by decide +kernel
theorem dX8_sheet_52 : decode cX8_sheet 52 = .ok (.iload_n 3, 1) := by decide +kernel
theorem dX8_sheet_53 : decode cX8_sheet 53 = .ok (.iastore, 1) := by decide +kernel
theorem dX8_sheet_54 : decode cX8_sheet 54 = .ok (.iconst 0, 1) := by decide +kernel
theorem dX8_sheet_55 : decode cX8_sheet 55 = .ok (.istore 4, 2) := by decide +kernel
theorem dX8_sheet_57 : decode cX8_sheet 57 = .ok (.iload 4, 2) := by decide +kernel
theorem dX8_sheet_59 : decode cX8_sheet 59 = .ok (.bipush 60, 2) := by decide +kernel
theorem dX8_sheet_61 : decode cX8_sheet 61 = .ok (.if_icmp .ge 22, 3) := by decide +kernel
theorem dX8_sheet_64 : decode cX8_sheet 64 = .ok (.aload_n 0, 1) := by decide +kernel
theorem dX8_sheet_65 : decode cX8_sheet 65 = .ok (.getfield 16, 3) := by decide +kernel
theorem dX8_sheet_68 : decode cX8_sheet 68 = .ok (.bipush 60, 2) := by decide +kernel
theorem dX8_sheet_70 : decode cX8_sheet 70 = .ok (.iload_n 1, 1) := by decide +kernel
theorem dX8_sheet_71 : decode cX8_sheet 71 = .ok (.imul, 1) := by decide +kernel
theorem dX8_sheet_72 : decode cX8_sheet 72 = .ok (.iload 4, 2) := by decide +kernel
theorem dX8_sheet_74 : decode cX8_sheet 74 = .ok (.iadd, 1) := by decide +kernel
theorem dX8_sheet_75 : decode cX8_sheet 75 = .ok (.iconst 0, 1) := by decide +kernel
theorem dX8_sheet_76 : decode cX8_sheet 76 = .ok (.iastore, 1) := by decide +kernel
theorem dX8_sheet_77 : decode cX8_sheet 77 = .ok (.iinc 4 1, 3) := by decide +kernel
theorem dX8_sheet_80 : decode cX8_sheet 80 = .ok (.goto (-23), 3) := by decide +kernel
theorem dX8_sheet_83 : decode cX8_sheet 83 = .ok (.iconst 1, 1) := by decide +kernel
theorem dX8_sheet_84 : decode cX8_sheet 84 = .ok (.ireturn, 1) := by decide +kernel
theorem dX8_lose_0 : decode cX8_lose 0 = .ok (.iload_n 1, 1) := by decide +kernel
theorem dX8_lose_1 : decode cX8_lose 1 = .ok (.invokestatic 101, 3) := by decide +kernel
theorem dX8_lose_4 : decode cX8_lose 4 = .ok (.ifCond .ne 5, 3) := by decide +kernel
theorem dX8_lose_7 : decode cX8_lose 7 = .ok (.iconst (-1), 1) := by decide +kernel
theorem dX8_lose_8 : decode cX8_lose 8 = .ok (.ireturn, 1) := by decide +kernel
theorem dX8_lose_9 : decode cX8_lose 9 = .ok (.aload_n 0, 1) := by decide +kernel
theorem dX8_lose_10 : decode cX8_lose 10 = .ok (.getfield 9, 3) := by decide +kernel
theorem dX8_lose_13 : decode cX8_lose 13 = .ok (.iload_n 1, 1) := by decide +kernel
theorem dX8_lose_14 : decode cX8_lose 14 = .ok (.iaload, 1) := by decide +kernel
theorem dX8_lose_15 : decode cX8_lose 15 = .ok (.bipush (-9), 2) := by decide +kernel
theorem dX8_lose_17 : decode cX8_lose 17 = .ok (.if_icmp .ne 7, 3) := by decide +kernel
theorem dX8_lose_20 : decode cX8_lose 20 = .ok (.iconst 0, 1) := by decide +kernel
theorem dX8_lose_21 : decode cX8_lose 21 = .ok (.goto 4, 3) := by decide +kernel
theorem dX8_lose_24 : decode cX8_lose 24 = .ok (.iconst 1, 1) := by decide +kernel
theorem dX8_lose_25 : decode cX8_lose 25 = .ok (.istore_n 2, 1) := by decide +kernel
theorem dX8_lose_26 : decode cX8_lose 26 = .ok (.aload_n 0, 1) := by decide +kernel
theorem dX8_lose_27 : decode cX8_lose 27 = .ok (.getfield 9, 3) := by decide +kernel
theorem dX8_lose_30 : decode cX8_lose 30 = .ok (.iload_n 1, 1) := by decide +kernel
theorem dX8_lose_31 : decode cX8_lose 31 = .ok (.bipush (-9), 2) := by decide +kernel
theorem dX8_lose_33 : decode cX8_lose 33 = .ok (.iastore, 1) := by decide +kernel
theorem dX8_lose_34 : decode cX8_lose 34 = .ok (.iload_n 2, 1) := by decide +kernel
theorem dX8_lose_35 : decode cX8_lose 35 = .ok (.ireturn, 1) := by decide +kernel
theorem dX8_put_0 : decode cX8_put 0 = .ok (.aload_n 0, 1) := by decide +kernel
theorem dX8_put_1 : decode cX8_put 1 = .ok (.iconst 0, 1) := by decide +kernel
theorem dX8_put_2 : decode cX8_put 2 = .ok (.putfield 82, 3) := by decide +kernel
theorem dX8_put_5 : decode cX8_put 5 = .ok (.iload_n 1, 1) := by decide +kernel
theorem dX8_put_6 : decode cX8_put 6 = .ok (.invokestatic 101, 3) := by decide +kernel
theorem dX8_put_9 : decode cX8_put 9 = .ok (.ifCond .ne 5, 3) := by decide +kernel
theorem dX8_put_12 : decode cX8_put 12 = .ok (.iconst (-1), 1) := by decide +kernel
theorem dX8_put_13 : decode cX8_put 13 = .ok (.ireturn, 1) := by decide +kernel
theorem dX8_put_14 : decode cX8_put 14 = .ok (.aload_n 0, 1) := by decide +kernel
theorem dX8_put_15 : decode cX8_put 15 = .ok (.getfield 9, 3) := by decide +kernel
theorem dX8_put_18 : decode cX8_put 18 = .ok (.iload_n 1, 1) := by decide +kernel
theorem dX8_put_19 : decode cX8_put 19 = .ok (.iaload, 1) := by decide +kernel
theorem dX8_put_20 : decode cX8_put 20 = .ok (.bipush (-9), 2) := by decide +kernel
theorem dX8_put_22 : decode cX8_put 22 = .ok (.if_icmp .ne 9, 3) := by decide +kernel
theorem dX8_put_25 : decode cX8_put 25 = .ok (.aload_n 0, 1) := by decide +kernel
theorem dX8_put_26 : decode cX8_put 26 = .ok (.iconst 1, 1) := by decide +kernel
theorem dX8_put_27 : decode cX8_put 27 = .ok (.invokevirtual 112, 3) := by decide +kernel
theorem dX8_put_30 : decode cX8_put 30 = .ok (.ireturn, 1) := by decide +kernel
theorem dX8_put_31 : decode cX8_put 31 = .ok (.iload_n 2, 1) := by decide +kernel
theorem dX8_put_32 : decode cX8_put 32 = .ok (.iconst 0, 1) := by decide +kernel
theorem dX8_put_33 : decode cX8_put 33 = .ok (.aload_n 0, 1) := by decide +kernel
theorem dX8_put_34 : decode cX8_put 34 = .ok (.getfield 13, 3) := by decide +kernel
theorem dX8_put_37 : decode cX8_put 37 = .ok (.iload_n 1, 1) := by decide +kernel
theorem dX8_put_38 : decode cX8_put 38 = .ok (.iaload, 1) := by decide +kernel
theorem dX8_put_39 : decode cX8_put 39 = .ok (.iconst 1, 1) := by decide +kernel
theorem dX8_put_40 : decode cX8_put 40 = .ok (.isub, 1) := by decide +kernel
theorem dX8_put_41 : decode cX8_put 41 = .ok (.invokestatic 88, 3) := by decide +kernel
theorem dX8_put_44 : decode cX8_put 44 = .ok (.ifCond .ne 9, 3) := by decide +kernel
theorem dX8_put_47 : decode cX8_put 47 = .ok (.aload_n 0, 1) := by decide +kernel
theorem dX8_put_48 : decode cX8_put 48 = .ok (.iconst 3, 1) := by decide +kernel
theorem dX8_put_49 : decode cX8_put 49 = .ok (.invokevirtual 112, 3) := by decide +kernel
theorem dX8_put_52 : decode cX8_put 52 = .ok (.ireturn, 1) := by decide +kernel
theorem dX8_put_53 : decode cX8_put 53 = .ok (.aload_n 0, 1) := by decide +kernel
theorem dX8_put_54 : decode cX8_put 54 = .ok (.getfield 16, 3) := by decide +kernel
theorem dX8_put_57 : decode cX8_put 57 = .ok (.bipush 60, 2) := by decide +kernel
theorem dX8_put_59 : decode cX8_put 59 = .ok (.iload_n 1, 1) := by decide +kernel
theorem dX8_put_60 : decode cX8_put 60 = .ok (.imul, 1) := by decide +kernel
theorem dX8_put_61 : decode cX8_put 61 = .ok (.iload_n 2, 1) := by decide +kernel
theorem dX8_put_62 : decode cX8_put 62 = .ok (.iadd, 1) := by decide +kernel
theorem dX8_put_63 : decode cX8_put 63 = .ok (.aload_n 0, 1) := by decide +kernel
theorem dX8_put_64 : decode cX8_put 64 = .ok (.getfield 9, 3) := by decide +kernel
theorem dX8_put_67 : decode cX8_put 67 = .ok (.iload_n 1, 1) := by decide +kernel
theorem dX8_put_68 : decode cX8_put 68 = .ok (.iaload, 1) := by decide +kernel
theorem dX8_put_69 : decode cX8_put 69 = .ok (.ifCond .ne 8, 3) := by decide +kernel
theorem dX8_put_72 : decode cX8_put 72 = .ok (.iload_n 3, 1) := by decide +kernel
theorem dX8_put_73 : decode cX8_put 73 = .ok (.i2b, 1) := by decide +kernel
theorem dX8_put_74 : decode cX8_put 74 = .ok (.goto 19, 3) := by decide +kernel
theorem dX8_put_77 : decode cX8_put 77 = .ok (.aload_n 0, 1) := by decide +kernel
theorem dX8_put_78 : decode cX8_put 78 = .ok (.getfield 9, 3) := by decide +kernel
theorem dX8_put_81 : decode cX8_put 81 = .ok (.iload_n 1, 1) := by decide +kernel
theorem dX8_put_82 : decode cX8_put 82 = .ok (.iaload, 1) := by decide +kernel
theorem dX8_put_83 : decode cX8_put 83 = .ok (.iconst 1, 1) := by decide +kernel
theorem dX8_put_84 : decode cX8_put 84 = .ok (.if_icmp .ne 8, 3) := by decide +kernel
theorem dX8_put_87 : decode cX8_put 87 = .ok (.iload_n 3, 1) := by decide +kernel
theorem dX8_put_88 : decode cX8_put 88 = .ok (.i2s, 1) := by decide +kernel
theorem dX8_put_89 : decode cX8_put 89 = .ok (.goto 4, 3) := by decide +kernel
theorem dX8_put_92 : decode cX8_put 92 = .ok (.iload_n 3, 1) := by decide +kernel
theorem dX8_put_93 : decode cX8_put 93 = .ok (.iastore, 1) := by decide +kernel
theorem dX8_put_94 : decode cX8_put 94 = .ok (.iconst 1, 1) := by decide +kernel
theorem dX8_put_95 : decode cX8_put 95 = .ok (.ireturn, 1) := by decide +kernel
theorem dX8_cell_0 : decode cX8_cell 0 = .ok (.aload_n 0, 1) := by decide +kernel
theorem dX8_cell_1 : decode cX8_cell 1 = .ok (.iconst 0, 1) := by decide +kernel
theorem dX8_cell_2 : decode cX8_cell 2 = .ok (.putfield 82, 3) := by decide +kernel
theorem dX8_cell_5 : decode cX8_cell 5 = .ok (.iload_n 1, 1) := by decide +kernel
theorem dX8_cell_6 : decode cX8_cell 6 = .ok (.invokestatic 101, 3) := by decide +kernel
theorem dX8_cell_9 : decode cX8_cell 9 = .ok (.ifCond .eq 10, 3) := by decide +kernel
theorem dX8_cell_12 : decode cX8_cell 12 = .ok (.iload_n 3, 1) := by decide +kernel
theorem dX8_cell_13 : decode cX8_cell 13 = .ok (.invokestatic 105, 3) := by decide +kernel
theorem dX8_cell_16 : decode cX8_cell 16 = .ok (.ifCond .ne 7, 3) := by decide +kernel
theorem dX8_cell_19 : decode cX8_cell 19 = .ok (.ldc2_w 86, 3) := by decide +kernel
theorem dX8_cell_22 : decode cX8_cell 22 = .ok (.lreturn, 1) := by decide +kernel
theorem dX8_cell_23 : decode cX8_cell 23 = .ok (.aload_n 0, 1) := by decide +kernel
theorem dX8_cell_24 : decode cX8_cell 24 = .ok (.getfield 9, 3) := by decide +kernel
theorem dX8_cell_27 : decode cX8_cell 27 = .ok (.iload_n 1, 1) := by decide +kernel
theorem dX8_cell_28 : decode cX8_cell 28 = .ok (.iaload, 1) := by decide +kernel
theorem dX8_cell_29 : decode cX8_cell 29 = .ok (.bipush (-9), 2) := by decide +kernel
theorem dX8_cell_31 : decode cX8_cell 31 = .ok (.if_icmp .eq 19, 3) := by decide +kernel
theorem dX8_cell_34 : decode cX8_cell 34 = .ok (.aload_n 0, 1) := by decide +kernel
theorem dX8_cell_35 : decode cX8_cell 35 = .ok (.getfield 9, 3) := by decide +kernel
theorem dX8_cell_38 : decode cX8_cell 38 = .ok (.iload_n 1, 1) := by decide +kernel
theorem dX8_cell_39 : decode cX8_cell 39 = .ok (.iaload, 1) := by decide +kernel
theorem dX8_cell_40 : decode cX8_cell 40 = .ok (.iload_n 3, 1) := by decide +kernel
theorem dX8_cell_41 : decode cX8_cell 41 = .ok (.if_icmp .eq 9, 3) := by decide +kernel
theorem dX8_cell_44 : decode cX8_cell 44 = .ok (.aload_n 0, 1) := by decide +kernel
theorem dX8_cell_45 : decode cX8_cell 45 = .ok (.iconst 2, 1) := by decide +kernel
theorem dX8_cell_46 : decode cX8_cell 46 = .ok (.invokevirtual 245, 3) := by decide +kernel
theorem dX8_cell_49 : decode cX8_cell 49 = .ok (.lreturn, 1) := by decide +kernel
theorem dX8_cell_50 : decode cX8_cell 50 = .ok (.aload_n 0, 1) := by decide +kernel
theorem dX8_cell_51 : decode cX8_cell 51 = .ok (.getfield 9, 3) := by decide +kernel
theorem dX8_cell_54 : decode cX8_cell 54 = .ok (.iload_n 1, 1) := by decide +kernel
theorem dX8_cell_55 : decode cX8_cell 55 = .ok (.iaload, 1) := by decide +kernel
theorem dX8_cell_56 : decode cX8_cell 56 = .ok (.bipush (-9), 2) := by decide +kernel
theorem dX8_cell_58 : decode cX8_cell 58 = .ok (.if_icmp .ne 9, 3) := by decide +kernel
theorem dX8_cell_61 : decode cX8_cell 61 = .ok (.aload_n 0, 1) := by decide +kernel
theorem dX8_cell_62 : decode cX8_cell 62 = .ok (.iconst 1, 1) := by decide +kernel
theorem dX8_cell_63 : decode cX8_cell 63 = .ok (.invokevirtual 245, 3) := by decide +kernel
theorem dX8_cell_66 : decode cX8_cell 66 = .ok (.lreturn, 1) := by decide +kernel
theorem dX8_cell_67 : decode cX8_cell 67 = .ok (.iload_n 2, 1) := by decide +kernel
theorem dX8_cell_68 : decode cX8_cell 68 = .ok (.iconst 0, 1) := by decide +kernel
theorem dX8_cell_69 : decode cX8_cell 69 = .ok (.aload_n 0, 1) := by decide +kernel
theorem dX8_cell_70 : decode cX8_cell 70 = .ok (.getfield 13, 3) := by decide +kernel
theorem dX8_cell_73 : decode cX8_cell 73 = .ok (.iload_n 1, 1) := by decide +kernel
theorem dX8_cell_74 : decode cX8_cell 74 = .ok (.iaload, 1) := by decide +kernel
theorem dX8_cell_75 : decode cX8_cell 75 = .ok (.iconst 1, 1) := by decide +kernel
theorem dX8_cell_76 : decode cX8_cell 76 = .ok (.isub, 1) := by decide +kernel
theorem dX8_cell_77 : decode cX8_cell 77 = .ok (.invokestatic 88, 3) := by decide +kernel
theorem dX8_cell_80 : decode cX8_cell 80 = .ok (.ifCond .ne 9, 3) := by decide +kernel
theorem dX8_cell_83 : decode cX8_cell 83 = .ok (.aload_n 0, 1) := by decide +kernel
theorem dX8_cell_84 : decode cX8_cell 84 = .ok (.iconst 3, 1) := by decide +kernel
theorem dX8_cell_85 : decode cX8_cell 85 = .ok (.invokevirtual 245, 3) := by decide +kernel
theorem dX8_cell_88 : decode cX8_cell 88 = .ok (.lreturn, 1) := by decide +kernel
theorem dX8_cell_89 : decode cX8_cell 89 = .ok (.aload_n 0, 1) := by decide +kernel
theorem dX8_cell_90 : decode cX8_cell 90 = .ok (.getfield 16, 3) := by decide +kernel
theorem dX8_cell_93 : decode cX8_cell 93 = .ok (.bipush 60, 2) := by decide +kernel
theorem dX8_cell_95 : decode cX8_cell 95 = .ok (.iload_n 1, 1) := by decide +kernel
theorem dX8_cell_96 : decode cX8_cell 96 = .ok (.imul, 1) := by decide +kernel
theorem dX8_cell_97 : decode cX8_cell 97 = .ok (.iload_n 2, 1) := by decide +kernel
theorem dX8_cell_98 : decode cX8_cell 98 = .ok (.iadd, 1) := by decide +kernel
theorem dX8_cell_99 : decode cX8_cell 99 = .ok (.iaload, 1) := by decide +kernel
theorem dX8_cell_100 : decode cX8_cell 100 = .ok (.i2l, 1) := by decide +kernel
theorem dX8_cell_101 : decode cX8_cell 101 = .ok (.lreturn, 1) := by decide +kernel
theorem dX8_copy_0 : decode cX8_copy 0 = .ok (.aload_n 0, 1) := by decide +kernel
theorem dX8_copy_1 : decode cX8_copy 1 = .ok (.iconst 0, 1) := by decide +kernel
theorem dX8_copy_2 : decode cX8_copy 2 = .ok (.putfield 82, 3) := by decide +kernel
theorem dX8_copy_5 : decode cX8_copy 5 = .ok (.iload_n 1, 1) := by decide +kernel
theorem dX8_copy_6 : decode cX8_copy 6 = .ok (.invokestatic 101, 3) := by decide +kernel
theorem dX8_copy_9 : decode cX8_copy 9 = .ok (.ifCond .eq 10, 3) := by decide +kernel
theorem dX8_copy_12 : decode cX8_copy 12 = .ok (.iload_n 3, 1) := by decide +kernel
theorem dX8_copy_13 : decode cX8_copy 13 = .ok (.invokestatic 101, 3) := by decide +kernel
theorem dX8_copy_16 : decode cX8_copy 16 = .ok (.ifCond .ne 5, 3) := by decide +kernel
theorem dX8_copy_19 : decode cX8_copy 19 = .ok (.iconst (-1), 1) := by decide +kernel
theorem dX8_copy_20 : decode cX8_copy 20 = .ok (.ireturn, 1) := by decide +kernel
theorem dX8_copy_21 : decode cX8_copy 21 = .ok (.aload_n 0, 1) := by decide +kernel
theorem dX8_copy_22 : decode cX8_copy 22 = .ok (.getfield 9, 3) := by decide +kernel
theorem dX8_copy_25 : decode cX8_copy 25 = .ok (.iload_n 1, 1) := by decide +kernel
theorem dX8_copy_26 : decode cX8_copy 26 = .ok (.iaload, 1) := by decide +kernel
theorem dX8_copy_27 : decode cX8_copy 27 = .ok (.bipush (-9), 2) := by decide +kernel
theorem dX8_copy_29 : decode cX8_copy 29 = .ok (.if_icmp .eq 14, 3) := by decide +kernel
theorem dX8_copy_32 : decode cX8_copy 32 = .ok (.aload_n 0, 1) := by decide +kernel
theorem dX8_copy_33 : decode cX8_copy 33 = .ok (.getfield 9, 3) := by decide +kernel
theorem dX8_copy_36 : decode cX8_copy 36 = .ok (.iload_n 3, 1) := by decide +kernel
theorem dX8_copy_37 : decode cX8_copy 37 = .ok (.iaload, 1) := by decide +kernel
theorem dX8_copy_38 : decode cX8_copy 38 = .ok (.bipush (-9), 2) := by decide +kernel
theorem dX8_copy_40 : decode cX8_copy 40 = .ok (.if_icmp .ne 9, 3) := by decide +kernel
theorem dX8_copy_43 : decode cX8_copy 43 = .ok (.aload_n 0, 1) := by decide +kernel
theorem dX8_copy_44 : decode cX8_copy 44 = .ok (.iconst 1, 1) := by decide +kernel
theorem dX8_copy_45 : decode cX8_copy 45 = .ok (.invokevirtual 112, 3) := by decide +kernel
theorem dX8_copy_48 : decode cX8_copy 48 = .ok (.ireturn, 1) := by decide +kernel
theorem dX8_copy_49 : decode cX8_copy 49 = .ok (.aload_n 0, 1) := by decide +kernel
theorem dX8_copy_50 : decode cX8_copy 50 = .ok (.getfield 9, 3) := by decide +kernel
theorem dX8_copy_53 : decode cX8_copy 53 = .ok (.iload_n 1, 1) := by decide +kernel
theorem dX8_copy_54 : decode cX8_copy 54 = .ok (.iaload, 1) := by decide +kernel
theorem dX8_copy_55 : decode cX8_copy 55 = .ok (.aload_n 0, 1) := by decide +kernel
theorem dX8_copy_56 : decode cX8_copy 56 = .ok (.getfield 9, 3) := by decide +kernel
theorem dX8_copy_59 : decode cX8_copy 59 = .ok (.iload_n 3, 1) := by decide +kernel
theorem dX8_copy_60 : decode cX8_copy 60 = .ok (.iaload, 1) := by decide +kernel
theorem dX8_copy_61 : decode cX8_copy 61 = .ok (.if_icmp .eq 9, 3) := by decide +kernel
theorem dX8_copy_64 : decode cX8_copy 64 = .ok (.aload_n 0, 1) := by decide +kernel
theorem dX8_copy_65 : decode cX8_copy 65 = .ok (.iconst 2, 1) := by decide +kernel
theorem dX8_copy_66 : decode cX8_copy 66 = .ok (.invokevirtual 112, 3) := by decide +kernel
theorem dX8_copy_69 : decode cX8_copy 69 = .ok (.ireturn, 1) := by decide +kernel
theorem dX8_copy_70 : decode cX8_copy 70 = .ok (.iload_n 2, 1) := by decide +kernel
theorem dX8_copy_71 : decode cX8_copy 71 = .ok (.ifCond .lt 38, 3) := by decide +kernel
theorem dX8_copy_74 : decode cX8_copy 74 = .ok (.iload 4, 2) := by decide +kernel
theorem dX8_copy_76 : decode cX8_copy 76 = .ok (.ifCond .lt 33, 3) := by decide +kernel
theorem dX8_copy_79 : decode cX8_copy 79 = .ok (.iload 5, 2) := by decide +kernel
theorem dX8_copy_81 : decode cX8_copy 81 = .ok (.ifCond .lt 28, 3) := by decide +kernel
theorem dX8_copy_84 : decode cX8_copy 84 = .ok (.iload_n 2, 1) := by decide +kernel
theorem dX8_copy_85 : decode cX8_copy 85 = .ok (.aload_n 0, 1) := by decide +kernel
theorem dX8_copy_86 : decode cX8_copy 86 = .ok (.getfield 13, 3) := by decide +kernel
theorem dX8_copy_89 : decode cX8_copy 89 = .ok (.iload_n 1, 1) := by decide +kernel
theorem dX8_copy_90 : decode cX8_copy 90 = .ok (.iaload, 1) := by decide +kernel
theorem dX8_copy_91 : decode cX8_copy 91 = .ok (.if_icmp .gt 18, 3) := by decide +kernel
theorem dX8_copy_94 : decode cX8_copy 94 = .ok (.iload 4, 2) := by decide +kernel
theorem dX8_copy_96 : decode cX8_copy 96 = .ok (.aload_n 0, 1) := by decide +kernel
theorem dX8_copy_97 : decode cX8_copy 97 = .ok (.getfield 13, 3) := by decide +kernel
theorem dX8_copy_100 : decode cX8_copy 100 = .ok (.iload_n 3, 1) := by decide +kernel
theorem dX8_copy_101 : decode cX8_copy 101 = .ok (.iaload, 1) := by decide +kernel
theorem dX8_copy_102 : decode cX8_copy 102 = .ok (.if_icmp .gt 7, 3) := by decide +kernel
theorem dX8_copy_105 : decode cX8_copy 105 = .ok (.iconst 1, 1) := by decide +kernel
theorem dX8_copy_106 : decode cX8_copy 106 = .ok (.goto 4, 3) := by decide +kernel
theorem dX8_copy_109 : decode cX8_copy 109 = .ok (.iconst 0, 1) := by decide +kernel
theorem dX8_copy_110 : decode cX8_copy 110 = .ok (.istore 6, 2) := by decide +kernel
theorem dX8_copy_112 : decode cX8_copy 112 = .ok (.iload 6, 2) := by decide +kernel
theorem dX8_copy_114 : decode cX8_copy 114 = .ok (.ifCond .eq 30, 3) := by decide +kernel
theorem dX8_copy_117 : decode cX8_copy 117 = .ok (.iload 5, 2) := by decide +kernel
theorem dX8_copy_119 : decode cX8_copy 119 = .ok (.aload_n 0, 1) := by decide +kernel
theorem dX8_copy_120 : decode cX8_copy 120 = .ok (.getfield 13, 3) := by decide +kernel
theorem dX8_copy_123 : decode cX8_copy 123 = .ok (.iload_n 1, 1) := by decide +kernel
theorem dX8_copy_124 : decode cX8_copy 124 = .ok (.iaload, 1) := by decide +kernel
theorem dX8_copy_125 : decode cX8_copy 125 = .ok (.iload_n 2, 1) := by decide +kernel
theorem dX8_copy_126 : decode cX8_copy 126 = .ok (.isub, 1) := by decide +kernel
theorem dX8_copy_127 : decode cX8_copy 127 = .ok (.if_icmp .gt 17, 3) := by decide +kernel
theorem dX8_copy_130 : decode cX8_copy 130 = .ok (.iload 5, 2) := by decide +kernel
theorem dX8_copy_132 : decode cX8_copy 132 = .ok (.aload_n 0, 1) := by decide +kernel
theorem dX8_copy_133 : decode cX8_copy 133 = .ok (.getfield 13, 3) := by decide +kernel
theorem dX8_copy_136 : decode cX8_copy 136 = .ok (.iload_n 3, 1) := by decide +kernel
theorem dX8_copy_137 : decode cX8_copy 137 = .ok (.iaload, 1) := by decide +kernel
theorem dX8_copy_138 : decode cX8_copy 138 = .ok (.iload 4, 2) := by decide +kernel
theorem dX8_copy_140 : decode cX8_copy 140 = .ok (.isub, 1) := by decide +kernel
theorem dX8_copy_141 : decode cX8_copy 141 = .ok (.if_icmp .le 9, 3) := by decide +kernel
theorem dX8_copy_144 : decode cX8_copy 144 = .ok (.aload_n 0, 1) := by decide +kernel
theorem dX8_copy_145 : decode cX8_copy 145 = .ok (.iconst 3, 1) := by decide +kernel
theorem dX8_copy_146 : decode cX8_copy 146 = .ok (.invokevirtual 112, 3) := by decide +kernel
theorem dX8_copy_149 : decode cX8_copy 149 = .ok (.ireturn, 1) := by decide +kernel
theorem dX8_copy_150 : decode cX8_copy 150 = .ok (.iload_n 2, 1) := by decide +kernel
theorem dX8_copy_151 : decode cX8_copy 151 = .ok (.iload 4, 2) := by decide +kernel
theorem dX8_copy_153 : decode cX8_copy 153 = .ok (.if_icmp .ge 7, 3) := by decide +kernel
theorem dX8_copy_156 : decode cX8_copy 156 = .ok (.iconst 1, 1) := by decide +kernel
theorem dX8_copy_157 : decode cX8_copy 157 = .ok (.goto 4, 3) := by decide +kernel
theorem dX8_copy_160 : decode cX8_copy 160 = .ok (.iconst 0, 1) := by decide +kernel
theorem dX8_copy_161 : decode cX8_copy 161 = .ok (.istore 7, 2) := by decide +kernel
theorem dX8_copy_163 : decode cX8_copy 163 = .ok (.iconst 0, 1) := by decide +kernel
theorem dX8_copy_164 : decode cX8_copy 164 = .ok (.istore 8, 2) := by decide +kernel
theorem dX8_copy_166 : decode cX8_copy 166 = .ok (.iload 8, 2) := by decide +kernel
theorem dX8_copy_168 : decode cX8_copy 168 = .ok (.iload 5, 2) := by decide +kernel
theorem dX8_copy_170 : decode cX8_copy 170 = .ok (.if_icmp .ge 57, 3) := by decide +kernel
theorem dX8_copy_173 : decode cX8_copy 173 = .ok (.iload 7, 2) := by decide +kernel
theorem dX8_copy_175 : decode cX8_copy 175 = .ok (.ifCond .eq 13, 3) := by decide +kernel
theorem dX8_copy_178 : decode cX8_copy 178 = .ok (.iload 5, 2) := by decide +kernel
theorem dX8_copy_180 : decode cX8_copy 180 = .ok (.iconst 1, 1) := by decide +kernel
theorem dX8_copy_181 : decode cX8_copy 181 = .ok (.isub, 1) := by decide +kernel
theorem dX8_copy_182 : decode cX8_copy 182 = .ok (.iload 8, 2) := by decide +kernel
theorem dX8_copy_184 : decode cX8_copy 184 = .ok (.isub, 1) := by decide +kernel
theorem dX8_copy_185 : decode cX8_copy 185 = .ok (.goto 5, 3) := by decide +kernel
theorem dX8_copy_188 : decode cX8_copy 188 = .ok (.iload 8, 2) := by decide +kernel
theorem dX8_copy_190 : decode cX8_copy 190 = .ok (.istore 9, 2) := by decide +kernel
theorem dX8_copy_192 : decode cX8_copy 192 = .ok (.aload_n 0, 1) := by decide +kernel
theorem dX8_copy_193 : decode cX8_copy 193 = .ok (.getfield 16, 3) := by decide +kernel
theorem dX8_copy_196 : decode cX8_copy 196 = .ok (.bipush 60, 2) := by decide +kernel
theorem dX8_copy_198 : decode cX8_copy 198 = .ok (.iload_n 3, 1) := by decide +kernel
theorem dX8_copy_199 : decode cX8_copy 199 = .ok (.imul, 1) := by decide +kernel
theorem dX8_copy_200 : decode cX8_copy 200 = .ok (.iload 4, 2) := by decide +kernel
theorem dX8_copy_202 : decode cX8_copy 202 = .ok (.iadd, 1) := by decide +kernel
theorem dX8_copy_203 : decode cX8_copy 203 = .ok (.iload 9, 2) := by decide +kernel
theorem dX8_copy_205 : decode cX8_copy 205 = .ok (.iadd, 1) := by decide +kernel
theorem dX8_copy_206 : decode cX8_copy 206 = .ok (.aload_n 0, 1) := by decide +kernel
theorem dX8_copy_207 : decode cX8_copy 207 = .ok (.getfield 16, 3) := by decide +kernel
theorem dX8_copy_210 : decode cX8_copy 210 = .ok (.bipush 60, 2) := by decide +kernel
theorem dX8_copy_212 : decode cX8_copy 212 = .ok (.iload_n 1, 1) := by decide +kernel
theorem dX8_copy_213 : decode cX8_copy 213 = .ok (.imul, 1) := by decide +kernel
theorem dX8_copy_214 : decode cX8_copy 214 = .ok (.iload_n 2, 1) := by decide +kernel
theorem dX8_copy_215 : decode cX8_copy 215 = .ok (.iadd, 1) := by decide +kernel
theorem dX8_copy_216 : decode cX8_copy 216 = .ok (.iload 9, 2) := by decide +kernel
theorem dX8_copy_218 : decode cX8_copy 218 = .ok (.iadd, 1) := by decide +kernel
theorem dX8_copy_219 : decode cX8_copy 219 = .ok (.iaload, 1) := by decide +kernel
theorem dX8_copy_220 : decode cX8_copy 220 = .ok (.iastore, 1) := by decide +kernel
theorem dX8_copy_221 : decode cX8_copy 221 = .ok (.iinc 8 1, 3) := by decide +kernel
theorem dX8_copy_224 : decode cX8_copy 224 = .ok (.goto (-58), 3) := by decide +kernel
theorem dX8_copy_227 : decode cX8_copy 227 = .ok (.iload 5, 2) := by decide +kernel
theorem dX8_copy_229 : decode cX8_copy 229 = .ok (.ireturn, 1) := by decide +kernel
theorem dX8_begins_0 : decode cX8_begins 0 = .ok (.aload_n 0, 1) := by decide +kernel
theorem dX8_begins_1 : decode cX8_begins 1 = .ok (.bipush 31, 2) := by decide +kernel
theorem dX8_begins_3 : decode cX8_begins 3 = .ok (.aload_n 0, 1) := by decide +kernel
theorem dX8_begins_4 : decode cX8_begins 4 = .ok (.getfield 249, 3) := by decide +kernel
theorem dX8_begins_7 : decode cX8_begins 7 = .ok (.imul, 1) := by decide +kernel
theorem dX8_begins_8 : decode cX8_begins 8 = .ok (.iload_n 1, 1) := by decide +kernel
theorem dX8_begins_9 : decode cX8_begins 9 = .ok (.iadd, 1) := by decide +kernel
theorem dX8_begins_10 : decode cX8_begins 10 = .ok (.putfield 249, 3) := by decide +kernel
theorem dX8_begins_13 : decode cX8_begins 13 = .ok (.return_, 1) := by decide +kernel
theorem dX8_tell_0 : decode cX8_tell 0 = .ok (.aload_n 0, 1) := by decide +kernel
theorem dX8_tell_1 : decode cX8_tell 1 = .ok (.iload_n 1, 1) := by decide +kernel
theorem dX8_tell_2 : decode cX8_tell 2 = .ok (.invokevirtual 152, 3) := by decide +kernel
theorem dX8_tell_5 : decode cX8_tell 5 = .ok (.ifCond .ne 5, 3) := by decide +kernel
theorem dX8_tell_8 : decode cX8_tell 8 = .ok (.iconst (-1), 1) := by decide +kernel
theorem dX8_tell_9 : decode cX8_tell 9 = .ok (.ireturn, 1) := by decide +kernel
theorem dX8_tell_10 : decode cX8_tell 10 = .ok (.aload_n 0, 1) := by decide +kernel
theorem dX8_tell_11 : decode cX8_tell 11 = .ok (.getfield 22, 3) := by decide +kernel
theorem dX8_tell_14 : decode cX8_tell 14 = .ok (.iload_n 1, 1) := by decide +kernel
theorem dX8_tell_15 : decode cX8_tell 15 = .ok (.iaload, 1) := by decide +kernel
theorem dX8_tell_16 : decode cX8_tell 16 = .ok (.istore_n 2, 1) := by decide +kernel
theorem dX8_tell_17 : decode cX8_tell 17 = .ok (.aload_n 0, 1) := by decide +kernel
theorem dX8_tell_18 : decode cX8_tell 18 = .ok (.getfield 19, 3) := by decide +kernel
theorem dX8_tell_21 : decode cX8_tell 21 = .ok (.iload_n 1, 1) := by decide +kernel
theorem dX8_tell_22 : decode cX8_tell 22 = .ok (.iaload, 1) := by decide +kernel
theorem dX8_tell_23 : decode cX8_tell 23 = .ok (.lookupswitch 67 #[(1, 25), (2, 40)], 25) := by decide +kernel
theorem dX8_tell_48 : decode cX8_tell 48 = .ok (.aload_n 0, 1) := by decide +kernel
theorem dX8_tell_49 : decode cX8_tell 49 = .ok (.iconst 2, 1) := by decide +kernel
theorem dX8_tell_50 : decode cX8_tell 50 = .ok (.invokevirtual 252, 3) := by decide +kernel
theorem dX8_tell_53 : decode cX8_tell 53 = .ok (.aload_n 0, 1) := by decide +kernel
theorem dX8_tell_54 : decode cX8_tell 54 = .ok (.iconst 1, 1) := by decide +kernel
theorem dX8_tell_55 : decode cX8_tell 55 = .ok (.invokevirtual 252, 3) := by decide +kernel
theorem dX8_tell_58 : decode cX8_tell 58 = .ok (.iload_n 2, 1) := by decide +kernel
theorem dX8_tell_59 : decode cX8_tell 59 = .ok (.bipush 100, 2) := by decide +kernel
theorem dX8_tell_61 : decode cX8_tell 61 = .ok (.iadd, 1) := by decide +kernel
theorem dX8_tell_62 : decode cX8_tell 62 = .ok (.ireturn, 1) := by decide +kernel
theorem dX8_tell_63 : decode cX8_tell 63 = .ok (.aload_n 0, 1) := by decide +kernel
theorem dX8_tell_64 : decode cX8_tell 64 = .ok (.iconst 3, 1) := by decide +kernel
theorem dX8_tell_65 : decode cX8_tell 65 = .ok (.invokevirtual 252, 3) := by decide +kernel
theorem dX8_tell_68 : decode cX8_tell 68 = .ok (.aload_n 0, 1) := by decide +kernel
theorem dX8_tell_69 : decode cX8_tell 69 = .ok (.iconst 2, 1) := by decide +kernel
theorem dX8_tell_70 : decode cX8_tell 70 = .ok (.invokevirtual 252, 3) := by decide +kernel
theorem dX8_tell_73 : decode cX8_tell 73 = .ok (.aload_n 0, 1) := by decide +kernel
theorem dX8_tell_74 : decode cX8_tell 74 = .ok (.iconst 1, 1) := by decide +kernel
theorem dX8_tell_75 : decode cX8_tell 75 = .ok (.invokevirtual 252, 3) := by decide +kernel
theorem dX8_tell_78 : decode cX8_tell 78 = .ok (.aload_n 0, 1) := by decide +kernel
theorem dX8_tell_79 : decode cX8_tell 79 = .ok (.iconst 1, 1) := by decide +kernel
theorem dX8_tell_80 : decode cX8_tell 80 = .ok (.invokevirtual 252, 3) := by decide +kernel
theorem dX8_tell_83 : decode cX8_tell 83 = .ok (.iconst 2, 1) := by decide +kernel
theorem dX8_tell_84 : decode cX8_tell 84 = .ok (.iload_n 2, 1) := by decide +kernel
theorem dX8_tell_85 : decode cX8_tell 85 = .ok (.imul, 1) := by decide +kernel
theorem dX8_tell_86 : decode cX8_tell 86 = .ok (.bipush 100, 2) := by decide +kernel
theorem dX8_tell_88 : decode cX8_tell 88 = .ok (.iadd, 1) := by decide +kernel
theorem dX8_tell_89 : decode cX8_tell 89 = .ok (.ireturn, 1) := by decide +kernel
theorem dX8_tell_90 : decode cX8_tell 90 = .ok (.aload_n 0, 1) := by decide +kernel
theorem dX8_tell_91 : decode cX8_tell 91 = .ok (.iconst 1, 1) := by decide +kernel
theorem dX8_tell_92 : decode cX8_tell 92 = .ok (.invokevirtual 252, 3) := by decide +kernel
theorem dX8_tell_95 : decode cX8_tell 95 = .ok (.iload_n 2, 1) := by decide +kernel
theorem dX8_tell_96 : decode cX8_tell 96 = .ok (.ireturn, 1) := by decide +kernel
theorem dX8_haunt_0 : decode cX8_haunt 0 = .ok (.aload_n 0, 1) := by decide +kernel
theorem dX8_haunt_1 : decode cX8_haunt 1 = .ok (.iload_n 1, 1) := by decide +kernel
theorem dX8_haunt_2 : decode cX8_haunt 2 = .ok (.invokevirtual 152, 3) := by decide +kernel
theorem dX8_haunt_5 : decode cX8_haunt 5 = .ok (.ifCond .ne 5, 3) := by decide +kernel
theorem dX8_haunt_8 : decode cX8_haunt 8 = .ok (.iconst (-1), 1) := by decide +kernel
theorem dX8_haunt_9 : decode cX8_haunt 9 = .ok (.ireturn, 1) := by decide +kernel
theorem dX8_haunt_10 : decode cX8_haunt 10 = .ok (.aload_n 0, 1) := by decide +kernel
theorem dX8_haunt_11 : decode cX8_haunt 11 = .ok (.aload_n 0, 1) := by decide +kernel
theorem dX8_haunt_12 : decode cX8_haunt 12 = .ok (.getfield 19, 3) := by decide +kernel
theorem dX8_haunt_15 : decode cX8_haunt 15 = .ok (.iload_n 1, 1) := by decide +kernel
theorem dX8_haunt_16 : decode cX8_haunt 16 = .ok (.iaload, 1) := by decide +kernel
theorem dX8_haunt_17 : decode cX8_haunt 17 = .ok (.iconst 2, 1) := by decide +kernel
theorem dX8_haunt_18 : decode cX8_haunt 18 = .ok (.if_icmp .ne 7, 3) := by decide +kernel
theorem dX8_haunt_21 : decode cX8_haunt 21 = .ok (.iconst 5, 1) := by decide +kernel
theorem dX8_haunt_22 : decode cX8_haunt 22 = .ok (.goto 4, 3) := by decide +kernel
theorem dX8_haunt_25 : decode cX8_haunt 25 = .ok (.iconst 4, 1) := by decide +kernel
theorem dX8_haunt_26 : decode cX8_haunt 26 = .ok (.invokevirtual 252, 3) := by decide +kernel
theorem dX8_haunt_29 : decode cX8_haunt 29 = .ok (.aload_n 0, 1) := by decide +kernel
theorem dX8_haunt_30 : decode cX8_haunt 30 = .ok (.getfield 19, 3) := by decide +kernel
theorem dX8_haunt_33 : decode cX8_haunt 33 = .ok (.iload_n 1, 1) := by decide +kernel
theorem dX8_haunt_34 : decode cX8_haunt 34 = .ok (.iaload, 1) := by decide +kernel
theorem dX8_haunt_35 : decode cX8_haunt 35 = .ok (.iconst 2, 1) := by decide +kernel
theorem dX8_haunt_36 : decode cX8_haunt 36 = .ok (.if_icmp .ne 8, 3) := by decide +kernel
theorem dX8_haunt_39 : decode cX8_haunt 39 = .ok (.bipush 70, 2) := by decide +kernel
theorem dX8_haunt_41 : decode cX8_haunt 41 = .ok (.goto 4, 3) := by decide +kernel
end
section
theorem dX8_haunt_44 : decode cX8_haunt 44 = .ok (.iload_n 1, 1) := by decide +kernel
theorem dX8_haunt_45 : decode cX8_haunt 45 = .ok (.ireturn, 1) := by decide +kernel
theorem dX8_as_0 : decode cX8_as 0 = .ok (.aload_n 0, 1) := by decide +kernel
theorem dX8_as_1 : decode cX8_as 1 = .ok (.iconst 0, 1) := by decide +kernel
theorem dX8_as_2 : decode cX8_as 2 = .ok (.putfield 82, 3) := by decide +kernel
theorem dX8_as_5 : decode cX8_as 5 = .ok (.aload_n 0, 1) := by decide +kernel
theorem dX8_as_6 : decode cX8_as 6 = .ok (.iload_n 1, 1) := by decide +kernel
theorem dX8_as_7 : decode cX8_as 7 = .ok (.invokevirtual 152, 3) := by decide +kernel
theorem dX8_as_10 : decode cX8_as 10 = .ok (.ifCond .ne 5, 3) := by decide +kernel
theorem dX8_as_13 : decode cX8_as 13 = .ok (.iconst (-1), 1) := by decide +kernel
theorem dX8_as_14 : decode cX8_as 14 = .ok (.ireturn, 1) := by decide +kernel
theorem dX8_as_15 : decode cX8_as 15 = .ok (.iload_n 2, 1) := by decide +kernel
theorem dX8_as_16 : decode cX8_as 16 = .ok (.iconst 0, 1) := by decide +kernel
theorem dX8_as_17 : decode cX8_as 17 = .ok (.iconst 2, 1) := by decide +kernel
theorem dX8_as_18 : decode cX8_as 18 = .ok (.invokestatic 88, 3) := by decide +kernel
theorem dX8_as_21 : decode cX8_as 21 = .ok (.ifCond .ne 6, 3) := by decide +kernel
theorem dX8_as_24 : decode cX8_as 24 = .ok (.bipush (-2), 2) := by decide +kernel
theorem dX8_as_26 : decode cX8_as 26 = .ok (.ireturn, 1) := by decide +kernel
theorem dX8_as_27 : decode cX8_as 27 = .ok (.aload_n 0, 1) := by decide +kernel
theorem dX8_as_28 : decode cX8_as 28 = .ok (.getfield 19, 3) := by decide +kernel
theorem dX8_as_31 : decode cX8_as 31 = .ok (.iload_n 1, 1) := by decide +kernel
theorem dX8_as_32 : decode cX8_as 32 = .ok (.iaload, 1) := by decide +kernel
theorem dX8_as_33 : decode cX8_as 33 = .ok (.iload_n 2, 1) := by decide +kernel
theorem dX8_as_34 : decode cX8_as 34 = .ok (.if_icmp .lt 7, 3) := by decide +kernel
theorem dX8_as_37 : decode cX8_as 37 = .ok (.iconst 1, 1) := by decide +kernel
theorem dX8_as_38 : decode cX8_as 38 = .ok (.goto 8, 3) := by decide +kernel
theorem dX8_as_41 : decode cX8_as 41 = .ok (.aload_n 0, 1) := by decide +kernel
theorem dX8_as_42 : decode cX8_as 42 = .ok (.iconst 2, 1) := by decide +kernel
theorem dX8_as_43 : decode cX8_as 43 = .ok (.invokevirtual 112, 3) := by decide +kernel
theorem dX8_as_46 : decode cX8_as 46 = .ok (.ireturn, 1) := by decide +kernel
theorem dX8_trace_0 : decode cX8_trace 0 = .ok (.aload_n 0, 1) := by decide +kernel
theorem dX8_trace_1 : decode cX8_trace 1 = .ok (.getfield 249, 3) := by decide +kernel
theorem dX8_trace_4 : decode cX8_trace 4 = .ok (.ireturn, 1) := by decide +kernel
theorem dX8_fault_0 : decode cX8_fault 0 = .ok (.aload_n 0, 1) := by decide +kernel
theorem dX8_fault_1 : decode cX8_fault 1 = .ok (.getfield 82, 3) := by decide +kernel
theorem dX8_fault_4 : decode cX8_fault 4 = .ok (.ireturn, 1) := by decide +kernel
theorem dX8_many_0 : decode cX8_many 0 = .ok (.iload_n 1, 1) := by decide +kernel
theorem dX8_many_1 : decode cX8_many 1 = .ok (.tableswitch 63 0 4 #[35, 40, 45, 50, 58], 35) := by decide +kernel
theorem dX8_many_36 : decode cX8_many 36 = .ok (.aload_n 0, 1) := by decide +kernel
theorem dX8_many_37 : decode cX8_many 37 = .ok (.getfield 92, 3) := by decide +kernel
theorem dX8_many_40 : decode cX8_many 40 = .ok (.ireturn, 1) := by decide +kernel
theorem dX8_many_41 : decode cX8_many 41 = .ok (.aload_n 0, 1) := by decide +kernel
theorem dX8_many_42 : decode cX8_many 42 = .ok (.getfield 95, 3) := by decide +kernel
theorem dX8_many_45 : decode cX8_many 45 = .ok (.ireturn, 1) := by decide +kernel
theorem dX8_many_46 : decode cX8_many 46 = .ok (.aload_n 0, 1) := by decide +kernel
theorem dX8_many_47 : decode cX8_many 47 = .ok (.getfield 128, 3) := by decide +kernel
theorem dX8_many_50 : decode cX8_many 50 = .ok (.ireturn, 1) := by decide +kernel
theorem dX8_many_51 : decode cX8_many 51 = .ok (.aload_n 0, 1) := by decide +kernel
theorem dX8_many_52 : decode cX8_many 52 = .ok (.invokevirtual 205, 3) := by decide +kernel
theorem dX8_many_55 : decode cX8_many 55 = .ok (.invokestatic 174, 3) := by decide +kernel
theorem dX8_many_58 : decode cX8_many 58 = .ok (.ireturn, 1) := by decide +kernel
theorem dX8_many_59 : decode cX8_many 59 = .ok (.aload_n 0, 1) := by decide +kernel
theorem dX8_many_60 : decode cX8_many 60 = .ok (.getfield 131, 3) := by decide +kernel
theorem dX8_many_63 : decode cX8_many 63 = .ok (.ireturn, 1) := by decide +kernel
theorem dX8_many_64 : decode cX8_many 64 = .ok (.bipush (-2), 2) := by decide +kernel
theorem dX8_many_66 : decode cX8_many 66 = .ok (.ireturn, 1) := by decide +kernel
end
section
/-! THE SHAPE: 0 BarrowNights; 1 Sheets (2 lanes, 3 sizes, 4 cells); 5 Text (6 codes); 7 now (8 kind .. 16 cold); 17 Season; 18 then (19 .. 27); 28, 29; 30 Housing (31 row, 32 best, 33 left); 34 Lying (35 dreams, 36 row, 37 first, 38 left, 39 latest); 40 Readings (41, 42, 43); 44 the reference (45 ..) -/
def mShp : List (Nat ⊕ (Nat × List (Option Nat))) := [.inr (7, [some 1, some 5, some 7, some 17, some 30, some 34, some 40, none, none]), .inr (5, [some 2, some 3, some 4]), .inl 4, .inl 4, .inl 240, .inr (6, [some 6, none, none, none]), .inl 60, .inr (0, [none, none, none, some 8, some 9, some 10, some 11, some 12, some 13, some 14, some 15, some 16]), .inl 5, .inl 5, .inl 5, .inl 5, .inl 5, .inl 5, .inl 5, .inl 5, .inl 5, .inr (4, [some 18, some 28, some 29, none, none, none]), .inr (0, [none, none, none, some 19, some 20, some 21, some 22, some 23, some 24, some 25, some 26, some 27]), .inl 5, .inl 5, .inl 5, .inl 5, .inl 5, .inl 5, .inl 5, .inl 5, .inl 5, .inl 20, .inl 20, .inr (1, [some 31, some 32, some 33, none, none]), .inl 5, .inl 5, .inl 5, .inr (2, [some 35, some 36, some 37, some 38, some 39, none, none]), .inl 5, .inl 5, .inl 5, .inl 5, .inl 5, .inr (3, [some 41, some 42, some 43, none]), .inl 8, .inl 8, .inl 8, .inr (8, [none, none, some 45, some 46, some 47, none, none, none, some 48, some 49, some 50, some 51, some 52, some 53, some 54, some 55, some 56, none, none, none, some 57, some 58, some 59, some 60, some 61, some 62, none, some 63, some 64, none, none, some 65, none, some 66, some 67, some 68]), .inl 4, .inl 4, .inl 240, .inl 5, .inl 5, .inl 5, .inl 5, .inl 5, .inl 5, .inl 5, .inl 5, .inl 5, .inl 20, .inl 15, .inl 5, .inl 5, .inl 5, .inl 5, .inl 5, .inl 5, .inl 5, .inl 8, .inl 8, .inl 8]
def mShF : List (Option Nat) → List Value → Prop
  | [], [] => True
  | some r :: fs, v :: vs => v = .ref r ∧ mShF fs vs
  | none :: fs, v :: vs => (∃ x, v = .int x) ∧ mShF fs vs
  | _, _ => False
def mShE : (Nat ⊕ (Nat × List (Option Nat))) → mE → Prop
  | .inl n, .inl a => a.1 = n
  | .inr s, .inr o => o.1 = s.1 ∧ mShF s.2 o.2
  | _, _ => False
def Shape (w : mW) : Prop := ∀ (i : Nat) (s : Nat ⊕ (Nat × List (Option Nat))), mShp[i]? = some s → mShE s (w i)
def fld (w : mW) (a k : Nat) : Int32 := match w a with
  | .inr o => (match o.2[k]? with
    | some (.int x) => x
    | _ => 0)
  | _ => 0
def arr (w : mW) (a : Nat) : Nat → Int32 := match w a with
  | .inl p => p.2
  | _ => fun _ => 0
def setF (w : mW) (a k : Nat) (x : Int32) : mW := fun j => if j = a then (match w a with
    | .inr o => .inr (o.1, o.2.set k (.int x))
    | e => e) else w j
def setA (w : mW) (a : Nat) (f : Nat → Int32) : mW := fun j => if j = a then (match w a with
    | .inl p => .inl (p.1, f)
    | e => e) else w j
theorem mShF_ref : ∀ {fs : List (Option Nat)} {vs : List Value} {k b : Nat}, mShF fs vs → fs[k]? = some (some b) → vs[k]? = some (.ref b)
  | [], _, k, b, _, h => by simp at h
  | some r :: fs, v :: vs, 0, b, hs, h => by simp at h; subst h; simp [hs.1]
  | some r :: fs, v :: vs, k + 1, b, hs, h => by simpa using mShF_ref hs.2 (by simpa using h)
  | none :: fs, v :: vs, 0, b, hs, h => by simp at h
  | none :: fs, v :: vs, k + 1, b, hs, h => by simpa using mShF_ref hs.2 (by simpa using h)
  | some r :: fs, [], k, b, hs, h => by exact absurd hs (by simp [mShF])
  | none :: fs, [], k, b, hs, h => by exact absurd hs (by simp [mShF])
theorem mShF_int : ∀ {fs : List (Option Nat)} {vs : List Value} {k : Nat}, mShF fs vs → fs[k]? = some none → ∃ x, vs[k]? = some (.int x)
  | [], _, k, _, h => by simp at h
  | some r :: fs, v :: vs, 0, hs, h => by simp at h
  | some r :: fs, v :: vs, k + 1, hs, h => by simpa using mShF_int hs.2 (by simpa using h)
  | none :: fs, v :: vs, 0, hs, h => by obtain ⟨x, hx⟩ := hs.1; exact ⟨x, by simp [hx]⟩
  | none :: fs, v :: vs, k + 1, hs, h => by simpa using mShF_int hs.2 (by simpa using h)
  | some r :: fs, [], k, hs, h => by exact absurd hs (by simp [mShF])
  | none :: fs, [], k, hs, h => by exact absurd hs (by simp [mShF])
theorem mShF_set : ∀ {fs : List (Option Nat)} {vs : List Value} {k : Nat} (x : Int32), mShF fs vs → fs[k]? = some none → mShF fs (vs.set k (.int x))
  | [], _, k, _, _, h => by simp at h
  | some r :: fs, v :: vs, 0, x, hs, h => by simp at h
  | some r :: fs, v :: vs, k + 1, x, hs, h => ⟨hs.1, mShF_set x hs.2 (by simpa using h)⟩
  | none :: fs, v :: vs, 0, x, hs, h => ⟨⟨x, rfl⟩, hs.2⟩
  | none :: fs, v :: vs, k + 1, x, hs, h => ⟨hs.1, mShF_set x hs.2 (by simpa using h)⟩
  | some r :: fs, [], k, x, hs, h => by exact absurd hs (by simp [mShF])
  | none :: fs, [], k, x, hs, h => by exact absurd hs (by simp [mShF])
theorem Shape.obj {w : mW} (h : Shape w) {a ci : Nat} {fs : List (Option Nat)} (hs : mShp[a]? = some (.inr (ci, fs))) : ∃ vs, w a = .inr (ci, vs) ∧ mShF fs vs := by
  have h1 := h a _ hs
  cases hw : w a with
  | inl p => rw [hw] at h1; exact absurd h1 (by simp [mShE])
  | inr o =>
    rw [hw] at h1
    obtain ⟨o1, o2⟩ := o
    obtain ⟨e1, e2⟩ := h1
    simp only at e1
    subst e1
    exact ⟨o2, rfl, e2⟩
theorem Shape.ar {w : mW} (h : Shape w) {a n : Nat} (hs : mShp[a]? = some (.inl n)) : w a = .inl (n, arr w a) := by
  have h1 := h a _ hs
  cases hw : w a with
  | inr o => rw [hw] at h1; exact absurd h1 (by simp [mShE])
  | inl p =>
    rw [hw] at h1
    obtain ⟨p1, p2⟩ := p
    have e1 : p1 = n := h1
    subst e1
    simp [arr, hw]
theorem Shape.stA {w : mW} (h : Shape w) (a : Nat) (f : Nat → Int32) : Shape (setA w a f) := by
  intro i s hi
  have h1 := h i s hi
  unfold setA
  by_cases hia : i = a
  · subst hia
    simp only [if_true]
    cases hw : w i with
    | inl p => rw [hw] at h1; cases s with
      | inl n => exact h1
      | inr s => exact absurd h1 (by simp [mShE])
    | inr o => rw [hw] at h1; exact h1
  · simp only [if_neg hia]; exact h1
theorem Shape.stF {w : mW} (h : Shape w) {a ci k : Nat} {fs : List (Option Nat)} (hs : mShp[a]? = some (.inr (ci, fs))) (hk : fs[k]? = some none) (x : Int32) : Shape (setF w a k x) := by
  intro i s hi
  unfold setF
  by_cases hia : i = a
  · subst hia
    simp only [if_true]
    obtain ⟨vs, hw, hv⟩ := h.obj hs
    rw [hw]
    cases hs.symm.trans hi
    exact ⟨rfl, mShF_set x hv hk⟩
  · simp only [if_neg hia]; exact h i s hi
theorem fld_setF {w : mW} (h : Shape w) {a ci k : Nat} {fs : List (Option Nat)} (hs : mShp[a]? = some (.inr (ci, fs))) (hk : fs[k]? = some none) (x : Int32) : fld (setF w a k x) a k = x := by
  obtain ⟨vs, hw, hv⟩ := h.obj hs
  obtain ⟨y, hy⟩ := mShF_int hv hk
  have hl : k < vs.length := (List.getElem?_eq_some_iff.mp hy).1
  simp [fld, setF, hw, hl]
theorem fld_setF_k {w : mW} {a k j : Nat} (hj : j ≠ k) (x : Int32) : fld (setF w a k x) a j = fld w a j := by
  unfold fld setF
  simp only [if_true]
  cases hw : w a with
  | inl p => rfl
  | inr o => simp only [List.getElem?_set_ne (Ne.symm hj)]
theorem fld_setF_a {w : mW} {a b k j : Nat} (hb : b ≠ a) (x : Int32) : fld (setF w a k x) b j = fld w b j := by
  unfold fld setF
  simp only [if_neg hb]
theorem arr_setF {w : mW} {a b k : Nat} (x : Int32) : arr (setF w a k x) b = arr w b := by
  unfold arr setF
  by_cases hb : b = a
  · subst hb
    simp only [if_true]
    cases hw : w b <;> rfl
  · simp only [if_neg hb]
theorem arr_setA {w : mW} (h : Shape w) {a n : Nat} (hs : mShp[a]? = some (.inl n)) (f : Nat → Int32) : arr (setA w a f) a = f := by
  have hw := h.ar hs
  cases hq : w a with
  | inl p => simp [arr, setA, hq]
  | inr o => rw [hq] at hw; cases hw
theorem arr_setA_a {w : mW} {a b : Nat} (hb : b ≠ a) (f : Nat → Int32) : arr (setA w a f) b = arr w b := by
  unfold arr setA
  simp only [if_neg hb]
theorem fld_setA {w : mW} {a b k : Nat} (f : Nat → Int32) : fld (setA w a f) b k = fld w b k := by
  unfold fld setA
  by_cases hb : b = a
  · subst hb
    simp only [if_true]
    cases hw : w b <;> rfl
  · simp only [if_neg hb]
theorem mLt {a : Nat} {s : Nat ⊕ (Nat × List (Option Nat))} (h : mShp[a]? = some s) : a < mCells := (List.getElem?_eq_some_iff.mp h).1
theorem x_getI {X : mX} {d : Nat} {M : mM} {Q : Option Value → mW → Prop} {pc : Nat} {L st : List Value} {w : mW} {idx ci k a : Nat} {fin : Bool} {ty : FieldType} {fs : List (Option Nat)} (hS : Shape w) (hs : mSite M.1.cls idx ci k fin ty) (hd : decode M.2.1 pc = .ok (.getfield idx, 3)) (ha : mShp[a]? = some (.inr (ci, fs))) (hk : fs[k]? = some none) (kk : mJ X d M Q (pc + 3) L (.int (fld w a k) :: st) w) : mJ X d M Q pc L (.ref a :: st) w := by
  obtain ⟨vs, hw, hv⟩ := hS.obj ha
  obtain ⟨y, hy⟩ := mShF_int hv hk
  have e : fld w a k = y := by simp [fld, hw, hy]
  rw [e] at kk
  exact x_get hs hd (mLt ha) hw hy kk
theorem x_getR {X : mX} {d : Nat} {M : mM} {Q : Option Value → mW → Prop} {pc : Nat} {L st : List Value} {w : mW} {idx ci k a b : Nat} {fin : Bool} {ty : FieldType} {fs : List (Option Nat)} (hS : Shape w) (hs : mSite M.1.cls idx ci k fin ty) (hd : decode M.2.1 pc = .ok (.getfield idx, 3)) (ha : mShp[a]? = some (.inr (ci, fs))) (hk : fs[k]? = some (some b)) (kk : mJ X d M Q (pc + 3) L (.ref b :: st) w) : mJ X d M Q pc L (.ref a :: st) w := by
  obtain ⟨vs, hw, hv⟩ := hS.obj ha
  exact x_get hs hd (mLt ha) hw (mShF_ref hv hk) kk
theorem x_putI {X : mX} {d : Nat} {M : mM} {Q : Option Value → mW → Prop} {pc : Nat} {L st : List Value} {w : mW} {idx ci k a : Nat} {ty : FieldType} {fs : List (Option Nat)} {x : Int32} (hS : Shape w) (hs : mSite M.1.cls idx ci k false ty) (hd : decode M.2.1 pc = .ok (.putfield idx, 3)) (ha : mShp[a]? = some (.inr (ci, fs))) (hk : fs[k]? = some none) (hn : narrow ty (.int x) = .int x) (hf : fits ty (.int x) = true) (kk : Shape (setF w a k x) → mJ X d M Q (pc + 3) L st (setF w a k x)) : mJ X d M Q pc L (.int x :: .ref a :: st) w := by
  obtain ⟨vs, hw, hv⟩ := hS.obj ha
  obtain ⟨y, hy⟩ := mShF_int hv hk
  refine x_put hs hd (mLt ha) hw (List.getElem?_eq_some_iff.mp hy).1 hn hf ?_
  have e : mUp w a (.inr (ci, vs.set k (.int x))) = setF w a k x := by
    funext j
    simp [mUp, setF, hw]
  rw [e]
  exact kk (hS.stF ha hk x)
theorem x_ald {X : mX} {d : Nat} {M : mM} {Q : Option Value → mW → Prop} {pc : Nat} {L st : List Value} {w : mW} {a n : Nat} {i : Int32} (hS : Shape w) (hd : decode M.2.1 pc = .ok (.iaload, 1)) (ha : mShp[a]? = some (.inl n)) (hi : vp_in i n) (kk : mJ X d M Q (pc + 1) L (.int (arr w a i.toNatClampNeg) :: st) w) : mJ X d M Q pc L (.int i :: .ref a :: st) w :=
  x_iald hd (mLt ha) (hS.ar ha) hi kk
theorem x_ast {X : mX} {d : Nat} {M : mM} {Q : Option Value → mW → Prop} {pc : Nat} {L st : List Value} {w : mW} {a n : Nat} {i x : Int32} (hS : Shape w) (hd : decode M.2.1 pc = .ok (.iastore, 1)) (ha : mShp[a]? = some (.inl n)) (hi : vp_in i n) (kk : Shape (setA w a (upd (arr w a) i.toNatClampNeg x)) → mJ X d M Q (pc + 1) L st (setA w a (upd (arr w a) i.toNatClampNeg x))) : mJ X d M Q pc L (.int x :: .int i :: .ref a :: st) w := by
  refine x_iast hd (mLt ha) (hS.ar ha) hi ?_
  have hw := hS.ar ha
  have e : mUp w a (.inl (n, upd (arr w a) i.toNatClampNeg x)) = setA w a (upd (arr w a) i.toNatClampNeg x) := by
    funext j
    by_cases hj : j = a
    · subst hj; simp only [mUp, setA, if_true]; rw [hw]
    · simp only [mUp, setA, if_neg hj]
  rw [e]
  exact kk (hS.stA a _)
theorem x_virtS {X : mX} {d : Nat} {M : mM} {Q : Option Value → mW → Prop} {pc : Nat} {L st : List Value} {w : mW} {idx ci n a : Nat} {M' : mM} {As : List Value} {fs : List (Option Nat)} {Q' : Option Value → mW → Prop} (hS : Shape w) (hs : mVirt M.1.cls idx M' ci n) (hd : decode M.2.1 pc = .ok (.invokevirtual idx, 3)) (ha : mShp[a]? = some (.inr (ci, fs))) (hn : As.length = n) (hr : (st.map fun v => v.category).sum ≤ 8) {st0 : List Value} (hst : As.reverse ++ .ref a :: st = st0) (hM : mC d M' (.ref a :: As) w Q') (kk : ∀ v w', Q' v w' → mJ X (d + 1) M Q (pc + 3) L (v.toList ++ st) w') : mJ X (d + 1) M Q pc L st0 w := by
  obtain ⟨vs, hw, hv⟩ := hS.obj ha
  exact x_virt hs hd (mLt ha) hw hn hr hst hM kk
end
section
-- small rows for the walks
theorem x_pushI {X : mX} {d : Nat} {M : mM} {Q : Option Value → mW → Prop} {pc : Nat} {L st : List Value} {w : mW} {v : Int32} (k : mJ X d M Q pc L (.int v :: st) w) : mJ X d M Q pc L ((some (Value.int v)).toList ++ st) w := k
theorem x_pushL {X : mX} {d : Nat} {M : mM} {Q : Option Value → mW → Prop} {pc : Nat} {L st : List Value} {w : mW} {v : Int64} (k : mJ X d M Q pc L (.long v :: st) w) : mJ X d M Q pc L ((some (Value.long v)).toList ++ st) w := k
theorem x_pushV {X : mX} {d : Nat} {M : mM} {Q : Option Value → mW → Prop} {pc : Nat} {L st : List Value} {w : mW} (k : mJ X d M Q pc L st w) : mJ X d M Q pc L ((none : Option Value).toList ++ st) w := k
theorem x_vs {X : mX} {d : Nat} {M : mM} {Q : Option Value → mW → Prop} {pc : Nat} {L st : List Value} {w : mW} {idx ci n a : Nat} {M' : mM} {As : List Value} {fs : List (Option Nat)} {Q' : Option Value → mW → Prop} {st0 : List Value} (hst : As.reverse ++ .ref a :: st = st0) (hS : Shape w) (hs : mVirt M.1.cls idx M' ci n) (hd : decode M.2.1 pc = .ok (.invokevirtual idx, 3)) (ha : mShp[a]? = some (.inr (ci, fs))) (hn : As.length = n) (hr : (st.map fun v => v.category).sum ≤ 8) (hM : mC d M' (.ref a :: As) w Q') (kk : ∀ v w', Q' v w' → mJ X (d + 1) M Q (pc + 3) L (v.toList ++ st) w') : mJ X (d + 1) M Q pc L st0 w := x_virtS hS hs hd ha hn hr hst hM kk
theorem x_ss {X : mX} {d : Nat} {M : mM} {Q : Option Value → mW → Prop} {pc : Nat} {L st : List Value} {w : mW} {idx n : Nat} {M' : mM} {As : List Value} {Q' : Option Value → mW → Prop} {st0 : List Value} (hst : As.reverse ++ st = st0) (hs : mStat M.1.cls idx M' n) (hd : decode M.2.1 pc = .ok (.invokestatic idx, 3)) (hn : As.length = n) (hr : (st.map fun v => v.category).sum ≤ 8) (hM : mC d M' As w Q') (kk : ∀ v w', Q' v w' → mJ X (d + 1) M Q (pc + 3) L (v.toList ++ st) w') : mJ X (d + 1) M Q pc L st0 w := x_stat hs hd hn hr hst hM kk
theorem nI_inc (k : Nat) : nI k + Int32.ofInt 1 = nI (k + 1) := (nI_succ k).symm
theorem nI_dec (k : Nat) : nI (k + 1) + Int32.ofInt (-1) = nI k := pk_m1 k
theorem i_lt {a b : Int32} : a < b ↔ a.toInt < b.toInt := Int32.lt_iff_toInt_lt
theorem i_le {a b : Int32} : a ≤ b ↔ a.toInt ≤ b.toInt := Int32.le_iff_toInt_le
theorem i_eq {a b : Int32} : a = b ↔ a.toInt = b.toInt := Int32.toInt_inj.symm
theorem i_lit {n : Nat} (h : n < 2 ^ 31) : (OfNat.ofNat n : Int32).toInt = (n : Int) := nI_toInt h
theorem i_add {a b : Int32} (h1 : -2147483648 ≤ a.toInt + b.toInt) (h2 : a.toInt + b.toInt ≤ 2147483647) : (a + b).toInt = a.toInt + b.toInt := by
  rw [Int32.toInt_add]; exact Int.bmod_eq_of_le (by omega) (by omega)
theorem i_sub {a b : Int32} (h1 : -2147483648 ≤ a.toInt - b.toInt) (h2 : a.toInt - b.toInt ≤ 2147483647) : (a - b).toInt = a.toInt - b.toInt := by
  rw [Int32.toInt_sub]; exact Int.bmod_eq_of_le (by omega) (by omega)
theorem i_mul {a b : Int32} (h1 : -2147483648 ≤ a.toInt * b.toInt) (h2 : a.toInt * b.toInt ≤ 2147483647) : (a * b).toInt = a.toInt * b.toInt := by
  rw [Int32.toInt_mul]; exact Int.bmod_eq_of_le (by omega) (by omega)
theorem i_clamp {a : Int32} : a.toNatClampNeg = a.toInt.toNat := rfl
theorem sw_out6 {x : Int32} (h0 : ¬ x = 0) (h1 : ¬ x = 1) (h2 : ¬ x = 2) (h3 : ¬ x = 3) (h4 : ¬ x = 4) (h5 : ¬ x = 5) : x.toInt < 0 ∨ 5 < x.toInt := by
  have g0 : ¬ x.toInt = 0 := lv_neT h0 rfl
  have g1 : ¬ x.toInt = 1 := lv_neT h1 rfl
  have g2 : ¬ x.toInt = 2 := lv_neT h2 rfl
  have g3 : ¬ x.toInt = 3 := lv_neT h3 rfl
  have g4 : ¬ x.toInt = 4 := lv_neT h4 rfl
  have g5 : ¬ x.toInt = 5 := lv_neT h5 rfl
  omega
theorem sw_out5 {x : Int32} (h0 : ¬ x = 0) (h1 : ¬ x = 1) (h2 : ¬ x = 2) (h3 : ¬ x = 3) (h4 : ¬ x = 4) : x.toInt < 0 ∨ 4 < x.toInt := by
  have g0 : ¬ x.toInt = 0 := lv_neT h0 rfl
  have g1 : ¬ x.toInt = 1 := lv_neT h1 rfl
  have g2 : ¬ x.toInt = 2 := lv_neT h2 rfl
  have g3 : ¬ x.toInt = 3 := lv_neT h3 rfl
  have g4 : ¬ x.toInt = 4 := lv_neT h4 rfl
  omega
/-- an index that has been looked at -/
theorem ix_of {i : Int32} {n : Nat} (h1 : ¬ i < 0) (h2 : i < nI n) (hn : n < 2 ^ 31) : vp_in i n := by
  rw [vp_in_iff]
  rw [i_lt, nI_toInt hn] at h2
  have h3 := Int32.not_lt.mp h1
  rw [i_le] at h3
  exact ⟨h3, h2⟩
def b2 (p : Prop) [Decidable p] : Int32 := if p then 1 else 0
theorem b2_t {p : Prop} [Decidable p] (h : p) : b2 p = 1 := if_pos h
theorem b2_f {p : Prop} [Decidable p] (h : ¬ p) : b2 p = 0 := if_neg h
theorem b2_e0 {p : Prop} [Decidable p] : b2 p = 0 ↔ ¬ p := by unfold b2; split <;> simp_all
theorem b2_n0 {p : Prop} [Decidable p] : (¬ b2 p = 0) ↔ p := by unfold b2; split <;> simp_all
theorem x_ri {X : mX} {d : Nat} {M : mM} {Q : Option Value → mW → Prop} {pc : Nat} {L : List Value} {w : mW} {x : Int32} (hd : decode M.2.1 pc = .ok (.ireturn, 1)) {ty : FieldType} (hr : M.2.2.2 = some ty) (hn : narrow ty (.int x) = .int x) (hq : Q (some (.int x)) w) : mJ X d M Q pc L [.int x] w := x_iret (st := []) hd hr hn hq
theorem x_rl {X : mX} {d : Nat} {M : mM} {Q : Option Value → mW → Prop} {pc : Nat} {L : List Value} {w : mW} {x : Int64} (hd : decode M.2.1 pc = .ok (.lreturn, 1)) (hr : M.2.2.2 = some .long) (hq : Q (some (.long x)) w) : mJ X d M Q pc L [.long x] w := x_lret (st := []) hd hr hq
theorem x_rv {X : mX} {d : Nat} {M : mM} {Q : Option Value → mW → Prop} {pc : Nat} {L : List Value} {w : mW} (hd : decode M.2.1 pc = .ok (.return_, 1)) (hr : M.2.2.2 = none) (hq : Q none w) : mJ X d M Q pc L [] w := x_vret (st := []) hd hr hq
theorem il_0 : (0 : Int32).toInt = 0 := rfl
theorem il_1 : (1 : Int32).toInt = 1 := rfl
theorem il_2 : (2 : Int32).toInt = 2 := rfl
theorem il_3 : (3 : Int32).toInt = 3 := rfl
theorem il_4 : (4 : Int32).toInt = 4 := rfl
theorem il_5 : (5 : Int32).toInt = 5 := rfl
theorem il_6 : (6 : Int32).toInt = 6 := rfl
theorem il_7 : (7 : Int32).toInt = 7 := rfl
theorem il_8 : (8 : Int32).toInt = 8 := rfl
theorem il_9 : (9 : Int32).toInt = 9 := rfl
theorem il_10 : (10 : Int32).toInt = 10 := rfl
theorem il_14 : (14 : Int32).toInt = 14 := rfl
theorem il_15 : (15 : Int32).toInt = 15 := rfl
theorem il_19 : (19 : Int32).toInt = 19 := rfl
theorem il_20 : (20 : Int32).toInt = 20 := rfl
theorem il_24 : (24 : Int32).toInt = 24 := rfl
theorem il_30 : (30 : Int32).toInt = 30 := rfl
theorem il_31 : (31 : Int32).toInt = 31 := rfl
theorem il_44 : (44 : Int32).toInt = 44 := rfl
theorem il_48 : (48 : Int32).toInt = 48 := rfl
theorem il_49 : (49 : Int32).toInt = 49 := rfl
theorem il_52 : (52 : Int32).toInt = 52 := rfl
theorem il_57 : (57 : Int32).toInt = 57 := rfl
theorem il_59 : (59 : Int32).toInt = 59 := rfl
theorem il_60 : (60 : Int32).toInt = 60 := rfl
theorem il_70 : (70 : Int32).toInt = 70 := rfl
theorem il_99 : (99 : Int32).toInt = 99 := rfl
theorem il_100 : (100 : Int32).toInt = 100 := rfl
theorem il_103 : (103 : Int32).toInt = 103 := rfl
theorem il_108 : (108 : Int32).toInt = 108 := rfl
theorem il_114 : (114 : Int32).toInt = 114 := rfl
theorem il_m1 : (-1 : Int32).toInt = -1 := rfl
theorem il_m2 : (-2 : Int32).toInt = -2 := rfl
theorem il_m3 : (-3 : Int32).toInt = -3 := rfl
theorem il_m4 : (-4 : Int32).toInt = -4 := rfl
theorem il_m9 : (-9 : Int32).toInt = -9 := rfl
theorem il_m10 : (-10 : Int32).toInt = -10 := rfl
theorem il_m100 : (-100 : Int32).toInt = -100 := rfl
end
section
-- leaves
theorem c_X5_isSheet {d : Nat} {w : mW} {k : Int32} : mC d kX5_isSheet [.int k] w (fun r w' => r = some (.int (b2 (0 ≤ k ∧ k < 4))) ∧ w' = w) := by
  refine mC.of (L := [_]) okX5_isSheet 0 rfl rfl ?_
  refine x_iload_n (pc := 0) (i := 0) dX5_isSheet_0 rfl rfl ?_
  refine x_if_lt (pc := 1) (tgt := 13) dX5_isSheet_1 (by decide) (fun h1 => ?_) (fun h1 => ?_)
  · refine x_iconst (pc := 13) (v := 0) dX5_isSheet_13 (by decide) ?_
    refine x_ri (pc := 14) dX5_isSheet_14 rfl rfl ?_
    exact ⟨by unfold b2; split <;> first | rfl | (exfalso; (try simp only [b2_e0, b2_n0, Decidable.not_not] at *) <;> (try simp only [i_lt, i_le, i_eq, not_and, not_or, ne_eq, il_0, il_1, il_2, il_3, il_4, il_5, il_6, il_7, il_8, il_9, il_10, il_14, il_15, il_19, il_20, il_24, il_30, il_31, il_44, il_48, il_49, il_52, il_57, il_59, il_60, il_70, il_99, il_100, il_103, il_108, il_114, il_m1, il_m2, il_m3, il_m4, il_m9, il_m10, il_m100] at *) <;> omega), rfl⟩
  · refine x_iload_n (pc := 4) (i := 0) dX5_isSheet_4 rfl rfl ?_
    refine x_iconst (pc := 5) (v := 4) dX5_isSheet_5 (by decide) ?_
    refine x_icmp_ge (pc := 6) (tgt := 13) dX5_isSheet_6 (by decide) (fun h6 => ?_) (fun h6 => ?_)
    · refine x_iconst (pc := 13) (v := 0) dX5_isSheet_13 (by decide) ?_
      refine x_ri (pc := 14) dX5_isSheet_14 rfl rfl ?_
      exact ⟨by unfold b2; split <;> first | rfl | (exfalso; (try simp only [b2_e0, b2_n0, Decidable.not_not] at *) <;> (try simp only [i_lt, i_le, i_eq, not_and, not_or, ne_eq, il_0, il_1, il_2, il_3, il_4, il_5, il_6, il_7, il_8, il_9, il_10, il_14, il_15, il_19, il_20, il_24, il_30, il_31, il_44, il_48, il_49, il_52, il_57, il_59, il_60, il_70, il_99, il_100, il_103, il_108, il_114, il_m1, il_m2, il_m3, il_m4, il_m9, il_m10, il_m100] at *) <;> omega), rfl⟩
    · refine x_iconst (pc := 9) (v := 1) dX5_isSheet_9 (by decide) ?_
      refine x_goto (pc := 10) (tgt := 14) dX5_isSheet_10 (by decide) ?_
      refine x_ri (pc := 14) dX5_isSheet_14 rfl rfl ?_
      exact ⟨by unfold b2; split <;> first | rfl | (exfalso; (try simp only [b2_e0, b2_n0, Decidable.not_not] at *) <;> (try simp only [i_lt, i_le, i_eq, not_and, not_or, ne_eq, il_0, il_1, il_2, il_3, il_4, il_5, il_6, il_7, il_8, il_9, il_10, il_14, il_15, il_19, il_20, il_24, il_30, il_31, il_44, il_48, il_49, il_52, il_57, il_59, il_60, il_70, il_99, il_100, il_103, il_108, il_114, il_m1, il_m2, il_m3, il_m4, il_m9, il_m10, il_m100] at *) <;> omega), rfl⟩
theorem c_X7_isLane {d : Nat} {w : mW} {k : Int32} : mC d kX7_isLane [.int k] w (fun r w' => r = some (.int (b2 (0 ≤ k ∧ k ≤ 2))) ∧ w' = w) := by
  refine mC.of (L := [_]) okX7_isLane 0 rfl rfl ?_
  refine x_iload_n (pc := 0) (i := 0) dX7_isLane_0 rfl rfl ?_
  refine x_if_lt (pc := 1) (tgt := 13) dX7_isLane_1 (by decide) (fun h1 => ?_) (fun h1 => ?_)
  · refine x_iconst (pc := 13) (v := 0) dX7_isLane_13 (by decide) ?_
    refine x_ri (pc := 14) dX7_isLane_14 rfl rfl ?_
    exact ⟨by unfold b2; split <;> first | rfl | (exfalso; (try simp only [b2_e0, b2_n0, Decidable.not_not] at *) <;> (try simp only [i_lt, i_le, i_eq, not_and, not_or, ne_eq, il_0, il_1, il_2, il_3, il_4, il_5, il_6, il_7, il_8, il_9, il_10, il_14, il_15, il_19, il_20, il_24, il_30, il_31, il_44, il_48, il_49, il_52, il_57, il_59, il_60, il_70, il_99, il_100, il_103, il_108, il_114, il_m1, il_m2, il_m3, il_m4, il_m9, il_m10, il_m100] at *) <;> omega), rfl⟩
  · refine x_iload_n (pc := 4) (i := 0) dX7_isLane_4 rfl rfl ?_
    refine x_iconst (pc := 5) (v := 2) dX7_isLane_5 (by decide) ?_
    refine x_icmp_gt (pc := 6) (tgt := 13) dX7_isLane_6 (by decide) (fun h6 => ?_) (fun h6 => ?_)
    · refine x_iconst (pc := 13) (v := 0) dX7_isLane_13 (by decide) ?_
      refine x_ri (pc := 14) dX7_isLane_14 rfl rfl ?_
      exact ⟨by unfold b2; split <;> first | rfl | (exfalso; (try simp only [b2_e0, b2_n0, Decidable.not_not] at *) <;> (try simp only [i_lt, i_le, i_eq, not_and, not_or, ne_eq, il_0, il_1, il_2, il_3, il_4, il_5, il_6, il_7, il_8, il_9, il_10, il_14, il_15, il_19, il_20, il_24, il_30, il_31, il_44, il_48, il_49, il_52, il_57, il_59, il_60, il_70, il_99, il_100, il_103, il_108, il_114, il_m1, il_m2, il_m3, il_m4, il_m9, il_m10, il_m100] at *) <;> omega), rfl⟩
    · refine x_iconst (pc := 9) (v := 1) dX7_isLane_9 (by decide) ?_
      refine x_goto (pc := 10) (tgt := 14) dX7_isLane_10 (by decide) ?_
      refine x_ri (pc := 14) dX7_isLane_14 rfl rfl ?_
      exact ⟨by unfold b2; split <;> first | rfl | (exfalso; (try simp only [b2_e0, b2_n0, Decidable.not_not] at *) <;> (try simp only [i_lt, i_le, i_eq, not_and, not_or, ne_eq, il_0, il_1, il_2, il_3, il_4, il_5, il_6, il_7, il_8, il_9, il_10, il_14, il_15, il_19, il_20, il_24, il_30, il_31, il_44, il_48, il_49, il_52, il_57, il_59, il_60, il_70, il_99, il_100, il_103, il_108, il_114, il_m1, il_m2, il_m3, il_m4, il_m9, il_m10, il_m100] at *) <;> omega), rfl⟩
theorem c_X8_within {d : Nat} {w : mW} {v a b : Int32} : mC d kX8_within [.int v, .int a, .int b] w (fun r w' => r = some (.int (b2 (a ≤ v ∧ v ≤ b))) ∧ w' = w) := by
  refine mC.of (L := [_, _, _]) okX8_within 0 rfl rfl ?_
  refine x_iload_n (pc := 0) (i := 0) dX8_within_0 rfl rfl ?_
  refine x_iload_n (pc := 1) (i := 1) dX8_within_1 rfl rfl ?_
  refine x_icmp_lt (pc := 2) (tgt := 14) dX8_within_2 (by decide) (fun h2 => ?_) (fun h2 => ?_)
  · refine x_iconst (pc := 14) (v := 0) dX8_within_14 (by decide) ?_
    refine x_ri (pc := 15) dX8_within_15 rfl rfl ?_
    exact ⟨by unfold b2; split <;> first | rfl | (exfalso; (try simp only [b2_e0, b2_n0, Decidable.not_not] at *) <;> (try simp only [i_lt, i_le, i_eq, not_and, not_or, ne_eq, il_0, il_1, il_2, il_3, il_4, il_5, il_6, il_7, il_8, il_9, il_10, il_14, il_15, il_19, il_20, il_24, il_30, il_31, il_44, il_48, il_49, il_52, il_57, il_59, il_60, il_70, il_99, il_100, il_103, il_108, il_114, il_m1, il_m2, il_m3, il_m4, il_m9, il_m10, il_m100] at *) <;> omega), rfl⟩
  · refine x_iload_n (pc := 5) (i := 0) dX8_within_5 rfl rfl ?_
    refine x_iload_n (pc := 6) (i := 2) dX8_within_6 rfl rfl ?_
    refine x_icmp_gt (pc := 7) (tgt := 14) dX8_within_7 (by decide) (fun h7 => ?_) (fun h7 => ?_)
    · refine x_iconst (pc := 14) (v := 0) dX8_within_14 (by decide) ?_
      refine x_ri (pc := 15) dX8_within_15 rfl rfl ?_
      exact ⟨by unfold b2; split <;> first | rfl | (exfalso; (try simp only [b2_e0, b2_n0, Decidable.not_not] at *) <;> (try simp only [i_lt, i_le, i_eq, not_and, not_or, ne_eq, il_0, il_1, il_2, il_3, il_4, il_5, il_6, il_7, il_8, il_9, il_10, il_14, il_15, il_19, il_20, il_24, il_30, il_31, il_44, il_48, il_49, il_52, il_57, il_59, il_60, il_70, il_99, il_100, il_103, il_108, il_114, il_m1, il_m2, il_m3, il_m4, il_m9, il_m10, il_m100] at *) <;> omega), rfl⟩
    · refine x_iconst (pc := 10) (v := 1) dX8_within_10 (by decide) ?_
      refine x_goto (pc := 11) (tgt := 15) dX8_within_11 (by decide) ?_
      refine x_ri (pc := 15) dX8_within_15 rfl rfl ?_
      exact ⟨by unfold b2; split <;> first | rfl | (exfalso; (try simp only [b2_e0, b2_n0, Decidable.not_not] at *) <;> (try simp only [i_lt, i_le, i_eq, not_and, not_or, ne_eq, il_0, il_1, il_2, il_3, il_4, il_5, il_6, il_7, il_8, il_9, il_10, il_14, il_15, il_19, il_20, il_24, il_30, il_31, il_44, il_48, il_49, il_52, il_57, il_59, il_60, il_70, il_99, il_100, il_103, il_108, il_114, il_m1, il_m2, il_m3, il_m4, il_m9, il_m10, il_m100] at *) <;> omega), rfl⟩
theorem c_X8_isSheet {d : Nat} {w : mW} {k : Int32} : mC (d + 1) kX8_isSheet [.int k] w (fun r w' => r = some (.int (b2 (0 ≤ k ∧ k ≤ 3))) ∧ w' = w) := by
  refine mC.of (L := [_]) okX8_isSheet 0 rfl rfl ?_
  refine x_iload_n (pc := 0) (i := 0) dX8_isSheet_0 rfl rfl ?_
  refine x_iconst (pc := 1) (v := 0) dX8_isSheet_1 (by decide) ?_
  refine x_iconst (pc := 2) (v := 3) dX8_isSheet_2 (by decide) ?_
  refine x_ss (pc := 3) (As := [_, _, _]) rfl lX8_88 dX8_isSheet_3 rfl (by decide) c_X8_within ?_
  rintro _ _ ⟨rfl, hq⟩
  obtain rfl := hq.symm
  refine x_pushI ?_
  refine x_ri (pc := 6) dX8_isSheet_6 rfl (by unfold b2; split <;> rfl) ?_
  exact ⟨rfl, rfl⟩
theorem c_X5_hasNothing {d : Nat} {w : mW} {k : Int32} (hS : Shape w) : mC (d + 1) kX5_hasNothing [.ref 1, .int k] w (fun r w' => r = some (.int (b2 (¬ (0 ≤ k ∧ k < 4) ∨ arr w 2 k.toNatClampNeg = -1))) ∧ w' = w) := by
  refine mC.of (L := [_, _]) okX5_hasNothing 0 rfl rfl ?_
  refine x_iload_n (pc := 0) (i := 1) dX5_hasNothing_0 rfl rfl ?_
  refine x_ss (pc := 1) (As := [_]) rfl lX5_21 dX5_hasNothing_1 rfl (by decide) c_X5_isSheet ?_
  rintro _ _ ⟨rfl, hq⟩
  obtain rfl := hq.symm
  refine x_pushI ?_
  refine x_if_eq (pc := 4) (tgt := 17) dX5_hasNothing_4 (by decide) (fun h4 => ?_) (fun h4 => ?_)
  · refine x_iconst (pc := 17) (v := 1) dX5_hasNothing_17 (by decide) ?_
    refine x_goto (pc := 18) (tgt := 22) dX5_hasNothing_18 (by decide) ?_
    refine x_ri (pc := 22) dX5_hasNothing_22 rfl rfl ?_
    exact ⟨by unfold b2; split <;> first | rfl | (exfalso; (try simp only [b2_e0, b2_n0, Decidable.not_not] at *) <;> (try simp only [i_lt, i_le, i_eq, not_and, not_or, ne_eq, il_0, il_1, il_2, il_3, il_4, il_5, il_6, il_7, il_8, il_9, il_10, il_14, il_15, il_19, il_20, il_24, il_30, il_31, il_44, il_48, il_49, il_52, il_57, il_59, il_60, il_70, il_99, il_100, il_103, il_108, il_114, il_m1, il_m2, il_m3, il_m4, il_m9, il_m10, il_m100] at *) <;> omega), rfl⟩
  · refine x_aload_n (pc := 7) (i := 0) dX5_hasNothing_7 rfl rfl ?_
    refine x_getR (pc := 8) hS fX5_11 dX5_hasNothing_8 rfl rfl ?_
    refine x_iload_n (pc := 11) (i := 1) dX5_hasNothing_11 rfl rfl ?_
    refine x_ald (pc := 12) hS dX5_hasNothing_12 rfl (by rw [vp_in_iff]; (try simp only [b2_e0, b2_n0, Decidable.not_not] at *) <;> (try simp only [i_lt, i_le, i_eq, not_and, not_or, ne_eq, il_0, il_1, il_2, il_3, il_4, il_5, il_6, il_7, il_8, il_9, il_10, il_14, il_15, il_19, il_20, il_24, il_30, il_31, il_44, il_48, il_49, il_52, il_57, il_59, il_60, il_70, il_99, il_100, il_103, il_108, il_114, il_m1, il_m2, il_m3, il_m4, il_m9, il_m10, il_m100] at *) <;> omega) ?_
    refine x_iconst (pc := 13) (v := (-1)) dX5_hasNothing_13 (by decide) ?_
    refine x_icmp_ne (pc := 14) (tgt := 21) dX5_hasNothing_14 (by decide) (fun h14 => ?_) (fun h14 => ?_)
    · refine x_iconst (pc := 21) (v := 0) dX5_hasNothing_21 (by decide) ?_
      refine x_ri (pc := 22) dX5_hasNothing_22 rfl rfl ?_
      exact ⟨by unfold b2; split <;> first | rfl | (exfalso; (try simp only [b2_e0, b2_n0, Decidable.not_not] at *) <;> (try simp only [i_lt, i_le, i_eq, not_and, not_or, ne_eq, il_0, il_1, il_2, il_3, il_4, il_5, il_6, il_7, il_8, il_9, il_10, il_14, il_15, il_19, il_20, il_24, il_30, il_31, il_44, il_48, il_49, il_52, il_57, il_59, il_60, il_70, il_99, il_100, il_103, il_108, il_114, il_m1, il_m2, il_m3, il_m4, il_m9, il_m10, il_m100] at *) <;> omega), rfl⟩
    · refine x_iconst (pc := 17) (v := 1) dX5_hasNothing_17 (by decide) ?_
      refine x_goto (pc := 18) (tgt := 22) dX5_hasNothing_18 (by decide) ?_
      refine x_ri (pc := 22) dX5_hasNothing_22 rfl rfl ?_
      exact ⟨by unfold b2; split <;> first | rfl | (exfalso; (try simp only [b2_e0, b2_n0, Decidable.not_not] at *) <;> (try simp only [i_lt, i_le, i_eq, not_and, not_or, ne_eq, il_0, il_1, il_2, il_3, il_4, il_5, il_6, il_7, il_8, il_9, il_10, il_14, il_15, il_19, il_20, il_24, il_30, il_31, il_44, il_48, il_49, il_52, il_57, il_59, il_60, il_70, il_99, il_100, il_103, il_108, il_114, il_m1, il_m2, il_m3, il_m4, il_m9, il_m10, il_m100] at *) <;> omega), rfl⟩
end
