-- ===== PART A: goes FIRST, ahead of the names: the tables' words, and 'selects' of the private methods out of them =====
/-- a private method of a class that the tables say can be made, by its rows of tables_1 -/
def lw_okq (q : MethodName × Nat) : Prop := (q.1.cls ≠ "java/lang/invoke/MethodHandle" ∧ q.1.cls ≠ "java/lang/invoke/VarHandle") ∧ Cond.instantiable q.1.cls q.2 ∈ tables_1 ∧ Cond.privateMethod q.1 ∈ tables_1 ∧ Cond.instanceMethod q.1 ∈ tables_1
theorem lw_p0 : lw_okq (⟨"StinkhornParish$Reader", "read", "()V"⟩, 13) := ⟨⟨by decide +kernel, by decide +kernel⟩, List.mem_of_getElem? (i := 26) (by decide +kernel), List.mem_of_getElem? (i := 253) (by decide +kernel), List.mem_of_getElem? (i := 254) (by decide +kernel)⟩
theorem lw_p1 : lw_okq (⟨"StinkhornParish$Told", "clear", "()V"⟩, 9) := ⟨⟨by decide +kernel, by decide +kernel⟩, List.mem_of_getElem? (i := 32) (by decide +kernel), List.mem_of_getElem? (i := 257) (by decide +kernel), List.mem_of_getElem? (i := 258) (by decide +kernel)⟩
theorem lw_p2 : lw_okq (⟨"StinkhornParish$Reader", "advance", "()V"⟩, 13) := ⟨⟨by decide +kernel, by decide +kernel⟩, List.mem_of_getElem? (i := 26) (by decide +kernel), List.mem_of_getElem? (i := 261) (by decide +kernel), List.mem_of_getElem? (i := 262) (by decide +kernel)⟩
theorem lw_p3 : lw_okq (⟨"StinkhornParish$Reader", "isLetter", "(I)Z"⟩, 13) := ⟨⟨by decide +kernel, by decide +kernel⟩, List.mem_of_getElem? (i := 26) (by decide +kernel), List.mem_of_getElem? (i := 265) (by decide +kernel), List.mem_of_getElem? (i := 266) (by decide +kernel)⟩
theorem lw_p4 : lw_okq (⟨"StinkhornParish$Reader", "readWord", "()V"⟩, 13) := ⟨⟨by decide +kernel, by decide +kernel⟩, List.mem_of_getElem? (i := 26) (by decide +kernel), List.mem_of_getElem? (i := 269) (by decide +kernel), List.mem_of_getElem? (i := 270) (by decide +kernel)⟩
theorem lw_p5 : lw_okq (⟨"StinkhornParish$Reader", "wordCode", "()I"⟩, 13) := ⟨⟨by decide +kernel, by decide +kernel⟩, List.mem_of_getElem? (i := 26) (by decide +kernel), List.mem_of_getElem? (i := 273) (by decide +kernel), List.mem_of_getElem? (i := 274) (by decide +kernel)⟩
theorem lw_p6 : lw_okq (⟨"StinkhornParish$Reader", "isDigit", "(I)Z"⟩, 13) := ⟨⟨by decide +kernel, by decide +kernel⟩, List.mem_of_getElem? (i := 26) (by decide +kernel), List.mem_of_getElem? (i := 326) (by decide +kernel), List.mem_of_getElem? (i := 327) (by decide +kernel)⟩
theorem lw_p7 : lw_okq (⟨"StinkhornParish$Reader", "readNumber", "()V"⟩, 13) := ⟨⟨by decide +kernel, by decide +kernel⟩, List.mem_of_getElem? (i := 26) (by decide +kernel), List.mem_of_getElem? (i := 330) (by decide +kernel), List.mem_of_getElem? (i := 331) (by decide +kernel)⟩
theorem lw_p8 : lw_okq (⟨"StinkhornParish$Reader", "line", "()V"⟩, 13) := ⟨⟨by decide +kernel, by decide +kernel⟩, List.mem_of_getElem? (i := 26) (by decide +kernel), List.mem_of_getElem? (i := 340) (by decide +kernel), List.mem_of_getElem? (i := 341) (by decide +kernel)⟩
theorem lw_p9 : lw_okq (⟨"StinkhornParish$Reader", "personLine", "()V"⟩, 13) := ⟨⟨by decide +kernel, by decide +kernel⟩, List.mem_of_getElem? (i := 26) (by decide +kernel), List.mem_of_getElem? (i := 344) (by decide +kernel), List.mem_of_getElem? (i := 345) (by decide +kernel)⟩
theorem lw_p10 : lw_okq (⟨"StinkhornParish$Reader", "refuse", "(I)V"⟩, 13) := ⟨⟨by decide +kernel, by decide +kernel⟩, List.mem_of_getElem? (i := 26) (by decide +kernel), List.mem_of_getElem? (i := 348) (by decide +kernel), List.mem_of_getElem? (i := 349) (by decide +kernel)⟩
theorem lw_p11 : lw_okq (⟨"StinkhornParish$Reader", "named", "()I"⟩, 13) := ⟨⟨by decide +kernel, by decide +kernel⟩, List.mem_of_getElem? (i := 26) (by decide +kernel), List.mem_of_getElem? (i := 352) (by decide +kernel), List.mem_of_getElem? (i := 353) (by decide +kernel)⟩
theorem lw_p12 : lw_okq (⟨"StinkhornParish$Reader", "sameText", "(II)Z"⟩, 13) := ⟨⟨by decide +kernel, by decide +kernel⟩, List.mem_of_getElem? (i := 26) (by decide +kernel), List.mem_of_getElem? (i := 356) (by decide +kernel), List.mem_of_getElem? (i := 357) (by decide +kernel)⟩
theorem lw_p13 : lw_okq (⟨"StinkhornParish$Reader", "number", "(I)I"⟩, 13) := ⟨⟨by decide +kernel, by decide +kernel⟩, List.mem_of_getElem? (i := 26) (by decide +kernel), List.mem_of_getElem? (i := 360) (by decide +kernel), List.mem_of_getElem? (i := 361) (by decide +kernel)⟩
theorem lw_p14 : lw_okq (⟨"StinkhornParish$Reader", "knowsLine", "()V"⟩, 13) := ⟨⟨by decide +kernel, by decide +kernel⟩, List.mem_of_getElem? (i := 26) (by decide +kernel), List.mem_of_getElem? (i := 367) (by decide +kernel), List.mem_of_getElem? (i := 368) (by decide +kernel)⟩
theorem lw_p15 : lw_okq (⟨"StinkhornParish$Reader", "somebody", "()I"⟩, 13) := ⟨⟨by decide +kernel, by decide +kernel⟩, List.mem_of_getElem? (i := 26) (by decide +kernel), List.mem_of_getElem? (i := 377) (by decide +kernel), List.mem_of_getElem? (i := 378) (by decide +kernel)⟩
def lw_privs_1 : List (MethodName × Nat) := [(⟨"StinkhornParish$Reader", "read", "()V"⟩, 13), (⟨"StinkhornParish$Told", "clear", "()V"⟩, 9), (⟨"StinkhornParish$Reader", "advance", "()V"⟩, 13), (⟨"StinkhornParish$Reader", "isLetter", "(I)Z"⟩, 13), (⟨"StinkhornParish$Reader", "readWord", "()V"⟩, 13), (⟨"StinkhornParish$Reader", "wordCode", "()I"⟩, 13), (⟨"StinkhornParish$Reader", "isDigit", "(I)Z"⟩, 13), (⟨"StinkhornParish$Reader", "readNumber", "()V"⟩, 13), (⟨"StinkhornParish$Reader", "line", "()V"⟩, 13), (⟨"StinkhornParish$Reader", "personLine", "()V"⟩, 13), (⟨"StinkhornParish$Reader", "refuse", "(I)V"⟩, 13), (⟨"StinkhornParish$Reader", "named", "()I"⟩, 13), (⟨"StinkhornParish$Reader", "sameText", "(II)Z"⟩, 13), (⟨"StinkhornParish$Reader", "number", "(I)I"⟩, 13), (⟨"StinkhornParish$Reader", "knowsLine", "()V"⟩, 13), (⟨"StinkhornParish$Reader", "somebody", "()I"⟩, 13)]
theorem lw_r1 : ∀ q ∈ lw_privs_1, lw_okq q := List.forall_mem_cons.mpr ⟨lw_p0, List.forall_mem_cons.mpr ⟨lw_p1, List.forall_mem_cons.mpr ⟨lw_p2, List.forall_mem_cons.mpr ⟨lw_p3, List.forall_mem_cons.mpr ⟨lw_p4, List.forall_mem_cons.mpr ⟨lw_p5, List.forall_mem_cons.mpr ⟨lw_p6, List.forall_mem_cons.mpr ⟨lw_p7, List.forall_mem_cons.mpr ⟨lw_p8, List.forall_mem_cons.mpr ⟨lw_p9, List.forall_mem_cons.mpr ⟨lw_p10, List.forall_mem_cons.mpr ⟨lw_p11, List.forall_mem_cons.mpr ⟨lw_p12, List.forall_mem_cons.mpr ⟨lw_p13, List.forall_mem_cons.mpr ⟨lw_p14, List.forall_mem_cons.mpr ⟨lw_p15, fun _ h => absurd h List.not_mem_nil⟩⟩⟩⟩⟩⟩⟩⟩⟩⟩⟩⟩⟩⟩⟩⟩
theorem lw_p16 : lw_okq (⟨"StinkhornParish$Day", "knownTo", "(I)I"⟩, 5) := ⟨⟨by decide +kernel, by decide +kernel⟩, List.mem_of_getElem? (i := 38) (by decide +kernel), List.mem_of_getElem? (i := 381) (by decide +kernel), List.mem_of_getElem? (i := 382) (by decide +kernel)⟩
theorem lw_p17 : lw_okq (⟨"StinkhornParish$Day", "addKnown", "(II)V"⟩, 5) := ⟨⟨by decide +kernel, by decide +kernel⟩, List.mem_of_getElem? (i := 38) (by decide +kernel), List.mem_of_getElem? (i := 385) (by decide +kernel), List.mem_of_getElem? (i := 386) (by decide +kernel)⟩
theorem lw_p18 : lw_okq (⟨"StinkhornParish$Reader", "isFirst", "(I)Z"⟩, 13) := ⟨⟨by decide +kernel, by decide +kernel⟩, List.mem_of_getElem? (i := 26) (by decide +kernel), List.mem_of_getElem? (i := 389) (by decide +kernel), List.mem_of_getElem? (i := 390) (by decide +kernel)⟩
theorem lw_p19 : lw_okq (⟨"StinkhornParish$Reader", "joined", "(II)V"⟩, 13) := ⟨⟨by decide +kernel, by decide +kernel⟩, List.mem_of_getElem? (i := 26) (by decide +kernel), List.mem_of_getElem? (i := 393) (by decide +kernel), List.mem_of_getElem? (i := 394) (by decide +kernel)⟩
theorem lw_p20 : lw_okq (⟨"StinkhornParish$Reader", "unit", "(I)V"⟩, 13) := ⟨⟨by decide +kernel, by decide +kernel⟩, List.mem_of_getElem? (i := 26) (by decide +kernel), List.mem_of_getElem? (i := 397) (by decide +kernel), List.mem_of_getElem? (i := 398) (by decide +kernel)⟩
theorem lw_p21 : lw_okq (⟨"StinkhornParish$Formula", "add", "(I)V"⟩, 3) := ⟨⟨by decide +kernel, by decide +kernel⟩, List.mem_of_getElem? (i := 119) (by decide +kernel), List.mem_of_getElem? (i := 401) (by decide +kernel), List.mem_of_getElem? (i := 402) (by decide +kernel)⟩
theorem lw_p22 : lw_okq (⟨"StinkhornParish$Reader", "denied", "(I)V"⟩, 13) := ⟨⟨by decide +kernel, by decide +kernel⟩, List.mem_of_getElem? (i := 26) (by decide +kernel), List.mem_of_getElem? (i := 405) (by decide +kernel), List.mem_of_getElem? (i := 406) (by decide +kernel)⟩
theorem lw_p23 : lw_okq (⟨"StinkhornParish$Formula", "valueIn", "(LStinkhornParish$Told;I)I"⟩, 3) := ⟨⟨by decide +kernel, by decide +kernel⟩, List.mem_of_getElem? (i := 119) (by decide +kernel), List.mem_of_getElem? (i := 409) (by decide +kernel), List.mem_of_getElem? (i := 410) (by decide +kernel)⟩
theorem lw_p24 : lw_okq (⟨"StinkhornParish$Told", "shameIn", "(I)I"⟩, 9) := ⟨⟨by decide +kernel, by decide +kernel⟩, List.mem_of_getElem? (i := 32) (by decide +kernel), List.mem_of_getElem? (i := 425) (by decide +kernel), List.mem_of_getElem? (i := 426) (by decide +kernel)⟩
theorem lw_p25 : lw_okq (⟨"StinkhornParish", "startAnew", "()V"⟩, 11) := ⟨⟨by decide +kernel, by decide +kernel⟩, List.mem_of_getElem? (i := 18) (by decide +kernel), List.mem_of_getElem? (i := 439) (by decide +kernel), List.mem_of_getElem? (i := 440) (by decide +kernel)⟩
theorem lw_p26 : lw_okq (⟨"StinkhornParish$Told", "copyFrom", "(LStinkhornParish$Told;)V"⟩, 9) := ⟨⟨by decide +kernel, by decide +kernel⟩, List.mem_of_getElem? (i := 32) (by decide +kernel), List.mem_of_getElem? (i := 443) (by decide +kernel), List.mem_of_getElem? (i := 444) (by decide +kernel)⟩
theorem lw_p27 : lw_okq (⟨"StinkhornParish$Day", "copyFrom", "(LStinkhornParish$Day;)V"⟩, 5) := ⟨⟨by decide +kernel, by decide +kernel⟩, List.mem_of_getElem? (i := 38) (by decide +kernel), List.mem_of_getElem? (i := 447) (by decide +kernel), List.mem_of_getElem? (i := 448) (by decide +kernel)⟩
theorem lw_p28 : lw_okq (⟨"StinkhornParish$Told", "startDay", "(LStinkhornParish$Day;I)V"⟩, 9) := ⟨⟨by decide +kernel, by decide +kernel⟩, List.mem_of_getElem? (i := 32) (by decide +kernel), List.mem_of_getElem? (i := 454) (by decide +kernel), List.mem_of_getElem? (i := 455) (by decide +kernel)⟩
theorem lw_p29 : lw_okq (⟨"StinkhornParish$Acts", "forget", "()V"⟩, 5) := ⟨⟨by decide +kernel, by decide +kernel⟩, List.mem_of_getElem? (i := 184) (by decide +kernel), List.mem_of_getElem? (i := 458) (by decide +kernel), List.mem_of_getElem? (i := 459) (by decide +kernel)⟩
theorem lw_p30 : lw_okq (⟨"StinkhornParish$Sightings", "forget", "()V"⟩, 10) := ⟨⟨by decide +kernel, by decide +kernel⟩, List.mem_of_getElem? (i := 211) (by decide +kernel), List.mem_of_getElem? (i := 462) (by decide +kernel), List.mem_of_getElem? (i := 463) (by decide +kernel)⟩
theorem lw_p31 : lw_okq (⟨"StinkhornParish$Reader", "append", "(I)V"⟩, 13) := ⟨⟨by decide +kernel, by decide +kernel⟩, List.mem_of_getElem? (i := 26) (by decide +kernel), List.mem_of_getElem? (i := 504) (by decide +kernel), List.mem_of_getElem? (i := 505) (by decide +kernel)⟩
def lw_privs_2 : List (MethodName × Nat) := [(⟨"StinkhornParish$Day", "knownTo", "(I)I"⟩, 5), (⟨"StinkhornParish$Day", "addKnown", "(II)V"⟩, 5), (⟨"StinkhornParish$Reader", "isFirst", "(I)Z"⟩, 13), (⟨"StinkhornParish$Reader", "joined", "(II)V"⟩, 13), (⟨"StinkhornParish$Reader", "unit", "(I)V"⟩, 13), (⟨"StinkhornParish$Formula", "add", "(I)V"⟩, 3), (⟨"StinkhornParish$Reader", "denied", "(I)V"⟩, 13), (⟨"StinkhornParish$Formula", "valueIn", "(LStinkhornParish$Told;I)I"⟩, 3), (⟨"StinkhornParish$Told", "shameIn", "(I)I"⟩, 9), (⟨"StinkhornParish", "startAnew", "()V"⟩, 11), (⟨"StinkhornParish$Told", "copyFrom", "(LStinkhornParish$Told;)V"⟩, 9), (⟨"StinkhornParish$Day", "copyFrom", "(LStinkhornParish$Day;)V"⟩, 5), (⟨"StinkhornParish$Told", "startDay", "(LStinkhornParish$Day;I)V"⟩, 9), (⟨"StinkhornParish$Acts", "forget", "()V"⟩, 5), (⟨"StinkhornParish$Sightings", "forget", "()V"⟩, 10), (⟨"StinkhornParish$Reader", "append", "(I)V"⟩, 13)]
theorem lw_r2 : ∀ q ∈ lw_privs_2, lw_okq q := List.forall_mem_cons.mpr ⟨lw_p16, List.forall_mem_cons.mpr ⟨lw_p17, List.forall_mem_cons.mpr ⟨lw_p18, List.forall_mem_cons.mpr ⟨lw_p19, List.forall_mem_cons.mpr ⟨lw_p20, List.forall_mem_cons.mpr ⟨lw_p21, List.forall_mem_cons.mpr ⟨lw_p22, List.forall_mem_cons.mpr ⟨lw_p23, List.forall_mem_cons.mpr ⟨lw_p24, List.forall_mem_cons.mpr ⟨lw_p25, List.forall_mem_cons.mpr ⟨lw_p26, List.forall_mem_cons.mpr ⟨lw_p27, List.forall_mem_cons.mpr ⟨lw_p28, List.forall_mem_cons.mpr ⟨lw_p29, List.forall_mem_cons.mpr ⟨lw_p30, List.forall_mem_cons.mpr ⟨lw_p31, fun _ h => absurd h List.not_mem_nil⟩⟩⟩⟩⟩⟩⟩⟩⟩⟩⟩⟩⟩⟩⟩⟩
theorem lw_p32 : lw_okq (⟨"StinkhornParish", "isPerson", "(I)Z"⟩, 11) := ⟨⟨by decide +kernel, by decide +kernel⟩, List.mem_of_getElem? (i := 18) (by decide +kernel), List.mem_of_getElem? (i := 524) (by decide +kernel), List.mem_of_getElem? (i := 525) (by decide +kernel)⟩
theorem lw_p33 : lw_okq (⟨"StinkhornParish", "isWorld", "(I)Z"⟩, 11) := ⟨⟨by decide +kernel, by decide +kernel⟩, List.mem_of_getElem? (i := 18) (by decide +kernel), List.mem_of_getElem? (i := 533) (by decide +kernel), List.mem_of_getElem? (i := 534) (by decide +kernel)⟩
theorem lw_p34 : lw_okq (⟨"StinkhornParish$Acts", "keep", "(LStinkhornParish$Day;)V"⟩, 5) := ⟨⟨by decide +kernel, by decide +kernel⟩, List.mem_of_getElem? (i := 184) (by decide +kernel), List.mem_of_getElem? (i := 554) (by decide +kernel), List.mem_of_getElem? (i := 555) (by decide +kernel)⟩
theorem lw_p35 : lw_okq (⟨"StinkhornParish$Acts", "push", "(LStinkhornParish$Day;)V"⟩, 5) := ⟨⟨by decide +kernel, by decide +kernel⟩, List.mem_of_getElem? (i := 184) (by decide +kernel), List.mem_of_getElem? (i := 558) (by decide +kernel), List.mem_of_getElem? (i := 559) (by decide +kernel)⟩
theorem lw_p36 : lw_okq (⟨"StinkhornParish$Told", "signedLike", "(I)J"⟩, 9) := ⟨⟨by decide +kernel, by decide +kernel⟩, List.mem_of_getElem? (i := 32) (by decide +kernel), List.mem_of_getElem? (i := 585) (by decide +kernel), List.mem_of_getElem? (i := 586) (by decide +kernel)⟩
theorem lw_p37 : lw_okq (⟨"StinkhornParish", "likeTrue", "(I)J"⟩, 11) := ⟨⟨by decide +kernel, by decide +kernel⟩, List.mem_of_getElem? (i := 18) (by decide +kernel), List.mem_of_getElem? (i := 597) (by decide +kernel), List.mem_of_getElem? (i := 598) (by decide +kernel)⟩
theorem lw_p38 : lw_okq (⟨"StinkhornParish", "canWhisper", "(II)Z"⟩, 11) := ⟨⟨by decide +kernel, by decide +kernel⟩, List.mem_of_getElem? (i := 18) (by decide +kernel), List.mem_of_getElem? (i := 605) (by decide +kernel), List.mem_of_getElem? (i := 606) (by decide +kernel)⟩
theorem lw_p39 : lw_okq (⟨"StinkhornParish", "arePeople", "(II)Z"⟩, 11) := ⟨⟨by decide +kernel, by decide +kernel⟩, List.mem_of_getElem? (i := 18) (by decide +kernel), List.mem_of_getElem? (i := 609) (by decide +kernel), List.mem_of_getElem? (i := 610) (by decide +kernel)⟩
theorem lw_p40 : lw_okq (⟨"StinkhornParish$Acts", "takeBack", "(LStinkhornParish$Day;)Z"⟩, 5) := ⟨⟨by decide +kernel, by decide +kernel⟩, List.mem_of_getElem? (i := 184) (by decide +kernel), List.mem_of_getElem? (i := 619) (by decide +kernel), List.mem_of_getElem? (i := 620) (by decide +kernel)⟩
theorem lw_p41 : lw_okq (⟨"StinkhornParish$Acts", "doAgain", "(LStinkhornParish$Day;)Z"⟩, 5) := ⟨⟨by decide +kernel, by decide +kernel⟩, List.mem_of_getElem? (i := 184) (by decide +kernel), List.mem_of_getElem? (i := 627) (by decide +kernel), List.mem_of_getElem? (i := 628) (by decide +kernel)⟩
theorem lw_p42 : lw_okq (⟨"StinkhornParish", "verdict", "(III)I"⟩, 11) := ⟨⟨by decide +kernel, by decide +kernel⟩, List.mem_of_getElem? (i := 18) (by decide +kernel), List.mem_of_getElem? (i := 635) (by decide +kernel), List.mem_of_getElem? (i := 636) (by decide +kernel)⟩
theorem lw_p43 : lw_okq (⟨"StinkhornParish", "taken", "(II)J"⟩, 11) := ⟨⟨by decide +kernel, by decide +kernel⟩, List.mem_of_getElem? (i := 18) (by decide +kernel), List.mem_of_getElem? (i := 639) (by decide +kernel), List.mem_of_getElem? (i := 640) (by decide +kernel)⟩
theorem lw_p44 : lw_okq (⟨"StinkhornParish", "isPossible", "(I)Z"⟩, 11) := ⟨⟨by decide +kernel, by decide +kernel⟩, List.mem_of_getElem? (i := 18) (by decide +kernel), List.mem_of_getElem? (i := 647) (by decide +kernel), List.mem_of_getElem? (i := 648) (by decide +kernel)⟩
theorem lw_p45 : lw_okq (⟨"StinkhornParish", "knownToAll", "(J)J"⟩, 11) := ⟨⟨by decide +kernel, by decide +kernel⟩, List.mem_of_getElem? (i := 18) (by decide +kernel), List.mem_of_getElem? (i := 655) (by decide +kernel), List.mem_of_getElem? (i := 656) (by decide +kernel)⟩
theorem lw_p46 : lw_okq (⟨"StinkhornParish", "isThoughtOf", "(I)Z"⟩, 11) := ⟨⟨by decide +kernel, by decide +kernel⟩, List.mem_of_getElem? (i := 18) (by decide +kernel), List.mem_of_getElem? (i := 675) (by decide +kernel), List.mem_of_getElem? (i := 676) (by decide +kernel)⟩
theorem lw_p47 : lw_okq (⟨"StinkhornParish", "isClearToAll", "(I)Z"⟩, 11) := ⟨⟨by decide +kernel, by decide +kernel⟩, List.mem_of_getElem? (i := 18) (by decide +kernel), List.mem_of_getElem? (i := 683) (by decide +kernel), List.mem_of_getElem? (i := 684) (by decide +kernel)⟩
def lw_privs_3 : List (MethodName × Nat) := [(⟨"StinkhornParish", "isPerson", "(I)Z"⟩, 11), (⟨"StinkhornParish", "isWorld", "(I)Z"⟩, 11), (⟨"StinkhornParish$Acts", "keep", "(LStinkhornParish$Day;)V"⟩, 5), (⟨"StinkhornParish$Acts", "push", "(LStinkhornParish$Day;)V"⟩, 5), (⟨"StinkhornParish$Told", "signedLike", "(I)J"⟩, 9), (⟨"StinkhornParish", "likeTrue", "(I)J"⟩, 11), (⟨"StinkhornParish", "canWhisper", "(II)Z"⟩, 11), (⟨"StinkhornParish", "arePeople", "(II)Z"⟩, 11), (⟨"StinkhornParish$Acts", "takeBack", "(LStinkhornParish$Day;)Z"⟩, 5), (⟨"StinkhornParish$Acts", "doAgain", "(LStinkhornParish$Day;)Z"⟩, 5), (⟨"StinkhornParish", "verdict", "(III)I"⟩, 11), (⟨"StinkhornParish", "taken", "(II)J"⟩, 11), (⟨"StinkhornParish", "isPossible", "(I)Z"⟩, 11), (⟨"StinkhornParish", "knownToAll", "(J)J"⟩, 11), (⟨"StinkhornParish", "isThoughtOf", "(I)Z"⟩, 11), (⟨"StinkhornParish", "isClearToAll", "(I)Z"⟩, 11)]
theorem lw_r3 : ∀ q ∈ lw_privs_3, lw_okq q := List.forall_mem_cons.mpr ⟨lw_p32, List.forall_mem_cons.mpr ⟨lw_p33, List.forall_mem_cons.mpr ⟨lw_p34, List.forall_mem_cons.mpr ⟨lw_p35, List.forall_mem_cons.mpr ⟨lw_p36, List.forall_mem_cons.mpr ⟨lw_p37, List.forall_mem_cons.mpr ⟨lw_p38, List.forall_mem_cons.mpr ⟨lw_p39, List.forall_mem_cons.mpr ⟨lw_p40, List.forall_mem_cons.mpr ⟨lw_p41, List.forall_mem_cons.mpr ⟨lw_p42, List.forall_mem_cons.mpr ⟨lw_p43, List.forall_mem_cons.mpr ⟨lw_p44, List.forall_mem_cons.mpr ⟨lw_p45, List.forall_mem_cons.mpr ⟨lw_p46, List.forall_mem_cons.mpr ⟨lw_p47, fun _ h => absurd h List.not_mem_nil⟩⟩⟩⟩⟩⟩⟩⟩⟩⟩⟩⟩⟩⟩⟩⟩
theorem lw_p48 : lw_okq (⟨"StinkhornParish", "knowersOf", "(I)I"⟩, 11) := ⟨⟨by decide +kernel, by decide +kernel⟩, List.mem_of_getElem? (i := 18) (by decide +kernel), List.mem_of_getElem? (i := 703) (by decide +kernel), List.mem_of_getElem? (i := 704) (by decide +kernel)⟩
theorem lw_p49 : lw_okq (⟨"StinkhornParish", "endNow", "()I"⟩, 11) := ⟨⟨by decide +kernel, by decide +kernel⟩, List.mem_of_getElem? (i := 18) (by decide +kernel), List.mem_of_getElem? (i := 754) (by decide +kernel), List.mem_of_getElem? (i := 755) (by decide +kernel)⟩
theorem lw_p50 : lw_okq (⟨"StinkhornParish", "bestGroup", "(I)I"⟩, 11) := ⟨⟨by decide +kernel, by decide +kernel⟩, List.mem_of_getElem? (i := 18) (by decide +kernel), List.mem_of_getElem? (i := 782) (by decide +kernel), List.mem_of_getElem? (i := 783) (by decide +kernel)⟩
theorem lw_p51 : lw_okq (⟨"StinkhornParish", "knownAmong", "(I)I"⟩, 11) := ⟨⟨by decide +kernel, by decide +kernel⟩, List.mem_of_getElem? (i := 18) (by decide +kernel), List.mem_of_getElem? (i := 786) (by decide +kernel), List.mem_of_getElem? (i := 787) (by decide +kernel)⟩
theorem lw_p52 : lw_okq (⟨"StinkhornParish", "endOfTwo", "(II)I"⟩, 11) := ⟨⟨by decide +kernel, by decide +kernel⟩, List.mem_of_getElem? (i := 18) (by decide +kernel), List.mem_of_getElem? (i := 807) (by decide +kernel), List.mem_of_getElem? (i := 808) (by decide +kernel)⟩
theorem lw_p53 : lw_okq (⟨"StinkhornParish", "twoOrEnd", "(II)I"⟩, 11) := ⟨⟨by decide +kernel, by decide +kernel⟩, List.mem_of_getElem? (i := 18) (by decide +kernel), List.mem_of_getElem? (i := 811) (by decide +kernel), List.mem_of_getElem? (i := 812) (by decide +kernel)⟩
theorem lw_p54 : lw_okq (⟨"StinkhornParish", "bestPegs", "(I)I"⟩, 11) := ⟨⟨by decide +kernel, by decide +kernel⟩, List.mem_of_getElem? (i := 18) (by decide +kernel), List.mem_of_getElem? (i := 827) (by decide +kernel), List.mem_of_getElem? (i := 828) (by decide +kernel)⟩
theorem lw_p55 : lw_okq (⟨"StinkhornParish", "bestSpying", "(I)I"⟩, 11) := ⟨⟨by decide +kernel, by decide +kernel⟩, List.mem_of_getElem? (i := 18) (by decide +kernel), List.mem_of_getElem? (i := 835) (by decide +kernel), List.mem_of_getElem? (i := 836) (by decide +kernel)⟩
theorem lw_p56 : lw_okq (⟨"StinkhornParish", "fateOf", "(I)I"⟩, 11) := ⟨⟨by decide +kernel, by decide +kernel⟩, List.mem_of_getElem? (i := 18) (by decide +kernel), List.mem_of_getElem? (i := 843) (by decide +kernel), List.mem_of_getElem? (i := 844) (by decide +kernel)⟩
theorem lw_p57 : lw_okq (⟨"StinkhornParish$Sightings", "add", "(IIZI)I"⟩, 10) := ⟨⟨by decide +kernel, by decide +kernel⟩, List.mem_of_getElem? (i := 211) (by decide +kernel), List.mem_of_getElem? (i := 867) (by decide +kernel), List.mem_of_getElem? (i := 868) (by decide +kernel)⟩
theorem lw_p58 : lw_okq (⟨"StinkhornParish$Sightings", "withdraw", "(II)Z"⟩, 10) := ⟨⟨by decide +kernel, by decide +kernel⟩, List.mem_of_getElem? (i := 211) (by decide +kernel), List.mem_of_getElem? (i := 875) (by decide +kernel), List.mem_of_getElem? (i := 876) (by decide +kernel)⟩
theorem lw_p59 : lw_okq (⟨"StinkhornParish$Sightings", "fitting", "(LStinkhornParish$Told;I)J"⟩, 10) := ⟨⟨by decide +kernel, by decide +kernel⟩, List.mem_of_getElem? (i := 211) (by decide +kernel), List.mem_of_getElem? (i := 888) (by decide +kernel), List.mem_of_getElem? (i := 889) (by decide +kernel)⟩
theorem lw_p60 : lw_okq (⟨"StinkhornParish$Sightings", "followAll", "(LStinkhornParish$Told;)V"⟩, 10) := ⟨⟨by decide +kernel, by decide +kernel⟩, List.mem_of_getElem? (i := 211) (by decide +kernel), List.mem_of_getElem? (i := 892) (by decide +kernel), List.mem_of_getElem? (i := 893) (by decide +kernel)⟩
theorem lw_p61 : lw_okq (⟨"StinkhornParish$Sightings", "follow", "(LStinkhornParish$Told;I)J"⟩, 10) := ⟨⟨by decide +kernel, by decide +kernel⟩, List.mem_of_getElem? (i := 211) (by decide +kernel), List.mem_of_getElem? (i := 897) (by decide +kernel), List.mem_of_getElem? (i := 898) (by decide +kernel)⟩
theorem lw_p62 : lw_okq (⟨"StinkhornParish$Sightings", "countsAt", "(II)Z"⟩, 10) := ⟨⟨by decide +kernel, by decide +kernel⟩, List.mem_of_getElem? (i := 211) (by decide +kernel), List.mem_of_getElem? (i := 903) (by decide +kernel), List.mem_of_getElem? (i := 904) (by decide +kernel)⟩
theorem lw_p63 : lw_okq (⟨"StinkhornParish$Sightings", "ownersOn", "(II)J"⟩, 10) := ⟨⟨by decide +kernel, by decide +kernel⟩, List.mem_of_getElem? (i := 211) (by decide +kernel), List.mem_of_getElem? (i := 907) (by decide +kernel), List.mem_of_getElem? (i := 908) (by decide +kernel)⟩
def lw_privs_4 : List (MethodName × Nat) := [(⟨"StinkhornParish", "knowersOf", "(I)I"⟩, 11), (⟨"StinkhornParish", "endNow", "()I"⟩, 11), (⟨"StinkhornParish", "bestGroup", "(I)I"⟩, 11), (⟨"StinkhornParish", "knownAmong", "(I)I"⟩, 11), (⟨"StinkhornParish", "endOfTwo", "(II)I"⟩, 11), (⟨"StinkhornParish", "twoOrEnd", "(II)I"⟩, 11), (⟨"StinkhornParish", "bestPegs", "(I)I"⟩, 11), (⟨"StinkhornParish", "bestSpying", "(I)I"⟩, 11), (⟨"StinkhornParish", "fateOf", "(I)I"⟩, 11), (⟨"StinkhornParish$Sightings", "add", "(IIZI)I"⟩, 10), (⟨"StinkhornParish$Sightings", "withdraw", "(II)Z"⟩, 10), (⟨"StinkhornParish$Sightings", "fitting", "(LStinkhornParish$Told;I)J"⟩, 10), (⟨"StinkhornParish$Sightings", "followAll", "(LStinkhornParish$Told;)V"⟩, 10), (⟨"StinkhornParish$Sightings", "follow", "(LStinkhornParish$Told;I)J"⟩, 10), (⟨"StinkhornParish$Sightings", "countsAt", "(II)Z"⟩, 10), (⟨"StinkhornParish$Sightings", "ownersOn", "(II)J"⟩, 10)]
theorem lw_r4 : ∀ q ∈ lw_privs_4, lw_okq q := List.forall_mem_cons.mpr ⟨lw_p48, List.forall_mem_cons.mpr ⟨lw_p49, List.forall_mem_cons.mpr ⟨lw_p50, List.forall_mem_cons.mpr ⟨lw_p51, List.forall_mem_cons.mpr ⟨lw_p52, List.forall_mem_cons.mpr ⟨lw_p53, List.forall_mem_cons.mpr ⟨lw_p54, List.forall_mem_cons.mpr ⟨lw_p55, List.forall_mem_cons.mpr ⟨lw_p56, List.forall_mem_cons.mpr ⟨lw_p57, List.forall_mem_cons.mpr ⟨lw_p58, List.forall_mem_cons.mpr ⟨lw_p59, List.forall_mem_cons.mpr ⟨lw_p60, List.forall_mem_cons.mpr ⟨lw_p61, List.forall_mem_cons.mpr ⟨lw_p62, List.forall_mem_cons.mpr ⟨lw_p63, fun _ h => absurd h List.not_mem_nil⟩⟩⟩⟩⟩⟩⟩⟩⟩⟩⟩⟩⟩⟩⟩⟩
theorem lw_p64 : lw_okq (⟨"StinkhornParishModel", "clearBank", "()V"⟩, 62) := ⟨⟨by decide +kernel, by decide +kernel⟩, List.mem_of_getElem? (i := 933) (by decide +kernel), List.mem_of_getElem? (i := 939) (by decide +kernel), List.mem_of_getElem? (i := 940) (by decide +kernel)⟩
theorem lw_p65 : lw_okq (⟨"StinkhornParishModel", "startAnew", "()V"⟩, 62) := ⟨⟨by decide +kernel, by decide +kernel⟩, List.mem_of_getElem? (i := 933) (by decide +kernel), List.mem_of_getElem? (i := 943) (by decide +kernel), List.mem_of_getElem? (i := 944) (by decide +kernel)⟩
theorem lw_p66 : lw_okq (⟨"StinkhornParishModel", "layTold", "()V"⟩, 62) := ⟨⟨by decide +kernel, by decide +kernel⟩, List.mem_of_getElem? (i := 933) (by decide +kernel), List.mem_of_getElem? (i := 947) (by decide +kernel), List.mem_of_getElem? (i := 948) (by decide +kernel)⟩
theorem lw_p67 : lw_okq (⟨"StinkhornParishModel", "signOf", "(I)I"⟩, 62) := ⟨⟨by decide +kernel, by decide +kernel⟩, List.mem_of_getElem? (i := 933) (by decide +kernel), List.mem_of_getElem? (i := 951) (by decide +kernel), List.mem_of_getElem? (i := 952) (by decide +kernel)⟩
theorem lw_p68 : lw_okq (⟨"StinkhornParishModel", "comes", "()I"⟩, 62) := ⟨⟨by decide +kernel, by decide +kernel⟩, List.mem_of_getElem? (i := 933) (by decide +kernel), List.mem_of_getElem? (i := 958) (by decide +kernel), List.mem_of_getElem? (i := 959) (by decide +kernel)⟩
theorem lw_p69 : lw_okq (⟨"StinkhornParishModel", "asked", "(II)I"⟩, 62) := ⟨⟨by decide +kernel, by decide +kernel⟩, List.mem_of_getElem? (i := 933) (by decide +kernel), List.mem_of_getElem? (i := 965) (by decide +kernel), List.mem_of_getElem? (i := 966) (by decide +kernel)⟩
theorem lw_p70 : lw_okq (⟨"StinkhornParishModel", "shameOf", "(I)I"⟩, 62) := ⟨⟨by decide +kernel, by decide +kernel⟩, List.mem_of_getElem? (i := 933) (by decide +kernel), List.mem_of_getElem? (i := 972) (by decide +kernel), List.mem_of_getElem? (i := 973) (by decide +kernel)⟩
theorem lw_p71 : lw_okq (⟨"StinkhornParishModel", "folk", "()I"⟩, 62) := ⟨⟨by decide +kernel, by decide +kernel⟩, List.mem_of_getElem? (i := 933) (by decide +kernel), List.mem_of_getElem? (i := 976) (by decide +kernel), List.mem_of_getElem? (i := 977) (by decide +kernel)⟩
theorem lw_p72 : lw_okq (⟨"StinkhornParishModel", "every", "()I"⟩, 62) := ⟨⟨by decide +kernel, by decide +kernel⟩, List.mem_of_getElem? (i := 933) (by decide +kernel), List.mem_of_getElem? (i := 989) (by decide +kernel), List.mem_of_getElem? (i := 990) (by decide +kernel)⟩
theorem lw_p73 : lw_okq (⟨"StinkhornParishModel", "goOn", "()V"⟩, 62) := ⟨⟨by decide +kernel, by decide +kernel⟩, List.mem_of_getElem? (i := 933) (by decide +kernel), List.mem_of_getElem? (i := 1184) (by decide +kernel), List.mem_of_getElem? (i := 1185) (by decide +kernel)⟩
theorem lw_p74 : lw_okq (⟨"StinkhornParishModel", "byteAt", "(I)I"⟩, 62) := ⟨⟨by decide +kernel, by decide +kernel⟩, List.mem_of_getElem? (i := 933) (by decide +kernel), List.mem_of_getElem? (i := 1188) (by decide +kernel), List.mem_of_getElem? (i := 1189) (by decide +kernel)⟩
theorem lw_p75 : lw_okq (⟨"StinkhornParishModel", "isGood", "()Z"⟩, 62) := ⟨⟨by decide +kernel, by decide +kernel⟩, List.mem_of_getElem? (i := 933) (by decide +kernel), List.mem_of_getElem? (i := 1216) (by decide +kernel), List.mem_of_getElem? (i := 1217) (by decide +kernel)⟩
theorem lw_p76 : lw_okq (⟨"StinkhornParishModel", "readLine", "()V"⟩, 62) := ⟨⟨by decide +kernel, by decide +kernel⟩, List.mem_of_getElem? (i := 933) (by decide +kernel), List.mem_of_getElem? (i := 1220) (by decide +kernel), List.mem_of_getElem? (i := 1221) (by decide +kernel)⟩
theorem lw_p77 : lw_okq (⟨"StinkhornParishModel", "isFull", "()Z"⟩, 62) := ⟨⟨by decide +kernel, by decide +kernel⟩, List.mem_of_getElem? (i := 933) (by decide +kernel), List.mem_of_getElem? (i := 1224) (by decide +kernel), List.mem_of_getElem? (i := 1225) (by decide +kernel)⟩
theorem lw_p78 : lw_okq (⟨"StinkhornParishModel", "isWord", "(J)Z"⟩, 62) := ⟨⟨by decide +kernel, by decide +kernel⟩, List.mem_of_getElem? (i := 933) (by decide +kernel), List.mem_of_getElem? (i := 1228) (by decide +kernel), List.mem_of_getElem? (i := 1229) (by decide +kernel)⟩
theorem lw_p79 : lw_okq (⟨"StinkhornParishModel", "misplaced", "()V"⟩, 62) := ⟨⟨by decide +kernel, by decide +kernel⟩, List.mem_of_getElem? (i := 933) (by decide +kernel), List.mem_of_getElem? (i := 1232) (by decide +kernel), List.mem_of_getElem? (i := 1233) (by decide +kernel)⟩
def lw_privs_5 : List (MethodName × Nat) := [(⟨"StinkhornParishModel", "clearBank", "()V"⟩, 62), (⟨"StinkhornParishModel", "startAnew", "()V"⟩, 62), (⟨"StinkhornParishModel", "layTold", "()V"⟩, 62), (⟨"StinkhornParishModel", "signOf", "(I)I"⟩, 62), (⟨"StinkhornParishModel", "comes", "()I"⟩, 62), (⟨"StinkhornParishModel", "asked", "(II)I"⟩, 62), (⟨"StinkhornParishModel", "shameOf", "(I)I"⟩, 62), (⟨"StinkhornParishModel", "folk", "()I"⟩, 62), (⟨"StinkhornParishModel", "every", "()I"⟩, 62), (⟨"StinkhornParishModel", "goOn", "()V"⟩, 62), (⟨"StinkhornParishModel", "byteAt", "(I)I"⟩, 62), (⟨"StinkhornParishModel", "isGood", "()Z"⟩, 62), (⟨"StinkhornParishModel", "readLine", "()V"⟩, 62), (⟨"StinkhornParishModel", "isFull", "()Z"⟩, 62), (⟨"StinkhornParishModel", "isWord", "(J)Z"⟩, 62), (⟨"StinkhornParishModel", "misplaced", "()V"⟩, 62)]
theorem lw_r5 : ∀ q ∈ lw_privs_5, lw_okq q := List.forall_mem_cons.mpr ⟨lw_p64, List.forall_mem_cons.mpr ⟨lw_p65, List.forall_mem_cons.mpr ⟨lw_p66, List.forall_mem_cons.mpr ⟨lw_p67, List.forall_mem_cons.mpr ⟨lw_p68, List.forall_mem_cons.mpr ⟨lw_p69, List.forall_mem_cons.mpr ⟨lw_p70, List.forall_mem_cons.mpr ⟨lw_p71, List.forall_mem_cons.mpr ⟨lw_p72, List.forall_mem_cons.mpr ⟨lw_p73, List.forall_mem_cons.mpr ⟨lw_p74, List.forall_mem_cons.mpr ⟨lw_p75, List.forall_mem_cons.mpr ⟨lw_p76, List.forall_mem_cons.mpr ⟨lw_p77, List.forall_mem_cons.mpr ⟨lw_p78, List.forall_mem_cons.mpr ⟨lw_p79, fun _ h => absurd h List.not_mem_nil⟩⟩⟩⟩⟩⟩⟩⟩⟩⟩⟩⟩⟩⟩⟩⟩
theorem lw_p80 : lw_okq (⟨"StinkhornParishModel", "fails", "(II)V"⟩, 62) := ⟨⟨by decide +kernel, by decide +kernel⟩, List.mem_of_getElem? (i := 933) (by decide +kernel), List.mem_of_getElem? (i := 1236) (by decide +kernel), List.mem_of_getElem? (i := 1237) (by decide +kernel)⟩
theorem lw_p81 : lw_okq (⟨"StinkhornParishModel", "readPerson", "()V"⟩, 62) := ⟨⟨by decide +kernel, by decide +kernel⟩, List.mem_of_getElem? (i := 933) (by decide +kernel), List.mem_of_getElem? (i := 1240) (by decide +kernel), List.mem_of_getElem? (i := 1241) (by decide +kernel)⟩
theorem lw_p82 : lw_okq (⟨"StinkhornParishModel", "here", "()I"⟩, 62) := ⟨⟨by decide +kernel, by decide +kernel⟩, List.mem_of_getElem? (i := 933) (by decide +kernel), List.mem_of_getElem? (i := 1244) (by decide +kernel), List.mem_of_getElem? (i := 1245) (by decide +kernel)⟩
theorem lw_p83 : lw_okq (⟨"StinkhornParishModel", "must", "(Z)V"⟩, 62) := ⟨⟨by decide +kernel, by decide +kernel⟩, List.mem_of_getElem? (i := 933) (by decide +kernel), List.mem_of_getElem? (i := 1248) (by decide +kernel), List.mem_of_getElem? (i := 1249) (by decide +kernel)⟩
theorem lw_p84 : lw_okq (⟨"StinkhornParishModel", "perhaps", "(J)I"⟩, 62) := ⟨⟨by decide +kernel, by decide +kernel⟩, List.mem_of_getElem? (i := 933) (by decide +kernel), List.mem_of_getElem? (i := 1252) (by decide +kernel), List.mem_of_getElem? (i := 1253) (by decide +kernel)⟩
theorem lw_p85 : lw_okq (⟨"StinkhornParishModel", "numeral", "(II)I"⟩, 62) := ⟨⟨by decide +kernel, by decide +kernel⟩, List.mem_of_getElem? (i := 933) (by decide +kernel), List.mem_of_getElem? (i := 1256) (by decide +kernel), List.mem_of_getElem? (i := 1257) (by decide +kernel)⟩
theorem lw_p86 : lw_okq (⟨"StinkhornParishModel", "readKnows", "()V"⟩, 62) := ⟨⟨by decide +kernel, by decide +kernel⟩, List.mem_of_getElem? (i := 933) (by decide +kernel), List.mem_of_getElem? (i := 1260) (by decide +kernel), List.mem_of_getElem? (i := 1261) (by decide +kernel)⟩
theorem lw_p87 : lw_okq (⟨"StinkhornParishModel", "someone", "(I)I"⟩, 62) := ⟨⟨by decide +kernel, by decide +kernel⟩, List.mem_of_getElem? (i := 933) (by decide +kernel), List.mem_of_getElem? (i := 1264) (by decide +kernel), List.mem_of_getElem? (i := 1265) (by decide +kernel)⟩
theorem lw_p88 : lw_okq (⟨"StinkhornParishModel", "readRule", "()V"⟩, 62) := ⟨⟨by decide +kernel, by decide +kernel⟩, List.mem_of_getElem? (i := 933) (by decide +kernel), List.mem_of_getElem? (i := 1268) (by decide +kernel), List.mem_of_getElem? (i := 1269) (by decide +kernel)⟩
theorem lw_p89 : lw_okq (⟨"StinkhornParishModel", "e", "()V"⟩, 62) := ⟨⟨by decide +kernel, by decide +kernel⟩, List.mem_of_getElem? (i := 933) (by decide +kernel), List.mem_of_getElem? (i := 1272) (by decide +kernel), List.mem_of_getElem? (i := 1273) (by decide +kernel)⟩
theorem lw_p90 : lw_okq (⟨"StinkhornParishModel", "pushE", "(II)V"⟩, 62) := ⟨⟨by decide +kernel, by decide +kernel⟩, List.mem_of_getElem? (i := 933) (by decide +kernel), List.mem_of_getElem? (i := 1276) (by decide +kernel), List.mem_of_getElem? (i := 1277) (by decide +kernel)⟩
theorem lw_p91 : lw_okq (⟨"StinkhornParishModel", "unit", "()Z"⟩, 62) := ⟨⟨by decide +kernel, by decide +kernel⟩, List.mem_of_getElem? (i := 933) (by decide +kernel), List.mem_of_getElem? (i := 1280) (by decide +kernel), List.mem_of_getElem? (i := 1281) (by decide +kernel)⟩
theorem lw_p92 : lw_okq (⟨"StinkhornParishModel", "isSignHere", "(I)Z"⟩, 62) := ⟨⟨by decide +kernel, by decide +kernel⟩, List.mem_of_getElem? (i := 933) (by decide +kernel), List.mem_of_getElem? (i := 1284) (by decide +kernel), List.mem_of_getElem? (i := 1285) (by decide +kernel)⟩
theorem lw_p93 : lw_okq (⟨"StinkhornParishModel", "wordHere", "()I"⟩, 62) := ⟨⟨by decide +kernel, by decide +kernel⟩, List.mem_of_getElem? (i := 933) (by decide +kernel), List.mem_of_getElem? (i := 1288) (by decide +kernel), List.mem_of_getElem? (i := 1289) (by decide +kernel)⟩
theorem lw_p94 : lw_okq (⟨"StinkhornParishModel", "emit", "(II)V"⟩, 62) := ⟨⟨by decide +kernel, by decide +kernel⟩, List.mem_of_getElem? (i := 933) (by decide +kernel), List.mem_of_getElem? (i := 1292) (by decide +kernel), List.mem_of_getElem? (i := 1293) (by decide +kernel)⟩
theorem lw_p95 : lw_okq (⟨"StinkhornParishModel", "behindUnit", "()Z"⟩, 62) := ⟨⟨by decide +kernel, by decide +kernel⟩, List.mem_of_getElem? (i := 933) (by decide +kernel), List.mem_of_getElem? (i := 1296) (by decide +kernel), List.mem_of_getElem? (i := 1297) (by decide +kernel)⟩
def lw_privs_6 : List (MethodName × Nat) := [(⟨"StinkhornParishModel", "fails", "(II)V"⟩, 62), (⟨"StinkhornParishModel", "readPerson", "()V"⟩, 62), (⟨"StinkhornParishModel", "here", "()I"⟩, 62), (⟨"StinkhornParishModel", "must", "(Z)V"⟩, 62), (⟨"StinkhornParishModel", "perhaps", "(J)I"⟩, 62), (⟨"StinkhornParishModel", "numeral", "(II)I"⟩, 62), (⟨"StinkhornParishModel", "readKnows", "()V"⟩, 62), (⟨"StinkhornParishModel", "someone", "(I)I"⟩, 62), (⟨"StinkhornParishModel", "readRule", "()V"⟩, 62), (⟨"StinkhornParishModel", "e", "()V"⟩, 62), (⟨"StinkhornParishModel", "pushE", "(II)V"⟩, 62), (⟨"StinkhornParishModel", "unit", "()Z"⟩, 62), (⟨"StinkhornParishModel", "isSignHere", "(I)Z"⟩, 62), (⟨"StinkhornParishModel", "wordHere", "()I"⟩, 62), (⟨"StinkhornParishModel", "emit", "(II)V"⟩, 62), (⟨"StinkhornParishModel", "behindUnit", "()Z"⟩, 62)]
theorem lw_r6 : ∀ q ∈ lw_privs_6, lw_okq q := List.forall_mem_cons.mpr ⟨lw_p80, List.forall_mem_cons.mpr ⟨lw_p81, List.forall_mem_cons.mpr ⟨lw_p82, List.forall_mem_cons.mpr ⟨lw_p83, List.forall_mem_cons.mpr ⟨lw_p84, List.forall_mem_cons.mpr ⟨lw_p85, List.forall_mem_cons.mpr ⟨lw_p86, List.forall_mem_cons.mpr ⟨lw_p87, List.forall_mem_cons.mpr ⟨lw_p88, List.forall_mem_cons.mpr ⟨lw_p89, List.forall_mem_cons.mpr ⟨lw_p90, List.forall_mem_cons.mpr ⟨lw_p91, List.forall_mem_cons.mpr ⟨lw_p92, List.forall_mem_cons.mpr ⟨lw_p93, List.forall_mem_cons.mpr ⟨lw_p94, List.forall_mem_cons.mpr ⟨lw_p95, fun _ h => absurd h List.not_mem_nil⟩⟩⟩⟩⟩⟩⟩⟩⟩⟩⟩⟩⟩⟩⟩⟩
theorem lw_p96 : lw_okq (⟨"StinkhornParishModel", "rankHere", "()I"⟩, 62) := ⟨⟨by decide +kernel, by decide +kernel⟩, List.mem_of_getElem? (i := 933) (by decide +kernel), List.mem_of_getElem? (i := 1300) (by decide +kernel), List.mem_of_getElem? (i := 1301) (by decide +kernel)⟩
theorem lw_p97 : lw_okq (⟨"StinkhornParishModel", "isCompared", "()Z"⟩, 62) := ⟨⟨by decide +kernel, by decide +kernel⟩, List.mem_of_getElem? (i := 933) (by decide +kernel), List.mem_of_getElem? (i := 1304) (by decide +kernel), List.mem_of_getElem? (i := 1305) (by decide +kernel)⟩
theorem lw_p98 : lw_okq (⟨"StinkhornParishModel", "once", "(II)I"⟩, 62) := ⟨⟨by decide +kernel, by decide +kernel⟩, List.mem_of_getElem? (i := 933) (by decide +kernel), List.mem_of_getElem? (i := 1308) (by decide +kernel), List.mem_of_getElem? (i := 1309) (by decide +kernel)⟩
theorem lw_p99 : lw_okq (⟨"StinkhornParishModel", "isPerson", "(I)Z"⟩, 62) := ⟨⟨by decide +kernel, by decide +kernel⟩, List.mem_of_getElem? (i := 933) (by decide +kernel), List.mem_of_getElem? (i := 1320) (by decide +kernel), List.mem_of_getElem? (i := 1321) (by decide +kernel)⟩
theorem lw_p100 : lw_okq (⟨"StinkhornParishModel", "isWorld", "(I)Z"⟩, 62) := ⟨⟨by decide +kernel, by decide +kernel⟩, List.mem_of_getElem? (i := 933) (by decide +kernel), List.mem_of_getElem? (i := 1331) (by decide +kernel), List.mem_of_getElem? (i := 1332) (by decide +kernel)⟩
theorem lw_p101 : lw_okq (⟨"StinkhornParishModel", "countMay", "()I"⟩, 62) := ⟨⟨by decide +kernel, by decide +kernel⟩, List.mem_of_getElem? (i := 933) (by decide +kernel), List.mem_of_getElem? (i := 1344) (by decide +kernel), List.mem_of_getElem? (i := 1345) (by decide +kernel)⟩
theorem lw_p102 : lw_okq (⟨"StinkhornParishModel", "layKnowledge", "()V"⟩, 62) := ⟨⟨by decide +kernel, by decide +kernel⟩, List.mem_of_getElem? (i := 933) (by decide +kernel), List.mem_of_getElem? (i := 1352) (by decide +kernel), List.mem_of_getElem? (i := 1353) (by decide +kernel)⟩
theorem lw_p103 : lw_okq (⟨"StinkhornParishModel", "classOf", "(II)I"⟩, 62) := ⟨⟨by decide +kernel, by decide +kernel⟩, List.mem_of_getElem? (i := 933) (by decide +kernel), List.mem_of_getElem? (i := 1356) (by decide +kernel), List.mem_of_getElem? (i := 1357) (by decide +kernel)⟩
theorem lw_p104 : lw_okq (⟨"StinkhornParishModel", "knownIn", "(III)I"⟩, 62) := ⟨⟨by decide +kernel, by decide +kernel⟩, List.mem_of_getElem? (i := 933) (by decide +kernel), List.mem_of_getElem? (i := 1360) (by decide +kernel), List.mem_of_getElem? (i := 1361) (by decide +kernel)⟩
theorem lw_p105 : lw_okq (⟨"StinkhornParishModel", "mayBe", "(I)Z"⟩, 62) := ⟨⟨by decide +kernel, by decide +kernel⟩, List.mem_of_getElem? (i := 933) (by decide +kernel), List.mem_of_getElem? (i := 1368) (by decide +kernel), List.mem_of_getElem? (i := 1369) (by decide +kernel)⟩
theorem lw_p106 : lw_okq (⟨"StinkhornParishModel", "knowers", "(I)I"⟩, 62) := ⟨⟨by decide +kernel, by decide +kernel⟩, List.mem_of_getElem? (i := 933) (by decide +kernel), List.mem_of_getElem? (i := 1384) (by decide +kernel), List.mem_of_getElem? (i := 1385) (by decide +kernel)⟩
theorem lw_p107 : lw_okq (⟨"StinkhornParishModel", "ownIn", "(I)I"⟩, 62) := ⟨⟨by decide +kernel, by decide +kernel⟩, List.mem_of_getElem? (i := 933) (by decide +kernel), List.mem_of_getElem? (i := 1427) (by decide +kernel), List.mem_of_getElem? (i := 1428) (by decide +kernel)⟩
theorem lw_p108 : lw_okq (⟨"StinkhornParishModel", "bearsOf", "(I)I"⟩, 62) := ⟨⟨by decide +kernel, by decide +kernel⟩, List.mem_of_getElem? (i := 933) (by decide +kernel), List.mem_of_getElem? (i := 1431) (by decide +kernel), List.mem_of_getElem? (i := 1432) (by decide +kernel)⟩
theorem lw_p109 : lw_okq (⟨"StinkhornParishModel", "layIsSo", "(I)V"⟩, 62) := ⟨⟨by decide +kernel, by decide +kernel⟩, List.mem_of_getElem? (i := 933) (by decide +kernel), List.mem_of_getElem? (i := 1443) (by decide +kernel), List.mem_of_getElem? (i := 1444) (by decide +kernel)⟩
theorem lw_p110 : lw_okq (⟨"StinkhornParishModel", "deepen", "()V"⟩, 62) := ⟨⟨by decide +kernel, by decide +kernel⟩, List.mem_of_getElem? (i := 933) (by decide +kernel), List.mem_of_getElem? (i := 1447) (by decide +kernel), List.mem_of_getElem? (i := 1448) (by decide +kernel)⟩
theorem lw_p111 : lw_okq (⟨"StinkhornParishModel", "keepAct", "()V"⟩, 62) := ⟨⟨by decide +kernel, by decide +kernel⟩, List.mem_of_getElem? (i := 933) (by decide +kernel), List.mem_of_getElem? (i := 1463) (by decide +kernel), List.mem_of_getElem? (i := 1464) (by decide +kernel)⟩
def lw_privs_7 : List (MethodName × Nat) := [(⟨"StinkhornParishModel", "rankHere", "()I"⟩, 62), (⟨"StinkhornParishModel", "isCompared", "()Z"⟩, 62), (⟨"StinkhornParishModel", "once", "(II)I"⟩, 62), (⟨"StinkhornParishModel", "isPerson", "(I)Z"⟩, 62), (⟨"StinkhornParishModel", "isWorld", "(I)Z"⟩, 62), (⟨"StinkhornParishModel", "countMay", "()I"⟩, 62), (⟨"StinkhornParishModel", "layKnowledge", "()V"⟩, 62), (⟨"StinkhornParishModel", "classOf", "(II)I"⟩, 62), (⟨"StinkhornParishModel", "knownIn", "(III)I"⟩, 62), (⟨"StinkhornParishModel", "mayBe", "(I)Z"⟩, 62), (⟨"StinkhornParishModel", "knowers", "(I)I"⟩, 62), (⟨"StinkhornParishModel", "ownIn", "(I)I"⟩, 62), (⟨"StinkhornParishModel", "bearsOf", "(I)I"⟩, 62), (⟨"StinkhornParishModel", "layIsSo", "(I)V"⟩, 62), (⟨"StinkhornParishModel", "deepen", "()V"⟩, 62), (⟨"StinkhornParishModel", "keepAct", "()V"⟩, 62)]
theorem lw_r7 : ∀ q ∈ lw_privs_7, lw_okq q := List.forall_mem_cons.mpr ⟨lw_p96, List.forall_mem_cons.mpr ⟨lw_p97, List.forall_mem_cons.mpr ⟨lw_p98, List.forall_mem_cons.mpr ⟨lw_p99, List.forall_mem_cons.mpr ⟨lw_p100, List.forall_mem_cons.mpr ⟨lw_p101, List.forall_mem_cons.mpr ⟨lw_p102, List.forall_mem_cons.mpr ⟨lw_p103, List.forall_mem_cons.mpr ⟨lw_p104, List.forall_mem_cons.mpr ⟨lw_p105, List.forall_mem_cons.mpr ⟨lw_p106, List.forall_mem_cons.mpr ⟨lw_p107, List.forall_mem_cons.mpr ⟨lw_p108, List.forall_mem_cons.mpr ⟨lw_p109, List.forall_mem_cons.mpr ⟨lw_p110, List.forall_mem_cons.mpr ⟨lw_p111, fun _ h => absurd h List.not_mem_nil⟩⟩⟩⟩⟩⟩⟩⟩⟩⟩⟩⟩⟩⟩⟩⟩
theorem lw_p112 : lw_okq (⟨"StinkhornParishModel", "goInEarnest", "()I"⟩, 62) := ⟨⟨by decide +kernel, by decide +kernel⟩, List.mem_of_getElem? (i := 933) (by decide +kernel), List.mem_of_getElem? (i := 1467) (by decide +kernel), List.mem_of_getElem? (i := 1468) (by decide +kernel)⟩
theorem lw_p113 : lw_okq (⟨"StinkhornParishModel", "goMorning", "()I"⟩, 62) := ⟨⟨by decide +kernel, by decide +kernel⟩, List.mem_of_getElem? (i := 933) (by decide +kernel), List.mem_of_getElem? (i := 1471) (by decide +kernel), List.mem_of_getElem? (i := 1472) (by decide +kernel)⟩
theorem lw_p114 : lw_okq (⟨"StinkhornParishModel", "goAsk", "(I)I"⟩, 62) := ⟨⟨by decide +kernel, by decide +kernel⟩, List.mem_of_getElem? (i := 933) (by decide +kernel), List.mem_of_getElem? (i := 1483) (by decide +kernel), List.mem_of_getElem? (i := 1484) (by decide +kernel)⟩
theorem lw_p115 : lw_okq (⟨"StinkhornParishModel", "goPeg", "(I)I"⟩, 62) := ⟨⟨by decide +kernel, by decide +kernel⟩, List.mem_of_getElem? (i := 933) (by decide +kernel), List.mem_of_getElem? (i := 1491) (by decide +kernel), List.mem_of_getElem? (i := 1492) (by decide +kernel)⟩
theorem lw_p116 : lw_okq (⟨"StinkhornParishModel", "canWhisper", "(II)Z"⟩, 62) := ⟨⟨by decide +kernel, by decide +kernel⟩, List.mem_of_getElem? (i := 933) (by decide +kernel), List.mem_of_getElem? (i := 1499) (by decide +kernel), List.mem_of_getElem? (i := 1500) (by decide +kernel)⟩
theorem lw_p117 : lw_okq (⟨"StinkhornParishModel", "swapAll", "()V"⟩, 62) := ⟨⟨by decide +kernel, by decide +kernel⟩, List.mem_of_getElem? (i := 933) (by decide +kernel), List.mem_of_getElem? (i := 1507) (by decide +kernel), List.mem_of_getElem? (i := 1508) (by decide +kernel)⟩
theorem lw_p118 : lw_okq (⟨"StinkhornParishModel", "endNow", "()I"⟩, 62) := ⟨⟨by decide +kernel, by decide +kernel⟩, List.mem_of_getElem? (i := 933) (by decide +kernel), List.mem_of_getElem? (i := 1523) (by decide +kernel), List.mem_of_getElem? (i := 1524) (by decide +kernel)⟩
theorem lw_p119 : lw_okq (⟨"StinkhornParishModel", "keepNow", "()V"⟩, 62) := ⟨⟨by decide +kernel, by decide +kernel⟩, List.mem_of_getElem? (i := 933) (by decide +kernel), List.mem_of_getElem? (i := 1527) (by decide +kernel), List.mem_of_getElem? (i := 1528) (by decide +kernel)⟩
theorem lw_p120 : lw_okq (⟨"StinkhornParishModel", "endOf", "()I"⟩, 62) := ⟨⟨by decide +kernel, by decide +kernel⟩, List.mem_of_getElem? (i := 933) (by decide +kernel), List.mem_of_getElem? (i := 1531) (by decide +kernel), List.mem_of_getElem? (i := 1532) (by decide +kernel)⟩
theorem lw_p121 : lw_okq (⟨"StinkhornParishModel", "behind", "(IZ)I"⟩, 62) := ⟨⟨by decide +kernel, by decide +kernel⟩, List.mem_of_getElem? (i := 933) (by decide +kernel), List.mem_of_getElem? (i := 1535) (by decide +kernel), List.mem_of_getElem? (i := 1536) (by decide +kernel)⟩
theorem lw_p122 : lw_okq (⟨"StinkhornParishModel", "bringBack", "()V"⟩, 62) := ⟨⟨by decide +kernel, by decide +kernel⟩, List.mem_of_getElem? (i := 933) (by decide +kernel), List.mem_of_getElem? (i := 1539) (by decide +kernel), List.mem_of_getElem? (i := 1540) (by decide +kernel)⟩
theorem lw_p123 : lw_okq (⟨"StinkhornParishModel", "fateOf", "(I)I"⟩, 62) := ⟨⟨by decide +kernel, by decide +kernel⟩, List.mem_of_getElem? (i := 933) (by decide +kernel), List.mem_of_getElem? (i := 1566) (by decide +kernel), List.mem_of_getElem? (i := 1567) (by decide +kernel)⟩
theorem lw_p124 : lw_okq (⟨"StinkhornParishModel", "endPegged", "(I)I"⟩, 62) := ⟨⟨by decide +kernel, by decide +kernel⟩, List.mem_of_getElem? (i := 933) (by decide +kernel), List.mem_of_getElem? (i := 1594) (by decide +kernel), List.mem_of_getElem? (i := 1595) (by decide +kernel)⟩
theorem lw_p125 : lw_okq (⟨"StinkhornParishModel", "isTold", "(II)Z"⟩, 62) := ⟨⟨by decide +kernel, by decide +kernel⟩, List.mem_of_getElem? (i := 933) (by decide +kernel), List.mem_of_getElem? (i := 1612) (by decide +kernel), List.mem_of_getElem? (i := 1613) (by decide +kernel)⟩
theorem lw_p126 : lw_okq (⟨"StinkhornParishModel", "layOwns", "(I)V"⟩, 62) := ⟨⟨by decide +kernel, by decide +kernel⟩, List.mem_of_getElem? (i := 933) (by decide +kernel), List.mem_of_getElem? (i := 1652) (by decide +kernel), List.mem_of_getElem? (i := 1653) (by decide +kernel)⟩
theorem lw_p127 : lw_okq (⟨"StinkhornParishModel", "doesFit", "(II)Z"⟩, 62) := ⟨⟨by decide +kernel, by decide +kernel⟩, List.mem_of_getElem? (i := 933) (by decide +kernel), List.mem_of_getElem? (i := 1656) (by decide +kernel), List.mem_of_getElem? (i := 1657) (by decide +kernel)⟩
def lw_privs_8 : List (MethodName × Nat) := [(⟨"StinkhornParishModel", "goInEarnest", "()I"⟩, 62), (⟨"StinkhornParishModel", "goMorning", "()I"⟩, 62), (⟨"StinkhornParishModel", "goAsk", "(I)I"⟩, 62), (⟨"StinkhornParishModel", "goPeg", "(I)I"⟩, 62), (⟨"StinkhornParishModel", "canWhisper", "(II)Z"⟩, 62), (⟨"StinkhornParishModel", "swapAll", "()V"⟩, 62), (⟨"StinkhornParishModel", "endNow", "()I"⟩, 62), (⟨"StinkhornParishModel", "keepNow", "()V"⟩, 62), (⟨"StinkhornParishModel", "endOf", "()I"⟩, 62), (⟨"StinkhornParishModel", "behind", "(IZ)I"⟩, 62), (⟨"StinkhornParishModel", "bringBack", "()V"⟩, 62), (⟨"StinkhornParishModel", "fateOf", "(I)I"⟩, 62), (⟨"StinkhornParishModel", "endPegged", "(I)I"⟩, 62), (⟨"StinkhornParishModel", "isTold", "(II)Z"⟩, 62), (⟨"StinkhornParishModel", "layOwns", "(I)V"⟩, 62), (⟨"StinkhornParishModel", "doesFit", "(II)Z"⟩, 62)]
theorem lw_r8 : ∀ q ∈ lw_privs_8, lw_okq q := List.forall_mem_cons.mpr ⟨lw_p112, List.forall_mem_cons.mpr ⟨lw_p113, List.forall_mem_cons.mpr ⟨lw_p114, List.forall_mem_cons.mpr ⟨lw_p115, List.forall_mem_cons.mpr ⟨lw_p116, List.forall_mem_cons.mpr ⟨lw_p117, List.forall_mem_cons.mpr ⟨lw_p118, List.forall_mem_cons.mpr ⟨lw_p119, List.forall_mem_cons.mpr ⟨lw_p120, List.forall_mem_cons.mpr ⟨lw_p121, List.forall_mem_cons.mpr ⟨lw_p122, List.forall_mem_cons.mpr ⟨lw_p123, List.forall_mem_cons.mpr ⟨lw_p124, List.forall_mem_cons.mpr ⟨lw_p125, List.forall_mem_cons.mpr ⟨lw_p126, List.forall_mem_cons.mpr ⟨lw_p127, fun _ h => absurd h List.not_mem_nil⟩⟩⟩⟩⟩⟩⟩⟩⟩⟩⟩⟩⟩⟩⟩⟩
theorem lw_p128 : lw_okq (⟨"StinkhornParishModel", "mostBy", "(II)I"⟩, 62) := ⟨⟨by decide +kernel, by decide +kernel⟩, List.mem_of_getElem? (i := 933) (by decide +kernel), List.mem_of_getElem? (i := 1668) (by decide +kernel), List.mem_of_getElem? (i := 1669) (by decide +kernel)⟩
def lw_privs_9 : List (MethodName × Nat) := [(⟨"StinkhornParishModel", "mostBy", "(II)I"⟩, 62)]
theorem lw_r9 : ∀ q ∈ lw_privs_9, lw_okq q := List.forall_mem_cons.mpr ⟨lw_p128, fun _ h => absurd h List.not_mem_nil⟩
def lw_privs : List (MethodName × Nat) := lw_privs_1 ++ (lw_privs_2 ++ (lw_privs_3 ++ (lw_privs_4 ++ (lw_privs_5 ++ (lw_privs_6 ++ (lw_privs_7 ++ (lw_privs_8 ++ (lw_privs_9))))))))
def lw_tbl : List Cond := k2_sels lw_privs ++ tables_1
theorem lw_privs_ok : ∀ q ∈ lw_privs, lw_okq q := by
  show ∀ q ∈ lw_privs_1 ++ (lw_privs_2 ++ (lw_privs_3 ++ (lw_privs_4 ++ (lw_privs_5 ++ (lw_privs_6 ++ (lw_privs_7 ++ (lw_privs_8 ++ (lw_privs_9)))))))), lw_okq q
  exact List.forall_mem_append.mpr ⟨lw_r1, List.forall_mem_append.mpr ⟨lw_r2, List.forall_mem_append.mpr ⟨lw_r3, List.forall_mem_append.mpr ⟨lw_r4, List.forall_mem_append.mpr ⟨lw_r5, List.forall_mem_append.mpr ⟨lw_r6, List.forall_mem_append.mpr ⟨lw_r7, List.forall_mem_append.mpr ⟨lw_r8, lw_r9⟩⟩⟩⟩⟩⟩⟩⟩
def RX0 : String := "StinkhornParish$Acts"
def TX0 : u_T := fun k => match k with
  | 0 => ("StinkhornParish$Acts", "before", "[LStinkhornParish$Day;", true)
  | 1 => ("StinkhornParish$Acts", "behind", "[LStinkhornParish$Day;", true)
  | 2 => ("StinkhornParish$Acts", "oldest", "I", false)
  | 3 => ("StinkhornParish$Acts", "done", "I", false)
  | _ => ("StinkhornParish$Acts", "undone", "I", false)
def tyX0 : Nat → FieldType := fun k => match k with
  | 0 => .array (.object "StinkhornParish$Day")
  | 1 => .array (.object "StinkhornParish$Day")
  | 2 => .int
  | 3 => .int
  | _ => .int
abbrev wsX00 : List Cond := u_ws RX0 TX0 5
theorem nmX0 : ∀ a, a < 5 → ∀ b, b < 5 → a ≠ b → (TX0 a).2.1 ≠ (TX0 b).2.1 := by decide +kernel
theorem tyX0_ok : ∀ k, k < 5 → parseFieldDescriptor (TX0 k).2.2.1 = some (tyX0 k) := by decide +kernel
abbrev cX0_init : ByteArray := prog_2_method_1_code
def yX0_init : MethodName := ⟨RX0, "<init>", "()V"⟩
abbrev cX0_forget : ByteArray := prog_2_method_2_code
def yX0_forget : MethodName := ⟨RX0, "forget", "()V"⟩
abbrev cX0_keep : ByteArray := prog_2_method_3_code
def yX0_keep : MethodName := ⟨RX0, "keep", "(LStinkhornParish$Day;)V"⟩
abbrev cX0_push : ByteArray := prog_2_method_4_code
def yX0_push : MethodName := ⟨RX0, "push", "(LStinkhornParish$Day;)V"⟩
abbrev cX0_takeBack : ByteArray := prog_2_method_5_code
def yX0_takeBack : MethodName := ⟨RX0, "takeBack", "(LStinkhornParish$Day;)Z"⟩
abbrev cX0_doAgain : ByteArray := prog_2_method_6_code
def yX0_doAgain : MethodName := ⟨RX0, "doAgain", "(LStinkhornParish$Day;)Z"⟩
def RX1 : String := "StinkhornParish$Day"
def TX1 : u_T := fun k => match k with
  | 0 => ("StinkhornParish$Day", "left", "J", false)
  | 1 => ("StinkhornParish$Day", "known", "J", false)
  | 2 => ("StinkhornParish$Day", "owned", "I", false)
  | 3 => ("StinkhornParish$Day", "gone", "I", false)
  | _ => ("StinkhornParish$Day", "seed", "I", false)
def tyX1 : Nat → FieldType := fun k => match k with
  | 0 => .long
  | 1 => .long
  | 2 => .int
  | 3 => .int
  | _ => .int
abbrev wsX10 : List Cond := u_ws RX1 TX1 5
theorem nmX1 : ∀ a, a < 5 → ∀ b, b < 5 → a ≠ b → (TX1 a).2.1 ≠ (TX1 b).2.1 := by decide +kernel
theorem tyX1_ok : ∀ k, k < 5 → parseFieldDescriptor (TX1 k).2.2.1 = some (tyX1 k) := by decide +kernel
abbrev cX1_init : ByteArray := prog_3_method_1_code
def yX1_init : MethodName := ⟨RX1, "<init>", "()V"⟩
abbrev cX1_copyFrom : ByteArray := prog_3_method_2_code
def yX1_copyFrom : MethodName := ⟨RX1, "copyFrom", "(LStinkhornParish$Day;)V"⟩
abbrev cX1_knownTo : ByteArray := prog_3_method_3_code
def yX1_knownTo : MethodName := ⟨RX1, "knownTo", "(I)I"⟩
abbrev cX1_addKnown : ByteArray := prog_3_method_4_code
def yX1_addKnown : MethodName := ⟨RX1, "addKnown", "(II)V"⟩
def RX2 : String := "StinkhornParish$Formula"
def TX2 : u_T := fun k => match k with
  | 0 => ("StinkhornParish$Formula", "codes", "[I", true)
  | 1 => ("StinkhornParish$Formula", "stack", "[I", true)
  | _ => ("StinkhornParish$Formula", "length", "I", false)
def tyX2 : Nat → FieldType := fun k => match k with
  | 0 => .array .int
  | 1 => .array .int
  | _ => .int
abbrev wsX20 : List Cond := u_ws RX2 TX2 3
theorem nmX2 : ∀ a, a < 3 → ∀ b, b < 3 → a ≠ b → (TX2 a).2.1 ≠ (TX2 b).2.1 := by decide +kernel
theorem tyX2_ok : ∀ k, k < 3 → parseFieldDescriptor (TX2 k).2.2.1 = some (tyX2 k) := by decide +kernel
abbrev cX2_init : ByteArray := prog_4_method_1_code
def yX2_init : MethodName := ⟨RX2, "<init>", "()V"⟩
abbrev cX2_add : ByteArray := prog_4_method_2_code
def yX2_add : MethodName := ⟨RX2, "add", "(I)V"⟩
abbrev cX2_valueIn : ByteArray := prog_4_method_3_code
def yX2_valueIn : MethodName := ⟨RX2, "valueIn", "(LStinkhornParish$Told;I)I"⟩
abbrev cX2_isUnit : ByteArray := prog_4_method_4_code
def yX2_isUnit : MethodName := ⟨RX2, "isUnit", "(I)Z"⟩
abbrev cX2_unitIn : ByteArray := prog_4_method_5_code
def yX2_unitIn : MethodName := ⟨RX2, "unitIn", "(LStinkhornParish$Told;II)I"⟩
abbrev cX2_join : ByteArray := prog_4_method_6_code
def yX2_join : MethodName := ⟨RX2, "join", "(III)I"⟩
def RX3 : String := "StinkhornParish$Reader"
def TX3 : u_T := fun k => match k with
  | 0 => ("StinkhornParish$Reader", "text", "[B", true)
  | 1 => ("StinkhornParish$Reader", "length", "I", false)
  | 2 => ("StinkhornParish$Reader", "draft", "LStinkhornParish$Told;", true)
  | 3 => ("StinkhornParish$Reader", "formula", "LStinkhornParish$Formula;", true)
  | 4 => ("StinkhornParish$Reader", "token", "I", false)
  | 5 => ("StinkhornParish$Reader", "value", "I", false)
  | 6 => ("StinkhornParish$Reader", "from", "I", false)
  | 7 => ("StinkhornParish$Reader", "to", "I", false)
  | 8 => ("StinkhornParish$Reader", "nameFrom", "[I", true)
  | 9 => ("StinkhornParish$Reader", "nameTo", "[I", true)
  | 10 => ("StinkhornParish$Reader", "toldOnce", "I", false)
  | 11 => ("StinkhornParish$Reader", "wrong", "I", false)
  | _ => ("StinkhornParish$Reader", "place", "I", false)
def tyX3 : Nat → FieldType := fun k => match k with
  | 0 => .array .byte
  | 1 => .int
  | 2 => .object "StinkhornParish$Told"
  | 3 => .object "StinkhornParish$Formula"
  | 4 => .int
  | 5 => .int
  | 6 => .int
  | 7 => .int
  | 8 => .array .int
  | 9 => .array .int
  | 10 => .int
  | 11 => .int
  | _ => .int
abbrev wsX30 : List Cond := u_ws RX3 TX3 13
theorem nmX3 : ∀ a, a < 13 → ∀ b, b < 13 → a ≠ b → (TX3 a).2.1 ≠ (TX3 b).2.1 := by decide +kernel
theorem tyX3_ok : ∀ k, k < 13 → parseFieldDescriptor (TX3 k).2.2.1 = some (tyX3 k) := by decide +kernel
abbrev cX3_init : ByteArray := prog_5_method_1_code
def yX3_init : MethodName := ⟨RX3, "<init>", "()V"⟩
abbrev cX3_append : ByteArray := prog_5_method_2_code
def yX3_append : MethodName := ⟨RX3, "append", "(I)V"⟩
abbrev cX3_read : ByteArray := prog_5_method_3_code
def yX3_read : MethodName := ⟨RX3, "read", "()V"⟩
abbrev cX3_refuse : ByteArray := prog_5_method_4_code
def yX3_refuse : MethodName := ⟨RX3, "refuse", "(I)V"⟩
abbrev cX3_line : ByteArray := prog_5_method_5_code
def yX3_line : MethodName := ⟨RX3, "line", "()V"⟩
abbrev cX3_isFirst : ByteArray := prog_5_method_6_code
def yX3_isFirst : MethodName := ⟨RX3, "isFirst", "(I)Z"⟩
abbrev cX3_personLine : ByteArray := prog_5_method_7_code
def yX3_personLine : MethodName := ⟨RX3, "personLine", "()V"⟩
abbrev cX3_knowsLine : ByteArray := prog_5_method_8_code
def yX3_knowsLine : MethodName := ⟨RX3, "knowsLine", "()V"⟩
abbrev cX3_somebody : ByteArray := prog_5_method_9_code
def yX3_somebody : MethodName := ⟨RX3, "somebody", "()I"⟩
abbrev cX3_number : ByteArray := prog_5_method_10_code
def yX3_number : MethodName := ⟨RX3, "number", "(I)I"⟩
abbrev cX3_joined : ByteArray := prog_5_method_11_code
def yX3_joined : MethodName := ⟨RX3, "joined", "(II)V"⟩
abbrev cX3_denied : ByteArray := prog_5_method_12_code
def yX3_denied : MethodName := ⟨RX3, "denied", "(I)V"⟩
abbrev cX3_unit : ByteArray := prog_5_method_13_code
def yX3_unit : MethodName := ⟨RX3, "unit", "(I)V"⟩
abbrev cX3_rankOf : ByteArray := prog_5_method_14_code
def yX3_rankOf : MethodName := ⟨RX3, "rankOf", "(I)I"⟩
abbrev cX3_advance : ByteArray := prog_5_method_15_code
def yX3_advance : MethodName := ⟨RX3, "advance", "()V"⟩
abbrev cX3_readWord : ByteArray := prog_5_method_16_code
def yX3_readWord : MethodName := ⟨RX3, "readWord", "()V"⟩
abbrev cX3_readNumber : ByteArray := prog_5_method_17_code
def yX3_readNumber : MethodName := ⟨RX3, "readNumber", "()V"⟩
abbrev cX3_isLetter : ByteArray := prog_5_method_18_code
def yX3_isLetter : MethodName := ⟨RX3, "isLetter", "(I)Z"⟩
abbrev cX3_isDigit : ByteArray := prog_5_method_19_code
def yX3_isDigit : MethodName := ⟨RX3, "isDigit", "(I)Z"⟩
abbrev cX3_isSign : ByteArray := prog_5_method_20_code
def yX3_isSign : MethodName := ⟨RX3, "isSign", "(I)Z"⟩
abbrev cX3_wordCode : ByteArray := prog_5_method_21_code
def yX3_wordCode : MethodName := ⟨RX3, "wordCode", "()I"⟩
abbrev cX3_named : ByteArray := prog_5_method_22_code
def yX3_named : MethodName := ⟨RX3, "named", "()I"⟩
abbrev cX3_sameText : ByteArray := prog_5_method_23_code
def yX3_sameText : MethodName := ⟨RX3, "sameText", "(II)Z"⟩
def RX4 : String := "StinkhornParish$Sightings"
def TX4 : u_T := fun k => match k with
  | 0 => ("StinkhornParish$Sightings", "mornings", "[I", true)
  | 1 => ("StinkhornParish$Sightings", "whose", "[I", true)
  | 2 => ("StinkhornParish$Sightings", "didOwn", "[Z", true)
  | 3 => ("StinkhornParish$Sightings", "toldAt", "[I", true)
  | 4 => ("StinkhornParish$Sightings", "untoldAt", "[I", true)
  | 5 => ("StinkhornParish$Sightings", "count", "I", false)
  | 6 => ("StinkhornParish$Sightings", "owners", "[J", true)
  | 7 => ("StinkhornParish$Sightings", "whoOn", "[I", true)
  | 8 => ("StinkhornParish$Sightings", "followed", "Z", false)
  | _ => ("StinkhornParish$Sightings", "trial", "LStinkhornParish$Day;", true)
def tyX4 : Nat → FieldType := fun k => match k with
  | 0 => .array .int
  | 1 => .array .int
  | 2 => .array .boolean
  | 3 => .array .int
  | 4 => .array .int
  | 5 => .int
  | 6 => .array .long
  | 7 => .array .int
  | 8 => .boolean
  | _ => .object "StinkhornParish$Day"
abbrev wsX40 : List Cond := u_ws RX4 TX4 10
theorem nmX4 : ∀ a, a < 10 → ∀ b, b < 10 → a ≠ b → (TX4 a).2.1 ≠ (TX4 b).2.1 := by decide +kernel
theorem tyX4_ok : ∀ k, k < 10 → parseFieldDescriptor (TX4 k).2.2.1 = some (tyX4 k) := by decide +kernel
abbrev cX4_init : ByteArray := prog_6_method_1_code
def yX4_init : MethodName := ⟨RX4, "<init>", "()V"⟩
abbrev cX4_forget : ByteArray := prog_6_method_2_code
def yX4_forget : MethodName := ⟨RX4, "forget", "()V"⟩
abbrev cX4_add : ByteArray := prog_6_method_3_code
def yX4_add : MethodName := ⟨RX4, "add", "(IIZI)I"⟩
abbrev cX4_withdraw : ByteArray := prog_6_method_4_code
def yX4_withdraw : MethodName := ⟨RX4, "withdraw", "(II)Z"⟩
abbrev cX4_countsAt : ByteArray := prog_6_method_5_code
def yX4_countsAt : MethodName := ⟨RX4, "countsAt", "(II)Z"⟩
abbrev cX4_fitting : ByteArray := prog_6_method_6_code
def yX4_fitting : MethodName := ⟨RX4, "fitting", "(LStinkhornParish$Told;I)J"⟩
abbrev cX4_ownersOn : ByteArray := prog_6_method_7_code
def yX4_ownersOn : MethodName := ⟨RX4, "ownersOn", "(II)J"⟩
abbrev cX4_followAll : ByteArray := prog_6_method_8_code
def yX4_followAll : MethodName := ⟨RX4, "followAll", "(LStinkhornParish$Told;)V"⟩
abbrev cX4_follow : ByteArray := prog_6_method_9_code
def yX4_follow : MethodName := ⟨RX4, "follow", "(LStinkhornParish$Told;I)J"⟩
def RX5 : String := "StinkhornParish$Told"
def TX5 : u_T := fun k => match k with
  | 0 => ("StinkhornParish$Told", "people", "I", false)
  | 1 => ("StinkhornParish$Told", "keepers", "I", false)
  | 2 => ("StinkhornParish$Told", "shame", "[I", true)
  | 3 => ("StinkhornParish$Told", "bears", "[I", true)
  | 4 => ("StinkhornParish$Told", "longest", "I", false)
  | 5 => ("StinkhornParish$Told", "firstDay", "LStinkhornParish$Day;", true)
  | 6 => ("StinkhornParish$Told", "fog", "I", false)
  | 7 => ("StinkhornParish$Told", "units", "I", false)
  | _ => ("StinkhornParish$Told", "signs", "[I", true)
def tyX5 : Nat → FieldType := fun k => match k with
  | 0 => .int
  | 1 => .int
  | 2 => .array .int
  | 3 => .array .int
  | 4 => .int
  | 5 => .object "StinkhornParish$Day"
  | 6 => .int
  | 7 => .int
  | _ => .array .int
abbrev wsX50 : List Cond := u_ws RX5 TX5 9
theorem nmX5 : ∀ a, a < 9 → ∀ b, b < 9 → a ≠ b → (TX5 a).2.1 ≠ (TX5 b).2.1 := by decide +kernel
theorem tyX5_ok : ∀ k, k < 9 → parseFieldDescriptor (TX5 k).2.2.1 = some (tyX5 k) := by decide +kernel
abbrev cX5_init : ByteArray := prog_7_method_1_code
def yX5_init : MethodName := ⟨RX5, "<init>", "()V"⟩
abbrev cX5_clear : ByteArray := prog_7_method_2_code
def yX5_clear : MethodName := ⟨RX5, "clear", "()V"⟩
abbrev cX5_copyFrom : ByteArray := prog_7_method_3_code
def yX5_copyFrom : MethodName := ⟨RX5, "copyFrom", "(LStinkhornParish$Told;)V"⟩
abbrev cX5_startDay : ByteArray := prog_7_method_4_code
def yX5_startDay : MethodName := ⟨RX5, "startDay", "(LStinkhornParish$Day;I)V"⟩
abbrev cX5_signedLike : ByteArray := prog_7_method_5_code
def yX5_signedLike : MethodName := ⟨RX5, "signedLike", "(I)J"⟩
abbrev cX5_shameIn : ByteArray := prog_7_method_6_code
def yX5_shameIn : MethodName := ⟨RX5, "shameIn", "(I)I"⟩
def RX6 : String := "StinkhornParish"
def TX6 : u_T := fun k => match k with
  | 0 => ("StinkhornParish", "reader", "LStinkhornParish$Reader;", true)
  | 1 => ("StinkhornParish", "told", "LStinkhornParish$Told;", true)
  | 2 => ("StinkhornParish", "now", "LStinkhornParish$Day;", true)
  | 3 => ("StinkhornParish", "trial", "LStinkhornParish$Day;", true)
  | 4 => ("StinkhornParish", "acts", "LStinkhornParish$Acts;", true)
  | 5 => ("StinkhornParish", "boxes", "[LStinkhornParish$Day;", true)
  | 6 => ("StinkhornParish", "kept", "[Z", true)
  | 7 => ("StinkhornParish", "lying", "[I", true)
  | 8 => ("StinkhornParish", "lyingCount", "I", false)
  | 9 => ("StinkhornParish", "sightings", "LStinkhornParish$Sightings;", true)
  | _ => ("StinkhornParish", "time", "I", false)
def tyX6 : Nat → FieldType := fun k => match k with
  | 0 => .object "StinkhornParish$Reader"
  | 1 => .object "StinkhornParish$Told"
  | 2 => .object "StinkhornParish$Day"
  | 3 => .object "StinkhornParish$Day"
  | 4 => .object "StinkhornParish$Acts"
  | 5 => .array (.object "StinkhornParish$Day")
  | 6 => .array .boolean
  | 7 => .array .int
  | 8 => .int
  | 9 => .object "StinkhornParish$Sightings"
  | _ => .int
abbrev wsX60 : List Cond := u_ws RX6 TX6 11
theorem nmX6 : ∀ a, a < 11 → ∀ b, b < 11 → a ≠ b → (TX6 a).2.1 ≠ (TX6 b).2.1 := by decide +kernel
theorem tyX6_ok : ∀ k, k < 11 → parseFieldDescriptor (TX6 k).2.2.1 = some (tyX6 k) := by decide +kernel
abbrev cX6_init : ByteArray := prog_1_method_1_code
def yX6_init : MethodName := ⟨RX6, "<init>", "()V"⟩
abbrev cX6_feed : ByteArray := prog_1_method_2_code
def yX6_feed : MethodName := ⟨RX6, "feed", "(IIIII)I"⟩
abbrev cX6_end : ByteArray := prog_1_method_3_code
def yX6_end : MethodName := ⟨RX6, "end", "(I)I"⟩
abbrev cX6_parish : ByteArray := prog_1_method_4_code
def yX6_parish : MethodName := ⟨RX6, "parish", "()I"⟩
abbrev cX6_startAnew : ByteArray := prog_1_method_5_code
def yX6_startAnew : MethodName := ⟨RX6, "startAnew", "()V"⟩
abbrev cX6_fault : ByteArray := prog_1_method_6_code
def yX6_fault : MethodName := ⟨RX6, "fault", "(I)I"⟩
abbrev cX6_person : ByteArray := prog_1_method_7_code
def yX6_person : MethodName := ⟨RX6, "person", "(II)I"⟩
abbrev cX6_sign : ByteArray := prog_1_method_8_code
def yX6_sign : MethodName := ⟨RX6, "sign", "(I)I"⟩
abbrev cX6_possible : ByteArray := prog_1_method_9_code
def yX6_possible : MethodName := ⟨RX6, "possible", "(I)I"⟩
abbrev cX6_worlds : ByteArray := prog_1_method_10_code
def yX6_worlds : MethodName := ⟨RX6, "worlds", "()I"⟩
abbrev cX6_isPerson : ByteArray := prog_1_method_11_code
def yX6_isPerson : MethodName := ⟨RX6, "isPerson", "(I)Z"⟩
abbrev cX6_arePeople : ByteArray := prog_1_method_12_code
def yX6_arePeople : MethodName := ⟨RX6, "arePeople", "(II)Z"⟩
abbrev cX6_isWorld : ByteArray := prog_1_method_13_code
def yX6_isWorld : MethodName := ⟨RX6, "isWorld", "(I)Z"⟩
abbrev cX6_isPossible : ByteArray := prog_1_method_14_code
def yX6_isPossible : MethodName := ⟨RX6, "isPossible", "(I)Z"⟩
abbrev cX6_morning : ByteArray := prog_1_method_15_code
def yX6_morning : MethodName := ⟨RX6, "morning", "()I"⟩
abbrev cX6_measure : ByteArray := prog_1_method_16_code
def yX6_measure : MethodName := ⟨RX6, "measure", "()I"⟩
abbrev cX6_ask : ByteArray := prog_1_method_17_code
def yX6_ask : MethodName := ⟨RX6, "ask", "(I)I"⟩
abbrev cX6_peg : ByteArray := prog_1_method_18_code
def yX6_peg : MethodName := ⟨RX6, "peg", "(I)I"⟩
abbrev cX6_whisper : ByteArray := prog_1_method_19_code
def yX6_whisper : MethodName := ⟨RX6, "whisper", "(II)I"⟩
abbrev cX6_canWhisper : ByteArray := prog_1_method_20_code
def yX6_canWhisper : MethodName := ⟨RX6, "canWhisper", "(II)Z"⟩
abbrev cX6_undo : ByteArray := prog_1_method_21_code
def yX6_undo : MethodName := ⟨RX6, "undo", "()Z"⟩
abbrev cX6_redo : ByteArray := prog_1_method_22_code
def yX6_redo : MethodName := ⟨RX6, "redo", "()Z"⟩
abbrev cX6_knows : ByteArray := prog_1_method_23_code
def yX6_knows : MethodName := ⟨RX6, "knows", "(II)I"⟩
abbrev cX6_knowsIn : ByteArray := prog_1_method_24_code
def yX6_knowsIn : MethodName := ⟨RX6, "knowsIn", "(III)I"⟩
abbrev cX6_verdict : ByteArray := prog_1_method_25_code
def yX6_verdict : MethodName := ⟨RX6, "verdict", "(III)I"⟩
abbrev cX6_taken : ByteArray := prog_1_method_26_code
def yX6_taken : MethodName := ⟨RX6, "taken", "(II)J"⟩
abbrev cX6_likeTrue : ByteArray := prog_1_method_27_code
def yX6_likeTrue : MethodName := ⟨RX6, "likeTrue", "(I)J"⟩
abbrev cX6_depth : ByteArray := prog_1_method_28_code
def yX6_depth : MethodName := ⟨RX6, "depth", "(I)I"⟩
abbrev cX6_knownToAll : ByteArray := prog_1_method_29_code
def yX6_knownToAll : MethodName := ⟨RX6, "knownToAll", "(J)J"⟩
abbrev cX6_common : ByteArray := prog_1_method_30_code
def yX6_common : MethodName := ⟨RX6, "common", "()I"⟩
abbrev cX6_open : ByteArray := prog_1_method_31_code
def yX6_open : MethodName := ⟨RX6, "open", "(I)I"⟩
abbrev cX6_thinks : ByteArray := prog_1_method_32_code
def yX6_thinks : MethodName := ⟨RX6, "thinks", "(II)I"⟩
abbrev cX6_wronged : ByteArray := prog_1_method_33_code
def yX6_wronged : MethodName := ⟨RX6, "wronged", "()I"⟩
abbrev cX6_isThoughtOf : ByteArray := prog_1_method_34_code
def yX6_isThoughtOf : MethodName := ⟨RX6, "isThoughtOf", "(I)Z"⟩
abbrev cX6_settled : ByteArray := prog_1_method_35_code
def yX6_settled : MethodName := ⟨RX6, "settled", "()I"⟩
abbrev cX6_isClearToAll : ByteArray := prog_1_method_36_code
def yX6_isClearToAll : MethodName := ⟨RX6, "isClearToAll", "(I)Z"⟩
abbrev cX6_wisest : ByteArray := prog_1_method_37_code
def yX6_wisest : MethodName := ⟨RX6, "wisest", "()I"⟩
abbrev cX6_talked : ByteArray := prog_1_method_38_code
def yX6_talked : MethodName := ⟨RX6, "talked", "()I"⟩
abbrev cX6_knowersOf : ByteArray := prog_1_method_39_code
def yX6_knowersOf : MethodName := ⟨RX6, "knowersOf", "(I)I"⟩
abbrev cX6_reach : ByteArray := prog_1_method_40_code
def yX6_reach : MethodName := ⟨RX6, "reach", "(II)I"⟩
abbrev cX6_least : ByteArray := prog_1_method_41_code
def yX6_least : MethodName := ⟨RX6, "least", "(I)I"⟩
abbrev cX6_suspected : ByteArray := prog_1_method_42_code
def yX6_suspected : MethodName := ⟨RX6, "suspected", "(I)I"⟩
abbrev cX6_law : ByteArray := prog_1_method_43_code
def yX6_law : MethodName := ⟨RX6, "law", "(I)I"⟩
abbrev cX6_bet : ByteArray := prog_1_method_44_code
def yX6_bet : MethodName := ⟨RX6, "bet", "(III)I"⟩
abbrev cX6_shared : ByteArray := prog_1_method_45_code
def yX6_shared : MethodName := ⟨RX6, "shared", "(II)I"⟩
abbrev cX6_parts : ByteArray := prog_1_method_46_code
def yX6_parts : MethodName := ⟨RX6, "parts", "(I)I"⟩
abbrev cX6_alike : ByteArray := prog_1_method_47_code
def yX6_alike : MethodName := ⟨RX6, "alike", "(II)I"⟩
abbrev cX6_quiet : ByteArray := prog_1_method_48_code
def yX6_quiet : MethodName := ⟨RX6, "quiet", "()I"⟩
abbrev cX6_unsure : ByteArray := prog_1_method_49_code
def yX6_unsure : MethodName := ⟨RX6, "unsure", "()I"⟩
abbrev cX6_ending : ByteArray := prog_1_method_50_code
def yX6_ending : MethodName := ⟨RX6, "ending", "()I"⟩
abbrev cX6_endNow : ByteArray := prog_1_method_51_code
def yX6_endNow : MethodName := ⟨RX6, "endNow", "()I"⟩
abbrev cX6_first : ByteArray := prog_1_method_52_code
def yX6_first : MethodName := ⟨RX6, "first", "()I"⟩
abbrev cX6_will : ByteArray := prog_1_method_53_code
def yX6_will : MethodName := ⟨RX6, "will", "(II)I"⟩
abbrev cX6_worldsAt : ByteArray := prog_1_method_54_code
def yX6_worldsAt : MethodName := ⟨RX6, "worldsAt", "(I)I"⟩
abbrev cX6_within : ByteArray := prog_1_method_55_code
def yX6_within : MethodName := ⟨RX6, "within", "(I)I"⟩
abbrev cX6_group : ByteArray := prog_1_method_56_code
def yX6_group : MethodName := ⟨RX6, "group", "(II)I"⟩
abbrev cX6_bestGroup : ByteArray := prog_1_method_57_code
def yX6_bestGroup : MethodName := ⟨RX6, "bestGroup", "(I)I"⟩
abbrev cX6_knownAmong : ByteArray := prog_1_method_58_code
def yX6_knownAmong : MethodName := ⟨RX6, "knownAmong", "(I)I"⟩
abbrev cX6_call : ByteArray := prog_1_method_59_code
def yX6_call : MethodName := ⟨RX6, "call", "(I)I"⟩
abbrev cX6_hint : ByteArray := prog_1_method_60_code
def yX6_hint : MethodName := ⟨RX6, "hint", "(I)I"⟩
abbrev cX6_meeting : ByteArray := prog_1_method_61_code
def yX6_meeting : MethodName := ⟨RX6, "meeting", "(I)I"⟩
abbrev cX6_endOfTwo : ByteArray := prog_1_method_62_code
def yX6_endOfTwo : MethodName := ⟨RX6, "endOfTwo", "(II)I"⟩
abbrev cX6_twoOrEnd : ByteArray := prog_1_method_63_code
def yX6_twoOrEnd : MethodName := ⟨RX6, "twoOrEnd", "(II)I"⟩
abbrev cX6_pin : ByteArray := prog_1_method_64_code
def yX6_pin : MethodName := ⟨RX6, "pin", "(I)I"⟩
abbrev cX6_pegs : ByteArray := prog_1_method_65_code
def yX6_pegs : MethodName := ⟨RX6, "pegs", "(II)I"⟩
abbrev cX6_bestPegs : ByteArray := prog_1_method_66_code
def yX6_bestPegs : MethodName := ⟨RX6, "bestPegs", "(I)I"⟩
abbrev cX6_spy : ByteArray := prog_1_method_67_code
def yX6_spy : MethodName := ⟨RX6, "spy", "(II)I"⟩
abbrev cX6_bestSpying : ByteArray := prog_1_method_68_code
def yX6_bestSpying : MethodName := ⟨RX6, "bestSpying", "(I)I"⟩
abbrev cX6_fate : ByteArray := prog_1_method_69_code
def yX6_fate : MethodName := ⟨RX6, "fate", "(I)I"⟩
abbrev cX6_fateOf : ByteArray := prog_1_method_70_code
def yX6_fateOf : MethodName := ⟨RX6, "fateOf", "(I)I"⟩
abbrev cX6_latest : ByteArray := prog_1_method_71_code
def yX6_latest : MethodName := ⟨RX6, "latest", "()I"⟩
abbrev cX6_tale : ByteArray := prog_1_method_72_code
def yX6_tale : MethodName := ⟨RX6, "tale", "(I)I"⟩
abbrev cX6_lies : ByteArray := prog_1_method_73_code
def yX6_lies : MethodName := ⟨RX6, "lies", "(I)I"⟩
abbrev cX6_odds : ByteArray := prog_1_method_74_code
def yX6_odds : MethodName := ⟨RX6, "odds", "(II)I"⟩
abbrev cX6_seen : ByteArray := prog_1_method_75_code
def yX6_seen : MethodName := ⟨RX6, "seen", "(IIZ)I"⟩
abbrev cX6_untell : ByteArray := prog_1_method_76_code
def yX6_untell : MethodName := ⟨RX6, "untell", "(I)Z"⟩
abbrev cX6_later : ByteArray := prog_1_method_77_code
def yX6_later : MethodName := ⟨RX6, "later", "(I)I"⟩
abbrev cX6_fits : ByteArray := prog_1_method_78_code
def yX6_fits : MethodName := ⟨RX6, "fits", "(I)I"⟩
abbrev cX6_sure : ByteArray := prog_1_method_79_code
def yX6_sure : MethodName := ⟨RX6, "sure", "(II)I"⟩
abbrev cX6_next : ByteArray := prog_1_method_80_code
def yX6_next : MethodName := ⟨RX6, "next", "(III)I"⟩
abbrev cX6_image : ByteArray := prog_1_method_81_code
def yX6_image : MethodName := ⟨RX6, "image", "(I)I"⟩
abbrev cX6_back : ByteArray := prog_1_method_82_code
def yX6_back : MethodName := ⟨RX6, "back", "(I)I"⟩
abbrev cX6_about : ByteArray := prog_1_method_83_code
def yX6_about : MethodName := ⟨RX6, "about", "(I)I"⟩
abbrev cX6_has : ByteArray := prog_1_method_84_code
def yX6_has : MethodName := ⟨RX6, "has", "(JI)Z"⟩
abbrev cX6_spread : ByteArray := prog_1_method_85_code
def yX6_spread : MethodName := ⟨RX6, "spread", "(JII)J"⟩
abbrev cX6_tellSame : ByteArray := prog_1_method_86_code
def yX6_tellSame : MethodName := ⟨RX6, "tellSame", "(JI)Z"⟩
abbrev cX6_knowing : ByteArray := prog_1_method_87_code
def yX6_knowing : MethodName := ⟨RX6, "knowing", "(LStinkhornParish$Told;LStinkhornParish$Day;IJ)J"⟩
abbrev cX6_owning : ByteArray := prog_1_method_88_code
def yX6_owning : MethodName := ⟨RX6, "owning", "(LStinkhornParish$Told;LStinkhornParish$Day;I)J"⟩
abbrev cX6_dawn : ByteArray := prog_1_method_89_code
def yX6_dawn : MethodName := ⟨RX6, "dawn", "(LStinkhornParish$Told;LStinkhornParish$Day;I)I"⟩
abbrev cX6_foggyDawn : ByteArray := prog_1_method_90_code
def yX6_foggyDawn : MethodName := ⟨RX6, "foggyDawn", "(LStinkhornParish$Told;LStinkhornParish$Day;I)I"⟩
abbrev cX6_endOf : ByteArray := prog_1_method_91_code
def yX6_endOf : MethodName := ⟨RX6, "endOf", "(LStinkhornParish$Told;LStinkhornParish$Day;II)I"⟩
abbrev cX6_lesser : ByteArray := prog_1_method_92_code
def yX6_lesser : MethodName := ⟨RX6, "lesser", "(II)I"⟩
abbrev cX6_oneOrNumber : ByteArray := prog_1_method_93_code
def yX6_oneOrNumber : MethodName := ⟨RX6, "oneOrNumber", "(II)I"⟩
abbrev cX6_countOrSet : ByteArray := prog_1_method_94_code
def yX6_countOrSet : MethodName := ⟨RX6, "countOrSet", "(II)I"⟩
abbrev cX6_lowest : ByteArray := prog_1_method_95_code
def yX6_lowest : MethodName := ⟨RX6, "lowest", "(III)I"⟩
def RX7 : String := "StinkhornParishModel"
def TX7 : u_T := fun k => match k with
  | 0 => ("StinkhornParishModel", "tape", "[B", true)
  | 1 => ("StinkhornParishModel", "text", "[B", true)
  | 2 => ("StinkhornParishModel", "taped", "I", false)
  | 3 => ("StinkhornParishModel", "size", "I", false)
  | 4 => ("StinkhornParishModel", "faultKind", "I", false)
  | 5 => ("StinkhornParishModel", "faultPlace", "I", false)
  | 6 => ("StinkhornParishModel", "at", "I", false)
  | 7 => ("StinkhornParishModel", "end", "I", false)
  | 8 => ("StinkhornParishModel", "token", "I", false)
  | 9 => ("StinkhornParishModel", "number", "I", false)
  | 10 => ("StinkhornParishModel", "name", "J", false)
  | 11 => ("StinkhornParishModel", "people", "[I", true)
  | 12 => ("StinkhornParishModel", "links", "[I", true)
  | 13 => ("StinkhornParishModel", "units", "[I", true)
  | 14 => ("StinkhornParishModel", "fog", "[I", true)
  | 15 => ("StinkhornParishModel", "draw", "[I", true)
  | 16 => ("StinkhornParishModel", "told", "[I", true)
  | 17 => ("StinkhornParishModel", "truth", "[I", true)
  | 18 => ("StinkhornParishModel", "shame", "[I", true)
  | 19 => ("StinkhornParishModel", "bears", "[I", true)
  | 20 => ("StinkhornParishModel", "knowsTold", "[I", true)
  | 21 => ("StinkhornParishModel", "ruleFrom", "[I", true)
  | 22 => ("StinkhornParishModel", "ruleTo", "[I", true)
  | 23 => ("StinkhornParishModel", "pName", "[J", true)
  | 24 => ("StinkhornParishModel", "code", "[I", true)
  | 25 => ("StinkhornParishModel", "codeNumber", "[I", true)
  | 26 => ("StinkhornParishModel", "eWhat", "[I", true)
  | 27 => ("StinkhornParishModel", "eSign", "[I", true)
  | 28 => ("StinkhornParishModel", "pile", "[I", true)
  | 29 => ("StinkhornParishModel", "bank", "I", false)
  | 30 => ("StinkhornParishModel", "rb", "I", false)
  | 31 => ("StinkhornParishModel", "codes", "I", false)
  | 32 => ("StinkhornParishModel", "within", "I", false)
  | 33 => ("StinkhornParishModel", "piled", "I", false)
  | 34 => ("StinkhornParishModel", "unitsInRule", "I", false)
  | 35 => ("StinkhornParishModel", "askWorld", "I", false)
  | 36 => ("StinkhornParishModel", "all", "[I", true)
  | 37 => ("StinkhornParishModel", "kept", "[I", true)
  | 38 => ("StinkhornParishModel", "trueOne", "I", false)
  | 39 => ("StinkhornParishModel", "thoughtBears", "I", false)
  | 40 => ("StinkhornParishModel", "alwaysOf", "[I", true)
  | 41 => ("StinkhornParishModel", "everOf", "[I", true)
  | 42 => ("StinkhornParishModel", "countOf", "[I", true)
  | 43 => ("StinkhornParishModel", "isSoIn", "[I", true)
  | 44 => ("StinkhornParishModel", "badClass", "[I", true)
  | 45 => ("StinkhornParishModel", "was", "[I", true)
  | 46 => ("StinkhornParishModel", "acts", "I", false)
  | 47 => ("StinkhornParishModel", "undone", "I", false)
  | 48 => ("StinkhornParishModel", "laidRow", "[I", true)
  | 49 => ("StinkhornParishModel", "laid", "I", false)
  | 50 => ("StinkhornParishModel", "ownsBy", "[I", true)
  | 51 => ("StinkhornParishModel", "sMorning", "[I", true)
  | 52 => ("StinkhornParishModel", "sPerson", "[I", true)
  | 53 => ("StinkhornParishModel", "sIs", "[I", true)
  | 54 => ("StinkhornParishModel", "sTold", "[I", true)
  | 55 => ("StinkhornParishModel", "sUntold", "[I", true)
  | 56 => ("StinkhornParishModel", "isFit", "[Z", true)
  | 57 => ("StinkhornParishModel", "seens", "I", false)
  | 58 => ("StinkhornParishModel", "time", "I", false)
  | 59 => ("StinkhornParishModel", "fitting", "I", false)
  | 60 => ("StinkhornParishModel", "boxAll", "[I", true)
  | _ => ("StinkhornParishModel", "isBoxed", "[Z", true)
def tyX7 : Nat → FieldType := fun k => match k with
  | 0 => .array .byte
  | 1 => .array .byte
  | 2 => .int
  | 3 => .int
  | 4 => .int
  | 5 => .int
  | 6 => .int
  | 7 => .int
  | 8 => .int
  | 9 => .int
  | 10 => .long
  | 11 => .array .int
  | 12 => .array .int
  | 13 => .array .int
  | 14 => .array .int
  | 15 => .array .int
  | 16 => .array .int
  | 17 => .array .int
  | 18 => .array .int
  | 19 => .array .int
  | 20 => .array .int
  | 21 => .array .int
  | 22 => .array .int
  | 23 => .array .long
  | 24 => .array .int
  | 25 => .array .int
  | 26 => .array .int
  | 27 => .array .int
  | 28 => .array .int
  | 29 => .int
  | 30 => .int
  | 31 => .int
  | 32 => .int
  | 33 => .int
  | 34 => .int
  | 35 => .int
  | 36 => .array .int
  | 37 => .array .int
  | 38 => .int
  | 39 => .int
  | 40 => .array .int
  | 41 => .array .int
  | 42 => .array .int
  | 43 => .array .int
  | 44 => .array .int
  | 45 => .array .int
  | 46 => .int
  | 47 => .int
  | 48 => .array .int
  | 49 => .int
  | 50 => .array .int
  | 51 => .array .int
  | 52 => .array .int
  | 53 => .array .int
  | 54 => .array .int
  | 55 => .array .int
  | 56 => .array .boolean
  | 57 => .int
  | 58 => .int
  | 59 => .int
  | 60 => .array .int
  | _ => .array .boolean
abbrev wsX70 : List Cond := u_ws RX7 TX7 62
theorem nmX7 : ∀ a, a < 62 → ∀ b, b < 62 → a ≠ b → (TX7 a).2.1 ≠ (TX7 b).2.1 := by decide +kernel
theorem tyX7_ok : ∀ k, k < 62 → parseFieldDescriptor (TX7 k).2.2.1 = some (tyX7 k) := by decide +kernel
abbrev cX7_init : ByteArray := prog_9_method_1_code
def yX7_init : MethodName := ⟨RX7, "<init>", "()V"⟩
abbrev cX7_byteAt : ByteArray := prog_9_method_2_code
def yX7_byteAt : MethodName := ⟨RX7, "byteAt", "(I)I"⟩
abbrev cX7_isLetter : ByteArray := prog_9_method_3_code
def yX7_isLetter : MethodName := ⟨RX7, "isLetter", "(I)Z"⟩
abbrev cX7_isDigit : ByteArray := prog_9_method_4_code
def yX7_isDigit : MethodName := ⟨RX7, "isDigit", "(I)Z"⟩
abbrev cX7_fails : ByteArray := prog_9_method_5_code
def yX7_fails : MethodName := ⟨RX7, "fails", "(II)V"⟩
abbrev cX7_isGood : ByteArray := prog_9_method_6_code
def yX7_isGood : MethodName := ⟨RX7, "isGood", "()Z"⟩
abbrev cX7_isKept : ByteArray := prog_9_method_7_code
def yX7_isKept : MethodName := ⟨RX7, "isKept", "(J)Z"⟩
abbrev cX7_isSign : ByteArray := prog_9_method_8_code
def yX7_isSign : MethodName := ⟨RX7, "isSign", "(I)Z"⟩
abbrev cX7_goOn : ByteArray := prog_9_method_9_code
def yX7_goOn : MethodName := ⟨RX7, "goOn", "()V"⟩
abbrev cX7_isSignHere : ByteArray := prog_9_method_10_code
def yX7_isSignHere : MethodName := ⟨RX7, "isSignHere", "(I)Z"⟩
abbrev cX7_isWord : ByteArray := prog_9_method_11_code
def yX7_isWord : MethodName := ⟨RX7, "isWord", "(J)Z"⟩
abbrev cX7_misplaced : ByteArray := prog_9_method_12_code
def yX7_misplaced : MethodName := ⟨RX7, "misplaced", "()V"⟩
abbrev cX7_must : ByteArray := prog_9_method_13_code
def yX7_must : MethodName := ⟨RX7, "must", "(Z)V"⟩
abbrev cX7_numeral : ByteArray := prog_9_method_14_code
def yX7_numeral : MethodName := ⟨RX7, "numeral", "(II)I"⟩
abbrev cX7_clearBank : ByteArray := prog_9_method_15_code
def yX7_clearBank : MethodName := ⟨RX7, "clearBank", "()V"⟩
abbrev cX7_parish : ByteArray := prog_9_method_16_code
def yX7_parish : MethodName := ⟨RX7, "parish", "()I"⟩
abbrev cX7_isFull : ByteArray := prog_9_method_17_code
def yX7_isFull : MethodName := ⟨RX7, "isFull", "()Z"⟩
abbrev cX7_once : ByteArray := prog_9_method_18_code
def yX7_once : MethodName := ⟨RX7, "once", "(II)I"⟩
abbrev cX7_readLine : ByteArray := prog_9_method_19_code
def yX7_readLine : MethodName := ⟨RX7, "readLine", "()V"⟩
abbrev cX7_here : ByteArray := prog_9_method_20_code
def yX7_here : MethodName := ⟨RX7, "here", "()I"⟩
abbrev cX7_perhaps : ByteArray := prog_9_method_21_code
def yX7_perhaps : MethodName := ⟨RX7, "perhaps", "(J)I"⟩
abbrev cX7_readPerson : ByteArray := prog_9_method_22_code
def yX7_readPerson : MethodName := ⟨RX7, "readPerson", "()V"⟩
abbrev cX7_someone : ByteArray := prog_9_method_23_code
def yX7_someone : MethodName := ⟨RX7, "someone", "(I)I"⟩
abbrev cX7_readKnows : ByteArray := prog_9_method_24_code
def yX7_readKnows : MethodName := ⟨RX7, "readKnows", "()V"⟩
abbrev cX7_readRule : ByteArray := prog_9_method_25_code
def yX7_readRule : MethodName := ⟨RX7, "readRule", "()V"⟩
abbrev cX7_emit : ByteArray := prog_9_method_26_code
def yX7_emit : MethodName := ⟨RX7, "emit", "(II)V"⟩
abbrev cX7_pushE : ByteArray := prog_9_method_27_code
def yX7_pushE : MethodName := ⟨RX7, "pushE", "(II)V"⟩
abbrev cX7_e : ByteArray := prog_9_method_28_code
def yX7_e : MethodName := ⟨RX7, "e", "()V"⟩
abbrev cX7_wordHere : ByteArray := prog_9_method_29_code
def yX7_wordHere : MethodName := ⟨RX7, "wordHere", "()I"⟩
abbrev cX7_unit : ByteArray := prog_9_method_30_code
def yX7_unit : MethodName := ⟨RX7, "unit", "()Z"⟩
abbrev cX7_rankHere : ByteArray := prog_9_method_31_code
def yX7_rankHere : MethodName := ⟨RX7, "rankHere", "()I"⟩
abbrev cX7_isCompared : ByteArray := prog_9_method_32_code
def yX7_isCompared : MethodName := ⟨RX7, "isCompared", "()Z"⟩
abbrev cX7_behindUnit : ByteArray := prog_9_method_33_code
def yX7_behindUnit : MethodName := ⟨RX7, "behindUnit", "()Z"⟩
abbrev cX7_two : ByteArray := prog_9_method_34_code
def yX7_two : MethodName := ⟨RX7, "two", "(III)I"⟩
abbrev cX7_asked : ByteArray := prog_9_method_35_code
def yX7_asked : MethodName := ⟨RX7, "asked", "(II)I"⟩
abbrev cX7_comes : ByteArray := prog_9_method_36_code
def yX7_comes : MethodName := ⟨RX7, "comes", "()I"⟩
abbrev cX7_fault : ByteArray := prog_9_method_37_code
def yX7_fault : MethodName := ⟨RX7, "fault", "(I)I"⟩
abbrev cX7_isIn : ByteArray := prog_9_method_38_code
def yX7_isIn : MethodName := ⟨RX7, "isIn", "(III)Z"⟩
abbrev cX7_bit : ByteArray := prog_9_method_39_code
def yX7_bit : MethodName := ⟨RX7, "bit", "(II)Z"⟩
abbrev cX7_bitsOf : ByteArray := prog_9_method_40_code
def yX7_bitsOf : MethodName := ⟨RX7, "bitsOf", "(I)I"⟩
abbrev cX7_lowest : ByteArray := prog_9_method_41_code
def yX7_lowest : MethodName := ⟨RX7, "lowest", "(I)I"⟩
abbrev cX7_highest : ByteArray := prog_9_method_42_code
def yX7_highest : MethodName := ⟨RX7, "highest", "(I)I"⟩
abbrev cX7_divisor : ByteArray := prog_9_method_43_code
def yX7_divisor : MethodName := ⟨RX7, "divisor", "(II)I"⟩
abbrev cX7_power : ByteArray := prog_9_method_44_code
def yX7_power : MethodName := ⟨RX7, "power", "(II)I"⟩
abbrev cX7_folk : ByteArray := prog_9_method_45_code
def yX7_folk : MethodName := ⟨RX7, "folk", "()I"⟩
abbrev cX7_every : ByteArray := prog_9_method_46_code
def yX7_every : MethodName := ⟨RX7, "every", "()I"⟩
abbrev cX7_isPerson : ByteArray := prog_9_method_47_code
def yX7_isPerson : MethodName := ⟨RX7, "isPerson", "(I)Z"⟩
abbrev cX7_isWorld : ByteArray := prog_9_method_48_code
def yX7_isWorld : MethodName := ⟨RX7, "isWorld", "(I)Z"⟩
abbrev cX7_mayBe : ByteArray := prog_9_method_49_code
def yX7_mayBe : MethodName := ⟨RX7, "mayBe", "(I)Z"⟩
abbrev cX7_bearsOf : ByteArray := prog_9_method_50_code
def yX7_bearsOf : MethodName := ⟨RX7, "bearsOf", "(I)I"⟩
abbrev cX7_shameOf : ByteArray := prog_9_method_51_code
def yX7_shameOf : MethodName := ⟨RX7, "shameOf", "(I)I"⟩
abbrev cX7_signOf : ByteArray := prog_9_method_52_code
def yX7_signOf : MethodName := ⟨RX7, "signOf", "(I)I"⟩
abbrev cX7_startAnew : ByteArray := prog_9_method_53_code
def yX7_startAnew : MethodName := ⟨RX7, "startAnew", "()V"⟩
abbrev cX7_layTold : ByteArray := prog_9_method_54_code
def yX7_layTold : MethodName := ⟨RX7, "layTold", "()V"⟩
abbrev cX7_keepNow : ByteArray := prog_9_method_55_code
def yX7_keepNow : MethodName := ⟨RX7, "keepNow", "()V"⟩
abbrev cX7_bringBack : ByteArray := prog_9_method_56_code
def yX7_bringBack : MethodName := ⟨RX7, "bringBack", "()V"⟩
abbrev cX7_classOf : ByteArray := prog_9_method_57_code
def yX7_classOf : MethodName := ⟨RX7, "classOf", "(II)I"⟩
abbrev cX7_layKnowledge : ByteArray := prog_9_method_58_code
def yX7_layKnowledge : MethodName := ⟨RX7, "layKnowledge", "()V"⟩
abbrev cX7_ownIn : ByteArray := prog_9_method_59_code
def yX7_ownIn : MethodName := ⟨RX7, "ownIn", "(I)I"⟩
abbrev cX7_knownIn : ByteArray := prog_9_method_60_code
def yX7_knownIn : MethodName := ⟨RX7, "knownIn", "(III)I"⟩
abbrev cX7_countMay : ByteArray := prog_9_method_61_code
def yX7_countMay : MethodName := ⟨RX7, "countMay", "()I"⟩
abbrev cX7_goMorning : ByteArray := prog_9_method_62_code
def yX7_goMorning : MethodName := ⟨RX7, "goMorning", "()I"⟩
abbrev cX7_goInEarnest : ByteArray := prog_9_method_63_code
def yX7_goInEarnest : MethodName := ⟨RX7, "goInEarnest", "()I"⟩
abbrev cX7_behind : ByteArray := prog_9_method_64_code
def yX7_behind : MethodName := ⟨RX7, "behind", "(IZ)I"⟩
abbrev cX7_endOf : ByteArray := prog_9_method_65_code
def yX7_endOf : MethodName := ⟨RX7, "endOf", "()I"⟩
abbrev cX7_person : ByteArray := prog_9_method_66_code
def yX7_person : MethodName := ⟨RX7, "person", "(II)I"⟩
abbrev cX7_sign : ByteArray := prog_9_method_67_code
def yX7_sign : MethodName := ⟨RX7, "sign", "(I)I"⟩
abbrev cX7_possible : ByteArray := prog_9_method_68_code
def yX7_possible : MethodName := ⟨RX7, "possible", "(I)I"⟩
abbrev cX7_worlds : ByteArray := prog_9_method_69_code
def yX7_worlds : MethodName := ⟨RX7, "worlds", "()I"⟩
abbrev cX7_knows : ByteArray := prog_9_method_70_code
def yX7_knows : MethodName := ⟨RX7, "knows", "(II)I"⟩
abbrev cX7_knowsIn : ByteArray := prog_9_method_71_code
def yX7_knowsIn : MethodName := ⟨RX7, "knowsIn", "(III)I"⟩
abbrev cX7_open : ByteArray := prog_9_method_72_code
def yX7_open : MethodName := ⟨RX7, "open", "(I)I"⟩
abbrev cX7_wisest : ByteArray := prog_9_method_73_code
def yX7_wisest : MethodName := ⟨RX7, "wisest", "()I"⟩
abbrev cX7_knowers : ByteArray := prog_9_method_74_code
def yX7_knowers : MethodName := ⟨RX7, "knowers", "(I)I"⟩
abbrev cX7_talked : ByteArray := prog_9_method_75_code
def yX7_talked : MethodName := ⟨RX7, "talked", "()I"⟩
abbrev cX7_reach : ByteArray := prog_9_method_76_code
def yX7_reach : MethodName := ⟨RX7, "reach", "(II)I"⟩
abbrev cX7_least : ByteArray := prog_9_method_77_code
def yX7_least : MethodName := ⟨RX7, "least", "(I)I"⟩
abbrev cX7_suspected : ByteArray := prog_9_method_78_code
def yX7_suspected : MethodName := ⟨RX7, "suspected", "(I)I"⟩
abbrev cX7_bet : ByteArray := prog_9_method_79_code
def yX7_bet : MethodName := ⟨RX7, "bet", "(III)I"⟩
abbrev cX7_parts : ByteArray := prog_9_method_80_code
def yX7_parts : MethodName := ⟨RX7, "parts", "(I)I"⟩
abbrev cX7_wronged : ByteArray := prog_9_method_81_code
def yX7_wronged : MethodName := ⟨RX7, "wronged", "()I"⟩
abbrev cX7_settled : ByteArray := prog_9_method_82_code
def yX7_settled : MethodName := ⟨RX7, "settled", "()I"⟩
abbrev cX7_unsure : ByteArray := prog_9_method_83_code
def yX7_unsure : MethodName := ⟨RX7, "unsure", "()I"⟩
abbrev cX7_quiet : ByteArray := prog_9_method_84_code
def yX7_quiet : MethodName := ⟨RX7, "quiet", "()I"⟩
abbrev cX7_law : ByteArray := prog_9_method_85_code
def yX7_law : MethodName := ⟨RX7, "law", "(I)I"⟩
abbrev cX7_layIsSo : ByteArray := prog_9_method_86_code
def yX7_layIsSo : MethodName := ⟨RX7, "layIsSo", "(I)V"⟩
abbrev cX7_deepen : ByteArray := prog_9_method_87_code
def yX7_deepen : MethodName := ⟨RX7, "deepen", "()V"⟩
abbrev cX7_depth : ByteArray := prog_9_method_88_code
def yX7_depth : MethodName := ⟨RX7, "depth", "(I)I"⟩
abbrev cX7_common : ByteArray := prog_9_method_89_code
def yX7_common : MethodName := ⟨RX7, "common", "()I"⟩
abbrev cX7_shared : ByteArray := prog_9_method_90_code
def yX7_shared : MethodName := ⟨RX7, "shared", "(II)I"⟩
abbrev cX7_keepAct : ByteArray := prog_9_method_91_code
def yX7_keepAct : MethodName := ⟨RX7, "keepAct", "()V"⟩
abbrev cX7_swapAll : ByteArray := prog_9_method_92_code
def yX7_swapAll : MethodName := ⟨RX7, "swapAll", "()V"⟩
abbrev cX7_morning : ByteArray := prog_9_method_93_code
def yX7_morning : MethodName := ⟨RX7, "morning", "()I"⟩
abbrev cX7_measure : ByteArray := prog_9_method_94_code
def yX7_measure : MethodName := ⟨RX7, "measure", "()I"⟩
abbrev cX7_goAsk : ByteArray := prog_9_method_95_code
def yX7_goAsk : MethodName := ⟨RX7, "goAsk", "(I)I"⟩
abbrev cX7_ask : ByteArray := prog_9_method_96_code
def yX7_ask : MethodName := ⟨RX7, "ask", "(I)I"⟩
abbrev cX7_goPeg : ByteArray := prog_9_method_97_code
def yX7_goPeg : MethodName := ⟨RX7, "goPeg", "(I)I"⟩
abbrev cX7_peg : ByteArray := prog_9_method_98_code
def yX7_peg : MethodName := ⟨RX7, "peg", "(I)I"⟩
abbrev cX7_canWhisper : ByteArray := prog_9_method_99_code
def yX7_canWhisper : MethodName := ⟨RX7, "canWhisper", "(II)Z"⟩
abbrev cX7_whisper : ByteArray := prog_9_method_100_code
def yX7_whisper : MethodName := ⟨RX7, "whisper", "(II)I"⟩
abbrev cX7_undo : ByteArray := prog_9_method_101_code
def yX7_undo : MethodName := ⟨RX7, "undo", "()Z"⟩
abbrev cX7_redo : ByteArray := prog_9_method_102_code
def yX7_redo : MethodName := ⟨RX7, "redo", "()Z"⟩
abbrev cX7_lies : ByteArray := prog_9_method_103_code
def yX7_lies : MethodName := ⟨RX7, "lies", "(I)I"⟩
abbrev cX7_orNone : ByteArray := prog_9_method_104_code
def yX7_orNone : MethodName := ⟨RX7, "orNone", "(I)I"⟩
abbrev cX7_endNow : ByteArray := prog_9_method_105_code
def yX7_endNow : MethodName := ⟨RX7, "endNow", "()I"⟩
abbrev cX7_ending : ByteArray := prog_9_method_106_code
def yX7_ending : MethodName := ⟨RX7, "ending", "()I"⟩
abbrev cX7_first : ByteArray := prog_9_method_107_code
def yX7_first : MethodName := ⟨RX7, "first", "()I"⟩
abbrev cX7_will : ByteArray := prog_9_method_108_code
def yX7_will : MethodName := ⟨RX7, "will", "(II)I"⟩
abbrev cX7_worldsAt : ByteArray := prog_9_method_109_code
def yX7_worldsAt : MethodName := ⟨RX7, "worldsAt", "(I)I"⟩
abbrev cX7_within : ByteArray := prog_9_method_110_code
def yX7_within : MethodName := ⟨RX7, "within", "(I)I"⟩
abbrev cX7_fateOf : ByteArray := prog_9_method_111_code
def yX7_fateOf : MethodName := ⟨RX7, "fateOf", "(I)I"⟩
abbrev cX7_fate : ByteArray := prog_9_method_112_code
def yX7_fate : MethodName := ⟨RX7, "fate", "(I)I"⟩
abbrev cX7_latest : ByteArray := prog_9_method_113_code
def yX7_latest : MethodName := ⟨RX7, "latest", "()I"⟩
abbrev cX7_tale : ByteArray := prog_9_method_114_code
def yX7_tale : MethodName := ⟨RX7, "tale", "(I)I"⟩
abbrev cX7_call : ByteArray := prog_9_method_115_code
def yX7_call : MethodName := ⟨RX7, "call", "(I)I"⟩
abbrev cX7_hint : ByteArray := prog_9_method_116_code
def yX7_hint : MethodName := ⟨RX7, "hint", "(I)I"⟩
abbrev cX7_meeting : ByteArray := prog_9_method_117_code
def yX7_meeting : MethodName := ⟨RX7, "meeting", "(I)I"⟩
abbrev cX7_endPegged : ByteArray := prog_9_method_118_code
def yX7_endPegged : MethodName := ⟨RX7, "endPegged", "(I)I"⟩
abbrev cX7_pin : ByteArray := prog_9_method_119_code
def yX7_pin : MethodName := ⟨RX7, "pin", "(I)I"⟩
abbrev cX7_isLess : ByteArray := prog_9_method_120_code
def yX7_isLess : MethodName := ⟨RX7, "isLess", "(II)Z"⟩
abbrev cX7_toldOf : ByteArray := prog_9_method_121_code
def yX7_toldOf : MethodName := ⟨RX7, "toldOf", "(II)I"⟩
abbrev cX7_pegs : ByteArray := prog_9_method_122_code
def yX7_pegs : MethodName := ⟨RX7, "pegs", "(II)I"⟩
abbrev cX7_isTold : ByteArray := prog_9_method_123_code
def yX7_isTold : MethodName := ⟨RX7, "isTold", "(II)Z"⟩
abbrev cX7_group : ByteArray := prog_9_method_124_code
def yX7_group : MethodName := ⟨RX7, "group", "(II)I"⟩
abbrev cX7_spy : ByteArray := prog_9_method_125_code
def yX7_spy : MethodName := ⟨RX7, "spy", "(II)I"⟩
abbrev cX7_thinks : ByteArray := prog_9_method_126_code
def yX7_thinks : MethodName := ⟨RX7, "thinks", "(II)I"⟩
abbrev cX7_alike : ByteArray := prog_9_method_127_code
def yX7_alike : MethodName := ⟨RX7, "alike", "(II)I"⟩
abbrev cX7_odds : ByteArray := prog_9_method_128_code
def yX7_odds : MethodName := ⟨RX7, "odds", "(II)I"⟩
abbrev cX7_seen : ByteArray := prog_9_method_129_code
def yX7_seen : MethodName := ⟨RX7, "seen", "(IIZ)I"⟩
abbrev cX7_untell : ByteArray := prog_9_method_130_code
def yX7_untell : MethodName := ⟨RX7, "untell", "(I)Z"⟩
abbrev cX7_later : ByteArray := prog_9_method_131_code
def yX7_later : MethodName := ⟨RX7, "later", "(I)I"⟩
abbrev cX7_doesFit : ByteArray := prog_9_method_132_code
def yX7_doesFit : MethodName := ⟨RX7, "doesFit", "(II)Z"⟩
abbrev cX7_layOwns : ByteArray := prog_9_method_133_code
def yX7_layOwns : MethodName := ⟨RX7, "layOwns", "(I)V"⟩
abbrev cX7_fits : ByteArray := prog_9_method_134_code
def yX7_fits : MethodName := ⟨RX7, "fits", "(I)I"⟩
abbrev cX7_sure : ByteArray := prog_9_method_135_code
def yX7_sure : MethodName := ⟨RX7, "sure", "(II)I"⟩
abbrev cX7_mostBy : ByteArray := prog_9_method_136_code
def yX7_mostBy : MethodName := ⟨RX7, "mostBy", "(II)I"⟩
abbrev cX7_next : ByteArray := prog_9_method_137_code
def yX7_next : MethodName := ⟨RX7, "next", "(III)I"⟩
abbrev cX7_image : ByteArray := prog_9_method_138_code
def yX7_image : MethodName := ⟨RX7, "image", "(I)I"⟩
abbrev cX7_back : ByteArray := prog_9_method_139_code
def yX7_back : MethodName := ⟨RX7, "back", "(I)I"⟩
abbrev cX7_about : ByteArray := prog_9_method_140_code
def yX7_about : MethodName := ⟨RX7, "about", "(I)I"⟩
abbrev cX7_feed : ByteArray := prog_9_method_141_code
def yX7_feed : MethodName := ⟨RX7, "feed", "(IIIII)I"⟩
abbrev cX7_end : ByteArray := prog_9_method_142_code
def yX7_end : MethodName := ⟨RX7, "end", "(I)I"⟩
def RJ6 : String := "java/lang/Integer"
abbrev cJ6_numberOfLeadingZeros_0f7a4 : ByteArray := prog_10_method_47_code
def yJ6_numberOfLeadingZeros_0f7a4 : MethodName := ⟨RJ6, "numberOfLeadingZeros", "(I)I"⟩
abbrev cJ6_numberOfTrailingZeros_0f7a4 : ByteArray := prog_10_method_48_code
def yJ6_numberOfTrailingZeros_0f7a4 : MethodName := ⟨RJ6, "numberOfTrailingZeros", "(I)I"⟩
abbrev cJ6_bitCount_0f7a4 : ByteArray := prog_10_method_49_code
def yJ6_bitCount_0f7a4 : MethodName := ⟨RJ6, "bitCount", "(I)I"⟩
def RJ13 : String := "java/lang/Long"
abbrev cJ13_bitCount_95d88 : ByteArray := prog_11_method_50_code
def yJ13_bitCount_95d88 : MethodName := ⟨RJ13, "bitCount", "(J)I"⟩
def RJ9 : String := "java/lang/Math"
abbrev cJ9_max_7cf53 : ByteArray := prog_12_method_65_code
def yJ9_max_7cf53 : MethodName := ⟨RJ9, "max", "(II)I"⟩
abbrev cJ9_min_7cf53 : ByteArray := prog_12_method_69_code
def yJ9_min_7cf53 : MethodName := ⟨RJ9, "min", "(II)I"⟩
def RJ0 : String := "java/lang/String"
abbrev cJ0_length_8abf5 : ByteArray := prog_13_method_54_code
def yJ0_length_8abf5 : MethodName := ⟨RJ0, "length", "()I"⟩
abbrev cJ0_charAt_5068e : ByteArray := prog_13_method_56_code
def yJ0_charAt_5068e : MethodName := ⟨RJ0, "charAt", "(I)C"⟩
abbrev cJ0_coder_7d493 : ByteArray := prog_13_method_152_code
def yJ0_coder_7d493 : MethodName := ⟨RJ0, "coder", "()B"⟩
abbrev cJ0_isLatin1_aae02 : ByteArray := prog_13_method_154_code
def yJ0_isLatin1_aae02 : MethodName := ⟨RJ0, "isLatin1", "()Z"⟩
abbrev cJ0_checkIndex_df160 : ByteArray := prog_13_method_155_code
def yJ0_checkIndex_df160 : MethodName := ⟨RJ0, "checkIndex", "(II)V"⟩
def RJ1 : String := "java/lang/StringLatin1"
abbrev cJ1_charAt_3b067 : ByteArray := prog_14_method_2_code
def yJ1_charAt_3b067 : MethodName := ⟨RJ1, "charAt", "([BI)C"⟩
def RJ2 : String := "java/lang/StringUTF16"
abbrev cJ2_getChar_3b067 : ByteArray := prog_15_method_5_code
def yJ2_getChar_3b067 : MethodName := ⟨RJ2, "getChar", "([BI)C"⟩
abbrev cJ2_length_9d52b : ByteArray := prog_15_method_6_code
def yJ2_length_9d52b : MethodName := ⟨RJ2, "length", "([B)I"⟩
abbrev cJ2_charAt_3b067 : ByteArray := prog_15_method_83_code
def yJ2_charAt_3b067 : MethodName := ⟨RJ2, "charAt", "([BI)C"⟩
abbrev cJ2_checkIndex_2214a : ByteArray := prog_15_method_91_code
def yJ2_checkIndex_2214a : MethodName := ⟨RJ2, "checkIndex", "(I[B)V"⟩
def RJ10 : String := "java/lang/System"
def RJ3 : String := "jdk/internal/util/Preconditions"
abbrev cJ3_checkIndex_8e157 : ByteArray := prog_17_method_11_code
def yJ3_checkIndex_8e157 : MethodName := ⟨RJ3, "checkIndex", "(IILjava/util/function/BiFunction;)I"⟩
