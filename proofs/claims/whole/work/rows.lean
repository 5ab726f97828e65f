section
-- ===== PART A: goes FIRST, ahead of the names: the tables' words, and 'selects' of the private methods out of them =====
/-- a private method of a class that the tables say can be made, by its rows of tables_1 -/
def lw_okq (q : MethodName × Nat) : Prop := (q.1.cls ≠ "java/lang/invoke/MethodHandle" ∧ q.1.cls ≠ "java/lang/invoke/VarHandle") ∧ Cond.instantiable q.1.cls q.2 ∈ tables_1 ∧ Cond.privateMethod q.1 ∈ tables_1 ∧ Cond.instanceMethod q.1 ∈ tables_1
theorem lw_p0 : lw_okq (⟨"HackneyStands$City", "tellSun", "(III)V"⟩, 7) := ⟨⟨by decide +kernel, by decide +kernel⟩, List.mem_of_getElem? (i := 28) (by decide +kernel), List.mem_of_getElem? (i := 59) (by decide +kernel), List.mem_of_getElem? (i := 60) (by decide +kernel)⟩
theorem lw_p1 : lw_okq (⟨"HackneyStands$Table", "add", "()I"⟩, 4) := ⟨⟨by decide +kernel, by decide +kernel⟩, List.mem_of_getElem? (i := 34) (by decide +kernel), List.mem_of_getElem? (i := 169) (by decide +kernel), List.mem_of_getElem? (i := 170) (by decide +kernel)⟩
theorem lw_p2 : lw_okq (⟨"HackneyStands$Table", "isFull", "()Z"⟩, 4) := ⟨⟨by decide +kernel, by decide +kernel⟩, List.mem_of_getElem? (i := 34) (by decide +kernel), List.mem_of_getElem? (i := 173) (by decide +kernel), List.mem_of_getElem? (i := 174) (by decide +kernel)⟩
theorem lw_p3 : lw_okq (⟨"HackneyStands$City", "addCorner", "()I"⟩, 7) := ⟨⟨by decide +kernel, by decide +kernel⟩, List.mem_of_getElem? (i := 28) (by decide +kernel), List.mem_of_getElem? (i := 246) (by decide +kernel), List.mem_of_getElem? (i := 247) (by decide +kernel)⟩
theorem lw_p4 : lw_okq (⟨"HackneyStands$City", "isCorner", "(I)Z"⟩, 7) := ⟨⟨by decide +kernel, by decide +kernel⟩, List.mem_of_getElem? (i := 28) (by decide +kernel), List.mem_of_getElem? (i := 254) (by decide +kernel), List.mem_of_getElem? (i := 255) (by decide +kernel)⟩
theorem lw_p5 : lw_okq (⟨"HackneyStands$City", "addStreet", "(IIII)I"⟩, 7) := ⟨⟨by decide +kernel, by decide +kernel⟩, List.mem_of_getElem? (i := 28) (by decide +kernel), List.mem_of_getElem? (i := 258) (by decide +kernel), List.mem_of_getElem? (i := 259) (by decide +kernel)⟩
theorem lw_p6 : lw_okq (⟨"HackneyStands$Table", "set", "(III)V"⟩, 4) := ⟨⟨by decide +kernel, by decide +kernel⟩, List.mem_of_getElem? (i := 34) (by decide +kernel), List.mem_of_getElem? (i := 263) (by decide +kernel), List.mem_of_getElem? (i := 264) (by decide +kernel)⟩
theorem lw_p7 : lw_okq (⟨"HackneyStands$Table", "has", "(I)Z"⟩, 4) := ⟨⟨by decide +kernel, by decide +kernel⟩, List.mem_of_getElem? (i := 34) (by decide +kernel), List.mem_of_getElem? (i := 271) (by decide +kernel), List.mem_of_getElem? (i := 272) (by decide +kernel)⟩
theorem lw_p8 : lw_okq (⟨"HackneyStands$City", "addSpan", "(III)I"⟩, 7) := ⟨⟨by decide +kernel, by decide +kernel⟩, List.mem_of_getElem? (i := 28) (by decide +kernel), List.mem_of_getElem? (i := 276) (by decide +kernel), List.mem_of_getElem? (i := 277) (by decide +kernel)⟩
theorem lw_p9 : lw_okq (⟨"HackneyStands$Table", "get", "(II)I"⟩, 4) := ⟨⟨by decide +kernel, by decide +kernel⟩, List.mem_of_getElem? (i := 34) (by decide +kernel), List.mem_of_getElem? (i := 280) (by decide +kernel), List.mem_of_getElem? (i := 281) (by decide +kernel)⟩
theorem lw_p10 : lw_okq (⟨"HackneyStands$City", "measure", "(II)V"⟩, 7) := ⟨⟨by decide +kernel, by decide +kernel⟩, List.mem_of_getElem? (i := 28) (by decide +kernel), List.mem_of_getElem? (i := 296) (by decide +kernel), List.mem_of_getElem? (i := 297) (by decide +kernel)⟩
theorem lw_p11 : lw_okq (⟨"HackneyStands$City", "isShut", "(II)Z"⟩, 7) := ⟨⟨by decide +kernel, by decide +kernel⟩, List.mem_of_getElem? (i := 28) (by decide +kernel), List.mem_of_getElem? (i := 300) (by decide +kernel), List.mem_of_getElem? (i := 301) (by decide +kernel)⟩
theorem lw_p12 : lw_okq (⟨"HackneyStands$City", "lowerAll", "()Z"⟩, 7) := ⟨⟨by decide +kernel, by decide +kernel⟩, List.mem_of_getElem? (i := 28) (by decide +kernel), List.mem_of_getElem? (i := 305) (by decide +kernel), List.mem_of_getElem? (i := 306) (by decide +kernel)⟩
theorem lw_p13 : lw_okq (⟨"HackneyStands$City", "isOpen", "(I)Z"⟩, 7) := ⟨⟨by decide +kernel, by decide +kernel⟩, List.mem_of_getElem? (i := 28) (by decide +kernel), List.mem_of_getElem? (i := 309) (by decide +kernel), List.mem_of_getElem? (i := 310) (by decide +kernel)⟩
theorem lw_p14 : lw_okq (⟨"HackneyStands$City", "costFrom", "(I)I"⟩, 7) := ⟨⟨by decide +kernel, by decide +kernel⟩, List.mem_of_getElem? (i := 28) (by decide +kernel), List.mem_of_getElem? (i := 313) (by decide +kernel), List.mem_of_getElem? (i := 314) (by decide +kernel)⟩
theorem lw_p15 : lw_okq (⟨"HackneyStands$City", "lower", "(II)Z"⟩, 7) := ⟨⟨by decide +kernel, by decide +kernel⟩, List.mem_of_getElem? (i := 28) (by decide +kernel), List.mem_of_getElem? (i := 318) (by decide +kernel), List.mem_of_getElem? (i := 319) (by decide +kernel)⟩
def lw_privs_1 : List (MethodName × Nat) := [(⟨"HackneyStands$City", "tellSun", "(III)V"⟩, 7), (⟨"HackneyStands$Table", "add", "()I"⟩, 4), (⟨"HackneyStands$Table", "isFull", "()Z"⟩, 4), (⟨"HackneyStands$City", "addCorner", "()I"⟩, 7), (⟨"HackneyStands$City", "isCorner", "(I)Z"⟩, 7), (⟨"HackneyStands$City", "addStreet", "(IIII)I"⟩, 7), (⟨"HackneyStands$Table", "set", "(III)V"⟩, 4), (⟨"HackneyStands$Table", "has", "(I)Z"⟩, 4), (⟨"HackneyStands$City", "addSpan", "(III)I"⟩, 7), (⟨"HackneyStands$Table", "get", "(II)I"⟩, 4), (⟨"HackneyStands$City", "measure", "(II)V"⟩, 7), (⟨"HackneyStands$City", "isShut", "(II)Z"⟩, 7), (⟨"HackneyStands$City", "lowerAll", "()Z"⟩, 7), (⟨"HackneyStands$City", "isOpen", "(I)Z"⟩, 7), (⟨"HackneyStands$City", "costFrom", "(I)I"⟩, 7), (⟨"HackneyStands$City", "lower", "(II)Z"⟩, 7)]
theorem lw_r1 : ∀ q ∈ lw_privs_1, lw_okq q := List.forall_mem_cons.mpr ⟨lw_p0, List.forall_mem_cons.mpr ⟨lw_p1, List.forall_mem_cons.mpr ⟨lw_p2, List.forall_mem_cons.mpr ⟨lw_p3, List.forall_mem_cons.mpr ⟨lw_p4, List.forall_mem_cons.mpr ⟨lw_p5, List.forall_mem_cons.mpr ⟨lw_p6, List.forall_mem_cons.mpr ⟨lw_p7, List.forall_mem_cons.mpr ⟨lw_p8, List.forall_mem_cons.mpr ⟨lw_p9, List.forall_mem_cons.mpr ⟨lw_p10, List.forall_mem_cons.mpr ⟨lw_p11, List.forall_mem_cons.mpr ⟨lw_p12, List.forall_mem_cons.mpr ⟨lw_p13, List.forall_mem_cons.mpr ⟨lw_p14, List.forall_mem_cons.mpr ⟨lw_p15, fun _ h => absurd h List.not_mem_nil⟩⟩⟩⟩⟩⟩⟩⟩⟩⟩⟩⟩⟩⟩⟩⟩
theorem lw_p16 : lw_okq (⟨"HackneyStands$City", "yardsFrom", "(I)I"⟩, 7) := ⟨⟨by decide +kernel, by decide +kernel⟩, List.mem_of_getElem? (i := 28) (by decide +kernel), List.mem_of_getElem? (i := 322) (by decide +kernel), List.mem_of_getElem? (i := 323) (by decide +kernel)⟩
theorem lw_p17 : lw_okq (⟨"HackneyStands$City", "keepSteps", "(II)V"⟩, 7) := ⟨⟨by decide +kernel, by decide +kernel⟩, List.mem_of_getElem? (i := 28) (by decide +kernel), List.mem_of_getElem? (i := 326) (by decide +kernel), List.mem_of_getElem? (i := 327) (by decide +kernel)⟩
theorem lw_p18 : lw_okq (⟨"HackneyStands$City", "leastNext", "(I)I"⟩, 7) := ⟨⟨by decide +kernel, by decide +kernel⟩, List.mem_of_getElem? (i := 28) (by decide +kernel), List.mem_of_getElem? (i := 330) (by decide +kernel), List.mem_of_getElem? (i := 331) (by decide +kernel)⟩
theorem lw_p19 : lw_okq (⟨"HackneyStands$City", "stepAt", "(I)I"⟩, 7) := ⟨⟨by decide +kernel, by decide +kernel⟩, List.mem_of_getElem? (i := 28) (by decide +kernel), List.mem_of_getElem? (i := 338) (by decide +kernel), List.mem_of_getElem? (i := 339) (by decide +kernel)⟩
theorem lw_p20 : lw_okq (⟨"HackneyStands$City", "nightIn", "(I)I"⟩, 7) := ⟨⟨by decide +kernel, by decide +kernel⟩, List.mem_of_getElem? (i := 28) (by decide +kernel), List.mem_of_getElem? (i := 346) (by decide +kernel), List.mem_of_getElem? (i := 347) (by decide +kernel)⟩
theorem lw_p21 : lw_okq (⟨"HackneyStands$Fleet", "hasPlate", "(I)Z"⟩, 3) := ⟨⟨by decide +kernel, by decide +kernel⟩, List.mem_of_getElem? (i := 87) (by decide +kernel), List.mem_of_getElem? (i := 357) (by decide +kernel), List.mem_of_getElem? (i := 358) (by decide +kernel)⟩
theorem lw_p22 : lw_okq (⟨"HackneyStands$Fleet", "addCoach", "(II)I"⟩, 3) := ⟨⟨by decide +kernel, by decide +kernel⟩, List.mem_of_getElem? (i := 87) (by decide +kernel), List.mem_of_getElem? (i := 362) (by decide +kernel), List.mem_of_getElem? (i := 363) (by decide +kernel)⟩
theorem lw_p23 : lw_okq (⟨"HackneyStands$Fleet", "settle", "(III)V"⟩, 3) := ⟨⟨by decide +kernel, by decide +kernel⟩, List.mem_of_getElem? (i := 87) (by decide +kernel), List.mem_of_getElem? (i := 368) (by decide +kernel), List.mem_of_getElem? (i := 369) (by decide +kernel)⟩
theorem lw_p24 : lw_okq (⟨"HackneyStands$Fleet", "holderOf", "(II)I"⟩, 3) := ⟨⟨by decide +kernel, by decide +kernel⟩, List.mem_of_getElem? (i := 87) (by decide +kernel), List.mem_of_getElem? (i := 376) (by decide +kernel), List.mem_of_getElem? (i := 377) (by decide +kernel)⟩
theorem lw_p25 : lw_okq (⟨"HackneyStands$Fleet", "addLicence", "(III)I"⟩, 3) := ⟨⟨by decide +kernel, by decide +kernel⟩, List.mem_of_getElem? (i := 87) (by decide +kernel), List.mem_of_getElem? (i := 380) (by decide +kernel), List.mem_of_getElem? (i := 381) (by decide +kernel)⟩
theorem lw_p26 : lw_okq (⟨"HackneyStands", "today", "()I"⟩, 7) := ⟨⟨by decide +kernel, by decide +kernel⟩, List.mem_of_getElem? (i := 20) (by decide +kernel), List.mem_of_getElem? (i := 388) (by decide +kernel), List.mem_of_getElem? (i := 389) (by decide +kernel)⟩
theorem lw_p27 : lw_okq (⟨"HackneyStands$Fleet", "addStand", "(II)I"⟩, 3) := ⟨⟨by decide +kernel, by decide +kernel⟩, List.mem_of_getElem? (i := 87) (by decide +kernel), List.mem_of_getElem? (i := 398) (by decide +kernel), List.mem_of_getElem? (i := 399) (by decide +kernel)⟩
theorem lw_p28 : lw_okq (⟨"HackneyStands$Fleet", "isMoving", "(I)Z"⟩, 3) := ⟨⟨by decide +kernel, by decide +kernel⟩, List.mem_of_getElem? (i := 87) (by decide +kernel), List.mem_of_getElem? (i := 406) (by decide +kernel), List.mem_of_getElem? (i := 407) (by decide +kernel)⟩
theorem lw_p29 : lw_okq (⟨"HackneyStands$Fleet", "isStandingAt", "(II)Z"⟩, 3) := ⟨⟨by decide +kernel, by decide +kernel⟩, List.mem_of_getElem? (i := 87) (by decide +kernel), List.mem_of_getElem? (i := 410) (by decide +kernel), List.mem_of_getElem? (i := 411) (by decide +kernel)⟩
theorem lw_p30 : lw_okq (⟨"HackneyStands$Fleet", "isStanding", "(I)Z"⟩, 3) := ⟨⟨by decide +kernel, by decide +kernel⟩, List.mem_of_getElem? (i := 87) (by decide +kernel), List.mem_of_getElem? (i := 414) (by decide +kernel), List.mem_of_getElem? (i := 415) (by decide +kernel)⟩
theorem lw_p31 : lw_okq (⟨"HackneyStands$Fleet", "leaveRow", "(I)V"⟩, 3) := ⟨⟨by decide +kernel, by decide +kernel⟩, List.mem_of_getElem? (i := 87) (by decide +kernel), List.mem_of_getElem? (i := 421) (by decide +kernel), List.mem_of_getElem? (i := 422) (by decide +kernel)⟩
def lw_privs_2 : List (MethodName × Nat) := [(⟨"HackneyStands$City", "yardsFrom", "(I)I"⟩, 7), (⟨"HackneyStands$City", "keepSteps", "(II)V"⟩, 7), (⟨"HackneyStands$City", "leastNext", "(I)I"⟩, 7), (⟨"HackneyStands$City", "stepAt", "(I)I"⟩, 7), (⟨"HackneyStands$City", "nightIn", "(I)I"⟩, 7), (⟨"HackneyStands$Fleet", "hasPlate", "(I)Z"⟩, 3), (⟨"HackneyStands$Fleet", "addCoach", "(II)I"⟩, 3), (⟨"HackneyStands$Fleet", "settle", "(III)V"⟩, 3), (⟨"HackneyStands$Fleet", "holderOf", "(II)I"⟩, 3), (⟨"HackneyStands$Fleet", "addLicence", "(III)I"⟩, 3), (⟨"HackneyStands", "today", "()I"⟩, 7), (⟨"HackneyStands$Fleet", "addStand", "(II)I"⟩, 3), (⟨"HackneyStands$Fleet", "isMoving", "(I)Z"⟩, 3), (⟨"HackneyStands$Fleet", "isStandingAt", "(II)Z"⟩, 3), (⟨"HackneyStands$Fleet", "isStanding", "(I)Z"⟩, 3), (⟨"HackneyStands$Fleet", "leaveRow", "(I)V"⟩, 3)]
theorem lw_r2 : ∀ q ∈ lw_privs_2, lw_okq q := List.forall_mem_cons.mpr ⟨lw_p16, List.forall_mem_cons.mpr ⟨lw_p17, List.forall_mem_cons.mpr ⟨lw_p18, List.forall_mem_cons.mpr ⟨lw_p19, List.forall_mem_cons.mpr ⟨lw_p20, List.forall_mem_cons.mpr ⟨lw_p21, List.forall_mem_cons.mpr ⟨lw_p22, List.forall_mem_cons.mpr ⟨lw_p23, List.forall_mem_cons.mpr ⟨lw_p24, List.forall_mem_cons.mpr ⟨lw_p25, List.forall_mem_cons.mpr ⟨lw_p26, List.forall_mem_cons.mpr ⟨lw_p27, List.forall_mem_cons.mpr ⟨lw_p28, List.forall_mem_cons.mpr ⟨lw_p29, List.forall_mem_cons.mpr ⟨lw_p30, List.forall_mem_cons.mpr ⟨lw_p31, fun _ h => absurd h List.not_mem_nil⟩⟩⟩⟩⟩⟩⟩⟩⟩⟩⟩⟩⟩⟩⟩⟩
theorem lw_p32 : lw_okq (⟨"HackneyStands$Fleet", "rowLength", "(I)I"⟩, 3) := ⟨⟨by decide +kernel, by decide +kernel⟩, List.mem_of_getElem? (i := 87) (by decide +kernel), List.mem_of_getElem? (i := 425) (by decide +kernel), List.mem_of_getElem? (i := 426) (by decide +kernel)⟩
theorem lw_p33 : lw_okq (⟨"HackneyStands$Fleet", "coachInRow", "(II)I"⟩, 3) := ⟨⟨by decide +kernel, by decide +kernel⟩, List.mem_of_getElem? (i := 87) (by decide +kernel), List.mem_of_getElem? (i := 429) (by decide +kernel), List.mem_of_getElem? (i := 430) (by decide +kernel)⟩
theorem lw_p34 : lw_okq (⟨"HackneyStands$Fleet", "setOut", "(IIIII)V"⟩, 3) := ⟨⟨by decide +kernel, by decide +kernel⟩, List.mem_of_getElem? (i := 87) (by decide +kernel), List.mem_of_getElem? (i := 433) (by decide +kernel), List.mem_of_getElem? (i := 434) (by decide +kernel)⟩
theorem lw_p35 : lw_okq (⟨"HackneyStands$Fleet", "arrive", "(I)V"⟩, 3) := ⟨⟨by decide +kernel, by decide +kernel⟩, List.mem_of_getElem? (i := 87) (by decide +kernel), List.mem_of_getElem? (i := 437) (by decide +kernel), List.mem_of_getElem? (i := 438) (by decide +kernel)⟩
theorem lw_p36 : lw_okq (⟨"HackneyStands", "thisYear", "()I"⟩, 7) := ⟨⟨by decide +kernel, by decide +kernel⟩, List.mem_of_getElem? (i := 20) (by decide +kernel), List.mem_of_getElem? (i := 445) (by decide +kernel), List.mem_of_getElem? (i := 446) (by decide +kernel)⟩
theorem lw_p37 : lw_okq (⟨"HackneyStands$Trips", "tripsOf", "(I)I"⟩, 3) := ⟨⟨by decide +kernel, by decide +kernel⟩, List.mem_of_getElem? (i := 161) (by decide +kernel), List.mem_of_getElem? (i := 449) (by decide +kernel), List.mem_of_getElem? (i := 450) (by decide +kernel)⟩
theorem lw_p38 : lw_okq (⟨"HackneyStands", "earned", "(I)I"⟩, 7) := ⟨⟨by decide +kernel, by decide +kernel⟩, List.mem_of_getElem? (i := 20) (by decide +kernel), List.mem_of_getElem? (i := 454) (by decide +kernel), List.mem_of_getElem? (i := 455) (by decide +kernel)⟩
theorem lw_p39 : lw_okq (⟨"HackneyStands", "fareDue", "(II)I"⟩, 7) := ⟨⟨by decide +kernel, by decide +kernel⟩, List.mem_of_getElem? (i := 20) (by decide +kernel), List.mem_of_getElem? (i := 458) (by decide +kernel), List.mem_of_getElem? (i := 459) (by decide +kernel)⟩
theorem lw_p40 : lw_okq (⟨"HackneyStands", "tellTrip", "(LHackneyStands$Table;I)V"⟩, 7) := ⟨⟨by decide +kernel, by decide +kernel⟩, List.mem_of_getElem? (i := 20) (by decide +kernel), List.mem_of_getElem? (i := 462) (by decide +kernel), List.mem_of_getElem? (i := 463) (by decide +kernel)⟩
theorem lw_p41 : lw_okq (⟨"HackneyStands$LawBook", "tellRide", "(III)V"⟩, 5) := ⟨⟨by decide +kernel, by decide +kernel⟩, List.mem_of_getElem? (i := 108) (by decide +kernel), List.mem_of_getElem? (i := 466) (by decide +kernel), List.mem_of_getElem? (i := 467) (by decide +kernel)⟩
theorem lw_p42 : lw_okq (⟨"HackneyStands$LawBook", "tellTime", "(III)V"⟩, 5) := ⟨⟨by decide +kernel, by decide +kernel⟩, List.mem_of_getElem? (i := 108) (by decide +kernel), List.mem_of_getElem? (i := 470) (by decide +kernel), List.mem_of_getElem? (i := 471) (by decide +kernel)⟩
theorem lw_p43 : lw_okq (⟨"HackneyStands$LawBook", "tellLoad", "(III)V"⟩, 5) := ⟨⟨by decide +kernel, by decide +kernel⟩, List.mem_of_getElem? (i := 108) (by decide +kernel), List.mem_of_getElem? (i := 474) (by decide +kernel), List.mem_of_getElem? (i := 475) (by decide +kernel)⟩
theorem lw_p44 : lw_okq (⟨"HackneyStands", "dayOf", "(I)I"⟩, 7) := ⟨⟨by decide +kernel, by decide +kernel⟩, List.mem_of_getElem? (i := 20) (by decide +kernel), List.mem_of_getElem? (i := 478) (by decide +kernel), List.mem_of_getElem? (i := 479) (by decide +kernel)⟩
theorem lw_p45 : lw_okq (⟨"HackneyStands$LawBook", "lawInForce", "(III)I"⟩, 5) := ⟨⟨by decide +kernel, by decide +kernel⟩, List.mem_of_getElem? (i := 108) (by decide +kernel), List.mem_of_getElem? (i := 482) (by decide +kernel), List.mem_of_getElem? (i := 483) (by decide +kernel)⟩
theorem lw_p46 : lw_okq (⟨"HackneyStands$LawBook", "lawAt", "(I)LHackneyStands$Law;"⟩, 5) := ⟨⟨by decide +kernel, by decide +kernel⟩, List.mem_of_getElem? (i := 108) (by decide +kernel), List.mem_of_getElem? (i := 486) (by decide +kernel), List.mem_of_getElem? (i := 487) (by decide +kernel)⟩
theorem lw_p47 : lw_okq (⟨"HackneyStands$LawBook", "fareBy", "(I)I"⟩, 5) := ⟨⟨by decide +kernel, by decide +kernel⟩, List.mem_of_getElem? (i := 108) (by decide +kernel), List.mem_of_getElem? (i := 490) (by decide +kernel), List.mem_of_getElem? (i := 491) (by decide +kernel)⟩
def lw_privs_3 : List (MethodName × Nat) := [(⟨"HackneyStands$Fleet", "rowLength", "(I)I"⟩, 3), (⟨"HackneyStands$Fleet", "coachInRow", "(II)I"⟩, 3), (⟨"HackneyStands$Fleet", "setOut", "(IIIII)V"⟩, 3), (⟨"HackneyStands$Fleet", "arrive", "(I)V"⟩, 3), (⟨"HackneyStands", "thisYear", "()I"⟩, 7), (⟨"HackneyStands$Trips", "tripsOf", "(I)I"⟩, 3), (⟨"HackneyStands", "earned", "(I)I"⟩, 7), (⟨"HackneyStands", "fareDue", "(II)I"⟩, 7), (⟨"HackneyStands", "tellTrip", "(LHackneyStands$Table;I)V"⟩, 7), (⟨"HackneyStands$LawBook", "tellRide", "(III)V"⟩, 5), (⟨"HackneyStands$LawBook", "tellTime", "(III)V"⟩, 5), (⟨"HackneyStands$LawBook", "tellLoad", "(III)V"⟩, 5), (⟨"HackneyStands", "dayOf", "(I)I"⟩, 7), (⟨"HackneyStands$LawBook", "lawInForce", "(III)I"⟩, 5), (⟨"HackneyStands$LawBook", "lawAt", "(I)LHackneyStands$Law;"⟩, 5), (⟨"HackneyStands$LawBook", "fareBy", "(I)I"⟩, 5)]
theorem lw_r3 : ∀ q ∈ lw_privs_3, lw_okq q := List.forall_mem_cons.mpr ⟨lw_p32, List.forall_mem_cons.mpr ⟨lw_p33, List.forall_mem_cons.mpr ⟨lw_p34, List.forall_mem_cons.mpr ⟨lw_p35, List.forall_mem_cons.mpr ⟨lw_p36, List.forall_mem_cons.mpr ⟨lw_p37, List.forall_mem_cons.mpr ⟨lw_p38, List.forall_mem_cons.mpr ⟨lw_p39, List.forall_mem_cons.mpr ⟨lw_p40, List.forall_mem_cons.mpr ⟨lw_p41, List.forall_mem_cons.mpr ⟨lw_p42, List.forall_mem_cons.mpr ⟨lw_p43, List.forall_mem_cons.mpr ⟨lw_p44, List.forall_mem_cons.mpr ⟨lw_p45, List.forall_mem_cons.mpr ⟨lw_p46, List.forall_mem_cons.mpr ⟨lw_p47, fun _ h => absurd h List.not_mem_nil⟩⟩⟩⟩⟩⟩⟩⟩⟩⟩⟩⟩⟩⟩⟩⟩
theorem lw_p48 : lw_okq (⟨"HackneyStands$Law", "worth", "([I[I)I"⟩, 4) := ⟨⟨by decide +kernel, by decide +kernel⟩, List.mem_of_getElem? (i := 497) (by decide +kernel), List.mem_of_getElem? (i := 495) (by decide +kernel), List.mem_of_getElem? (i := 496) (by decide +kernel)⟩
theorem lw_p49 : lw_okq (⟨"HackneyStands$LawReader", "addBytes", "(II)I"⟩, 5) := ⟨⟨by decide +kernel, by decide +kernel⟩, List.mem_of_getElem? (i := 114) (by decide +kernel), List.mem_of_getElem? (i := 526) (by decide +kernel), List.mem_of_getElem? (i := 527) (by decide +kernel)⟩
theorem lw_p50 : lw_okq (⟨"HackneyStands$LawBook", "makeLaw", "(III)I"⟩, 5) := ⟨⟨by decide +kernel, by decide +kernel⟩, List.mem_of_getElem? (i := 108) (by decide +kernel), List.mem_of_getElem? (i := 534) (by decide +kernel), List.mem_of_getElem? (i := 535) (by decide +kernel)⟩
theorem lw_p51 : lw_okq (⟨"HackneyStands$LawReader", "isLaw", "()Z"⟩, 5) := ⟨⟨by decide +kernel, by decide +kernel⟩, List.mem_of_getElem? (i := 114) (by decide +kernel), List.mem_of_getElem? (i := 538) (by decide +kernel), List.mem_of_getElem? (i := 539) (by decide +kernel)⟩
theorem lw_p52 : lw_okq (⟨"HackneyStands$LawReader", "readE", "(I)Z"⟩, 5) := ⟨⟨by decide +kernel, by decide +kernel⟩, List.mem_of_getElem? (i := 114) (by decide +kernel), List.mem_of_getElem? (i := 542) (by decide +kernel), List.mem_of_getElem? (i := 543) (by decide +kernel)⟩
theorem lw_p53 : lw_okq (⟨"HackneyStands$LawReader", "readC", "(I)Z"⟩, 5) := ⟨⟨by decide +kernel, by decide +kernel⟩, List.mem_of_getElem? (i := 114) (by decide +kernel), List.mem_of_getElem? (i := 546) (by decide +kernel), List.mem_of_getElem? (i := 547) (by decide +kernel)⟩
theorem lw_p54 : lw_okq (⟨"HackneyStands$LawReader", "readS", "(I)Z"⟩, 5) := ⟨⟨by decide +kernel, by decide +kernel⟩, List.mem_of_getElem? (i := 114) (by decide +kernel), List.mem_of_getElem? (i := 550) (by decide +kernel), List.mem_of_getElem? (i := 551) (by decide +kernel)⟩
theorem lw_p55 : lw_okq (⟨"HackneyStands$LawReader", "readP", "(I)Z"⟩, 5) := ⟨⟨by decide +kernel, by decide +kernel⟩, List.mem_of_getElem? (i := 114) (by decide +kernel), List.mem_of_getElem? (i := 554) (by decide +kernel), List.mem_of_getElem? (i := 555) (by decide +kernel)⟩
theorem lw_p56 : lw_okq (⟨"HackneyStands$LawReader", "readO", "(I)Z"⟩, 5) := ⟨⟨by decide +kernel, by decide +kernel⟩, List.mem_of_getElem? (i := 114) (by decide +kernel), List.mem_of_getElem? (i := 558) (by decide +kernel), List.mem_of_getElem? (i := 559) (by decide +kernel)⟩
theorem lw_p57 : lw_okq (⟨"HackneyStands$LawReader", "sign", "()I"⟩, 5) := ⟨⟨by decide +kernel, by decide +kernel⟩, List.mem_of_getElem? (i := 114) (by decide +kernel), List.mem_of_getElem? (i := 562) (by decide +kernel), List.mem_of_getElem? (i := 563) (by decide +kernel)⟩
theorem lw_p58 : lw_okq (⟨"HackneyStands$LawReader", "readNumber", "()Z"⟩, 5) := ⟨⟨by decide +kernel, by decide +kernel⟩, List.mem_of_getElem? (i := 114) (by decide +kernel), List.mem_of_getElem? (i := 569) (by decide +kernel), List.mem_of_getElem? (i := 570) (by decide +kernel)⟩
theorem lw_p59 : lw_okq (⟨"HackneyStands$LawReader", "put", "(II)I"⟩, 5) := ⟨⟨by decide +kernel, by decide +kernel⟩, List.mem_of_getElem? (i := 114) (by decide +kernel), List.mem_of_getElem? (i := 573) (by decide +kernel), List.mem_of_getElem? (i := 574) (by decide +kernel)⟩
theorem lw_p60 : lw_okq (⟨"HackneyStands$LawReader", "readBraced", "(I)Z"⟩, 5) := ⟨⟨by decide +kernel, by decide +kernel⟩, List.mem_of_getElem? (i := 114) (by decide +kernel), List.mem_of_getElem? (i := 577) (by decide +kernel), List.mem_of_getElem? (i := 578) (by decide +kernel)⟩
theorem lw_p61 : lw_okq (⟨"HackneyStands$LawReader", "aimHere", "(I)V"⟩, 5) := ⟨⟨by decide +kernel, by decide +kernel⟩, List.mem_of_getElem? (i := 114) (by decide +kernel), List.mem_of_getElem? (i := 633) (by decide +kernel), List.mem_of_getElem? (i := 634) (by decide +kernel)⟩
theorem lw_p62 : lw_okq (⟨"HackneyStands$LawBook", "worthOf", "(I)I"⟩, 5) := ⟨⟨by decide +kernel, by decide +kernel⟩, List.mem_of_getElem? (i := 108) (by decide +kernel), List.mem_of_getElem? (i := 686) (by decide +kernel), List.mem_of_getElem? (i := 687) (by decide +kernel)⟩
theorem lw_p63 : lw_okq (⟨"HackneyStands", "isOrder", "(III)Z"⟩, 7) := ⟨⟨by decide +kernel, by decide +kernel⟩, List.mem_of_getElem? (i := 20) (by decide +kernel), List.mem_of_getElem? (i := 694) (by decide +kernel), List.mem_of_getElem? (i := 695) (by decide +kernel)⟩
def lw_privs_4 : List (MethodName × Nat) := [(⟨"HackneyStands$Law", "worth", "([I[I)I"⟩, 4), (⟨"HackneyStands$LawReader", "addBytes", "(II)I"⟩, 5), (⟨"HackneyStands$LawBook", "makeLaw", "(III)I"⟩, 5), (⟨"HackneyStands$LawReader", "isLaw", "()Z"⟩, 5), (⟨"HackneyStands$LawReader", "readE", "(I)Z"⟩, 5), (⟨"HackneyStands$LawReader", "readC", "(I)Z"⟩, 5), (⟨"HackneyStands$LawReader", "readS", "(I)Z"⟩, 5), (⟨"HackneyStands$LawReader", "readP", "(I)Z"⟩, 5), (⟨"HackneyStands$LawReader", "readO", "(I)Z"⟩, 5), (⟨"HackneyStands$LawReader", "sign", "()I"⟩, 5), (⟨"HackneyStands$LawReader", "readNumber", "()Z"⟩, 5), (⟨"HackneyStands$LawReader", "put", "(II)I"⟩, 5), (⟨"HackneyStands$LawReader", "readBraced", "(I)Z"⟩, 5), (⟨"HackneyStands$LawReader", "aimHere", "(I)V"⟩, 5), (⟨"HackneyStands$LawBook", "worthOf", "(I)I"⟩, 5), (⟨"HackneyStands", "isOrder", "(III)Z"⟩, 7)]
theorem lw_r4 : ∀ q ∈ lw_privs_4, lw_okq q := List.forall_mem_cons.mpr ⟨lw_p48, List.forall_mem_cons.mpr ⟨lw_p49, List.forall_mem_cons.mpr ⟨lw_p50, List.forall_mem_cons.mpr ⟨lw_p51, List.forall_mem_cons.mpr ⟨lw_p52, List.forall_mem_cons.mpr ⟨lw_p53, List.forall_mem_cons.mpr ⟨lw_p54, List.forall_mem_cons.mpr ⟨lw_p55, List.forall_mem_cons.mpr ⟨lw_p56, List.forall_mem_cons.mpr ⟨lw_p57, List.forall_mem_cons.mpr ⟨lw_p58, List.forall_mem_cons.mpr ⟨lw_p59, List.forall_mem_cons.mpr ⟨lw_p60, List.forall_mem_cons.mpr ⟨lw_p61, List.forall_mem_cons.mpr ⟨lw_p62, List.forall_mem_cons.mpr ⟨lw_p63, fun _ h => absurd h List.not_mem_nil⟩⟩⟩⟩⟩⟩⟩⟩⟩⟩⟩⟩⟩⟩⟩⟩
theorem lw_p64 : lw_okq (⟨"HackneyStands", "draftTrip", "(III)Z"⟩, 7) := ⟨⟨by decide +kernel, by decide +kernel⟩, List.mem_of_getElem? (i := 20) (by decide +kernel), List.mem_of_getElem? (i := 701) (by decide +kernel), List.mem_of_getElem? (i := 702) (by decide +kernel)⟩
theorem lw_p65 : lw_okq (⟨"HackneyStands$City", "badFrom", "(I)I"⟩, 7) := ⟨⟨by decide +kernel, by decide +kernel⟩, List.mem_of_getElem? (i := 28) (by decide +kernel), List.mem_of_getElem? (i := 705) (by decide +kernel), List.mem_of_getElem? (i := 706) (by decide +kernel)⟩
theorem lw_p66 : lw_okq (⟨"HackneyStands", "standAskedAfter", "(I)I"⟩, 7) := ⟨⟨by decide +kernel, by decide +kernel⟩, List.mem_of_getElem? (i := 20) (by decide +kernel), List.mem_of_getElem? (i := 710) (by decide +kernel), List.mem_of_getElem? (i := 711) (by decide +kernel)⟩
theorem lw_p67 : lw_okq (⟨"HackneyStands", "yardsToCaller", "(I)I"⟩, 7) := ⟨⟨by decide +kernel, by decide +kernel⟩, List.mem_of_getElem? (i := 20) (by decide +kernel), List.mem_of_getElem? (i := 714) (by decide +kernel), List.mem_of_getElem? (i := 715) (by decide +kernel)⟩
theorem lw_p68 : lw_okq (⟨"HackneyStands", "isAskedAfter", "(II)Z"⟩, 7) := ⟨⟨by decide +kernel, by decide +kernel⟩, List.mem_of_getElem? (i := 20) (by decide +kernel), List.mem_of_getElem? (i := 718) (by decide +kernel), List.mem_of_getElem? (i := 719) (by decide +kernel)⟩
theorem lw_p69 : lw_okq (⟨"HackneyStands", "firstToCome", "(I)I"⟩, 7) := ⟨⟨by decide +kernel, by decide +kernel⟩, List.mem_of_getElem? (i := 20) (by decide +kernel), List.mem_of_getElem? (i := 722) (by decide +kernel), List.mem_of_getElem? (i := 723) (by decide +kernel)⟩
theorem lw_p70 : lw_okq (⟨"HackneyStands", "whyNot", "(II)I"⟩, 7) := ⟨⟨by decide +kernel, by decide +kernel⟩, List.mem_of_getElem? (i := 20) (by decide +kernel), List.mem_of_getElem? (i := 727) (by decide +kernel), List.mem_of_getElem? (i := 728) (by decide +kernel)⟩
theorem lw_p71 : lw_okq (⟨"HackneyStands$Trips", "draftCoach", "(III)V"⟩, 3) := ⟨⟨by decide +kernel, by decide +kernel⟩, List.mem_of_getElem? (i := 161) (by decide +kernel), List.mem_of_getElem? (i := 731) (by decide +kernel), List.mem_of_getElem? (i := 732) (by decide +kernel)⟩
theorem lw_p72 : lw_okq (⟨"HackneyStands$Trips", "draftTimes", "(II)I"⟩, 3) := ⟨⟨by decide +kernel, by decide +kernel⟩, List.mem_of_getElem? (i := 161) (by decide +kernel), List.mem_of_getElem? (i := 736) (by decide +kernel), List.mem_of_getElem? (i := 737) (by decide +kernel)⟩
theorem lw_p73 : lw_okq (⟨"HackneyStands$Trips", "noteRefusal", "()V"⟩, 3) := ⟨⟨by decide +kernel, by decide +kernel⟩, List.mem_of_getElem? (i := 161) (by decide +kernel), List.mem_of_getElem? (i := 740) (by decide +kernel), List.mem_of_getElem? (i := 741) (by decide +kernel)⟩
theorem lw_p74 : lw_okq (⟨"HackneyStands", "sendToCaller", "(I)I"⟩, 7) := ⟨⟨by decide +kernel, by decide +kernel⟩, List.mem_of_getElem? (i := 20) (by decide +kernel), List.mem_of_getElem? (i := 744) (by decide +kernel), List.mem_of_getElem? (i := 745) (by decide +kernel)⟩
theorem lw_p75 : lw_okq (⟨"HackneyStands$Trips", "keepDraft", "()I"⟩, 3) := ⟨⟨by decide +kernel, by decide +kernel⟩, List.mem_of_getElem? (i := 161) (by decide +kernel), List.mem_of_getElem? (i := 748) (by decide +kernel), List.mem_of_getElem? (i := 749) (by decide +kernel)⟩
theorem lw_p76 : lw_okq (⟨"HackneyStands$Fleet", "nextToArrive", "(I)I"⟩, 3) := ⟨⟨by decide +kernel, by decide +kernel⟩, List.mem_of_getElem? (i := 87) (by decide +kernel), List.mem_of_getElem? (i := 761) (by decide +kernel), List.mem_of_getElem? (i := 762) (by decide +kernel)⟩
theorem lw_p77 : lw_okq (⟨"HackneyStands", "passTo", "(I)V"⟩, 7) := ⟨⟨by decide +kernel, by decide +kernel⟩, List.mem_of_getElem? (i := 20) (by decide +kernel), List.mem_of_getElem? (i := 766) (by decide +kernel), List.mem_of_getElem? (i := 767) (by decide +kernel)⟩
theorem lw_p78 : lw_okq (⟨"HackneyStands$Fleet", "spend", "(I)V"⟩, 3) := ⟨⟨by decide +kernel, by decide +kernel⟩, List.mem_of_getElem? (i := 87) (by decide +kernel), List.mem_of_getElem? (i := 770) (by decide +kernel), List.mem_of_getElem? (i := 771) (by decide +kernel)⟩
theorem lw_p79 : lw_okq (⟨"HackneyStands$Table", "isCell", "(II)Z"⟩, 4) := ⟨⟨by decide +kernel, by decide +kernel⟩, List.mem_of_getElem? (i := 34) (by decide +kernel), List.mem_of_getElem? (i := 783) (by decide +kernel), List.mem_of_getElem? (i := 784) (by decide +kernel)⟩
def lw_privs_5 : List (MethodName × Nat) := [(⟨"HackneyStands", "draftTrip", "(III)Z"⟩, 7), (⟨"HackneyStands$City", "badFrom", "(I)I"⟩, 7), (⟨"HackneyStands", "standAskedAfter", "(I)I"⟩, 7), (⟨"HackneyStands", "yardsToCaller", "(I)I"⟩, 7), (⟨"HackneyStands", "isAskedAfter", "(II)Z"⟩, 7), (⟨"HackneyStands", "firstToCome", "(I)I"⟩, 7), (⟨"HackneyStands", "whyNot", "(II)I"⟩, 7), (⟨"HackneyStands$Trips", "draftCoach", "(III)V"⟩, 3), (⟨"HackneyStands$Trips", "draftTimes", "(II)I"⟩, 3), (⟨"HackneyStands$Trips", "noteRefusal", "()V"⟩, 3), (⟨"HackneyStands", "sendToCaller", "(I)I"⟩, 7), (⟨"HackneyStands$Trips", "keepDraft", "()I"⟩, 3), (⟨"HackneyStands$Fleet", "nextToArrive", "(I)I"⟩, 3), (⟨"HackneyStands", "passTo", "(I)V"⟩, 7), (⟨"HackneyStands$Fleet", "spend", "(I)V"⟩, 3), (⟨"HackneyStands$Table", "isCell", "(II)Z"⟩, 4)]
theorem lw_r5 : ∀ q ∈ lw_privs_5, lw_okq q := List.forall_mem_cons.mpr ⟨lw_p64, List.forall_mem_cons.mpr ⟨lw_p65, List.forall_mem_cons.mpr ⟨lw_p66, List.forall_mem_cons.mpr ⟨lw_p67, List.forall_mem_cons.mpr ⟨lw_p68, List.forall_mem_cons.mpr ⟨lw_p69, List.forall_mem_cons.mpr ⟨lw_p70, List.forall_mem_cons.mpr ⟨lw_p71, List.forall_mem_cons.mpr ⟨lw_p72, List.forall_mem_cons.mpr ⟨lw_p73, List.forall_mem_cons.mpr ⟨lw_p74, List.forall_mem_cons.mpr ⟨lw_p75, List.forall_mem_cons.mpr ⟨lw_p76, List.forall_mem_cons.mpr ⟨lw_p77, List.forall_mem_cons.mpr ⟨lw_p78, List.forall_mem_cons.mpr ⟨lw_p79, fun _ h => absurd h List.not_mem_nil⟩⟩⟩⟩⟩⟩⟩⟩⟩⟩⟩⟩⟩⟩⟩⟩
theorem lw_p80 : lw_okq (⟨"HackneyStands", "kindDue", "(II)I"⟩, 7) := ⟨⟨by decide +kernel, by decide +kernel⟩, List.mem_of_getElem? (i := 20) (by decide +kernel), List.mem_of_getElem? (i := 792) (by decide +kernel), List.mem_of_getElem? (i := 793) (by decide +kernel)⟩
theorem lw_p81 : lw_okq (⟨"HackneyStands$Complaints", "isOf", "(I)Z"⟩, 1) := ⟨⟨by decide +kernel, by decide +kernel⟩, List.mem_of_getElem? (i := 190) (by decide +kernel), List.mem_of_getElem? (i := 805) (by decide +kernel), List.mem_of_getElem? (i := 806) (by decide +kernel)⟩
theorem lw_p82 : lw_okq (⟨"HackneyStands$Complaints", "addComplaint", "(II)I"⟩, 1) := ⟨⟨by decide +kernel, by decide +kernel⟩, List.mem_of_getElem? (i := 190) (by decide +kernel), List.mem_of_getElem? (i := 810) (by decide +kernel), List.mem_of_getElem? (i := 811) (by decide +kernel)⟩
theorem lw_p83 : lw_okq (⟨"HackneyStands", "overpaid", "(I)I"⟩, 7) := ⟨⟨by decide +kernel, by decide +kernel⟩, List.mem_of_getElem? (i := 20) (by decide +kernel), List.mem_of_getElem? (i := 820) (by decide +kernel), List.mem_of_getElem? (i := 821) (by decide +kernel)⟩
theorem lw_p84 : lw_okq (⟨"HackneyStands", "likeCases", "(IZ)I"⟩, 7) := ⟨⟨by decide +kernel, by decide +kernel⟩, List.mem_of_getElem? (i := 20) (by decide +kernel), List.mem_of_getElem? (i := 824) (by decide +kernel), List.mem_of_getElem? (i := 825) (by decide +kernel)⟩
theorem lw_p85 : lw_okq (⟨"HackneyStands", "isLike", "(II)Z"⟩, 7) := ⟨⟨by decide +kernel, by decide +kernel⟩, List.mem_of_getElem? (i := 20) (by decide +kernel), List.mem_of_getElem? (i := 828) (by decide +kernel), List.mem_of_getElem? (i := 829) (by decide +kernel)⟩
theorem lw_p86 : lw_okq (⟨"HackneyStands$Trips", "isSame", "(III)Z"⟩, 3) := ⟨⟨by decide +kernel, by decide +kernel⟩, List.mem_of_getElem? (i := 161) (by decide +kernel), List.mem_of_getElem? (i := 832) (by decide +kernel), List.mem_of_getElem? (i := 833) (by decide +kernel)⟩
theorem lw_p87 : lw_okq (⟨"HackneyStands", "latestLikeCase", "(I)I"⟩, 7) := ⟨⟨by decide +kernel, by decide +kernel⟩, List.mem_of_getElem? (i := 20) (by decide +kernel), List.mem_of_getElem? (i := 836) (by decide +kernel), List.mem_of_getElem? (i := 837) (by decide +kernel)⟩
theorem lw_p88 : lw_okq (⟨"HackneyStands$Things", "addLost", "(IIII)I"⟩, 2) := ⟨⟨by decide +kernel, by decide +kernel⟩, List.mem_of_getElem? (i := 203) (by decide +kernel), List.mem_of_getElem? (i := 844) (by decide +kernel), List.mem_of_getElem? (i := 845) (by decide +kernel)⟩
theorem lw_p89 : lw_okq (⟨"HackneyStands$Things", "addFound", "(III)I"⟩, 2) := ⟨⟨by decide +kernel, by decide +kernel⟩, List.mem_of_getElem? (i := 203) (by decide +kernel), List.mem_of_getElem? (i := 854) (by decide +kernel), List.mem_of_getElem? (i := 855) (by decide +kernel)⟩
theorem lw_p90 : lw_okq (⟨"HackneyStands", "onlyFoundFor", "(I)I"⟩, 7) := ⟨⟨by decide +kernel, by decide +kernel⟩, List.mem_of_getElem? (i := 20) (by decide +kernel), List.mem_of_getElem? (i := 862) (by decide +kernel), List.mem_of_getElem? (i := 863) (by decide +kernel)⟩
theorem lw_p91 : lw_okq (⟨"HackneyStands", "isFitting", "(II)Z"⟩, 7) := ⟨⟨by decide +kernel, by decide +kernel⟩, List.mem_of_getElem? (i := 20) (by decide +kernel), List.mem_of_getElem? (i := 866) (by decide +kernel), List.mem_of_getElem? (i := 867) (by decide +kernel)⟩
theorem lw_p92 : lw_okq (⟨"HackneyStands$Trips", "wasOnTrip", "(III)Z"⟩, 3) := ⟨⟨by decide +kernel, by decide +kernel⟩, List.mem_of_getElem? (i := 161) (by decide +kernel), List.mem_of_getElem? (i := 873) (by decide +kernel), List.mem_of_getElem? (i := 874) (by decide +kernel)⟩
theorem lw_p93 : lw_okq (⟨"HackneyStands", "lossesFitting", "(I)I"⟩, 7) := ⟨⟨by decide +kernel, by decide +kernel⟩, List.mem_of_getElem? (i := 20) (by decide +kernel), List.mem_of_getElem? (i := 877) (by decide +kernel), List.mem_of_getElem? (i := 878) (by decide +kernel)⟩
theorem lw_p94 : lw_okq (⟨"HackneyStands$LawBook", "isOfKind", "(II)Z"⟩, 5) := ⟨⟨by decide +kernel, by decide +kernel⟩, List.mem_of_getElem? (i := 108) (by decide +kernel), List.mem_of_getElem? (i := 889) (by decide +kernel), List.mem_of_getElem? (i := 890) (by decide +kernel)⟩
theorem lw_p95 : lw_okq (⟨"HackneyStandsModel", "isCorner", "(I)Z"⟩, 81) := ⟨⟨by decide +kernel, by decide +kernel⟩, List.mem_of_getElem? (i := 901) (by decide +kernel), List.mem_of_getElem? (i := 1160) (by decide +kernel), List.mem_of_getElem? (i := 1161) (by decide +kernel)⟩
def lw_privs_6 : List (MethodName × Nat) := [(⟨"HackneyStands", "kindDue", "(II)I"⟩, 7), (⟨"HackneyStands$Complaints", "isOf", "(I)Z"⟩, 1), (⟨"HackneyStands$Complaints", "addComplaint", "(II)I"⟩, 1), (⟨"HackneyStands", "overpaid", "(I)I"⟩, 7), (⟨"HackneyStands", "likeCases", "(IZ)I"⟩, 7), (⟨"HackneyStands", "isLike", "(II)Z"⟩, 7), (⟨"HackneyStands$Trips", "isSame", "(III)Z"⟩, 3), (⟨"HackneyStands", "latestLikeCase", "(I)I"⟩, 7), (⟨"HackneyStands$Things", "addLost", "(IIII)I"⟩, 2), (⟨"HackneyStands$Things", "addFound", "(III)I"⟩, 2), (⟨"HackneyStands", "onlyFoundFor", "(I)I"⟩, 7), (⟨"HackneyStands", "isFitting", "(II)Z"⟩, 7), (⟨"HackneyStands$Trips", "wasOnTrip", "(III)Z"⟩, 3), (⟨"HackneyStands", "lossesFitting", "(I)I"⟩, 7), (⟨"HackneyStands$LawBook", "isOfKind", "(II)Z"⟩, 5), (⟨"HackneyStandsModel", "isCorner", "(I)Z"⟩, 81)]
theorem lw_r6 : ∀ q ∈ lw_privs_6, lw_okq q := List.forall_mem_cons.mpr ⟨lw_p80, List.forall_mem_cons.mpr ⟨lw_p81, List.forall_mem_cons.mpr ⟨lw_p82, List.forall_mem_cons.mpr ⟨lw_p83, List.forall_mem_cons.mpr ⟨lw_p84, List.forall_mem_cons.mpr ⟨lw_p85, List.forall_mem_cons.mpr ⟨lw_p86, List.forall_mem_cons.mpr ⟨lw_p87, List.forall_mem_cons.mpr ⟨lw_p88, List.forall_mem_cons.mpr ⟨lw_p89, List.forall_mem_cons.mpr ⟨lw_p90, List.forall_mem_cons.mpr ⟨lw_p91, List.forall_mem_cons.mpr ⟨lw_p92, List.forall_mem_cons.mpr ⟨lw_p93, List.forall_mem_cons.mpr ⟨lw_p94, List.forall_mem_cons.mpr ⟨lw_p95, fun _ h => absurd h List.not_mem_nil⟩⟩⟩⟩⟩⟩⟩⟩⟩⟩⟩⟩⟩⟩⟩⟩
theorem lw_p96 : lw_okq (⟨"HackneyStandsModel", "isNight", "(I)Z"⟩, 81) := ⟨⟨by decide +kernel, by decide +kernel⟩, List.mem_of_getElem? (i := 901) (by decide +kernel), List.mem_of_getElem? (i := 1184) (by decide +kernel), List.mem_of_getElem? (i := 1185) (by decide +kernel)⟩
theorem lw_p97 : lw_okq (⟨"HackneyStandsModel", "yardsOf", "(III)I"⟩, 81) := ⟨⟨by decide +kernel, by decide +kernel⟩, List.mem_of_getElem? (i := 901) (by decide +kernel), List.mem_of_getElem? (i := 1192) (by decide +kernel), List.mem_of_getElem? (i := 1193) (by decide +kernel)⟩
theorem lw_p98 : lw_okq (⟨"HackneyStandsModel", "findFar", "(II)V"⟩, 81) := ⟨⟨by decide +kernel, by decide +kernel⟩, List.mem_of_getElem? (i := 901) (by decide +kernel), List.mem_of_getElem? (i := 1196) (by decide +kernel), List.mem_of_getElem? (i := 1197) (by decide +kernel)⟩
theorem lw_p99 : lw_okq (⟨"HackneyStandsModel", "isShut", "(II)Z"⟩, 81) := ⟨⟨by decide +kernel, by decide +kernel⟩, List.mem_of_getElem? (i := 901) (by decide +kernel), List.mem_of_getElem? (i := 1201) (by decide +kernel), List.mem_of_getElem? (i := 1202) (by decide +kernel)⟩
theorem lw_p100 : lw_okq (⟨"HackneyStandsModel", "come", "(III)Z"⟩, 81) := ⟨⟨by decide +kernel, by decide +kernel⟩, List.mem_of_getElem? (i := 901) (by decide +kernel), List.mem_of_getElem? (i := 1205) (by decide +kernel), List.mem_of_getElem? (i := 1206) (by decide +kernel)⟩
theorem lw_p101 : lw_okq (⟨"HackneyStandsModel", "findWay", "(III)V"⟩, 81) := ⟨⟨by decide +kernel, by decide +kernel⟩, List.mem_of_getElem? (i := 901) (by decide +kernel), List.mem_of_getElem? (i := 1209) (by decide +kernel), List.mem_of_getElem? (i := 1210) (by decide +kernel)⟩
theorem lw_p102 : lw_okq (⟨"HackneyStandsModel", "isCoach", "(I)Z"⟩, 81) := ⟨⟨by decide +kernel, by decide +kernel⟩, List.mem_of_getElem? (i := 901) (by decide +kernel), List.mem_of_getElem? (i := 1225) (by decide +kernel), List.mem_of_getElem? (i := 1226) (by decide +kernel)⟩
theorem lw_p103 : lw_okq (⟨"HackneyStandsModel", "holder", "(II)I"⟩, 81) := ⟨⟨by decide +kernel, by decide +kernel⟩, List.mem_of_getElem? (i := 901) (by decide +kernel), List.mem_of_getElem? (i := 1229) (by decide +kernel), List.mem_of_getElem? (i := 1230) (by decide +kernel)⟩
theorem lw_p104 : lw_okq (⟨"HackneyStandsModel", "today", "()I"⟩, 81) := ⟨⟨by decide +kernel, by decide +kernel⟩, List.mem_of_getElem? (i := 901) (by decide +kernel), List.mem_of_getElem? (i := 1237) (by decide +kernel), List.mem_of_getElem? (i := 1238) (by decide +kernel)⟩
theorem lw_p105 : lw_okq (⟨"HackneyStandsModel", "isStand", "(I)Z"⟩, 81) := ⟨⟨by decide +kernel, by decide +kernel⟩, List.mem_of_getElem? (i := 901) (by decide +kernel), List.mem_of_getElem? (i := 1249) (by decide +kernel), List.mem_of_getElem? (i := 1250) (by decide +kernel)⟩
theorem lw_p106 : lw_okq (⟨"HackneyStandsModel", "standOf", "(I)I"⟩, 81) := ⟨⟨by decide +kernel, by decide +kernel⟩, List.mem_of_getElem? (i := 901) (by decide +kernel), List.mem_of_getElem? (i := 1253) (by decide +kernel), List.mem_of_getElem? (i := 1254) (by decide +kernel)⟩
theorem lw_p107 : lw_okq (⟨"HackneyStandsModel", "leaveRow", "(I)V"⟩, 81) := ⟨⟨by decide +kernel, by decide +kernel⟩, List.mem_of_getElem? (i := 901) (by decide +kernel), List.mem_of_getElem? (i := 1257) (by decide +kernel), List.mem_of_getElem? (i := 1258) (by decide +kernel)⟩
theorem lw_p108 : lw_okq (⟨"HackneyStandsModel", "arrive", "(I)V"⟩, 81) := ⟨⟨by decide +kernel, by decide +kernel⟩, List.mem_of_getElem? (i := 901) (by decide +kernel), List.mem_of_getElem? (i := 1264) (by decide +kernel), List.mem_of_getElem? (i := 1265) (by decide +kernel)⟩
theorem lw_p109 : lw_okq (⟨"HackneyStandsModel", "tripsOf", "(IZ)I"⟩, 81) := ⟨⟨by decide +kernel, by decide +kernel⟩, List.mem_of_getElem? (i := 901) (by decide +kernel), List.mem_of_getElem? (i := 1272) (by decide +kernel), List.mem_of_getElem? (i := 1273) (by decide +kernel)⟩
theorem lw_p110 : lw_okq (⟨"HackneyStandsModel", "dueOf", "(II)I"⟩, 81) := ⟨⟨by decide +kernel, by decide +kernel⟩, List.mem_of_getElem? (i := 901) (by decide +kernel), List.mem_of_getElem? (i := 1276) (by decide +kernel), List.mem_of_getElem? (i := 1277) (by decide +kernel)⟩
theorem lw_p111 : lw_okq (⟨"HackneyStandsModel", "nameTrip", "(I)V"⟩, 81) := ⟨⟨by decide +kernel, by decide +kernel⟩, List.mem_of_getElem? (i := 901) (by decide +kernel), List.mem_of_getElem? (i := 1280) (by decide +kernel), List.mem_of_getElem? (i := 1281) (by decide +kernel)⟩
def lw_privs_7 : List (MethodName × Nat) := [(⟨"HackneyStandsModel", "isNight", "(I)Z"⟩, 81), (⟨"HackneyStandsModel", "yardsOf", "(III)I"⟩, 81), (⟨"HackneyStandsModel", "findFar", "(II)V"⟩, 81), (⟨"HackneyStandsModel", "isShut", "(II)Z"⟩, 81), (⟨"HackneyStandsModel", "come", "(III)Z"⟩, 81), (⟨"HackneyStandsModel", "findWay", "(III)V"⟩, 81), (⟨"HackneyStandsModel", "isCoach", "(I)Z"⟩, 81), (⟨"HackneyStandsModel", "holder", "(II)I"⟩, 81), (⟨"HackneyStandsModel", "today", "()I"⟩, 81), (⟨"HackneyStandsModel", "isStand", "(I)Z"⟩, 81), (⟨"HackneyStandsModel", "standOf", "(I)I"⟩, 81), (⟨"HackneyStandsModel", "leaveRow", "(I)V"⟩, 81), (⟨"HackneyStandsModel", "arrive", "(I)V"⟩, 81), (⟨"HackneyStandsModel", "tripsOf", "(IZ)I"⟩, 81), (⟨"HackneyStandsModel", "dueOf", "(II)I"⟩, 81), (⟨"HackneyStandsModel", "nameTrip", "(I)V"⟩, 81)]
theorem lw_r7 : ∀ q ∈ lw_privs_7, lw_okq q := List.forall_mem_cons.mpr ⟨lw_p96, List.forall_mem_cons.mpr ⟨lw_p97, List.forall_mem_cons.mpr ⟨lw_p98, List.forall_mem_cons.mpr ⟨lw_p99, List.forall_mem_cons.mpr ⟨lw_p100, List.forall_mem_cons.mpr ⟨lw_p101, List.forall_mem_cons.mpr ⟨lw_p102, List.forall_mem_cons.mpr ⟨lw_p103, List.forall_mem_cons.mpr ⟨lw_p104, List.forall_mem_cons.mpr ⟨lw_p105, List.forall_mem_cons.mpr ⟨lw_p106, List.forall_mem_cons.mpr ⟨lw_p107, List.forall_mem_cons.mpr ⟨lw_p108, List.forall_mem_cons.mpr ⟨lw_p109, List.forall_mem_cons.mpr ⟨lw_p110, List.forall_mem_cons.mpr ⟨lw_p111, fun _ h => absurd h List.not_mem_nil⟩⟩⟩⟩⟩⟩⟩⟩⟩⟩⟩⟩⟩⟩⟩⟩
theorem lw_p112 : lw_okq (⟨"HackneyStandsModel", "name", "(IIIIIIII)V"⟩, 81) := ⟨⟨by decide +kernel, by decide +kernel⟩, List.mem_of_getElem? (i := 901) (by decide +kernel), List.mem_of_getElem? (i := 1284) (by decide +kernel), List.mem_of_getElem? (i := 1285) (by decide +kernel)⟩
theorem lw_p113 : lw_okq (⟨"HackneyStandsModel", "force", "(III)I"⟩, 81) := ⟨⟨by decide +kernel, by decide +kernel⟩, List.mem_of_getElem? (i := 901) (by decide +kernel), List.mem_of_getElem? (i := 1288) (by decide +kernel), List.mem_of_getElem? (i := 1289) (by decide +kernel)⟩
theorem lw_p114 : lw_okq (⟨"HackneyStandsModel", "fare", "(II)I"⟩, 81) := ⟨⟨by decide +kernel, by decide +kernel⟩, List.mem_of_getElem? (i := 901) (by decide +kernel), List.mem_of_getElem? (i := 1292) (by decide +kernel), List.mem_of_getElem? (i := 1293) (by decide +kernel)⟩
theorem lw_p115 : lw_okq (⟨"HackneyStandsModel", "fareBy", "(I)I"⟩, 81) := ⟨⟨by decide +kernel, by decide +kernel⟩, List.mem_of_getElem? (i := 901) (by decide +kernel), List.mem_of_getElem? (i := 1296) (by decide +kernel), List.mem_of_getElem? (i := 1297) (by decide +kernel)⟩
theorem lw_p116 : lw_okq (⟨"HackneyStandsModel", "workOut", "(II)I"⟩, 81) := ⟨⟨by decide +kernel, by decide +kernel⟩, List.mem_of_getElem? (i := 901) (by decide +kernel), List.mem_of_getElem? (i := 1300) (by decide +kernel), List.mem_of_getElem? (i := 1301) (by decide +kernel)⟩
theorem lw_p117 : lw_okq (⟨"HackneyStandsModel", "chosen", "(I)I"⟩, 81) := ⟨⟨by decide +kernel, by decide +kernel⟩, List.mem_of_getElem? (i := 901) (by decide +kernel), List.mem_of_getElem? (i := 1304) (by decide +kernel), List.mem_of_getElem? (i := 1305) (by decide +kernel)⟩
theorem lw_p118 : lw_okq (⟨"HackneyStandsModel", "compared", "(I)I"⟩, 81) := ⟨⟨by decide +kernel, by decide +kernel⟩, List.mem_of_getElem? (i := 901) (by decide +kernel), List.mem_of_getElem? (i := 1308) (by decide +kernel), List.mem_of_getElem? (i := 1309) (by decide +kernel)⟩
theorem lw_p119 : lw_okq (⟨"HackneyStandsModel", "sum", "(I)I"⟩, 81) := ⟨⟨by decide +kernel, by decide +kernel⟩, List.mem_of_getElem? (i := 901) (by decide +kernel), List.mem_of_getElem? (i := 1312) (by decide +kernel), List.mem_of_getElem? (i := 1313) (by decide +kernel)⟩
theorem lw_p120 : lw_okq (⟨"HackneyStandsModel", "product", "(I)I"⟩, 81) := ⟨⟨by decide +kernel, by decide +kernel⟩, List.mem_of_getElem? (i := 901) (by decide +kernel), List.mem_of_getElem? (i := 1316) (by decide +kernel), List.mem_of_getElem? (i := 1317) (by decide +kernel)⟩
theorem lw_p121 : lw_okq (⟨"HackneyStandsModel", "one", "(I)I"⟩, 81) := ⟨⟨by decide +kernel, by decide +kernel⟩, List.mem_of_getElem? (i := 901) (by decide +kernel), List.mem_of_getElem? (i := 1320) (by decide +kernel), List.mem_of_getElem? (i := 1321) (by decide +kernel)⟩
theorem lw_p122 : lw_okq (⟨"HackneyStandsModel", "byteAt", "(I)I"⟩, 81) := ⟨⟨by decide +kernel, by decide +kernel⟩, List.mem_of_getElem? (i := 901) (by decide +kernel), List.mem_of_getElem? (i := 1324) (by decide +kernel), List.mem_of_getElem? (i := 1325) (by decide +kernel)⟩
theorem lw_p123 : lw_okq (⟨"HackneyStandsModel", "opens", "()Z"⟩, 81) := ⟨⟨by decide +kernel, by decide +kernel⟩, List.mem_of_getElem? (i := 901) (by decide +kernel), List.mem_of_getElem? (i := 1328) (by decide +kernel), List.mem_of_getElem? (i := 1329) (by decide +kernel)⟩
theorem lw_p124 : lw_okq (⟨"HackneyStandsModel", "wrong", "()I"⟩, 81) := ⟨⟨by decide +kernel, by decide +kernel⟩, List.mem_of_getElem? (i := 901) (by decide +kernel), List.mem_of_getElem? (i := 1332) (by decide +kernel), List.mem_of_getElem? (i := 1333) (by decide +kernel)⟩
theorem lw_p125 : lw_okq (⟨"HackneyStandsModel", "mayBeCalled", "(III)Z"⟩, 81) := ⟨⟨by decide +kernel, by decide +kernel⟩, List.mem_of_getElem? (i := 901) (by decide +kernel), List.mem_of_getElem? (i := 1369) (by decide +kernel), List.mem_of_getElem? (i := 1370) (by decide +kernel)⟩
theorem lw_p126 : lw_okq (⟨"HackneyStandsModel", "whyNot", "(IIIIIII)I"⟩, 81) := ⟨⟨by decide +kernel, by decide +kernel⟩, List.mem_of_getElem? (i := 901) (by decide +kernel), List.mem_of_getElem? (i := 1376) (by decide +kernel), List.mem_of_getElem? (i := 1377) (by decide +kernel)⟩
theorem lw_p127 : lw_okq (⟨"HackneyStandsModel", "drive", "(IIIIIIII)V"⟩, 81) := ⟨⟨by decide +kernel, by decide +kernel⟩, List.mem_of_getElem? (i := 901) (by decide +kernel), List.mem_of_getElem? (i := 1380) (by decide +kernel), List.mem_of_getElem? (i := 1381) (by decide +kernel)⟩
def lw_privs_8 : List (MethodName × Nat) := [(⟨"HackneyStandsModel", "name", "(IIIIIIII)V"⟩, 81), (⟨"HackneyStandsModel", "force", "(III)I"⟩, 81), (⟨"HackneyStandsModel", "fare", "(II)I"⟩, 81), (⟨"HackneyStandsModel", "fareBy", "(I)I"⟩, 81), (⟨"HackneyStandsModel", "workOut", "(II)I"⟩, 81), (⟨"HackneyStandsModel", "chosen", "(I)I"⟩, 81), (⟨"HackneyStandsModel", "compared", "(I)I"⟩, 81), (⟨"HackneyStandsModel", "sum", "(I)I"⟩, 81), (⟨"HackneyStandsModel", "product", "(I)I"⟩, 81), (⟨"HackneyStandsModel", "one", "(I)I"⟩, 81), (⟨"HackneyStandsModel", "byteAt", "(I)I"⟩, 81), (⟨"HackneyStandsModel", "opens", "()Z"⟩, 81), (⟨"HackneyStandsModel", "wrong", "()I"⟩, 81), (⟨"HackneyStandsModel", "mayBeCalled", "(III)Z"⟩, 81), (⟨"HackneyStandsModel", "whyNot", "(IIIIIII)I"⟩, 81), (⟨"HackneyStandsModel", "drive", "(IIIIIIII)V"⟩, 81)]
theorem lw_r8 : ∀ q ∈ lw_privs_8, lw_okq q := List.forall_mem_cons.mpr ⟨lw_p112, List.forall_mem_cons.mpr ⟨lw_p113, List.forall_mem_cons.mpr ⟨lw_p114, List.forall_mem_cons.mpr ⟨lw_p115, List.forall_mem_cons.mpr ⟨lw_p116, List.forall_mem_cons.mpr ⟨lw_p117, List.forall_mem_cons.mpr ⟨lw_p118, List.forall_mem_cons.mpr ⟨lw_p119, List.forall_mem_cons.mpr ⟨lw_p120, List.forall_mem_cons.mpr ⟨lw_p121, List.forall_mem_cons.mpr ⟨lw_p122, List.forall_mem_cons.mpr ⟨lw_p123, List.forall_mem_cons.mpr ⟨lw_p124, List.forall_mem_cons.mpr ⟨lw_p125, List.forall_mem_cons.mpr ⟨lw_p126, List.forall_mem_cons.mpr ⟨lw_p127, fun _ h => absurd h List.not_mem_nil⟩⟩⟩⟩⟩⟩⟩⟩⟩⟩⟩⟩⟩⟩⟩⟩
theorem lw_p128 : lw_okq (⟨"HackneyStandsModel", "note", "(III)V"⟩, 81) := ⟨⟨by decide +kernel, by decide +kernel⟩, List.mem_of_getElem? (i := 901) (by decide +kernel), List.mem_of_getElem? (i := 1384) (by decide +kernel), List.mem_of_getElem? (i := 1385) (by decide +kernel)⟩
theorem lw_p129 : lw_okq (⟨"HackneyStandsModel", "oneMinute", "()V"⟩, 81) := ⟨⟨by decide +kernel, by decide +kernel⟩, List.mem_of_getElem? (i := 901) (by decide +kernel), List.mem_of_getElem? (i := 1396) (by decide +kernel), List.mem_of_getElem? (i := 1397) (by decide +kernel)⟩
theorem lw_p130 : lw_okq (⟨"HackneyStandsModel", "isTrip", "(I)Z"⟩, 81) := ⟨⟨by decide +kernel, by decide +kernel⟩, List.mem_of_getElem? (i := 901) (by decide +kernel), List.mem_of_getElem? (i := 1404) (by decide +kernel), List.mem_of_getElem? (i := 1405) (by decide +kernel)⟩
theorem lw_p131 : lw_okq (⟨"HackneyStandsModel", "areLike", "(II)Z"⟩, 81) := ⟨⟨by decide +kernel, by decide +kernel⟩, List.mem_of_getElem? (i := 901) (by decide +kernel), List.mem_of_getElem? (i := 1424) (by decide +kernel), List.mem_of_getElem? (i := 1425) (by decide +kernel)⟩
theorem lw_p132 : lw_okq (⟨"HackneyStandsModel", "over", "(I)I"⟩, 81) := ⟨⟨by decide +kernel, by decide +kernel⟩, List.mem_of_getElem? (i := 901) (by decide +kernel), List.mem_of_getElem? (i := 1428) (by decide +kernel), List.mem_of_getElem? (i := 1429) (by decide +kernel)⟩
theorem lw_p133 : lw_okq (⟨"HackneyStandsModel", "fit", "(II)Z"⟩, 81) := ⟨⟨by decide +kernel, by decide +kernel⟩, List.mem_of_getElem? (i := 901) (by decide +kernel), List.mem_of_getElem? (i := 1444) (by decide +kernel), List.mem_of_getElem? (i := 1445) (by decide +kernel)⟩
theorem lw_p134 : lw_okq (⟨"HackneyStandsModel", "fitsPlate", "(II)Z"⟩, 81) := ⟨⟨by decide +kernel, by decide +kernel⟩, List.mem_of_getElem? (i := 901) (by decide +kernel), List.mem_of_getElem? (i := 1448) (by decide +kernel), List.mem_of_getElem? (i := 1449) (by decide +kernel)⟩
theorem lw_p135 : lw_okq (⟨"HackneyStandsModel", "isFareLaw", "(II)Z"⟩, 81) := ⟨⟨by decide +kernel, by decide +kernel⟩, List.mem_of_getElem? (i := 901) (by decide +kernel), List.mem_of_getElem? (i := 1461) (by decide +kernel), List.mem_of_getElem? (i := 1462) (by decide +kernel)⟩
def lw_privs_9 : List (MethodName × Nat) := [(⟨"HackneyStandsModel", "note", "(III)V"⟩, 81), (⟨"HackneyStandsModel", "oneMinute", "()V"⟩, 81), (⟨"HackneyStandsModel", "isTrip", "(I)Z"⟩, 81), (⟨"HackneyStandsModel", "areLike", "(II)Z"⟩, 81), (⟨"HackneyStandsModel", "over", "(I)I"⟩, 81), (⟨"HackneyStandsModel", "fit", "(II)Z"⟩, 81), (⟨"HackneyStandsModel", "fitsPlate", "(II)Z"⟩, 81), (⟨"HackneyStandsModel", "isFareLaw", "(II)Z"⟩, 81)]
theorem lw_r9 : ∀ q ∈ lw_privs_9, lw_okq q := List.forall_mem_cons.mpr ⟨lw_p128, List.forall_mem_cons.mpr ⟨lw_p129, List.forall_mem_cons.mpr ⟨lw_p130, List.forall_mem_cons.mpr ⟨lw_p131, List.forall_mem_cons.mpr ⟨lw_p132, List.forall_mem_cons.mpr ⟨lw_p133, List.forall_mem_cons.mpr ⟨lw_p134, List.forall_mem_cons.mpr ⟨lw_p135, fun _ h => absurd h List.not_mem_nil⟩⟩⟩⟩⟩⟩⟩⟩
def lw_privs : List (MethodName × Nat) := lw_privs_1 ++ (lw_privs_2 ++ (lw_privs_3 ++ (lw_privs_4 ++ (lw_privs_5 ++ (lw_privs_6 ++ (lw_privs_7 ++ (lw_privs_8 ++ (lw_privs_9))))))))
def lw_tbl : List Cond := k2_sels lw_privs ++ tables_1
theorem lw_privs_ok : ∀ q ∈ lw_privs, lw_okq q := by
  show ∀ q ∈ lw_privs_1 ++ (lw_privs_2 ++ (lw_privs_3 ++ (lw_privs_4 ++ (lw_privs_5 ++ (lw_privs_6 ++ (lw_privs_7 ++ (lw_privs_8 ++ (lw_privs_9)))))))), lw_okq q
  exact List.forall_mem_append.mpr ⟨lw_r1, List.forall_mem_append.mpr ⟨lw_r2, List.forall_mem_append.mpr ⟨lw_r3, List.forall_mem_append.mpr ⟨lw_r4, List.forall_mem_append.mpr ⟨lw_r5, List.forall_mem_append.mpr ⟨lw_r6, List.forall_mem_append.mpr ⟨lw_r7, List.forall_mem_append.mpr ⟨lw_r8, lw_r9⟩⟩⟩⟩⟩⟩⟩⟩

def RX0 : String := "HackneyStands$City"
def TX0 : u_T := fun k => match k with
  | 0 => ("HackneyStands$City", "corners", "I", false)
  | 1 => ("HackneyStands$City", "streets", "LHackneyStands$Table;", true)
  | 2 => ("HackneyStands$City", "rise", "[I", true)
  | 3 => ("HackneyStands$City", "set", "[I", true)
  | 4 => ("HackneyStands$City", "costs", "[I", true)
  | 5 => ("HackneyStands$City", "steps", "[I", true)
  | _ => ("HackneyStands$City", "stepCount", "I", false)
def tyX0 : Nat → FieldType := fun k => match k with
  | 0 => .int
  | 1 => .object "HackneyStands$Table"
  | 2 => .array .int
  | 3 => .array .int
  | 4 => .array .int
  | 5 => .array .int
  | _ => .int
abbrev wsX00 : List Cond := u_ws RX0 TX0 7
theorem nmX0 : ∀ a, a < 7 → ∀ b, b < 7 → a ≠ b → (TX0 a).2.1 ≠ (TX0 b).2.1 := by decide +kernel
theorem tyX0_ok : ∀ k, k < 7 → parseFieldDescriptor (TX0 k).2.2.1 = some (tyX0 k) := by decide +kernel
abbrev cX0_init : ByteArray := prog_2_method_1_code
def yX0_init : MethodName := ⟨RX0, "<init>", "()V"⟩
abbrev cX0_isCorner : ByteArray := prog_2_method_2_code
def yX0_isCorner : MethodName := ⟨RX0, "isCorner", "(I)Z"⟩
abbrev cX0_addCorner : ByteArray := prog_2_method_3_code
def yX0_addCorner : MethodName := ⟨RX0, "addCorner", "()I"⟩
abbrev cX0_addStreet : ByteArray := prog_2_method_4_code
def yX0_addStreet : MethodName := ⟨RX0, "addStreet", "(IIII)I"⟩
abbrev cX0_addSpan : ByteArray := prog_2_method_5_code
def yX0_addSpan : MethodName := ⟨RX0, "addSpan", "(III)I"⟩
abbrev cX0_tellSun : ByteArray := prog_2_method_6_code
def yX0_tellSun : MethodName := ⟨RX0, "tellSun", "(III)V"⟩
abbrev cX0_nightIn : ByteArray := prog_2_method_7_code
def yX0_nightIn : MethodName := ⟨RX0, "nightIn", "(I)I"⟩
abbrev cX0_isShut : ByteArray := prog_2_method_8_code
def yX0_isShut : MethodName := ⟨RX0, "isShut", "(II)Z"⟩
abbrev cX0_isOpen : ByteArray := prog_2_method_9_code
def yX0_isOpen : MethodName := ⟨RX0, "isOpen", "(I)Z"⟩
abbrev cX0_costFrom : ByteArray := prog_2_method_10_code
def yX0_costFrom : MethodName := ⟨RX0, "costFrom", "(I)I"⟩
abbrev cX0_measure : ByteArray := prog_2_method_11_code
def yX0_measure : MethodName := ⟨RX0, "measure", "(II)V"⟩
abbrev cX0_lowerAll : ByteArray := prog_2_method_12_code
def yX0_lowerAll : MethodName := ⟨RX0, "lowerAll", "()Z"⟩
abbrev cX0_lower : ByteArray := prog_2_method_13_code
def yX0_lower : MethodName := ⟨RX0, "lower", "(II)Z"⟩
abbrev cX0_yardsFrom : ByteArray := prog_2_method_14_code
def yX0_yardsFrom : MethodName := ⟨RX0, "yardsFrom", "(I)I"⟩
abbrev cX0_badFrom : ByteArray := prog_2_method_15_code
def yX0_badFrom : MethodName := ⟨RX0, "badFrom", "(I)I"⟩
abbrev cX0_keepSteps : ByteArray := prog_2_method_16_code
def yX0_keepSteps : MethodName := ⟨RX0, "keepSteps", "(II)V"⟩
abbrev cX0_leastNext : ByteArray := prog_2_method_17_code
def yX0_leastNext : MethodName := ⟨RX0, "leastNext", "(I)I"⟩
abbrev cX0_stepAt : ByteArray := prog_2_method_18_code
def yX0_stepAt : MethodName := ⟨RX0, "stepAt", "(I)I"⟩
def RX1 : String := "HackneyStands$Complaints"
def TX1 : u_T := fun k => match k with
  | _ => ("HackneyStands$Complaints", "made", "LHackneyStands$Table;", true)
def tyX1 : Nat → FieldType := fun k => match k with
  | _ => .object "HackneyStands$Table"
abbrev wsX10 : List Cond := u_ws RX1 TX1 1
theorem nmX1 : ∀ a, a < 1 → ∀ b, b < 1 → a ≠ b → (TX1 a).2.1 ≠ (TX1 b).2.1 := by decide +kernel
theorem tyX1_ok : ∀ k, k < 1 → parseFieldDescriptor (TX1 k).2.2.1 = some (tyX1 k) := by decide +kernel
abbrev cX1_init : ByteArray := prog_3_method_1_code
def yX1_init : MethodName := ⟨RX1, "<init>", "()V"⟩
abbrev cX1_isOf : ByteArray := prog_3_method_2_code
def yX1_isOf : MethodName := ⟨RX1, "isOf", "(I)Z"⟩
abbrev cX1_addComplaint : ByteArray := prog_3_method_3_code
def yX1_addComplaint : MethodName := ⟨RX1, "addComplaint", "(II)I"⟩
def RX2 : String := "HackneyStands$Fleet"
def TX2 : u_T := fun k => match k with
  | 0 => ("HackneyStands$Fleet", "coaches", "LHackneyStands$Table;", true)
  | 1 => ("HackneyStands$Fleet", "licences", "LHackneyStands$Table;", true)
  | _ => ("HackneyStands$Fleet", "stands", "LHackneyStands$Table;", true)
def tyX2 : Nat → FieldType := fun k => match k with
  | 0 => .object "HackneyStands$Table"
  | 1 => .object "HackneyStands$Table"
  | _ => .object "HackneyStands$Table"
abbrev wsX20 : List Cond := u_ws RX2 TX2 3
theorem nmX2 : ∀ a, a < 3 → ∀ b, b < 3 → a ≠ b → (TX2 a).2.1 ≠ (TX2 b).2.1 := by decide +kernel
theorem tyX2_ok : ∀ k, k < 3 → parseFieldDescriptor (TX2 k).2.2.1 = some (tyX2 k) := by decide +kernel
abbrev cX2_init : ByteArray := prog_4_method_1_code
def yX2_init : MethodName := ⟨RX2, "<init>", "()V"⟩
abbrev cX2_hasPlate : ByteArray := prog_4_method_2_code
def yX2_hasPlate : MethodName := ⟨RX2, "hasPlate", "(I)Z"⟩
abbrev cX2_addCoach : ByteArray := prog_4_method_3_code
def yX2_addCoach : MethodName := ⟨RX2, "addCoach", "(II)I"⟩
abbrev cX2_holderOf : ByteArray := prog_4_method_4_code
def yX2_holderOf : MethodName := ⟨RX2, "holderOf", "(II)I"⟩
abbrev cX2_addLicence : ByteArray := prog_4_method_5_code
def yX2_addLicence : MethodName := ⟨RX2, "addLicence", "(III)I"⟩
abbrev cX2_addStand : ByteArray := prog_4_method_6_code
def yX2_addStand : MethodName := ⟨RX2, "addStand", "(II)I"⟩
abbrev cX2_isMoving : ByteArray := prog_4_method_7_code
def yX2_isMoving : MethodName := ⟨RX2, "isMoving", "(I)Z"⟩
abbrev cX2_isStanding : ByteArray := prog_4_method_8_code
def yX2_isStanding : MethodName := ⟨RX2, "isStanding", "(I)Z"⟩
abbrev cX2_isStandingAt : ByteArray := prog_4_method_9_code
def yX2_isStandingAt : MethodName := ⟨RX2, "isStandingAt", "(II)Z"⟩
abbrev cX2_rowLength : ByteArray := prog_4_method_10_code
def yX2_rowLength : MethodName := ⟨RX2, "rowLength", "(I)I"⟩
abbrev cX2_coachInRow : ByteArray := prog_4_method_11_code
def yX2_coachInRow : MethodName := ⟨RX2, "coachInRow", "(II)I"⟩
abbrev cX2_leaveRow : ByteArray := prog_4_method_12_code
def yX2_leaveRow : MethodName := ⟨RX2, "leaveRow", "(I)V"⟩
abbrev cX2_setOut : ByteArray := prog_4_method_13_code
def yX2_setOut : MethodName := ⟨RX2, "setOut", "(IIIII)V"⟩
abbrev cX2_settle : ByteArray := prog_4_method_14_code
def yX2_settle : MethodName := ⟨RX2, "settle", "(III)V"⟩
abbrev cX2_arrive : ByteArray := prog_4_method_15_code
def yX2_arrive : MethodName := ⟨RX2, "arrive", "(I)V"⟩
abbrev cX2_nextToArrive : ByteArray := prog_4_method_16_code
def yX2_nextToArrive : MethodName := ⟨RX2, "nextToArrive", "(I)I"⟩
abbrev cX2_spend : ByteArray := prog_4_method_17_code
def yX2_spend : MethodName := ⟨RX2, "spend", "(I)V"⟩
abbrev cX2_gainOf : ByteArray := prog_4_method_18_code
def yX2_gainOf : MethodName := ⟨RX2, "gainOf", "(I)I"⟩
def RX3 : String := "HackneyStands$Law"
def TX3 : u_T := fun k => match k with
  | 0 => ("HackneyStands$Law", "kind", "I", true)
  | 1 => ("HackneyStands$Law", "from", "I", true)
  | 2 => ("HackneyStands$Law", "made", "I", true)
  | _ => ("HackneyStands$Law", "commands", "[I", true)
def tyX3 : Nat → FieldType := fun k => match k with
  | 0 => .int
  | 1 => .int
  | 2 => .int
  | _ => .array .int
abbrev wsX30 : List Cond := u_ws RX3 TX3 4
theorem nmX3 : ∀ a, a < 4 → ∀ b, b < 4 → a ≠ b → (TX3 a).2.1 ≠ (TX3 b).2.1 := by decide +kernel
theorem tyX3_ok : ∀ k, k < 4 → parseFieldDescriptor (TX3 k).2.2.1 = some (tyX3 k) := by decide +kernel
abbrev cX3_init : ByteArray := prog_5_method_1_code
def yX3_init : MethodName := ⟨RX3, "<init>", "(III[I)V"⟩
abbrev cX3_worth : ByteArray := prog_5_method_2_code
def yX3_worth : MethodName := ⟨RX3, "worth", "([I[I)I"⟩
abbrev cX3_nameAt : ByteArray := prog_5_method_3_code
def yX3_nameAt : MethodName := ⟨RX3, "nameAt", "([II)I"⟩
abbrev cX3_reckoned : ByteArray := prog_5_method_4_code
def yX3_reckoned : MethodName := ⟨RX3, "reckoned", "(III)I"⟩
def RX4 : String := "HackneyStands$LawBook"
def TX4 : u_T := fun k => match k with
  | 0 => ("HackneyStands$LawBook", "reader", "LHackneyStands$LawReader;", true)
  | 1 => ("HackneyStands$LawBook", "laws", "[LHackneyStands$Law;", true)
  | 2 => ("HackneyStands$LawBook", "lawCount", "I", false)
  | 3 => ("HackneyStands$LawBook", "names", "[I", true)
  | _ => ("HackneyStands$LawBook", "stack", "[I", true)
def tyX4 : Nat → FieldType := fun k => match k with
  | 0 => .object "HackneyStands$LawReader"
  | 1 => .array (.object "HackneyStands$Law")
  | 2 => .int
  | 3 => .array .int
  | _ => .array .int
abbrev wsX40 : List Cond := u_ws RX4 TX4 5
theorem nmX4 : ∀ a, a < 5 → ∀ b, b < 5 → a ≠ b → (TX4 a).2.1 ≠ (TX4 b).2.1 := by decide +kernel
theorem tyX4_ok : ∀ k, k < 5 → parseFieldDescriptor (TX4 k).2.2.1 = some (tyX4 k) := by decide +kernel
abbrev cX4_init : ByteArray := prog_6_method_1_code
def yX4_init : MethodName := ⟨RX4, "<init>", "()V"⟩
abbrev cX4_nameOf : ByteArray := prog_6_method_2_code
def yX4_nameOf : MethodName := ⟨RX4, "nameOf", "(I)I"⟩
abbrev cX4_makeLaw : ByteArray := prog_6_method_3_code
def yX4_makeLaw : MethodName := ⟨RX4, "makeLaw", "(III)I"⟩
abbrev cX4_lawAt : ByteArray := prog_6_method_4_code
def yX4_lawAt : MethodName := ⟨RX4, "lawAt", "(I)LHackneyStands$Law;"⟩
abbrev cX4_isOfKind : ByteArray := prog_6_method_5_code
def yX4_isOfKind : MethodName := ⟨RX4, "isOfKind", "(II)Z"⟩
abbrev cX4_lawInForce : ByteArray := prog_6_method_6_code
def yX4_lawInForce : MethodName := ⟨RX4, "lawInForce", "(III)I"⟩
abbrev cX4_tellRide : ByteArray := prog_6_method_7_code
def yX4_tellRide : MethodName := ⟨RX4, "tellRide", "(III)V"⟩
abbrev cX4_tellTime : ByteArray := prog_6_method_8_code
def yX4_tellTime : MethodName := ⟨RX4, "tellTime", "(III)V"⟩
abbrev cX4_tellLoad : ByteArray := prog_6_method_9_code
def yX4_tellLoad : MethodName := ⟨RX4, "tellLoad", "(III)V"⟩
abbrev cX4_worthOf : ByteArray := prog_6_method_10_code
def yX4_worthOf : MethodName := ⟨RX4, "worthOf", "(I)I"⟩
abbrev cX4_fareBy : ByteArray := prog_6_method_11_code
def yX4_fareBy : MethodName := ⟨RX4, "fareBy", "(I)I"⟩
abbrev cX4_lesserFare : ByteArray := prog_6_method_12_code
def yX4_lesserFare : MethodName := ⟨RX4, "lesserFare", "(II)I"⟩
def RX5 : String := "HackneyStands$LawReader"
def TX5 : u_T := fun k => match k with
  | 0 => ("HackneyStands$LawReader", "tape", "[I", true)
  | 1 => ("HackneyStands$LawReader", "commands", "[I", true)
  | 2 => ("HackneyStands$LawReader", "length", "I", false)
  | 3 => ("HackneyStands$LawReader", "place", "I", false)
  | _ => ("HackneyStands$LawReader", "commandCount", "I", false)
def tyX5 : Nat → FieldType := fun k => match k with
  | 0 => .array .int
  | 1 => .array .int
  | 2 => .int
  | 3 => .int
  | _ => .int
abbrev wsX50 : List Cond := u_ws RX5 TX5 5
theorem nmX5 : ∀ a, a < 5 → ∀ b, b < 5 → a ≠ b → (TX5 a).2.1 ≠ (TX5 b).2.1 := by decide +kernel
theorem tyX5_ok : ∀ k, k < 5 → parseFieldDescriptor (TX5 k).2.2.1 = some (tyX5 k) := by decide +kernel
abbrev cX5_init : ByteArray := prog_7_method_1_code
def yX5_init : MethodName := ⟨RX5, "<init>", "()V"⟩
abbrev cX5_addBytes : ByteArray := prog_7_method_2_code
def yX5_addBytes : MethodName := ⟨RX5, "addBytes", "(II)I"⟩
abbrev cX5_isLaw : ByteArray := prog_7_method_3_code
def yX5_isLaw : MethodName := ⟨RX5, "isLaw", "()Z"⟩
abbrev cX5_sign : ByteArray := prog_7_method_4_code
def yX5_sign : MethodName := ⟨RX5, "sign", "()I"⟩
abbrev cX5_put : ByteArray := prog_7_method_5_code
def yX5_put : MethodName := ⟨RX5, "put", "(II)I"⟩
abbrev cX5_aimHere : ByteArray := prog_7_method_6_code
def yX5_aimHere : MethodName := ⟨RX5, "aimHere", "(I)V"⟩
abbrev cX5_readE : ByteArray := prog_7_method_7_code
def yX5_readE : MethodName := ⟨RX5, "readE", "(I)Z"⟩
abbrev cX5_readC : ByteArray := prog_7_method_8_code
def yX5_readC : MethodName := ⟨RX5, "readC", "(I)Z"⟩
abbrev cX5_readS : ByteArray := prog_7_method_9_code
def yX5_readS : MethodName := ⟨RX5, "readS", "(I)Z"⟩
abbrev cX5_readP : ByteArray := prog_7_method_10_code
def yX5_readP : MethodName := ⟨RX5, "readP", "(I)Z"⟩
abbrev cX5_readO : ByteArray := prog_7_method_11_code
def yX5_readO : MethodName := ⟨RX5, "readO", "(I)Z"⟩
abbrev cX5_readBraced : ByteArray := prog_7_method_12_code
def yX5_readBraced : MethodName := ⟨RX5, "readBraced", "(I)Z"⟩
abbrev cX5_isDigit : ByteArray := prog_7_method_13_code
def yX5_isDigit : MethodName := ⟨RX5, "isDigit", "(I)Z"⟩
abbrev cX5_readNumber : ByteArray := prog_7_method_14_code
def yX5_readNumber : MethodName := ⟨RX5, "readNumber", "()Z"⟩
def RX6 : String := "HackneyStands$Table"
def TX6 : u_T := fun k => match k with
  | 0 => ("HackneyStands$Table", "limit", "I", true)
  | 1 => ("HackneyStands$Table", "width", "I", true)
  | 2 => ("HackneyStands$Table", "cells", "[I", true)
  | _ => ("HackneyStands$Table", "rows", "I", false)
def tyX6 : Nat → FieldType := fun k => match k with
  | 0 => .int
  | 1 => .int
  | 2 => .array .int
  | _ => .int
abbrev wsX60 : List Cond := u_ws RX6 TX6 4
theorem nmX6 : ∀ a, a < 4 → ∀ b, b < 4 → a ≠ b → (TX6 a).2.1 ≠ (TX6 b).2.1 := by decide +kernel
theorem tyX6_ok : ∀ k, k < 4 → parseFieldDescriptor (TX6 k).2.2.1 = some (tyX6 k) := by decide +kernel
abbrev cX6_init : ByteArray := prog_8_method_1_code
def yX6_init : MethodName := ⟨RX6, "<init>", "(II)V"⟩
abbrev cX6_has : ByteArray := prog_8_method_2_code
def yX6_has : MethodName := ⟨RX6, "has", "(I)Z"⟩
abbrev cX6_isFull : ByteArray := prog_8_method_3_code
def yX6_isFull : MethodName := ⟨RX6, "isFull", "()Z"⟩
abbrev cX6_isCell : ByteArray := prog_8_method_4_code
def yX6_isCell : MethodName := ⟨RX6, "isCell", "(II)Z"⟩
abbrev cX6_add : ByteArray := prog_8_method_5_code
def yX6_add : MethodName := ⟨RX6, "add", "()I"⟩
abbrev cX6_get : ByteArray := prog_8_method_6_code
def yX6_get : MethodName := ⟨RX6, "get", "(II)I"⟩
abbrev cX6_set : ByteArray := prog_8_method_7_code
def yX6_set : MethodName := ⟨RX6, "set", "(III)V"⟩
def RX7 : String := "HackneyStands$Things"
def TX7 : u_T := fun k => match k with
  | 0 => ("HackneyStands$Things", "losses", "LHackneyStands$Table;", true)
  | _ => ("HackneyStands$Things", "finds", "LHackneyStands$Table;", true)
def tyX7 : Nat → FieldType := fun k => match k with
  | 0 => .object "HackneyStands$Table"
  | _ => .object "HackneyStands$Table"
abbrev wsX70 : List Cond := u_ws RX7 TX7 2
theorem nmX7 : ∀ a, a < 2 → ∀ b, b < 2 → a ≠ b → (TX7 a).2.1 ≠ (TX7 b).2.1 := by decide +kernel
theorem tyX7_ok : ∀ k, k < 2 → parseFieldDescriptor (TX7 k).2.2.1 = some (tyX7 k) := by decide +kernel
abbrev cX7_init : ByteArray := prog_9_method_1_code
def yX7_init : MethodName := ⟨RX7, "<init>", "()V"⟩
abbrev cX7_addLost : ByteArray := prog_9_method_2_code
def yX7_addLost : MethodName := ⟨RX7, "addLost", "(IIII)I"⟩
abbrev cX7_addFound : ByteArray := prog_9_method_3_code
def yX7_addFound : MethodName := ⟨RX7, "addFound", "(III)I"⟩
abbrev cX7_isPlate : ByteArray := prog_9_method_4_code
def yX7_isPlate : MethodName := ⟨RX7, "isPlate", "(II)Z"⟩
def RX8 : String := "HackneyStands$Trips"
def TX8 : u_T := fun k => match k with
  | 0 => ("HackneyStands$Trips", "kept", "LHackneyStands$Table;", true)
  | 1 => ("HackneyStands$Trips", "draft", "LHackneyStands$Table;", true)
  | _ => ("HackneyStands$Trips", "refusals", "LHackneyStands$Table;", true)
def tyX8 : Nat → FieldType := fun k => match k with
  | 0 => .object "HackneyStands$Table"
  | 1 => .object "HackneyStands$Table"
  | _ => .object "HackneyStands$Table"
abbrev wsX80 : List Cond := u_ws RX8 TX8 3
theorem nmX8 : ∀ a, a < 3 → ∀ b, b < 3 → a ≠ b → (TX8 a).2.1 ≠ (TX8 b).2.1 := by decide +kernel
theorem tyX8_ok : ∀ k, k < 3 → parseFieldDescriptor (TX8 k).2.2.1 = some (tyX8 k) := by decide +kernel
abbrev cX8_init : ByteArray := prog_10_method_1_code
def yX8_init : MethodName := ⟨RX8, "<init>", "()V"⟩
abbrev cX8_draftCoach : ByteArray := prog_10_method_2_code
def yX8_draftCoach : MethodName := ⟨RX8, "draftCoach", "(III)V"⟩
abbrev cX8_draftTimes : ByteArray := prog_10_method_3_code
def yX8_draftTimes : MethodName := ⟨RX8, "draftTimes", "(II)I"⟩
abbrev cX8_keepDraft : ByteArray := prog_10_method_4_code
def yX8_keepDraft : MethodName := ⟨RX8, "keepDraft", "()I"⟩
abbrev cX8_noteRefusal : ByteArray := prog_10_method_5_code
def yX8_noteRefusal : MethodName := ⟨RX8, "noteRefusal", "()V"⟩
abbrev cX8_tripsOf : ByteArray := prog_10_method_6_code
def yX8_tripsOf : MethodName := ⟨RX8, "tripsOf", "(I)I"⟩
abbrev cX8_isSame : ByteArray := prog_10_method_7_code
def yX8_isSame : MethodName := ⟨RX8, "isSame", "(III)Z"⟩
abbrev cX8_wasOnTrip : ByteArray := prog_10_method_8_code
def yX8_wasOnTrip : MethodName := ⟨RX8, "wasOnTrip", "(III)Z"⟩
def RX9 : String := "HackneyStands"
def TX9 : u_T := fun k => match k with
  | 0 => ("HackneyStands", "now", "I", false)
  | 1 => ("HackneyStands", "city", "LHackneyStands$City;", true)
  | 2 => ("HackneyStands", "fleet", "LHackneyStands$Fleet;", true)
  | 3 => ("HackneyStands", "book", "LHackneyStands$LawBook;", true)
  | 4 => ("HackneyStands", "trips", "LHackneyStands$Trips;", true)
  | 5 => ("HackneyStands", "complaints", "LHackneyStands$Complaints;", true)
  | _ => ("HackneyStands", "things", "LHackneyStands$Things;", true)
def tyX9 : Nat → FieldType := fun k => match k with
  | 0 => .int
  | 1 => .object "HackneyStands$City"
  | 2 => .object "HackneyStands$Fleet"
  | 3 => .object "HackneyStands$LawBook"
  | 4 => .object "HackneyStands$Trips"
  | 5 => .object "HackneyStands$Complaints"
  | _ => .object "HackneyStands$Things"
abbrev wsX90 : List Cond := u_ws RX9 TX9 7
theorem nmX9 : ∀ a, a < 7 → ∀ b, b < 7 → a ≠ b → (TX9 a).2.1 ≠ (TX9 b).2.1 := by decide +kernel
theorem tyX9_ok : ∀ k, k < 7 → parseFieldDescriptor (TX9 k).2.2.1 = some (tyX9 k) := by decide +kernel
abbrev cX9_init : ByteArray := prog_1_method_1_code
def yX9_init : MethodName := ⟨RX9, "<init>", "()V"⟩
abbrev cX9_corner : ByteArray := prog_1_method_2_code
def yX9_corner : MethodName := ⟨RX9, "corner", "()I"⟩
abbrev cX9_street : ByteArray := prog_1_method_3_code
def yX9_street : MethodName := ⟨RX9, "street", "(III)I"⟩
abbrev cX9_shut : ByteArray := prog_1_method_4_code
def yX9_shut : MethodName := ⟨RX9, "shut", "(III)I"⟩
abbrev cX9_sun : ByteArray := prog_1_method_5_code
def yX9_sun : MethodName := ⟨RX9, "sun", "(III)I"⟩
abbrev cX9_way : ByteArray := prog_1_method_6_code
def yX9_way : MethodName := ⟨RX9, "way", "(III)I"⟩
abbrev cX9_step : ByteArray := prog_1_method_7_code
def yX9_step : MethodName := ⟨RX9, "step", "(I)I"⟩
abbrev cX9_night : ByteArray := prog_1_method_8_code
def yX9_night : MethodName := ⟨RX9, "night", "(I)I"⟩
abbrev cX9_coach : ByteArray := prog_1_method_9_code
def yX9_coach : MethodName := ⟨RX9, "coach", "(II)I"⟩
abbrev cX9_licence : ByteArray := prog_1_method_10_code
def yX9_licence : MethodName := ⟨RX9, "licence", "(III)I"⟩
abbrev cX9_look : ByteArray := prog_1_method_11_code
def yX9_look : MethodName := ⟨RX9, "look", "(II)I"⟩
abbrev cX9_stand : ByteArray := prog_1_method_12_code
def yX9_stand : MethodName := ⟨RX9, "stand", "(II)I"⟩
abbrev cX9_go : ByteArray := prog_1_method_13_code
def yX9_go : MethodName := ⟨RX9, "go", "(II)I"⟩
abbrev cX9_about : ByteArray := prog_1_method_14_code
def yX9_about : MethodName := ⟨RX9, "about", "(II)I"⟩
abbrev cX9_turn : ByteArray := prog_1_method_15_code
def yX9_turn : MethodName := ⟨RX9, "turn", "(II)I"⟩
abbrev cX9_feed : ByteArray := prog_1_method_16_code
def yX9_feed : MethodName := ⟨RX9, "feed", "(II)I"⟩
abbrev cX9_law : ByteArray := prog_1_method_17_code
def yX9_law : MethodName := ⟨RX9, "law", "(II)I"⟩
abbrev cX9_inForce : ByteArray := prog_1_method_18_code
def yX9_inForce : MethodName := ⟨RX9, "inForce", "(III)I"⟩
abbrev cX9_says : ByteArray := prog_1_method_19_code
def yX9_says : MethodName := ⟨RX9, "says", "(IIIII)I"⟩
abbrev cX9_call : ByteArray := prog_1_method_20_code
def yX9_call : MethodName := ⟨RX9, "call", "(III)I"⟩
abbrev cX9_why : ByteArray := prog_1_method_21_code
def yX9_why : MethodName := ⟨RX9, "why", "(IIII)I"⟩
abbrev cX9_minutes : ByteArray := prog_1_method_22_code
def yX9_minutes : MethodName := ⟨RX9, "minutes", "(I)I"⟩
abbrev cX9_trip : ByteArray := prog_1_method_23_code
def yX9_trip : MethodName := ⟨RX9, "trip", "(II)I"⟩
abbrev cX9_due : ByteArray := prog_1_method_24_code
def yX9_due : MethodName := ⟨RX9, "due", "(III)I"⟩
abbrev cX9_refusal : ByteArray := prog_1_method_25_code
def yX9_refusal : MethodName := ⟨RX9, "refusal", "(II)I"⟩
abbrev cX9_complain : ByteArray := prog_1_method_26_code
def yX9_complain : MethodName := ⟨RX9, "complain", "(II)I"⟩
abbrev cX9_judged : ByteArray := prog_1_method_27_code
def yX9_judged : MethodName := ⟨RX9, "judged", "(II)I"⟩
abbrev cX9_lost : ByteArray := prog_1_method_28_code
def yX9_lost : MethodName := ⟨RX9, "lost", "(IIII)I"⟩
abbrev cX9_found : ByteArray := prog_1_method_29_code
def yX9_found : MethodName := ⟨RX9, "found", "(II)I"⟩
abbrev cX9_joined : ByteArray := prog_1_method_30_code
def yX9_joined : MethodName := ⟨RX9, "joined", "(I)I"⟩
abbrev cX9_fits : ByteArray := prog_1_method_31_code
def yX9_fits : MethodName := ⟨RX9, "fits", "(I)I"⟩
abbrev cX9_tried : ByteArray := prog_1_method_32_code
def yX9_tried : MethodName := ⟨RX9, "tried", "(III)I"⟩
abbrev cX9_count : ByteArray := prog_1_method_33_code
def yX9_count : MethodName := ⟨RX9, "count", "(I)I"⟩
abbrev cX9_isMinute : ByteArray := prog_1_method_34_code
def yX9_isMinute : MethodName := ⟨RX9, "isMinute", "(I)Z"⟩
abbrev cX9_isDay : ByteArray := prog_1_method_35_code
def yX9_isDay : MethodName := ⟨RX9, "isDay", "(I)Z"⟩
abbrev cX9_timeOf : ByteArray := prog_1_method_36_code
def yX9_timeOf : MethodName := ⟨RX9, "timeOf", "(I)I"⟩
abbrev cX9_today : ByteArray := prog_1_method_37_code
def yX9_today : MethodName := ⟨RX9, "today", "()I"⟩
abbrev cX9_thisYear : ByteArray := prog_1_method_38_code
def yX9_thisYear : MethodName := ⟨RX9, "thisYear", "()I"⟩
abbrev cX9_dayOf : ByteArray := prog_1_method_39_code
def yX9_dayOf : MethodName := ⟨RX9, "dayOf", "(I)I"⟩
abbrev cX9_passTo : ByteArray := prog_1_method_40_code
def yX9_passTo : MethodName := ⟨RX9, "passTo", "(I)V"⟩
abbrev cX9_isLoad : ByteArray := prog_1_method_41_code
def yX9_isLoad : MethodName := ⟨RX9, "isLoad", "(II)Z"⟩
abbrev cX9_isOrder : ByteArray := prog_1_method_42_code
def yX9_isOrder : MethodName := ⟨RX9, "isOrder", "(III)Z"⟩
abbrev cX9_draftTrip : ByteArray := prog_1_method_43_code
def yX9_draftTrip : MethodName := ⟨RX9, "draftTrip", "(III)Z"⟩
abbrev cX9_yardsToCaller : ByteArray := prog_1_method_44_code
def yX9_yardsToCaller : MethodName := ⟨RX9, "yardsToCaller", "(I)I"⟩
abbrev cX9_standAskedAfter : ByteArray := prog_1_method_45_code
def yX9_standAskedAfter : MethodName := ⟨RX9, "standAskedAfter", "(I)I"⟩
abbrev cX9_isAskedAfter : ByteArray := prog_1_method_46_code
def yX9_isAskedAfter : MethodName := ⟨RX9, "isAskedAfter", "(II)Z"⟩
abbrev cX9_firstToCome : ByteArray := prog_1_method_47_code
def yX9_firstToCome : MethodName := ⟨RX9, "firstToCome", "(I)I"⟩
abbrev cX9_whyNot : ByteArray := prog_1_method_48_code
def yX9_whyNot : MethodName := ⟨RX9, "whyNot", "(II)I"⟩
abbrev cX9_sendToCaller : ByteArray := prog_1_method_49_code
def yX9_sendToCaller : MethodName := ⟨RX9, "sendToCaller", "(I)I"⟩
abbrev cX9_tellTrip : ByteArray := prog_1_method_50_code
def yX9_tellTrip : MethodName := ⟨RX9, "tellTrip", "(LHackneyStands$Table;I)V"⟩
abbrev cX9_fareDue : ByteArray := prog_1_method_51_code
def yX9_fareDue : MethodName := ⟨RX9, "fareDue", "(II)I"⟩
abbrev cX9_kindDue : ByteArray := prog_1_method_52_code
def yX9_kindDue : MethodName := ⟨RX9, "kindDue", "(II)I"⟩
abbrev cX9_earned : ByteArray := prog_1_method_53_code
def yX9_earned : MethodName := ⟨RX9, "earned", "(I)I"⟩
abbrev cX9_overpaid : ByteArray := prog_1_method_54_code
def yX9_overpaid : MethodName := ⟨RX9, "overpaid", "(I)I"⟩
abbrev cX9_isLike : ByteArray := prog_1_method_55_code
def yX9_isLike : MethodName := ⟨RX9, "isLike", "(II)Z"⟩
abbrev cX9_likeCases : ByteArray := prog_1_method_56_code
def yX9_likeCases : MethodName := ⟨RX9, "likeCases", "(IZ)I"⟩
abbrev cX9_latestLikeCase : ByteArray := prog_1_method_57_code
def yX9_latestLikeCase : MethodName := ⟨RX9, "latestLikeCase", "(I)I"⟩
abbrev cX9_isFitting : ByteArray := prog_1_method_58_code
def yX9_isFitting : MethodName := ⟨RX9, "isFitting", "(II)Z"⟩
abbrev cX9_onlyFoundFor : ByteArray := prog_1_method_59_code
def yX9_onlyFoundFor : MethodName := ⟨RX9, "onlyFoundFor", "(I)I"⟩
abbrev cX9_lossesFitting : ByteArray := prog_1_method_60_code
def yX9_lossesFitting : MethodName := ⟨RX9, "lossesFitting", "(I)I"⟩
def RX10 : String := "HackneyStandsModel"
def TX10 : u_T := fun k => match k with
  | 0 => ("HackneyStandsModel", "minute", "I", false)
  | 1 => ("HackneyStandsModel", "rise", "[I", true)
  | 2 => ("HackneyStandsModel", "set", "[I", true)
  | 3 => ("HackneyStandsModel", "corners", "I", false)
  | 4 => ("HackneyStandsModel", "from", "[I", true)
  | 5 => ("HackneyStandsModel", "to", "[I", true)
  | 6 => ("HackneyStandsModel", "yards", "[I", true)
  | 7 => ("HackneyStandsModel", "bad", "[I", true)
  | 8 => ("HackneyStandsModel", "shutFrom", "[I", true)
  | 9 => ("HackneyStandsModel", "shutTo", "[I", true)
  | 10 => ("HackneyStandsModel", "shuts", "[I", true)
  | 11 => ("HackneyStandsModel", "streets", "I", false)
  | 12 => ("HackneyStandsModel", "far", "[I", true)
  | 13 => ("HackneyStandsModel", "farBad", "[I", true)
  | 14 => ("HackneyStandsModel", "way", "[I", true)
  | 15 => ("HackneyStandsModel", "wayMany", "I", false)
  | 16 => ("HackneyStandsModel", "told", "[I", true)
  | 17 => ("HackneyStandsModel", "toldMany", "I", false)
  | 18 => ("HackneyStandsModel", "plate", "[I", true)
  | 19 => ("HackneyStandsModel", "home", "[I", true)
  | 20 => ("HackneyStandsModel", "strength", "[I", true)
  | 21 => ("HackneyStandsModel", "lookedAt", "[I", true)
  | 22 => ("HackneyStandsModel", "state", "[I", true)
  | 23 => ("HackneyStandsModel", "corner", "[I", true)
  | 24 => ("HackneyStandsModel", "thereAt", "[I", true)
  | 25 => ("HackneyStandsModel", "goesTo", "[I", true)
  | 26 => ("HackneyStandsModel", "coaches", "I", false)
  | 27 => ("HackneyStandsModel", "licenceCoach", "[I", true)
  | 28 => ("HackneyStandsModel", "licenceYear", "[I", true)
  | 29 => ("HackneyStandsModel", "licenceHolder", "[I", true)
  | 30 => ("HackneyStandsModel", "licences", "I", false)
  | 31 => ("HackneyStandsModel", "standCorner", "[I", true)
  | 32 => ("HackneyStandsModel", "places", "[I", true)
  | 33 => ("HackneyStandsModel", "row", "[I", true)
  | 34 => ("HackneyStandsModel", "rowMany", "[I", true)
  | 35 => ("HackneyStandsModel", "stands", "I", false)
  | 36 => ("HackneyStandsModel", "tape", "[I", true)
  | 37 => ("HackneyStandsModel", "tapeMany", "I", false)
  | 38 => ("HackneyStandsModel", "text", "[I", true)
  | 39 => ("HackneyStandsModel", "textMany", "[I", true)
  | 40 => ("HackneyStandsModel", "lawKind", "[I", true)
  | 41 => ("HackneyStandsModel", "lawFrom", "[I", true)
  | 42 => ("HackneyStandsModel", "lawMade", "[I", true)
  | 43 => ("HackneyStandsModel", "laws", "I", false)
  | 44 => ("HackneyStandsModel", "at", "I", false)
  | 45 => ("HackneyStandsModel", "ends", "I", false)
  | 46 => ("HackneyStandsModel", "names", "[I", true)
  | 47 => ("HackneyStandsModel", "tripCoach", "[I", true)
  | 48 => ("HackneyStandsModel", "tripFrom", "[I", true)
  | 49 => ("HackneyStandsModel", "tripTo", "[I", true)
  | 50 => ("HackneyStandsModel", "called", "[I", true)
  | 51 => ("HackneyStandsModel", "getsIn", "[I", true)
  | 52 => ("HackneyStandsModel", "ended", "[I", true)
  | 53 => ("HackneyStandsModel", "tripYards", "[I", true)
  | 54 => ("HackneyStandsModel", "tripBad", "[I", true)
  | 55 => ("HackneyStandsModel", "persons", "[I", true)
  | 56 => ("HackneyStandsModel", "waiting", "[I", true)
  | 57 => ("HackneyStandsModel", "tripStrength", "[I", true)
  | 58 => ("HackneyStandsModel", "tripNight", "[Z", true)
  | 59 => ("HackneyStandsModel", "tripStand", "[I", true)
  | 60 => ("HackneyStandsModel", "trips", "I", false)
  | 61 => ("HackneyStandsModel", "refusedBy", "[I", true)
  | 62 => ("HackneyStandsModel", "refusedAt", "[I", true)
  | 63 => ("HackneyStandsModel", "refusedFrom", "[I", true)
  | 64 => ("HackneyStandsModel", "refusedTo", "[I", true)
  | 65 => ("HackneyStandsModel", "refusals", "I", false)
  | 66 => ("HackneyStandsModel", "complaintTrip", "[I", true)
  | 67 => ("HackneyStandsModel", "complaintPaid", "[I", true)
  | 68 => ("HackneyStandsModel", "complaints", "I", false)
  | 69 => ("HackneyStandsModel", "lostSort", "[I", true)
  | 70 => ("HackneyStandsModel", "lostPlate", "[I", true)
  | 71 => ("HackneyStandsModel", "lostFrom", "[I", true)
  | 72 => ("HackneyStandsModel", "lostTo", "[I", true)
  | 73 => ("HackneyStandsModel", "losts", "I", false)
  | 74 => ("HackneyStandsModel", "foundSort", "[I", true)
  | 75 => ("HackneyStandsModel", "foundCoach", "[I", true)
  | 76 => ("HackneyStandsModel", "foundAt", "[I", true)
  | 77 => ("HackneyStandsModel", "founds", "I", false)
  | 78 => ("HackneyStandsModel", "fault", "I", false)
  | 79 => ("HackneyStandsModel", "open", "I", false)
  | _ => ("HackneyStandsModel", "fareKind", "I", false)
def tyX10 : Nat → FieldType := fun k => match k with
  | 0 => .int
  | 1 => .array .int
  | 2 => .array .int
  | 3 => .int
  | 4 => .array .int
  | 5 => .array .int
  | 6 => .array .int
  | 7 => .array .int
  | 8 => .array .int
  | 9 => .array .int
  | 10 => .array .int
  | 11 => .int
  | 12 => .array .int
  | 13 => .array .int
  | 14 => .array .int
  | 15 => .int
  | 16 => .array .int
  | 17 => .int
  | 18 => .array .int
  | 19 => .array .int
  | 20 => .array .int
  | 21 => .array .int
  | 22 => .array .int
  | 23 => .array .int
  | 24 => .array .int
  | 25 => .array .int
  | 26 => .int
  | 27 => .array .int
  | 28 => .array .int
  | 29 => .array .int
  | 30 => .int
  | 31 => .array .int
  | 32 => .array .int
  | 33 => .array .int
  | 34 => .array .int
  | 35 => .int
  | 36 => .array .int
  | 37 => .int
  | 38 => .array .int
  | 39 => .array .int
  | 40 => .array .int
  | 41 => .array .int
  | 42 => .array .int
  | 43 => .int
  | 44 => .int
  | 45 => .int
  | 46 => .array .int
  | 47 => .array .int
  | 48 => .array .int
  | 49 => .array .int
  | 50 => .array .int
  | 51 => .array .int
  | 52 => .array .int
  | 53 => .array .int
  | 54 => .array .int
  | 55 => .array .int
  | 56 => .array .int
  | 57 => .array .int
  | 58 => .array .boolean
  | 59 => .array .int
  | 60 => .int
  | 61 => .array .int
  | 62 => .array .int
  | 63 => .array .int
  | 64 => .array .int
  | 65 => .int
  | 66 => .array .int
  | 67 => .array .int
  | 68 => .int
  | 69 => .array .int
  | 70 => .array .int
  | 71 => .array .int
  | 72 => .array .int
  | 73 => .int
  | 74 => .array .int
  | 75 => .array .int
  | 76 => .array .int
  | 77 => .int
  | 78 => .int
  | 79 => .int
  | _ => .int
abbrev wsX100 : List Cond := u_ws RX10 TX10 81
theorem nmX10 : ∀ a, a < 81 → ∀ b, b < 81 → a ≠ b → (TX10 a).2.1 ≠ (TX10 b).2.1 := by decide +kernel
theorem tyX10_ok : ∀ k, k < 81 → parseFieldDescriptor (TX10 k).2.2.1 = some (tyX10 k) := by decide +kernel
abbrev cX10_init : ByteArray := prog_12_method_1_code
def yX10_init : MethodName := ⟨RX10, "<init>", "()V"⟩
abbrev cX10_within : ByteArray := prog_12_method_2_code
def yX10_within : MethodName := ⟨RX10, "within", "(III)Z"⟩
abbrev cX10_today : ByteArray := prog_12_method_3_code
def yX10_today : MethodName := ⟨RX10, "today", "()I"⟩
abbrev cX10_isCorner : ByteArray := prog_12_method_4_code
def yX10_isCorner : MethodName := ⟨RX10, "isCorner", "(I)Z"⟩
abbrev cX10_isCoach : ByteArray := prog_12_method_5_code
def yX10_isCoach : MethodName := ⟨RX10, "isCoach", "(I)Z"⟩
abbrev cX10_isStand : ByteArray := prog_12_method_6_code
def yX10_isStand : MethodName := ⟨RX10, "isStand", "(I)Z"⟩
abbrev cX10_isMinute : ByteArray := prog_12_method_7_code
def yX10_isMinute : MethodName := ⟨RX10, "isMinute", "(I)Z"⟩
abbrev cX10_isDay : ByteArray := prog_12_method_8_code
def yX10_isDay : MethodName := ⟨RX10, "isDay", "(I)Z"⟩
abbrev cX10_corner : ByteArray := prog_12_method_9_code
def yX10_corner : MethodName := ⟨RX10, "corner", "()I"⟩
abbrev cX10_street : ByteArray := prog_12_method_10_code
def yX10_street : MethodName := ⟨RX10, "street", "(III)I"⟩
abbrev cX10_shut : ByteArray := prog_12_method_11_code
def yX10_shut : MethodName := ⟨RX10, "shut", "(III)I"⟩
abbrev cX10_isShut : ByteArray := prog_12_method_12_code
def yX10_isShut : MethodName := ⟨RX10, "isShut", "(II)Z"⟩
abbrev cX10_sun : ByteArray := prog_12_method_13_code
def yX10_sun : MethodName := ⟨RX10, "sun", "(III)I"⟩
abbrev cX10_isNight : ByteArray := prog_12_method_14_code
def yX10_isNight : MethodName := ⟨RX10, "isNight", "(I)Z"⟩
abbrev cX10_night : ByteArray := prog_12_method_15_code
def yX10_night : MethodName := ⟨RX10, "night", "(I)I"⟩
abbrev cX10_come : ByteArray := prog_12_method_16_code
def yX10_come : MethodName := ⟨RX10, "come", "(III)Z"⟩
abbrev cX10_findFar : ByteArray := prog_12_method_17_code
def yX10_findFar : MethodName := ⟨RX10, "findFar", "(II)V"⟩
abbrev cX10_yardsOf : ByteArray := prog_12_method_18_code
def yX10_yardsOf : MethodName := ⟨RX10, "yardsOf", "(III)I"⟩
abbrev cX10_findWay : ByteArray := prog_12_method_19_code
def yX10_findWay : MethodName := ⟨RX10, "findWay", "(III)V"⟩
abbrev cX10_way : ByteArray := prog_12_method_20_code
def yX10_way : MethodName := ⟨RX10, "way", "(III)I"⟩
abbrev cX10_step : ByteArray := prog_12_method_21_code
def yX10_step : MethodName := ⟨RX10, "step", "(I)I"⟩
abbrev cX10_minutesOf : ByteArray := prog_12_method_22_code
def yX10_minutesOf : MethodName := ⟨RX10, "minutesOf", "(I)I"⟩
abbrev cX10_coach : ByteArray := prog_12_method_23_code
def yX10_coach : MethodName := ⟨RX10, "coach", "(II)I"⟩
abbrev cX10_holder : ByteArray := prog_12_method_24_code
def yX10_holder : MethodName := ⟨RX10, "holder", "(II)I"⟩
abbrev cX10_licence : ByteArray := prog_12_method_25_code
def yX10_licence : MethodName := ⟨RX10, "licence", "(III)I"⟩
abbrev cX10_look : ByteArray := prog_12_method_26_code
def yX10_look : MethodName := ⟨RX10, "look", "(II)I"⟩
abbrev cX10_stand : ByteArray := prog_12_method_27_code
def yX10_stand : MethodName := ⟨RX10, "stand", "(II)I"⟩
abbrev cX10_standOf : ByteArray := prog_12_method_28_code
def yX10_standOf : MethodName := ⟨RX10, "standOf", "(I)I"⟩
abbrev cX10_leaveRow : ByteArray := prog_12_method_29_code
def yX10_leaveRow : MethodName := ⟨RX10, "leaveRow", "(I)V"⟩
abbrev cX10_arrive : ByteArray := prog_12_method_30_code
def yX10_arrive : MethodName := ⟨RX10, "arrive", "(I)V"⟩
abbrev cX10_go : ByteArray := prog_12_method_31_code
def yX10_go : MethodName := ⟨RX10, "go", "(II)I"⟩
abbrev cX10_about : ByteArray := prog_12_method_32_code
def yX10_about : MethodName := ⟨RX10, "about", "(II)I"⟩
abbrev cX10_tripsOf : ByteArray := prog_12_method_33_code
def yX10_tripsOf : MethodName := ⟨RX10, "tripsOf", "(IZ)I"⟩
abbrev cX10_turn : ByteArray := prog_12_method_34_code
def yX10_turn : MethodName := ⟨RX10, "turn", "(II)I"⟩
abbrev cX10_feed : ByteArray := prog_12_method_35_code
def yX10_feed : MethodName := ⟨RX10, "feed", "(II)I"⟩
abbrev cX10_byteAt : ByteArray := prog_12_method_36_code
def yX10_byteAt : MethodName := ⟨RX10, "byteAt", "(I)I"⟩
abbrev cX10_wrong : ByteArray := prog_12_method_37_code
def yX10_wrong : MethodName := ⟨RX10, "wrong", "()I"⟩
abbrev cX10_nameOf : ByteArray := prog_12_method_38_code
def yX10_nameOf : MethodName := ⟨RX10, "nameOf", "(I)I"⟩
abbrev cX10_opens : ByteArray := prog_12_method_39_code
def yX10_opens : MethodName := ⟨RX10, "opens", "()Z"⟩
abbrev cX10_chosen : ByteArray := prog_12_method_40_code
def yX10_chosen : MethodName := ⟨RX10, "chosen", "(I)I"⟩
abbrev cX10_compared : ByteArray := prog_12_method_41_code
def yX10_compared : MethodName := ⟨RX10, "compared", "(I)I"⟩
abbrev cX10_sum : ByteArray := prog_12_method_42_code
def yX10_sum : MethodName := ⟨RX10, "sum", "(I)I"⟩
abbrev cX10_product : ByteArray := prog_12_method_43_code
def yX10_product : MethodName := ⟨RX10, "product", "(I)I"⟩
abbrev cX10_one : ByteArray := prog_12_method_44_code
def yX10_one : MethodName := ⟨RX10, "one", "(I)I"⟩
abbrev cX10_workOut : ByteArray := prog_12_method_45_code
def yX10_workOut : MethodName := ⟨RX10, "workOut", "(II)I"⟩
abbrev cX10_law : ByteArray := prog_12_method_46_code
def yX10_law : MethodName := ⟨RX10, "law", "(II)I"⟩
abbrev cX10_force : ByteArray := prog_12_method_47_code
def yX10_force : MethodName := ⟨RX10, "force", "(III)I"⟩
abbrev cX10_inForce : ByteArray := prog_12_method_48_code
def yX10_inForce : MethodName := ⟨RX10, "inForce", "(III)I"⟩
abbrev cX10_name : ByteArray := prog_12_method_49_code
def yX10_name : MethodName := ⟨RX10, "name", "(IIIIIIII)V"⟩
abbrev cX10_says : ByteArray := prog_12_method_50_code
def yX10_says : MethodName := ⟨RX10, "says", "(IIIII)I"⟩
abbrev cX10_fareBy : ByteArray := prog_12_method_51_code
def yX10_fareBy : MethodName := ⟨RX10, "fareBy", "(I)I"⟩
abbrev cX10_fare : ByteArray := prog_12_method_52_code
def yX10_fare : MethodName := ⟨RX10, "fare", "(II)I"⟩
abbrev cX10_nameTrip : ByteArray := prog_12_method_53_code
def yX10_nameTrip : MethodName := ⟨RX10, "nameTrip", "(I)V"⟩
abbrev cX10_dueOf : ByteArray := prog_12_method_54_code
def yX10_dueOf : MethodName := ⟨RX10, "dueOf", "(II)I"⟩
abbrev cX10_isCall : ByteArray := prog_12_method_55_code
def yX10_isCall : MethodName := ⟨RX10, "isCall", "(I)Z"⟩
abbrev cX10_mayBeCalled : ByteArray := prog_12_method_56_code
def yX10_mayBeCalled : MethodName := ⟨RX10, "mayBeCalled", "(III)Z"⟩
abbrev cX10_whyNot : ByteArray := prog_12_method_57_code
def yX10_whyNot : MethodName := ⟨RX10, "whyNot", "(IIIIIII)I"⟩
abbrev cX10_note : ByteArray := prog_12_method_58_code
def yX10_note : MethodName := ⟨RX10, "note", "(III)V"⟩
abbrev cX10_drive : ByteArray := prog_12_method_59_code
def yX10_drive : MethodName := ⟨RX10, "drive", "(IIIIIIII)V"⟩
abbrev cX10_call : ByteArray := prog_12_method_60_code
def yX10_call : MethodName := ⟨RX10, "call", "(III)I"⟩
abbrev cX10_why : ByteArray := prog_12_method_61_code
def yX10_why : MethodName := ⟨RX10, "why", "(IIII)I"⟩
abbrev cX10_oneMinute : ByteArray := prog_12_method_62_code
def yX10_oneMinute : MethodName := ⟨RX10, "oneMinute", "()V"⟩
abbrev cX10_minutes : ByteArray := prog_12_method_63_code
def yX10_minutes : MethodName := ⟨RX10, "minutes", "(I)I"⟩
abbrev cX10_isTrip : ByteArray := prog_12_method_64_code
def yX10_isTrip : MethodName := ⟨RX10, "isTrip", "(I)Z"⟩
abbrev cX10_trip : ByteArray := prog_12_method_65_code
def yX10_trip : MethodName := ⟨RX10, "trip", "(II)I"⟩
abbrev cX10_due : ByteArray := prog_12_method_66_code
def yX10_due : MethodName := ⟨RX10, "due", "(III)I"⟩
abbrev cX10_refusal : ByteArray := prog_12_method_67_code
def yX10_refusal : MethodName := ⟨RX10, "refusal", "(II)I"⟩
abbrev cX10_complain : ByteArray := prog_12_method_68_code
def yX10_complain : MethodName := ⟨RX10, "complain", "(II)I"⟩
abbrev cX10_over : ByteArray := prog_12_method_69_code
def yX10_over : MethodName := ⟨RX10, "over", "(I)I"⟩
abbrev cX10_areLike : ByteArray := prog_12_method_70_code
def yX10_areLike : MethodName := ⟨RX10, "areLike", "(II)Z"⟩
abbrev cX10_judged : ByteArray := prog_12_method_71_code
def yX10_judged : MethodName := ⟨RX10, "judged", "(II)I"⟩
abbrev cX10_lost : ByteArray := prog_12_method_72_code
def yX10_lost : MethodName := ⟨RX10, "lost", "(IIII)I"⟩
abbrev cX10_found : ByteArray := prog_12_method_73_code
def yX10_found : MethodName := ⟨RX10, "found", "(II)I"⟩
abbrev cX10_fitsPlate : ByteArray := prog_12_method_74_code
def yX10_fitsPlate : MethodName := ⟨RX10, "fitsPlate", "(II)Z"⟩
abbrev cX10_fit : ByteArray := prog_12_method_75_code
def yX10_fit : MethodName := ⟨RX10, "fit", "(II)Z"⟩
abbrev cX10_fits : ByteArray := prog_12_method_76_code
def yX10_fits : MethodName := ⟨RX10, "fits", "(I)I"⟩
abbrev cX10_joined : ByteArray := prog_12_method_77_code
def yX10_joined : MethodName := ⟨RX10, "joined", "(I)I"⟩
abbrev cX10_isFareLaw : ByteArray := prog_12_method_78_code
def yX10_isFareLaw : MethodName := ⟨RX10, "isFareLaw", "(II)Z"⟩
abbrev cX10_tried : ByteArray := prog_12_method_79_code
def yX10_tried : MethodName := ⟨RX10, "tried", "(III)I"⟩
abbrev cX10_count : ByteArray := prog_12_method_80_code
def yX10_count : MethodName := ⟨RX10, "count", "(I)I"⟩
def RJx145de : String := "java/io/Serializable"
def TJx145de : u_T := fun k => match k with
  | _ => ("", "", "", false)
def tyJx145de : Nat → FieldType := fun k => match k with
  | _ => .int
abbrev wsJx145de0 : List Cond := u_ws RJx145de TJx145de 0
def RJx9f9b0 : String := "java/lang/CharSequence"
def TJx9f9b0 : u_T := fun k => match k with
  | _ => ("", "", "", false)
def tyJx9f9b0 : Nat → FieldType := fun k => match k with
  | _ => .int
abbrev wsJx9f9b00 : List Cond := u_ws RJx9f9b0 TJx9f9b0 0
def RJx8e188 : String := "java/lang/Cloneable"
def TJx8e188 : u_T := fun k => match k with
  | _ => ("", "", "", false)
def tyJx8e188 : Nat → FieldType := fun k => match k with
  | _ => .int
abbrev wsJx8e1880 : List Cond := u_ws RJx8e188 TJx8e188 0
def RJxb160c : String := "java/lang/Comparable"
def TJxb160c : u_T := fun k => match k with
  | _ => ("", "", "", false)
def tyJxb160c : Nat → FieldType := fun k => match k with
  | _ => .int
abbrev wsJxb160c0 : List Cond := u_ws RJxb160c TJxb160c 0
def RJ9 : String := "java/lang/Math"
def TJ9 : u_T := fun k => match k with
  | _ => ("", "", "", false)
def tyJ9 : Nat → FieldType := fun k => match k with
  | _ => .int
abbrev wsJ90 : List Cond := u_ws RJ9 TJ9 0
abbrev cJ9_floorMod_7cf53 : ByteArray := prog_14_method_50_code
def yJ9_floorMod_7cf53 : MethodName := ⟨RJ9, "floorMod", "(II)I"⟩
abbrev cJ9_max_7cf53 : ByteArray := prog_14_method_65_code
def yJ9_max_7cf53 : MethodName := ⟨RJ9, "max", "(II)I"⟩
abbrev cJ9_min_7cf53 : ByteArray := prog_14_method_69_code
def yJ9_min_7cf53 : MethodName := ⟨RJ9, "min", "(II)I"⟩
abbrev cJ9_min_f86c9 : ByteArray := prog_14_method_70_code
def yJ9_min_f86c9 : MethodName := ⟨RJ9, "min", "(JJ)J"⟩
def RJ0 : String := "java/lang/String"
def TJ0 : u_T := fun k => match k with
  | _ => ("", "", "", false)
def tyJ0 : Nat → FieldType := fun k => match k with
  | _ => .int
abbrev wsJ00 : List Cond := u_ws RJ0 TJ0 0
abbrev cJ0_length_8abf5 : ByteArray := prog_15_method_54_code
def yJ0_length_8abf5 : MethodName := ⟨RJ0, "length", "()I"⟩
abbrev cJ0_charAt_5068e : ByteArray := prog_15_method_56_code
def yJ0_charAt_5068e : MethodName := ⟨RJ0, "charAt", "(I)C"⟩
abbrev cJ0_coder_7d493 : ByteArray := prog_15_method_152_code
def yJ0_coder_7d493 : MethodName := ⟨RJ0, "coder", "()B"⟩
abbrev cJ0_isLatin1_aae02 : ByteArray := prog_15_method_154_code
def yJ0_isLatin1_aae02 : MethodName := ⟨RJ0, "isLatin1", "()Z"⟩
abbrev cJ0_checkIndex_df160 : ByteArray := prog_15_method_155_code
def yJ0_checkIndex_df160 : MethodName := ⟨RJ0, "checkIndex", "(II)V"⟩
def RJ1 : String := "java/lang/StringLatin1"
def TJ1 : u_T := fun k => match k with
  | _ => ("", "", "", false)
def tyJ1 : Nat → FieldType := fun k => match k with
  | _ => .int
abbrev wsJ10 : List Cond := u_ws RJ1 TJ1 0
abbrev cJ1_charAt_3b067 : ByteArray := prog_16_method_2_code
def yJ1_charAt_3b067 : MethodName := ⟨RJ1, "charAt", "([BI)C"⟩
def RJ2 : String := "java/lang/StringUTF16"
def TJ2 : u_T := fun k => match k with
  | _ => ("", "", "", false)
def tyJ2 : Nat → FieldType := fun k => match k with
  | _ => .int
abbrev wsJ20 : List Cond := u_ws RJ2 TJ2 0
abbrev cJ2_getChar_3b067 : ByteArray := prog_17_method_5_code
def yJ2_getChar_3b067 : MethodName := ⟨RJ2, "getChar", "([BI)C"⟩
abbrev cJ2_length_9d52b : ByteArray := prog_17_method_6_code
def yJ2_length_9d52b : MethodName := ⟨RJ2, "length", "([B)I"⟩
abbrev cJ2_charAt_3b067 : ByteArray := prog_17_method_83_code
def yJ2_charAt_3b067 : MethodName := ⟨RJ2, "charAt", "([BI)C"⟩
abbrev cJ2_checkIndex_2214a : ByteArray := prog_17_method_91_code
def yJ2_checkIndex_2214a : MethodName := ⟨RJ2, "checkIndex", "(I[B)V"⟩
def RJ10 : String := "java/lang/System"
def TJ10 : u_T := fun k => match k with
  | _ => ("", "", "", false)
def tyJ10 : Nat → FieldType := fun k => match k with
  | _ => .int
abbrev wsJ100 : List Cond := u_ws RJ10 TJ10 0
def RJxfd54e : String := "java/lang/constant/Constable"
def TJxfd54e : u_T := fun k => match k with
  | _ => ("", "", "", false)
def tyJxfd54e : Nat → FieldType := fun k => match k with
  | _ => .int
abbrev wsJxfd54e0 : List Cond := u_ws RJxfd54e TJxfd54e 0
def RJx3cf43 : String := "java/lang/constant/ConstantDesc"
def TJx3cf43 : u_T := fun k => match k with
  | _ => ("", "", "", false)
def tyJx3cf43 : Nat → FieldType := fun k => match k with
  | _ => .int
abbrev wsJx3cf430 : List Cond := u_ws RJx3cf43 TJx3cf43 0
def RJ7 : String := "java/util/Arrays"
def TJ7 : u_T := fun k => match k with
  | _ => ("", "", "", false)
def tyJ7 : Nat → FieldType := fun k => match k with
  | _ => .int
abbrev wsJ70 : List Cond := u_ws RJ7 TJ7 0
abbrev cJ7_copyOf_59c91 : ByteArray := prog_19_method_123_code
def yJ7_copyOf_59c91 : MethodName := ⟨RJ7, "copyOf", "([II)[I"⟩
def RJ3 : String := "jdk/internal/util/Preconditions"
def TJ3 : u_T := fun k => match k with
  | _ => ("", "", "", false)
def tyJ3 : Nat → FieldType := fun k => match k with
  | _ => .int
abbrev wsJ30 : List Cond := u_ws RJ3 TJ3 0
abbrev cJ3_checkIndex_8e157 : ByteArray := prog_20_method_11_code
def yJ3_checkIndex_8e157 : MethodName := ⟨RJ3, "checkIndex", "(IILjava/util/function/BiFunction;)I"⟩
def RL : String := "HackneyStandsLaw"
abbrev cL_law : ByteArray := code
def yL_law : MethodName := ⟨RL, "law", "([I)Z"⟩
abbrev vwCl : List vw_C := [(RX0, TX0, 7), (RX1, TX1, 1), (RX2, TX2, 3), (RX3, TX3, 4), (RX4, TX4, 5), (RX5, TX5, 5), (RX6, TX6, 4), (RX7, TX7, 2), (RX8, TX8, 3), (RX9, TX9, 7), (RX10, TX10, 81)]
end
section
/-! THE hk_ LAYER: an abstract heap whose object number k lies at base + k; contracts and walks over it -/
abbrev hk_G : Type := va_G × (ClassId × ClassId × ClassId) × Nat × (Nat → Nat) × (Nat → Nat)
abbrev hk_b (G : hk_G) : Nat := G.2.2.1
abbrev hk_tys (G : hk_G) : List (ClassId × FieldType) := [(G.2.1.1, .int), (G.2.1.2.1, .boolean), (G.2.1.2.2, .object RX3)]
def hk_cid (G : hk_G) (t : Nat) : ClassId := match t with | 0 => G.2.1.1 | 1 => G.2.1.2.1 | _ => G.2.1.2.2
abbrev hk_E : Type := (Nat × Nat × ((Nat → Int32) ⊕ (Nat → Option Nat))) ⊕ (Nat × List Value)
abbrev hk_H : Type := Nat × (Nat → hk_E)
def hk_v (b : Nat) (v : Value) : Value := match v with | .ref a => .ref (b + a) | v => v
theorem hk_v_cat (b : Nat) (v : Value) : (hk_v b v).category = v.category := by cases v <;> rfl
def hk_ce (G : hk_G) (x : hk_E) : va_E := match x with
  | .inl (t, n, .inl f) => .inl (hk_cid G t, n, .inl f)
  | .inl (t, n, .inr f) => .inl (hk_cid G t, n, .inr (.inr (.inr (.inr (fun j => (f j).map (fun a => hk_b G + a))))))
  | .inr (ci, fs) => .inr (ci, fs.map (hk_v (hk_b G)))
def hk_wl (G : hk_G) (h : hk_H) : va_W := (List.range h.1).map fun k => (hk_b G + k, hk_ce G (h.2 k))
def hk_A (G : hk_G) : Nat → Prop := fun q => hk_b G ≤ q
theorem hk_wl_get {G : hk_G} {h : hk_H} {k : Nat} (hk : k < h.1) : (hk_wl G h)[k]? = some (hk_b G + k, hk_ce G (h.2 k)) := by
  unfold hk_wl
  rw [List.getElem?_map, List.getElem?_range hk]
  rfl
theorem hk_wl_inv {G : hk_G} {h : hk_H} {k : Nat} {q : Nat × va_E} (hq : (hk_wl G h)[k]? = some q) : k < h.1 ∧ q = (hk_b G + k, hk_ce G (h.2 k)) := by
  have hk : k < h.1 := by
    have := (List.getElem?_eq_some_iff.mp hq).1
    simpa [hk_wl] using this
  rw [hk_wl_get hk] at hq
  exact ⟨hk, (Option.some.inj hq).symm⟩
theorem hk_D (G : hk_G) (h : hk_H) : va_D (hk_A G) (hk_wl G h) := by
  refine ⟨fun i j p q hi hj hpq => ?_, fun k q hq => ?_⟩
  · obtain ⟨_, rfl⟩ := hk_wl_inv hi
    obtain ⟨_, rfl⟩ := hk_wl_inv hj
    simpa using hpq
  · obtain ⟨_, rfl⟩ := hk_wl_inv hq
    exact Nat.le_add_right _ _
def hk_up (h : hk_H) (a : Nat) (x : hk_E) : hk_H := (h.1, fun q => if q = a then x else h.2 q)
def hk_push (h : hk_H) (x : hk_E) : hk_H := (h.1 + 1, fun q => if q = h.1 then x else h.2 q)
theorem hk_wl_set {G : hk_G} {h : hk_H} {a : Nat} (x : hk_E) : (hk_wl G h).set a (hk_b G + a, hk_ce G x) = hk_wl G (hk_up h a x) := by
  apply List.ext_getElem?
  intro i
  by_cases hi : i < h.1
  · rw [hk_wl_get (h := hk_up h a x) hi, List.getElem?_set]
    by_cases ha : a = i
    · subst ha
      simp [hk_up, hk_wl, hi]
    · rw [if_neg ha, hk_wl_get hi]
      simp only [hk_up]
      rw [if_neg (fun e => ha e.symm)]
  · rw [List.getElem?_eq_none (by simp [hk_wl]; omega), List.getElem?_eq_none (by simp [hk_wl, hk_up]; omega)]
theorem hk_wl_push {G : hk_G} {h : hk_H} (x : hk_E) : hk_wl G h ++ [(hk_b G + h.1, hk_ce G x)] = hk_wl G (hk_push h x) := by
  apply List.ext_getElem?
  intro i
  by_cases hi : i < h.1
  · rw [hk_wl_get (h := hk_push h x) (Nat.lt_succ_of_lt hi), List.getElem?_append_left (by simp [hk_wl]; exact hi), hk_wl_get hi]
    simp only [hk_push]
    rw [if_neg (Nat.ne_of_lt hi)]
  · by_cases he : i = h.1
    · subst he
      rw [hk_wl_get (h := hk_push h x) (Nat.lt_succ_self _), List.getElem?_append_right (by simp [hk_wl])]
      simp [hk_wl, hk_push]
    · rw [List.getElem?_eq_none (by simp [hk_wl]; omega), List.getElem?_eq_none (by simp [hk_wl, hk_push]; omega)]
/-- the words that every contract carries -/
def hk_T : List Cond := lw_tbl.filter goodWord
def hk_isN (c : Cond) : Bool := match c with | .methodLinkNest .. => true | .fieldLinkNest .. => true | _ => false
def hk_N : List Cond := tables_1.filter hk_isN
def hk_Nw (U : State) : Prop := ∀ w ∈ hk_N, va_Nw w U
theorem hk_isN_of {w : Cond} (h : w ∈ hk_N) : hk_isN w = true := (List.mem_filter.mp h).2
theorem hk_Nw.warm {s U : State} (hW : s.WarmedH U.vm) (h : hk_Nw s) : hk_Nw U := by
  intro w hw
  have h1 := h w hw
  have h2 := hk_isN_of hw
  cases w <;> first | exact h1.warmF hW | exact h1.warmM hW | (cases h2)
theorem hk_Nw.same {u U : State} (hv : u.vm = U.vm) (h : hk_Nw u) : hk_Nw U := by
  intro w hw
  have h1 := h w hw
  have h2 := hk_isN_of hw
  exact h1.same (by cases w <;> first | rfl | (cases h2)) hv
theorem hk_T_good {w : Cond} (h : w ∈ lw_tbl) (hg : goodWord w = true) : w ∈ hk_T := List.mem_filter.mpr ⟨h, hg⟩
theorem hk_goodIn (ws : List Cond) (h : ∀ w ∈ ws, w ∈ hk_T) : GoodIn hk_T ws := fun w hw => ⟨h w hw, good_of_word (List.mem_filter.mp (h w hw)).2⟩
/-- the String constant of LawBook, and the statics that its methods read: below the base, never written -/
def hk_X (G : hk_G) (U : State) (H : Heap) : Prop :=
  vk_S 1 [9] [[121, 116, 119, 110, 100, 104, 112, 98, 115]] G.2.2.2.1 G.2.2.2.2 (hk_A G) U H ∧ vk_R RX4 31 "ytwndhpbs" (G.2.2.2.1 0) U ∧
  va_Z "java/lang/String" "COMPACT_STRINGS" "Z" (.int 1) (hk_A G) U H ∧ va_Zq "jdk/internal/util/Preconditions" "SIOOBE_FORMATTER" "Ljava/util/function/BiFunction;" (hk_A G) U H
theorem hk_X.kept {G : hk_G} {U : State} {H H1 : Heap} (h : hk_X G U H) (hq : ∀ a : Nat, a < H.size → ¬ hk_A G a → H1[a]? = H[a]?) : hk_X G U H1 := ⟨h.1.kept hq, h.2.1, h.2.2.1.kept hq, h.2.2.2.kept hq⟩
theorem hk_X.warm {G : hk_G} {s U : State} {H : Heap} (hW : s.WarmedH U.vm) (h : hk_X G s H) : hk_X G U H := ⟨h.1.moved hW.alike, h.2.1.warm hW, h.2.2.1.moved hW.alike, h.2.2.2.moved hW.alike⟩
theorem hk_X.same {G : hk_G} {u U : State} {H : Heap} (hv : U.vm = u.vm) (h : hk_X G u H) : hk_X G U H := by
  have ha : u.vm.Alike U.vm := hv ▸ Vm.Alike.refl u.vm
  exact ⟨h.1.moved ha, h.2.1.same hv, h.2.2.1.moved ha, h.2.2.2.moved ha⟩
def hk_S (G : hk_G) (h : hk_H) (U : State) (H : Heap) : Prop := va_K G.1 vwCl (hk_tys G) U ∧ va_P G.1 vwCl (hk_wl G h) H ∧ H.size = hk_b G + h.1
def hk_Pre (G : hk_G) (av : List Value) (h : hk_H) : Array Value → State → Prop := va_Pc (av.map (hk_v (hk_b G))) (fun U => hk_S G h U U.heap ∧ hk_Nw U ∧ hk_X G U U.heap)
def hk_Q (G : hk_G) (Q : Option Value → hk_H → Prop) : Array Value → State → Outcome → State → Prop := fun _ st oc t =>
  (∃ (r : Option Value) (h : hk_H), oc = .returned (r.map (hk_v (hk_b G))) ∧ Q r h ∧ hk_S G h t t.heap) ∧ va_F (hk_A G) st t
abbrev hk_M : Type := MethodName × ByteArray × Nat × Option FieldType
def hk_rm (d mc ms : Nat) : Room := { frames := d, cells := mc, slots := ms, locals := 64 * d }
/-- the contract of a method -/
def hk_Ct (M : hk_M) (d mc ms : Nat) (av : List Value) (h : hk_H) (Q : Option Value → hk_H → Prop) : Prop :=
  ∀ (l : Launch) (G : hk_G), Met l M.1 (.code M.1 M.2.1 M.2.2.1 M.2.2.2 :: hk_T) (hk_rm d mc ms) (hk_Pre G av h) (hk_Q G Q) mc ms (hk_A G)
def hk_Cx (M : hk_M) (d mc ms : Nat) (G : hk_G) (p : Program) (R : Room) (s : State) (m : MethodId) (args : Array Value) (meth : Method) (c : Code) : Prop :=
  p.tables.exec = Jvm.exec ∧ c.code = M.2.1 ∧ c.maxLocals = M.2.2.1 ∧ s.vm.findClass M.1.cls = some m.cls ∧ (∀ w ∈ hk_T, w.before args s = true) ∧ meth.sig.returnType = M.2.2.2 ∧
  meth.locks = false ∧ meth.name = M.1.name ∧ (d ≤ R.frames ∧ 64 * d ≤ R.locals) ∧ (mc ≤ R.cells ∧ ms ≤ R.slots) ∧ hk_Nw s ∧ hk_b G ≤ s.heap.size ∧ hk_X G s s.heap
def hk_as (b : Nat) (ls : List (Option Value)) : List (Nat × Value) := (List.range ls.length).filterMap fun i => ((ls[i]?).join).map fun v => (i, hk_v b v)
def hk_L (b nL : Nat) (ls : List (Option Value)) (lsA : Array Slot) : Prop := lv_has lsA nL (hk_as b ls)
/-- from this place of the method its end is reached, with Q -/
def hk_WP (M : hk_M) (d mc ms k n pc : Nat) (ls : List (Option Value)) (st : List Value) (h : hk_H) (Q : Option Value → hk_H → Prop) : Prop :=
  ∀ (G : hk_G) (p : Program) (l : Launch) (e : Env) (R : Room) (s : State) (m : MethodId) (args : Array Value) (below : List Frame) (meth : Method) (c : Code) (H : Heap) (locs : List Loc) (lsA : Array Slot),
    hk_Cx M d mc ms G p R s m args meth c → hk_S G h s H → va_S (hk_A G) s.heap H locs → hk_L (hk_b G) M.2.2.1 ls lsA →
    W p l e R s m args below meth c H locs k n (MQ below (hk_Q G Q) args s mc ms (hk_A G)) (F0 m pc lsA (st.map (hk_v (hk_b G))))
theorem hk_as_mem {b : Nat} {ls : List (Option Value)} {q : Nat × Value} : q ∈ hk_as b ls ↔ ∃ v, ls[q.1]? = some (some v) ∧ q.2 = hk_v b v := by
  unfold hk_as
  rw [List.mem_filterMap]
  constructor
  · rintro ⟨i, hi, h⟩
    rw [Option.map_eq_some_iff] at h
    obtain ⟨v, h1, rfl⟩ := h
    exact ⟨v, Option.join_eq_some_iff.mp h1, rfl⟩
  · rintro ⟨v, h1, h2⟩
    refine ⟨q.1, List.mem_range.mpr (List.getElem?_eq_some_iff.mp h1).1, ?_⟩
    rw [h1, Option.join_some, Option.map_some, ← h2]
theorem hk_L_at {b nL : Nat} {ls : List (Option Value)} {lsA : Array Slot} (h : hk_L b nL ls lsA) {i : Nat} {v : Value} (hv : ls[i]? = some (some v)) : lsA[i]? = some (.val (hk_v b v)) := by
  have := h.2.2 (i, hk_v b v) (hk_as_mem.mpr ⟨v, hv, rfl⟩)
  exact this
def hk_ok (ls : List (Option Value)) (i : Nat) : Bool := match i with
  | 0 => true
  | j + 1 => match ls[j]? with
    | some (some v) => v.category != 2
    | _ => true
theorem hk_L_set {b nL : Nat} {ls : List (Option Value)} {lsA : Array Slot} {i : Nat} {v : Value} (hok : hk_ok ls i = true)
    (h : lv_has lsA nL ((i, hk_v b v) :: (hk_as b ls).filter (fun q => !(q.1 == i) && !(q.1 + 1 == i && q.2.category == 2)))) : hk_L b nL (ls.set i (some v)) lsA := by
  refine ⟨h.1, h.2.1, fun q hq => h.2.2 q ?_⟩
  obtain ⟨w, h1, h2⟩ := hk_as_mem.mp hq
  rw [List.getElem?_set] at h1
  by_cases hi : i = q.1
  · rw [if_pos hi] at h1
    split at h1
    · have := Option.some.inj (Option.some.inj h1)
      subst this
      rw [List.mem_cons]
      left
      exact Prod.ext hi.symm h2
    · cases h1
  · rw [if_neg hi] at h1
    rw [List.mem_cons]
    right
    rw [List.mem_filter]
    refine ⟨hk_as_mem.mpr ⟨w, h1, h2⟩, ?_⟩
    have e1 : (q.1 == i) = false := by simp; exact fun e => hi e.symm
    rw [e1]
    simp only [Bool.not_false, Bool.true_and, Bool.not_eq_true', Bool.and_eq_false_iff]
    by_cases h3 : q.1 + 1 = i
    · right
      subst h3
      rw [h2, hk_v_cat]
      simpa [hk_ok, h1] using hok
    · left
      simp [h3]
theorem hk_L_set2 {b nL : Nat} {ls : List (Option Value)} {lsA : Array Slot} {i : Nat} {v : Value} (hok : hk_ok ls i = true)
    (h : lv_has lsA nL ((i, hk_v b v) :: (hk_as b ls).filter (fun q => !(q.1 == i) && (!(q.1 == i + 1) && !(q.1 + 1 == i && q.2.category == 2))))) : hk_L b nL ((ls.set i (some v)).set (i + 1) none) lsA := by
  refine ⟨h.1, h.2.1, fun q hq => h.2.2 q ?_⟩
  obtain ⟨w, h1, h2⟩ := hk_as_mem.mp hq
  rw [List.getElem?_set] at h1
  by_cases hi1 : i + 1 = q.1
  · rw [if_pos hi1] at h1
    split at h1 <;> cases h1
  rw [if_neg hi1, List.getElem?_set] at h1
  by_cases hi : i = q.1
  · rw [if_pos hi] at h1
    split at h1
    · have := Option.some.inj (Option.some.inj h1)
      subst this
      rw [List.mem_cons]
      left
      exact Prod.ext hi.symm h2
    · cases h1
  · rw [if_neg hi] at h1
    rw [List.mem_cons]
    right
    rw [List.mem_filter]
    refine ⟨hk_as_mem.mpr ⟨w, h1, h2⟩, ?_⟩
    have e1 : (q.1 == i) = false := by simp; exact fun e => hi e.symm
    have e2 : (q.1 == i + 1) = false := by simp; exact fun e => hi1 e.symm
    rw [e1, e2]
    simp only [Bool.not_false, Bool.true_and, Bool.not_eq_true', Bool.and_eq_false_iff]
    by_cases h3 : q.1 + 1 = i
    · right
      subst h3
      rw [h2, hk_v_cat]
      simpa [hk_ok, h1] using hok
    · left
      simp [h3]
theorem hk_S.warm {G : hk_G} {h : hk_H} {s U : State} {H : Heap} (hW : s.WarmedH U.vm) (hS : hk_S G h s H) : hk_S G h U H := ⟨va_K.moved hW.alike hS.1, hS.2⟩
end
section
/-! rows of the hk_ layer, one an instruction (written by wip/whole/rows.py) -/
section HR
variable {M : hk_M} {d mc ms k n pc : Nat} {ls : List (Option Value)} {st : List Value} {h : hk_H} {Q : Option Value → hk_H → Prop}
theorem hk_iconst {i : Int} {v : Int32} (hd : decode M.2.1 pc = .ok (.iconst i, 1)) (hv : Int32.ofInt i = v) (kk : hk_WP M d mc ms k n (pc + 1) ls (.int v :: st) h Q) : hk_WP M d mc ms k n pc ls (st) h Q := by
  intro G p l e R s m args below meth c H locs lsA C hS hV hL
  exact lv_iconst C.1 C.2.1 hd hv (kk G p l e R s m args below meth c H locs lsA C hS hV hL)
theorem hk_bipush {i : Int} {v : Int32} (hd : decode M.2.1 pc = .ok (.bipush i, 2)) (hv : (Int8.ofInt i).toInt32 = v) (kk : hk_WP M d mc ms k n (pc + 2) ls (.int v :: st) h Q) : hk_WP M d mc ms k n pc ls (st) h Q := by
  intro G p l e R s m args below meth c H locs lsA C hS hV hL
  exact lv_bipush C.1 C.2.1 hd hv (kk G p l e R s m args below meth c H locs lsA C hS hV hL)
theorem hk_sipush {i : Int} {v : Int32} (hd : decode M.2.1 pc = .ok (.sipush i, 3)) (hv : (Int16.ofInt i).toInt32 = v) (kk : hk_WP M d mc ms k n (pc + 3) ls (.int v :: st) h Q) : hk_WP M d mc ms k n pc ls (st) h Q := by
  intro G p l e R s m args below meth c H locs lsA C hS hV hL
  exact lv_sipush C.1 C.2.1 hd hv (kk G p l e R s m args below meth c H locs lsA C hS hV hL)
theorem hk_lconst {i : Fin 2} {v : Int64} (hd : decode M.2.1 pc = .ok (.lconst i, 1)) (hv : Int64.ofNat (i : Nat) = v) (kk : hk_WP M d mc ms k n (pc + 1) ls (.long v :: st) h Q) : hk_WP M d mc ms k n pc ls (st) h Q := by
  intro G p l e R s m args below meth c H locs lsA C hS hV hL
  exact lv_lconst C.1 C.2.1 hd hv (kk G p l e R s m args below meth c H locs lsA C hS hV hL)
theorem hk_ldc {i : Nat} {v : Int32} (hd : decode M.2.1 pc = .ok (.ldc i, 2)) (hv : Cond.constant M.1.cls i v ∈ hk_T) (kk : hk_WP M d mc ms k n (pc + 2) ls (.int v :: st) h Q) : hk_WP M d mc ms k n pc ls (st) h Q := by
  intro G p l e R s m args below meth c H locs lsA C hS hV hL
  exact lv_ldc C.1 C.2.1 C.2.2.2.1 (C.2.2.2.2.1 _ hv) hd (kk G p l e R s m args below meth c H locs lsA C hS hV hL)
theorem hk_ldcw {i : Nat} {v : Int32} (hd : decode M.2.1 pc = .ok (.ldc_w i, 3)) (hv : Cond.constant M.1.cls i v ∈ hk_T) (kk : hk_WP M d mc ms k n (pc + 3) ls (.int v :: st) h Q) : hk_WP M d mc ms k n pc ls (st) h Q := by
  intro G p l e R s m args below meth c H locs lsA C hS hV hL
  exact lv_ldcw C.1 C.2.1 C.2.2.2.1 (C.2.2.2.2.1 _ hv) hd (kk G p l e R s m args below meth c H locs lsA C hS hV hL)
theorem hk_ldc2 {i : Nat} {v : Int64} (hd : decode M.2.1 pc = .ok (.ldc2_w i, 3)) (hv : Cond.constantLong M.1.cls i v ∈ hk_T) (kk : hk_WP M d mc ms k n (pc + 3) ls (.long v :: st) h Q) : hk_WP M d mc ms k n pc ls (st) h Q := by
  intro G p l e R s m args below meth c H locs lsA C hS hV hL
  exact lv_ldc2 C.1 C.2.1 C.2.2.2.1 (C.2.2.2.2.1 _ hv) hd (kk G p l e R s m args below meth c H locs lsA C hS hV hL)
theorem hk_iload_n {f : Fin 4} {i : Nat} {x : Int32} (hd : decode M.2.1 pc = .ok (.iload_n f, 1)) (hi : (f : Nat) = i) (hl : ls[i]? = some (some (.int x))) (kk : hk_WP M d mc ms k n (pc + 1) ls (.int x :: st) h Q) : hk_WP M d mc ms k n pc ls (st) h Q := by
  intro G p l e R s m args below meth c H locs lsA C hS hV hL
  exact lv_iload_n C.1 C.2.1 hd hi (hk_L_at hL hl) (kk G p l e R s m args below meth c H locs lsA C hS hV hL)
theorem hk_iload {i : Nat} {x : Int32} (hd : decode M.2.1 pc = .ok (.iload i, 2)) (hl : ls[i]? = some (some (.int x))) (kk : hk_WP M d mc ms k n (pc + 2) ls (.int x :: st) h Q) : hk_WP M d mc ms k n pc ls (st) h Q := by
  intro G p l e R s m args below meth c H locs lsA C hS hV hL
  exact lv_iload C.1 C.2.1 hd (hk_L_at hL hl) (kk G p l e R s m args below meth c H locs lsA C hS hV hL)
theorem hk_lload_n {f : Fin 4} {i : Nat} {x : Int64} (hd : decode M.2.1 pc = .ok (.lload_n f, 1)) (hi : (f : Nat) = i) (hl : ls[i]? = some (some (.long x))) (kk : hk_WP M d mc ms k n (pc + 1) ls (.long x :: st) h Q) : hk_WP M d mc ms k n pc ls (st) h Q := by
  intro G p l e R s m args below meth c H locs lsA C hS hV hL
  exact lv_lload_n C.1 C.2.1 hd hi (hk_L_at hL hl) (kk G p l e R s m args below meth c H locs lsA C hS hV hL)
theorem hk_lload {i : Nat} {x : Int64} (hd : decode M.2.1 pc = .ok (.lload i, 2)) (hl : ls[i]? = some (some (.long x))) (kk : hk_WP M d mc ms k n (pc + 2) ls (.long x :: st) h Q) : hk_WP M d mc ms k n pc ls (st) h Q := by
  intro G p l e R s m args below meth c H locs lsA C hS hV hL
  exact lv_lload C.1 C.2.1 hd (hk_L_at hL hl) (kk G p l e R s m args below meth c H locs lsA C hS hV hL)
theorem hk_aload_n {f : Fin 4} {i : Nat} {x : Nat} (hd : decode M.2.1 pc = .ok (.aload_n f, 1)) (hi : (f : Nat) = i) (hl : ls[i]? = some (some (.ref x))) (kk : hk_WP M d mc ms k n (pc + 1) ls (.ref x :: st) h Q) : hk_WP M d mc ms k n pc ls (st) h Q := by
  intro G p l e R s m args below meth c H locs lsA C hS hV hL
  exact lv_aload_n C.1 C.2.1 hd hi (hk_L_at hL hl) (kk G p l e R s m args below meth c H locs lsA C hS hV hL)
theorem hk_aload {i : Nat} {x : Nat} (hd : decode M.2.1 pc = .ok (.aload i, 2)) (hl : ls[i]? = some (some (.ref x))) (kk : hk_WP M d mc ms k n (pc + 2) ls (.ref x :: st) h Q) : hk_WP M d mc ms k n pc ls (st) h Q := by
  intro G p l e R s m args below meth c H locs lsA C hS hV hL
  exact lv_aload C.1 C.2.1 hd (hk_L_at hL hl) (kk G p l e R s m args below meth c H locs lsA C hS hV hL)
theorem hk_aload_nN {f : Fin 4} {i : Nat} (hd : decode M.2.1 pc = .ok (.aload_n f, 1)) (hi : (f : Nat) = i) (hl : ls[i]? = some (some .null)) (kk : hk_WP M d mc ms k n (pc + 1) ls (.null :: st) h Q) : hk_WP M d mc ms k n pc ls (st) h Q := by
  intro G p l e R s m args below meth c H locs lsA C hS hV hL
  exact lv_aload_nN C.1 C.2.1 hd hi (hk_L_at hL hl) (kk G p l e R s m args below meth c H locs lsA C hS hV hL)
theorem hk_aloadN {i : Nat} (hd : decode M.2.1 pc = .ok (.aload i, 2)) (hl : ls[i]? = some (some .null)) (kk : hk_WP M d mc ms k n (pc + 2) ls (.null :: st) h Q) : hk_WP M d mc ms k n pc ls (st) h Q := by
  intro G p l e R s m args below meth c H locs lsA C hS hV hL
  exact lv_aloadN C.1 C.2.1 hd (hk_L_at hL hl) (kk G p l e R s m args below meth c H locs lsA C hS hV hL)
theorem hk_istore_n {f : Fin 4} {i : Nat} {x : Int32} (hd : decode M.2.1 pc = .ok (.istore_n f, 1)) (hi : (f : Nat) = i) (hn : i < M.2.2.1) (hok : hk_ok ls i = true) (kk : hk_WP M d mc ms k n (pc + 1) (ls.set i (some (.int x))) (st) h Q) : hk_WP M d mc ms k n pc ls (.int x :: st) h Q := by
  intro G p l e R s m args below meth c H locs lsA C hS hV hL
  exact lv_istore_n C.1 C.2.1 hd hi hL hn rfl (fun ls' hl' => kk G p l e R s m args below meth c H locs ls' C hS hV (hk_L_set hok hl'))
theorem hk_istore {i : Nat} {x : Int32} (hd : decode M.2.1 pc = .ok (.istore i, 2)) (hn : i < M.2.2.1) (hok : hk_ok ls i = true) (kk : hk_WP M d mc ms k n (pc + 2) (ls.set i (some (.int x))) (st) h Q) : hk_WP M d mc ms k n pc ls (.int x :: st) h Q := by
  intro G p l e R s m args below meth c H locs lsA C hS hV hL
  exact lv_istore C.1 C.2.1 hd hL hn rfl (fun ls' hl' => kk G p l e R s m args below meth c H locs ls' C hS hV (hk_L_set hok hl'))
theorem hk_astore_n {f : Fin 4} {i : Nat} {x : Nat} (hd : decode M.2.1 pc = .ok (.astore_n f, 1)) (hi : (f : Nat) = i) (hn : i < M.2.2.1) (hok : hk_ok ls i = true) (kk : hk_WP M d mc ms k n (pc + 1) (ls.set i (some (.ref x))) (st) h Q) : hk_WP M d mc ms k n pc ls (.ref x :: st) h Q := by
  intro G p l e R s m args below meth c H locs lsA C hS hV hL
  exact lv_astore_n C.1 C.2.1 hd hi hL hn rfl (fun ls' hl' => kk G p l e R s m args below meth c H locs ls' C hS hV (hk_L_set hok hl'))
theorem hk_astore {i : Nat} {x : Nat} (hd : decode M.2.1 pc = .ok (.astore i, 2)) (hn : i < M.2.2.1) (hok : hk_ok ls i = true) (kk : hk_WP M d mc ms k n (pc + 2) (ls.set i (some (.ref x))) (st) h Q) : hk_WP M d mc ms k n pc ls (.ref x :: st) h Q := by
  intro G p l e R s m args below meth c H locs lsA C hS hV hL
  exact lv_astore C.1 C.2.1 hd hL hn rfl (fun ls' hl' => kk G p l e R s m args below meth c H locs ls' C hS hV (hk_L_set hok hl'))
theorem hk_astore_nN {f : Fin 4} {i : Nat} (hd : decode M.2.1 pc = .ok (.astore_n f, 1)) (hi : (f : Nat) = i) (hn : i < M.2.2.1) (hok : hk_ok ls i = true) (kk : hk_WP M d mc ms k n (pc + 1) (ls.set i (some .null)) (st) h Q) : hk_WP M d mc ms k n pc ls (.null :: st) h Q := by
  intro G p l e R s m args below meth c H locs lsA C hS hV hL
  exact lv_astore_nN C.1 C.2.1 hd hi hL hn rfl (fun ls' hl' => kk G p l e R s m args below meth c H locs ls' C hS hV (hk_L_set hok hl'))
theorem hk_astoreN {i : Nat} (hd : decode M.2.1 pc = .ok (.astore i, 2)) (hn : i < M.2.2.1) (hok : hk_ok ls i = true) (kk : hk_WP M d mc ms k n (pc + 2) (ls.set i (some .null)) (st) h Q) : hk_WP M d mc ms k n pc ls (.null :: st) h Q := by
  intro G p l e R s m args below meth c H locs lsA C hS hV hL
  exact lv_astoreN C.1 C.2.1 hd hL hn rfl (fun ls' hl' => kk G p l e R s m args below meth c H locs ls' C hS hV (hk_L_set hok hl'))
theorem hk_lstore_n {f : Fin 4} {i : Nat} {x : Int64} (hd : decode M.2.1 pc = .ok (.lstore_n f, 1)) (hi : (f : Nat) = i) (hn : i + 1 < M.2.2.1) (hok : hk_ok ls i = true) (kk : hk_WP M d mc ms k n (pc + 1) ((ls.set i (some (.long x))).set (i + 1) none) (st) h Q) : hk_WP M d mc ms k n pc ls (.long x :: st) h Q := by
  intro G p l e R s m args below meth c H locs lsA C hS hV hL
  exact lv_lstore_n C.1 C.2.1 hd hi hL hn rfl (fun ls' hl' => kk G p l e R s m args below meth c H locs ls' C hS hV (hk_L_set2 hok hl'))
theorem hk_lstore {i : Nat} {x : Int64} (hd : decode M.2.1 pc = .ok (.lstore i, 2)) (hn : i + 1 < M.2.2.1) (hok : hk_ok ls i = true) (kk : hk_WP M d mc ms k n (pc + 2) ((ls.set i (some (.long x))).set (i + 1) none) (st) h Q) : hk_WP M d mc ms k n pc ls (.long x :: st) h Q := by
  intro G p l e R s m args below meth c H locs lsA C hS hV hL
  exact lv_lstore C.1 C.2.1 hd hL hn rfl (fun ls' hl' => kk G p l e R s m args below meth c H locs ls' C hS hV (hk_L_set2 hok hl'))
theorem hk_iinc {i : Nat} {z : Int} {x v : Int32} (hd : decode M.2.1 pc = .ok (.iinc i z, 3)) (hl : ls[i]? = some (some (.int x))) (hv : x + Int32.ofInt z = v) (hn : i < M.2.2.1) (hok : hk_ok ls i = true) (kk : hk_WP M d mc ms k n (pc + 3) (ls.set i (some (.int v))) (st) h Q) : hk_WP M d mc ms k n pc ls (st) h Q := by
  intro G p l e R s m args below meth c H locs lsA C hS hV hL
  obtain ⟨j, hj⟩ := List.getElem?_of_mem (hk_as_mem (b := hk_b G) (q := (i, .int x)) |>.mpr ⟨.int x, hl, rfl⟩)
  exact lv_iinc C.1 C.2.1 hd hL hj hv hn rfl (fun ls' hl' => kk G p l e R s m args below meth c H locs ls' C hS hV (hk_L_set hok hl'))
theorem hk_iadd {x y : Int32} (hd : decode M.2.1 pc = .ok (.iadd, 1)) (kk : hk_WP M d mc ms k n (pc + 1) ls (.int (x + y) :: st) h Q) : hk_WP M d mc ms k n pc ls (.int y :: .int x :: st) h Q := by
  intro G p l e R s m args below meth c H locs lsA C hS hV hL
  exact lv_iadd C.1 C.2.1 hd (kk G p l e R s m args below meth c H locs lsA C hS hV hL)
theorem hk_isub {x y : Int32} (hd : decode M.2.1 pc = .ok (.isub, 1)) (kk : hk_WP M d mc ms k n (pc + 1) ls (.int (x - y) :: st) h Q) : hk_WP M d mc ms k n pc ls (.int y :: .int x :: st) h Q := by
  intro G p l e R s m args below meth c H locs lsA C hS hV hL
  exact lv_isub C.1 C.2.1 hd (kk G p l e R s m args below meth c H locs lsA C hS hV hL)
theorem hk_imul {x y : Int32} (hd : decode M.2.1 pc = .ok (.imul, 1)) (kk : hk_WP M d mc ms k n (pc + 1) ls (.int (x * y) :: st) h Q) : hk_WP M d mc ms k n pc ls (.int y :: .int x :: st) h Q := by
  intro G p l e R s m args below meth c H locs lsA C hS hV hL
  exact lv_imul C.1 C.2.1 hd (kk G p l e R s m args below meth c H locs lsA C hS hV hL)
theorem hk_iand {x y : Int32} (hd : decode M.2.1 pc = .ok (.iand, 1)) (kk : hk_WP M d mc ms k n (pc + 1) ls (.int (x &&& y) :: st) h Q) : hk_WP M d mc ms k n pc ls (.int y :: .int x :: st) h Q := by
  intro G p l e R s m args below meth c H locs lsA C hS hV hL
  exact lv_iand C.1 C.2.1 hd (kk G p l e R s m args below meth c H locs lsA C hS hV hL)
theorem hk_ior {x y : Int32} (hd : decode M.2.1 pc = .ok (.ior, 1)) (kk : hk_WP M d mc ms k n (pc + 1) ls (.int (x ||| y) :: st) h Q) : hk_WP M d mc ms k n pc ls (.int y :: .int x :: st) h Q := by
  intro G p l e R s m args below meth c H locs lsA C hS hV hL
  exact lv_ior C.1 C.2.1 hd (kk G p l e R s m args below meth c H locs lsA C hS hV hL)
theorem hk_ishl {x y : Int32} (hd : decode M.2.1 pc = .ok (.ishl, 1)) (kk : hk_WP M d mc ms k n (pc + 1) ls (.int (x <<< (y &&& 31)) :: st) h Q) : hk_WP M d mc ms k n pc ls (.int y :: .int x :: st) h Q := by
  intro G p l e R s m args below meth c H locs lsA C hS hV hL
  exact lv_ishl C.1 C.2.1 hd (kk G p l e R s m args below meth c H locs lsA C hS hV hL)
theorem hk_ishr {x y : Int32} (hd : decode M.2.1 pc = .ok (.ishr, 1)) (kk : hk_WP M d mc ms k n (pc + 1) ls (.int (x >>> (y &&& 31)) :: st) h Q) : hk_WP M d mc ms k n pc ls (.int y :: .int x :: st) h Q := by
  intro G p l e R s m args below meth c H locs lsA C hS hV hL
  exact lv_ishr C.1 C.2.1 hd (kk G p l e R s m args below meth c H locs lsA C hS hV hL)
theorem hk_idiv {x y : Int32} (hd : decode M.2.1 pc = .ok (.idiv, 1)) (hne : ¬ y = 0) (kk : hk_WP M d mc ms k n (pc + 1) ls (.int (x / y) :: st) h Q) : hk_WP M d mc ms k n pc ls (.int y :: .int x :: st) h Q := by
  intro G p l e R s m args below meth c H locs lsA C hS hV hL
  exact lv_idiv C.1 C.2.1 hd hne (kk G p l e R s m args below meth c H locs lsA C hS hV hL)
theorem hk_irem {x y : Int32} (hd : decode M.2.1 pc = .ok (.irem, 1)) (hne : ¬ y = 0) (kk : hk_WP M d mc ms k n (pc + 1) ls (.int (x - x / y * y) :: st) h Q) : hk_WP M d mc ms k n pc ls (.int y :: .int x :: st) h Q := by
  intro G p l e R s m args below meth c H locs lsA C hS hV hL
  exact lv_irem C.1 C.2.1 hd hne (kk G p l e R s m args below meth c H locs lsA C hS hV hL)
theorem hk_ladd {x y : Int64} (hd : decode M.2.1 pc = .ok (.ladd, 1)) (kk : hk_WP M d mc ms k n (pc + 1) ls (.long (x + y) :: st) h Q) : hk_WP M d mc ms k n pc ls (.long y :: .long x :: st) h Q := by
  intro G p l e R s m args below meth c H locs lsA C hS hV hL
  exact lv_ladd C.1 C.2.1 hd (kk G p l e R s m args below meth c H locs lsA C hS hV hL)
theorem hk_i2l {x : Int32} {v : Int64} (hd : decode M.2.1 pc = .ok (.i2l, 1)) (hv : x.toInt64 = v) (kk : hk_WP M d mc ms k n (pc + 1) ls (.long v :: st) h Q) : hk_WP M d mc ms k n pc ls (.int x :: st) h Q := by
  intro G p l e R s m args below meth c H locs lsA C hS hV hL
  exact lv_i2l C.1 C.2.1 hd hv (kk G p l e R s m args below meth c H locs lsA C hS hV hL)
theorem hk_l2i {x : Int64} {v : Int32} (hd : decode M.2.1 pc = .ok (.l2i, 1)) (hv : x.toInt32 = v) (kk : hk_WP M d mc ms k n (pc + 1) ls (.int v :: st) h Q) : hk_WP M d mc ms k n pc ls (.long x :: st) h Q := by
  intro G p l e R s m args below meth c H locs lsA C hS hV hL
  exact lv_l2i C.1 C.2.1 hd hv (kk G p l e R s m args below meth c H locs lsA C hS hV hL)
theorem hk_dup {v : Value} (hd : decode M.2.1 pc = .ok (.dup, 1)) (hc : v.category = 1) (kk : hk_WP M d mc ms k n (pc + 1) ls (v :: v :: st) h Q) : hk_WP M d mc ms k n pc ls (v :: st) h Q := by
  intro G p l e R s m args below meth c H locs lsA C hS hV hL
  exact lv_dup C.1 C.2.1 hd ((hk_v_cat _ v).trans hc) (kk G p l e R s m args below meth c H locs lsA C hS hV hL)
theorem hk_pop {v : Value} (hd : decode M.2.1 pc = .ok (.pop, 1)) (hc : v.category = 1) (kk : hk_WP M d mc ms k n (pc + 1) ls (st) h Q) : hk_WP M d mc ms k n pc ls (v :: st) h Q := by
  intro G p l e R s m args below meth c H locs lsA C hS hV hL
  exact lv_pop C.1 C.2.1 hd ((hk_v_cat _ v).trans hc) (kk G p l e R s m args below meth c H locs lsA C hS hV hL)
theorem hk_dup2 {v w : Value} (hd : decode M.2.1 pc = .ok (.dup2, 1)) (hc : v.category = 1) (hc2 : w.category = 1) (kk : hk_WP M d mc ms k n (pc + 1) ls (v :: w :: v :: w :: st) h Q) : hk_WP M d mc ms k n pc ls (v :: w :: st) h Q := by
  intro G p l e R s m args below meth c H locs lsA C hS hV hL
  exact lv_dup2_11 C.1 C.2.1 hd ((hk_v_cat _ v).trans hc) ((hk_v_cat _ w).trans hc2) (kk G p l e R s m args below meth c H locs lsA C hS hV hL)
theorem hk_dup_x1 {v w : Value} (hd : decode M.2.1 pc = .ok (.dup_x1, 1)) (hc : v.category = 1) (hc2 : w.category = 1) (kk : hk_WP M d mc ms k n (pc + 1) ls (v :: w :: v :: st) h Q) : hk_WP M d mc ms k n pc ls (v :: w :: st) h Q := by
  intro G p l e R s m args below meth c H locs lsA C hS hV hL
  exact lv_dup_x1 C.1 C.2.1 hd ((hk_v_cat _ v).trans hc) ((hk_v_cat _ w).trans hc2) (kk G p l e R s m args below meth c H locs lsA C hS hV hL)
theorem hk_if_eq {x : Int32} {off : Int} {tgt : Nat} (hd : decode M.2.1 pc = .ok (.ifCond .eq off, 3)) (ht : (pc : Int) + off = (tgt : Int)) (kt : x = 0 → hk_WP M d mc ms k n (tgt) ls (st) h Q) (kf : ¬ x = 0 → hk_WP M d mc ms k n (pc + 3) ls (st) h Q) : hk_WP M d mc ms k n pc ls (.int x :: st) h Q := by
  intro G p l e R s m args below meth c H locs lsA C hS hV hL
  exact lv_if_eq C.1 C.2.1 hd ht (fun q => kt q G p l e R s m args below meth c H locs lsA C hS hV hL) (fun q => kf q G p l e R s m args below meth c H locs lsA C hS hV hL)
theorem hk_icmp_eq {x y : Int32} {off : Int} {tgt : Nat} (hd : decode M.2.1 pc = .ok (.if_icmp .eq off, 3)) (ht : (pc : Int) + off = (tgt : Int)) (kt : x = y → hk_WP M d mc ms k n (tgt) ls (st) h Q) (kf : ¬ x = y → hk_WP M d mc ms k n (pc + 3) ls (st) h Q) : hk_WP M d mc ms k n pc ls (.int y :: .int x :: st) h Q := by
  intro G p l e R s m args below meth c H locs lsA C hS hV hL
  exact lv_icmp_eq C.1 C.2.1 hd ht (fun q => kt q G p l e R s m args below meth c H locs lsA C hS hV hL) (fun q => kf q G p l e R s m args below meth c H locs lsA C hS hV hL)
theorem hk_if_ne {x : Int32} {off : Int} {tgt : Nat} (hd : decode M.2.1 pc = .ok (.ifCond .ne off, 3)) (ht : (pc : Int) + off = (tgt : Int)) (kt : ¬ x = 0 → hk_WP M d mc ms k n (tgt) ls (st) h Q) (kf : x = 0 → hk_WP M d mc ms k n (pc + 3) ls (st) h Q) : hk_WP M d mc ms k n pc ls (.int x :: st) h Q := by
  intro G p l e R s m args below meth c H locs lsA C hS hV hL
  exact lv_if_ne C.1 C.2.1 hd ht (fun q => kt q G p l e R s m args below meth c H locs lsA C hS hV hL) (fun q => kf q G p l e R s m args below meth c H locs lsA C hS hV hL)
theorem hk_icmp_ne {x y : Int32} {off : Int} {tgt : Nat} (hd : decode M.2.1 pc = .ok (.if_icmp .ne off, 3)) (ht : (pc : Int) + off = (tgt : Int)) (kt : ¬ x = y → hk_WP M d mc ms k n (tgt) ls (st) h Q) (kf : x = y → hk_WP M d mc ms k n (pc + 3) ls (st) h Q) : hk_WP M d mc ms k n pc ls (.int y :: .int x :: st) h Q := by
  intro G p l e R s m args below meth c H locs lsA C hS hV hL
  exact lv_icmp_ne C.1 C.2.1 hd ht (fun q => kt q G p l e R s m args below meth c H locs lsA C hS hV hL) (fun q => kf q G p l e R s m args below meth c H locs lsA C hS hV hL)
theorem hk_if_lt {x : Int32} {off : Int} {tgt : Nat} (hd : decode M.2.1 pc = .ok (.ifCond .lt off, 3)) (ht : (pc : Int) + off = (tgt : Int)) (kt : x < 0 → hk_WP M d mc ms k n (tgt) ls (st) h Q) (kf : ¬ x < 0 → hk_WP M d mc ms k n (pc + 3) ls (st) h Q) : hk_WP M d mc ms k n pc ls (.int x :: st) h Q := by
  intro G p l e R s m args below meth c H locs lsA C hS hV hL
  exact lv_if_lt C.1 C.2.1 hd ht (fun q => kt q G p l e R s m args below meth c H locs lsA C hS hV hL) (fun q => kf q G p l e R s m args below meth c H locs lsA C hS hV hL)
theorem hk_icmp_lt {x y : Int32} {off : Int} {tgt : Nat} (hd : decode M.2.1 pc = .ok (.if_icmp .lt off, 3)) (ht : (pc : Int) + off = (tgt : Int)) (kt : x < y → hk_WP M d mc ms k n (tgt) ls (st) h Q) (kf : ¬ x < y → hk_WP M d mc ms k n (pc + 3) ls (st) h Q) : hk_WP M d mc ms k n pc ls (.int y :: .int x :: st) h Q := by
  intro G p l e R s m args below meth c H locs lsA C hS hV hL
  exact lv_icmp_lt C.1 C.2.1 hd ht (fun q => kt q G p l e R s m args below meth c H locs lsA C hS hV hL) (fun q => kf q G p l e R s m args below meth c H locs lsA C hS hV hL)
theorem hk_if_ge {x : Int32} {off : Int} {tgt : Nat} (hd : decode M.2.1 pc = .ok (.ifCond .ge off, 3)) (ht : (pc : Int) + off = (tgt : Int)) (kt : 0 ≤ x → hk_WP M d mc ms k n (tgt) ls (st) h Q) (kf : ¬ 0 ≤ x → hk_WP M d mc ms k n (pc + 3) ls (st) h Q) : hk_WP M d mc ms k n pc ls (.int x :: st) h Q := by
  intro G p l e R s m args below meth c H locs lsA C hS hV hL
  exact lv_if_ge C.1 C.2.1 hd ht (fun q => kt q G p l e R s m args below meth c H locs lsA C hS hV hL) (fun q => kf q G p l e R s m args below meth c H locs lsA C hS hV hL)
theorem hk_icmp_ge {x y : Int32} {off : Int} {tgt : Nat} (hd : decode M.2.1 pc = .ok (.if_icmp .ge off, 3)) (ht : (pc : Int) + off = (tgt : Int)) (kt : y ≤ x → hk_WP M d mc ms k n (tgt) ls (st) h Q) (kf : ¬ y ≤ x → hk_WP M d mc ms k n (pc + 3) ls (st) h Q) : hk_WP M d mc ms k n pc ls (.int y :: .int x :: st) h Q := by
  intro G p l e R s m args below meth c H locs lsA C hS hV hL
  exact lv_icmp_ge C.1 C.2.1 hd ht (fun q => kt q G p l e R s m args below meth c H locs lsA C hS hV hL) (fun q => kf q G p l e R s m args below meth c H locs lsA C hS hV hL)
theorem hk_if_gt {x : Int32} {off : Int} {tgt : Nat} (hd : decode M.2.1 pc = .ok (.ifCond .gt off, 3)) (ht : (pc : Int) + off = (tgt : Int)) (kt : 0 < x → hk_WP M d mc ms k n (tgt) ls (st) h Q) (kf : ¬ 0 < x → hk_WP M d mc ms k n (pc + 3) ls (st) h Q) : hk_WP M d mc ms k n pc ls (.int x :: st) h Q := by
  intro G p l e R s m args below meth c H locs lsA C hS hV hL
  exact lv_if_gt C.1 C.2.1 hd ht (fun q => kt q G p l e R s m args below meth c H locs lsA C hS hV hL) (fun q => kf q G p l e R s m args below meth c H locs lsA C hS hV hL)
theorem hk_icmp_gt {x y : Int32} {off : Int} {tgt : Nat} (hd : decode M.2.1 pc = .ok (.if_icmp .gt off, 3)) (ht : (pc : Int) + off = (tgt : Int)) (kt : y < x → hk_WP M d mc ms k n (tgt) ls (st) h Q) (kf : ¬ y < x → hk_WP M d mc ms k n (pc + 3) ls (st) h Q) : hk_WP M d mc ms k n pc ls (.int y :: .int x :: st) h Q := by
  intro G p l e R s m args below meth c H locs lsA C hS hV hL
  exact lv_icmp_gt C.1 C.2.1 hd ht (fun q => kt q G p l e R s m args below meth c H locs lsA C hS hV hL) (fun q => kf q G p l e R s m args below meth c H locs lsA C hS hV hL)
theorem hk_if_le {x : Int32} {off : Int} {tgt : Nat} (hd : decode M.2.1 pc = .ok (.ifCond .le off, 3)) (ht : (pc : Int) + off = (tgt : Int)) (kt : x ≤ 0 → hk_WP M d mc ms k n (tgt) ls (st) h Q) (kf : ¬ x ≤ 0 → hk_WP M d mc ms k n (pc + 3) ls (st) h Q) : hk_WP M d mc ms k n pc ls (.int x :: st) h Q := by
  intro G p l e R s m args below meth c H locs lsA C hS hV hL
  exact lv_if_le C.1 C.2.1 hd ht (fun q => kt q G p l e R s m args below meth c H locs lsA C hS hV hL) (fun q => kf q G p l e R s m args below meth c H locs lsA C hS hV hL)
theorem hk_icmp_le {x y : Int32} {off : Int} {tgt : Nat} (hd : decode M.2.1 pc = .ok (.if_icmp .le off, 3)) (ht : (pc : Int) + off = (tgt : Int)) (kt : x ≤ y → hk_WP M d mc ms k n (tgt) ls (st) h Q) (kf : ¬ x ≤ y → hk_WP M d mc ms k n (pc + 3) ls (st) h Q) : hk_WP M d mc ms k n pc ls (.int y :: .int x :: st) h Q := by
  intro G p l e R s m args below meth c H locs lsA C hS hV hL
  exact lv_icmp_le C.1 C.2.1 hd ht (fun q => kt q G p l e R s m args below meth c H locs lsA C hS hV hL) (fun q => kf q G p l e R s m args below meth c H locs lsA C hS hV hL)
theorem hk_goto {off : Int} {tgt : Nat} (hd : decode M.2.1 pc = .ok (.goto off, 3)) (ht : (pc : Int) + off = (tgt : Int)) (kk : hk_WP M d mc ms k n (tgt) ls (st) h Q) : hk_WP M d mc ms k n pc ls (st) h Q := by
  intro G p l e R s m args below meth c H locs lsA C hS hV hL
  exact lv_goto C.1 C.2.1 hd ht (kk G p l e R s m args below meth c H locs lsA C hS hV hL)
theorem hk_ifnull {x : Nat} {off : Int} (hd : decode M.2.1 pc = .ok (.ifnull off, 3)) (kk : hk_WP M d mc ms k n (pc + 3) ls (st) h Q) : hk_WP M d mc ms k n pc ls (.ref x :: st) h Q := by
  intro G p l e R s m args below meth c H locs lsA C hS hV hL
  exact lv_ifnull C.1 C.2.1 hd (kk G p l e R s m args below meth c H locs lsA C hS hV hL)
theorem hk_ifnullN {off : Int} {tgt : Nat} (hd : decode M.2.1 pc = .ok (.ifnull off, 3)) (ht : (pc : Int) + off = (tgt : Int)) (kk : hk_WP M d mc ms k n (tgt) ls (st) h Q) : hk_WP M d mc ms k n pc ls (.null :: st) h Q := by
  intro G p l e R s m args below meth c H locs lsA C hS hV hL
  exact lv_ifnullN C.1 C.2.1 hd ht (kk G p l e R s m args below meth c H locs lsA C hS hV hL)
theorem hk_ifnonnull {x : Nat} {off : Int} {tgt : Nat} (hd : decode M.2.1 pc = .ok (.ifnonnull off, 3)) (ht : (pc : Int) + off = (tgt : Int)) (kk : hk_WP M d mc ms k n (tgt) ls (st) h Q) : hk_WP M d mc ms k n pc ls (.ref x :: st) h Q := by
  intro G p l e R s m args below meth c H locs lsA C hS hV hL
  exact lv_ifnonnull C.1 C.2.1 hd ht (kk G p l e R s m args below meth c H locs lsA C hS hV hL)
theorem hk_ifnonnullN {off : Int} (hd : decode M.2.1 pc = .ok (.ifnonnull off, 3)) (kk : hk_WP M d mc ms k n (pc + 3) ls (st) h Q) : hk_WP M d mc ms k n pc ls (.null :: st) h Q := by
  intro G p l e R s m args below meth c H locs lsA C hS hV hL
  exact lv_ifnonnullN C.1 C.2.1 hd (kk G p l e R s m args below meth c H locs lsA C hS hV hL)
theorem hk_null (hd : decode M.2.1 pc = .ok (.aconst_null, 1)) (kk : hk_WP M d mc ms k n (pc + 1) ls (.null :: st) h Q) : hk_WP M d mc ms k n pc ls (st) h Q := by
  intro G p l e R s m args below meth c H locs lsA C hS hV hL
  exact lv_null C.1 C.2.1 hd (kk G p l e R s m args below meth c H locs lsA C hS hV hL)
theorem hk_tableIn {dflt lo hi : Int} {offs : Array Int} {len : Nat} {x : Int32} {off : Int} {tgt : Nat} (hd : decode M.2.1 pc = .ok (.tableswitch dflt lo hi offs, len)) (h1 : ¬ x.toInt < lo) (h2 : ¬ hi < x.toInt) (ho : offs[(x.toInt - lo).toNat]? = some off) (ht : (pc : Int) + off = (tgt : Int)) (kk : hk_WP M d mc ms k n (tgt) ls (st) h Q) : hk_WP M d mc ms k n pc ls (.int x :: st) h Q := by
  intro G p l e R s m args below meth c H locs lsA C hS hV hL
  exact lv_tableIn C.1 C.2.1 hd h1 h2 ho ht (kk G p l e R s m args below meth c H locs lsA C hS hV hL)
theorem hk_tableOut {dflt lo hi : Int} {offs : Array Int} {len : Nat} {x : Int32} {tgt : Nat} (hd : decode M.2.1 pc = .ok (.tableswitch dflt lo hi offs, len)) (h1 : x.toInt < lo ∨ hi < x.toInt) (ht : (pc : Int) + dflt = (tgt : Int)) (kk : hk_WP M d mc ms k n (tgt) ls (st) h Q) : hk_WP M d mc ms k n pc ls (.int x :: st) h Q := by
  intro G p l e R s m args below meth c H locs lsA C hS hV hL
  exact lv_tableOut C.1 C.2.1 hd h1 ht (kk G p l e R s m args below meth c H locs lsA C hS hV hL)
theorem hk_lookup {dflt : Int} {ps : Array (Int × Int)} {len : Nat} {x : Int32} {off : Int} {tgt : Nat} (hd : decode M.2.1 pc = .ok (.lookupswitch dflt ps, len)) (hp : (ps.toList.zip (ps.toList.drop 1)).all (fun (a, next) => a.1 < next.1) = true) (ho : Op.lookupswitch.offset ps.toList dflt x.toInt = off) (ht : (pc : Int) + off = (tgt : Int)) (kk : hk_WP M d mc ms k n (tgt) ls (st) h Q) : hk_WP M d mc ms k n pc ls (.int x :: st) h Q := by
  intro G p l e R s m args below meth c H locs lsA C hS hV hL
  exact lv_lookup C.1 C.2.1 hd hp ho ht (kk G p l e R s m args below meth c H locs lsA C hS hV hL)
theorem hk_ireturn {v : Int32} {ty : FieldType} (hd : decode M.2.1 pc = .ok (.ireturn, 1)) (hr : M.2.2.2 = some ty) (hn : narrow ty (.int v) = .int v) (hk : k ≤ mc ∧ n ≤ ms) (hQ : Q (some (.int v)) h) : hk_WP M d mc ms k n pc ls [.int v] h Q := by
  intro G p l e R s m args below meth c H locs lsA C hS hV hL
  refine W.widen hk.1 hk.2 ?_
  exact W.zret C.1 C.2.1 (C.2.2.2.2.2.1.trans hr) hn (fun t ht hW => ⟨⟨some (.int v), h, rfl, hQ, by rw [ht]; exact hS.warm hW⟩, hV.F ht⟩) hV.2.2 hd C.2.2.2.2.2.2.1
theorem hk_return (hd : decode M.2.1 pc = .ok (.return_, 1)) (hr : M.2.2.2 = none) (hk : k ≤ mc ∧ n ≤ ms) (hQ : Q none h) : hk_WP M d mc ms k n pc ls [] h Q := by
  intro G p l e R s m args below meth c H locs lsA C hS hV hL
  refine W.widen hk.1 hk.2 ?_
  exact W.vret C.1 C.2.1 (C.2.2.2.2.2.1.trans hr) (fun t ht hW => ⟨⟨none, h, rfl, hQ, by rw [ht]; exact hS.warm hW⟩, hV.F ht⟩) hV.2.2 hd C.2.2.2.2.2.2.1
theorem hk_areturn {v : Value} {rt : FieldType} (hd : decode M.2.1 pc = .ok (.areturn, 1)) (hr : M.2.2.2 = some rt) (hrt : (∃ n, rt = .object n) ∨ ∃ t, rt = .array t) (hv : v = .null ∨ ∃ a, v = .ref a) (hk : k ≤ mc ∧ n ≤ ms) (hQ : Q (some v) h) : hk_WP M d mc ms k n pc ls [v] h Q := by
  intro G p l e R s m args below meth c H locs lsA C hS hV hL
  refine W.widen hk.1 hk.2 ?_
  exact W.aret C.1 C.2.1 (C.2.2.2.2.2.1.trans hr) hrt (by rcases hv with rfl | ⟨a, rfl⟩; exact Or.inl rfl; exact Or.inr ⟨_, rfl⟩) (fun t ht hW => ⟨⟨some v, h, rfl, hQ, by rw [ht]; exact hS.warm hW⟩, hV.F ht⟩) hV.2.2 hd C.2.2.2.2.2.2.1
end HR
end
section
/-! rows of the hk_ layer: fields, arrays, making, calls -/
theorem hk_t {w : Cond} (i : Nat) (hi : tables_1[i]? = some w) (hg : goodWord w = true) : w ∈ hk_T := hk_T_good (List.mem_append_right _ (List.mem_of_getElem? hi)) hg
theorem hk_ts {w : Cond} (i : Nat) (hi : (k2_sels lw_privs)[i]? = some w) (hg : goodWord w = true) : w ∈ hk_T := hk_T_good (List.mem_append_left _ (List.mem_of_getElem? hi)) hg
theorem hk_n {w : Cond} (i : Nat) (hi : tables_1[i]? = some w) (hg : hk_isN w = true) : w ∈ hk_N := List.mem_filter.mpr ⟨List.mem_of_getElem? hi, hg⟩
section HM
variable {M : hk_M} {d mc ms k n pc : Nat} {ls : List (Option Value)} {st : List Value} {h : hk_H} {Q : Option Value → hk_H → Prop}
theorem hk_wl_obj {G : hk_G} {a ci : Nat} {fs : List Value} (ha : a < h.1) (he : h.2 a = .inr (ci, fs)) : (hk_wl G h)[a]? = some (hk_b G + a, .inr (ci, fs.map (hk_v (hk_b G)))) := by
  rw [hk_wl_get ha, he]; rfl
theorem hk_wl_int {G : hk_G} {a t N : Nat} {f : Nat → Int32} (ha : a < h.1) (he : h.2 a = .inl (t, N, .inl f)) : (hk_wl G h)[a]? = some (hk_b G + a, .inl (hk_cid G t, N, .inl f)) := by
  rw [hk_wl_get ha, he]; rfl
theorem hk_wl_ref {G : hk_G} {a t N : Nat} {f : Nat → Option Nat} (ha : a < h.1) (he : h.2 a = .inl (t, N, .inr f)) : (hk_wl G h)[a]? = some (hk_b G + a, .inl (hk_cid G t, N, .inr (.inr (.inr (.inr (fun j => (f j).map (fun a => hk_b G + a))))))) := by
  rw [hk_wl_get ha, he]; rfl
theorem hk_getf {C : String} {T : u_T} {N ci idx kf a : Nat} {fs : List Value} {v : Value} (hc : vwCl[ci]? = some (C, T, N)) (hin : ∀ w ∈ u_ws C T N, w ∈ hk_T) (hkN : kf < N) (hlink : Cond.fieldLink M.1.cls idx (T kf).1 (T kf).2.1 (T kf).2.2.1 ∈ hk_T)
    (hd : decode M.2.1 pc = .ok (.getfield idx, 3)) (ha : a < h.1) (he : h.2 a = .inr (ci, fs)) (hv : fs[kf]? = some v) (kk : hk_WP M d mc ms k n (pc + 3) ls (v :: st) h Q) : hk_WP M d mc ms k n pc ls (.ref a :: st) h Q := by
  intro G p l e R s m args below meth c H locs lsA C0 hS hV hL
  exact va_get C0.1 C0.2.1 C0.2.2.2.2.1 hin C0.2.2.2.1 hS.1 hS.2.1 a (hk_wl_obj ha he) hc kf hkN (C0.2.2.2.2.1 _ hlink) (fun _ h => h) (by rw [List.getElem?_map, hv]; rfl) hd (kk G p l e R s m args below meth c H locs lsA C0 hS hV hL)
theorem hk_getfN {C host : String} {T : u_T} {N ci idx kf a : Nat} {fs : List Value} {v : Value} (hc : vwCl[ci]? = some (C, T, N)) (hin : ∀ w ∈ u_ws C T N, w ∈ hk_T) (hkN : kf < N) (hlink : Cond.fieldLinkNest M.1.cls idx (T kf).1 (T kf).2.1 (T kf).2.2.1 host ∈ hk_N)
    (hd : decode M.2.1 pc = .ok (.getfield idx, 3)) (ha : a < h.1) (he : h.2 a = .inr (ci, fs)) (hv : fs[kf]? = some v) (kk : hk_WP M d mc ms k n (pc + 3) ls (v :: st) h Q) : hk_WP M d mc ms k n pc ls (.ref a :: st) h Q := by
  intro G p l e R s m args below meth c H locs lsA C0 hS hV hL
  exact va_getN C0.1 C0.2.1 C0.2.2.2.2.1 hin C0.2.2.2.1 hS.1 hS.2.1 a (hk_wl_obj ha he) hc kf hkN (va_Nw.use rfl (C0.2.2.2.2.2.2.2.2.2.2.1 _ hlink)) (fun _ h => h) (by rw [List.getElem?_map, hv]; rfl) hd (kk G p l e R s m args below meth c H locs lsA C0 hS hV hL)
theorem hk_set_map {G : hk_G} {fs : List Value} {kf : Nat} {v : Value} : (fs.map (hk_v (hk_b G))).set kf (hk_v (hk_b G) v) = (fs.set kf v).map (hk_v (hk_b G)) := List.map_set.symm
theorem hk_S_set {G : hk_G} {a : Nat} {x : hk_E} {s : State} {H H1 : Heap} (hS : hk_S G h s H) (hP : va_P G.1 vwCl ((hk_wl G h).set a (hk_b G + a, hk_ce G x)) H1) (hz : H1.size = H.size) : hk_S G (hk_up h a x) s H1 :=
  ⟨hS.1, hk_wl_set x ▸ hP, hz.trans hS.2.2⟩
theorem hk_putf {C : String} {T : u_T} {N ci idx kf a : Nat} {fs : List Value} {v : Value} (ty0 : Nat → FieldType) (hty : ∀ k, k < N → parseFieldDescriptor (T k).2.2.1 = some (ty0 k)) (hnm : ∀ a, a < N → ∀ b, b < N → a ≠ b → (T a).2.1 ≠ (T b).2.1)
    (hc : vwCl[ci]? = some (C, T, N)) (hin : ∀ w ∈ u_ws C T N, w ∈ hk_T) (hkN : kf < N)
    (hlink : Cond.fieldLink M.1.cls idx (T kf).1 (T kf).2.1 (T kf).2.2.1 ∈ hk_T) (hfin : (T kf).2.2.2 = false)
    (hn : ∀ b, narrow (ty0 kf) (hk_v b v) = hk_v b v) (hfit : ∀ b, fits (ty0 kf) (hk_v b v) = true)
    (hd : decode M.2.1 pc = .ok (.putfield idx, 3)) (ha : a < h.1) (he : h.2 a = .inr (ci, fs)) (hl : kf < fs.length) (kk : hk_WP M d mc ms k n (pc + 3) ls st (hk_up h a (.inr (ci, fs.set kf v))) Q) : hk_WP M d mc ms k n pc ls (v :: .ref a :: st) h Q := by
  intro G p l e R s m args below meth c H locs lsA C0 hS hV hL
  have hap := va_apart (own := M.1.cls) C0.2.2.2.2.1 hin ty0 hty hnm hS.1 hc
  have he' := hk_wl_obj (G := G) ha he
  obtain ⟨r, h1, cell, q1, q2, q3, q4⟩ := hS.2.1 a _ he'
  obtain rfl : r = (C, T, N) := Option.some.inj (h1.symm.trans hc)
  obtain ⟨hSl, hfc, kC, hkC, hkind⟩ := hS.1.1 ci _ hc
  obtain ⟨cf, kf', fi, f, hi, hsl⟩ := hSl kf hkN
  have hlay := C0.2.2.2.2.1 _ (hin _ (u_in_lay hkN))
  simp only [u_lay, hfin, Bool.false_eq_true, if_false] at hlay
  have hst := (u_facts hfc hkC (u_lays C0.2.2.2.2.1 hin hkN) hi).1
  have h6 := u_store hfc hkC hkind hlay hi (hty kf hkN) (hn (hk_b G)) (hfit (hk_b G))
  refine W.putK C0.1 C0.2.1 (f := f) ⟨C0.2.2.2.1, C0.2.2.2.2.1 _ hlink, ⟨_, _, _, hi⟩, hst⟩ (by rw [q2]; exact h6) q1 q3 (by rw [hsl]; exact k2_hasslot (q4 kf hkN)) rfl rfl hd fun H1 e1 e2 e3 => ?_
  rw [hsl] at e1 ⊢
  have hP1 := hS.2.1.set (hk_D G h) he' (e := .inr (ci, (fs.map (hk_v (hk_b G))).set kf (hk_v (hk_b G) v))) (H1 := H1) ⟨_, hc, t_OB.to (V := updV (vp_V (fs.map (hk_v (hk_b G)))) kf (hk_v (hk_b G) v)) ⟨_, e1, q2, q3, t_set q4 hap hkN _⟩ (fun j _ => vp_updV_set (by rw [List.length_map]; exact hl) _ j)⟩ e3
  rw [hk_set_map] at hP1
  exact kk G p l e R s m args below meth c H1 _ lsA C0 (hk_S_set (x := .inr (ci, fs.set kf v)) hS hP1 e2) (hV.put e2 e3 (Nat.le_add_right _ _)) hL
theorem hk_putfN {C host : String} {T : u_T} {N ci idx kf a : Nat} {fs : List Value} {v : Value} (ty0 : Nat → FieldType) (hty : ∀ k, k < N → parseFieldDescriptor (T k).2.2.1 = some (ty0 k)) (hnm : ∀ a, a < N → ∀ b, b < N → a ≠ b → (T a).2.1 ≠ (T b).2.1)
    (hc : vwCl[ci]? = some (C, T, N)) (hin : ∀ w ∈ u_ws C T N, w ∈ hk_T) (hkN : kf < N)
    (hlink : Cond.fieldLinkNest M.1.cls idx (T kf).1 (T kf).2.1 (T kf).2.2.1 host ∈ hk_N) (hfin : (T kf).2.2.2 = false)
    (hn : ∀ b, narrow (ty0 kf) (hk_v b v) = hk_v b v) (hfit : ∀ b, fits (ty0 kf) (hk_v b v) = true)
    (hd : decode M.2.1 pc = .ok (.putfield idx, 3)) (ha : a < h.1) (he : h.2 a = .inr (ci, fs)) (hl : kf < fs.length) (kk : hk_WP M d mc ms k n (pc + 3) ls st (hk_up h a (.inr (ci, fs.set kf v))) Q) : hk_WP M d mc ms k n pc ls (v :: .ref a :: st) h Q := by
  intro G p l e R s m args below meth c H locs lsA C0 hS hV hL
  have hap := va_apart (own := M.1.cls) C0.2.2.2.2.1 hin ty0 hty hnm hS.1 hc
  have he' := hk_wl_obj (G := G) ha he
  obtain ⟨r, h1, cell, q1, q2, q3, q4⟩ := hS.2.1 a _ he'
  obtain rfl : r = (C, T, N) := Option.some.inj (h1.symm.trans hc)
  obtain ⟨hSl, hfc, kC, hkC, hkind⟩ := hS.1.1 ci _ hc
  obtain ⟨cf, kf', fi, f, hi, hsl⟩ := hSl kf hkN
  have hlay := C0.2.2.2.2.1 _ (hin _ (u_in_lay hkN))
  simp only [u_lay, hfin, Bool.false_eq_true, if_false] at hlay
  have hst := (u_facts hfc hkC (u_lays C0.2.2.2.2.1 hin hkN) hi).1
  have h6 := u_store hfc hkC hkind hlay hi (hty kf hkN) (hn (hk_b G)) (hfit (hk_b G))
  refine va_WputK C0.1 C0.2.1 (f := f) C0.2.2.2.1 (va_Nw.use rfl (C0.2.2.2.2.2.2.2.2.2.2.1 _ hlink)) hi hst (by rw [q2]; exact h6) q1 q3 (by rw [hsl]; exact k2_hasslot (q4 kf hkN)) rfl rfl hd fun H1 e1 e2 e3 => ?_
  rw [hsl] at e1 ⊢
  have hP1 := hS.2.1.set (hk_D G h) he' (e := .inr (ci, (fs.map (hk_v (hk_b G))).set kf (hk_v (hk_b G) v))) (H1 := H1) ⟨_, hc, t_OB.to (V := updV (vp_V (fs.map (hk_v (hk_b G)))) kf (hk_v (hk_b G) v)) ⟨_, e1, q2, q3, t_set q4 hap hkN _⟩ (fun j _ => vp_updV_set (by rw [List.length_map]; exact hl) _ j)⟩ e3
  rw [hk_set_map] at hP1
  exact kk G p l e R s m args below meth c H1 _ lsA C0 (hk_S_set (x := .inr (ci, fs.set kf v)) hS hP1 e2) (hV.put e2 e3 (Nat.le_add_right _ _)) hL
theorem hk_putF {C : String} {T : u_T} {N ci idx kf a : Nat} {fs : List Value} {v : Value} (ty0 : Nat → FieldType) (hty : ∀ k, k < N → parseFieldDescriptor (T k).2.2.1 = some (ty0 k)) (hnm : ∀ a, a < N → ∀ b, b < N → a ≠ b → (T a).2.1 ≠ (T b).2.1)
    (hc : vwCl[ci]? = some (C, T, N)) (hin : ∀ w ∈ u_ws C T N, w ∈ hk_T) (hkN : kf < N)
    (hlink : Cond.fieldLink M.1.cls idx (T kf).1 (T kf).2.1 (T kf).2.2.1 ∈ hk_T) (hfin : (T kf).2.2.2 = true) (hinit : M.1.name = "<init>") (hdecl : (T kf).1 = M.1.cls)
    (hn : ∀ b, narrow (ty0 kf) (hk_v b v) = hk_v b v) (hfit : ∀ b, fits (ty0 kf) (hk_v b v) = true)
    (hd : decode M.2.1 pc = .ok (.putfield idx, 3)) (ha : a < h.1) (he : h.2 a = .inr (ci, fs)) (hl : kf < fs.length) (kk : hk_WP M d mc ms k n (pc + 3) ls st (hk_up h a (.inr (ci, fs.set kf v))) Q) : hk_WP M d mc ms k n pc ls (v :: .ref a :: st) h Q := by
  intro G p l e R s m args below meth c H locs lsA C0 hS hV hL
  have hap := va_apart (own := M.1.cls) C0.2.2.2.2.1 hin ty0 hty hnm hS.1 hc
  have he' := hk_wl_obj (G := G) ha he
  obtain ⟨r, h1, cell, q1, q2, q3, q4⟩ := hS.2.1 a _ he'
  obtain rfl : r = (C, T, N) := Option.some.inj (h1.symm.trans hc)
  obtain ⟨hSl, hfc, kC, hkC, hkind⟩ := hS.1.1 ci _ hc
  obtain ⟨cf, kf', fi, f, hi, hsl⟩ := hSl kf hkN
  have hlay := C0.2.2.2.2.1 _ (hin _ (u_in_lay hkN))
  simp only [u_lay, hfin, if_true] at hlay
  have hst := (u_facts hfc hkC (u_lays C0.2.2.2.2.1 hin hkN) hi).1
  have hcf : m.cls = cf := by
    obtain ⟨_, _, c', _, _, _, -, -, hf', -, -, -, hown2, -⟩ := Cond.laysFinal_spec hlay
    have e1 : c' = cf := by have := hi.symm.trans hf'; simp at this; exact this.1.symm
    rw [hdecl] at hown2
    rw [← e1]; exact Option.some.inj (C0.2.2.2.1.symm.trans hown2)
  have h6 := u_fits hfc hkC hkind (Or.inr hlay) hi (hty kf hkN) (hn (hk_b G)) (hfit (hk_b G))
  refine W.putFinK C0.1 C0.2.1 C0.2.2.2.1 (C0.2.2.2.2.1 _ hlink) hi hst hcf (C0.2.2.2.2.2.2.2.1.trans hinit) (by rw [q2]; exact h6) q1 q3 (by rw [hsl]; exact k2_hasslot (q4 kf hkN)) rfl rfl hd fun H1 e1 e2 e3 => ?_
  rw [hsl] at e1 ⊢
  have hP1 := hS.2.1.set (hk_D G h) he' (e := .inr (ci, (fs.map (hk_v (hk_b G))).set kf (hk_v (hk_b G) v))) (H1 := H1) ⟨_, hc, t_OB.to (V := updV (vp_V (fs.map (hk_v (hk_b G)))) kf (hk_v (hk_b G) v)) ⟨_, e1, q2, q3, t_set q4 hap hkN _⟩ (fun j _ => vp_updV_set (by rw [List.length_map]; exact hl) _ j)⟩ e3
  rw [hk_set_map] at hP1
  exact kk G p l e R s m args below meth c H1 _ lsA C0 (hk_S_set (x := .inr (ci, fs.set kf v)) hS hP1 e2) (hV.put e2 e3 (Nat.le_add_right _ _)) hL
theorem hk_iaload {a N : Nat} {f : Nat → Int32} {i : Int32} (hd : decode M.2.1 pc = .ok (.iaload, 1)) (ha : a < h.1) (he : h.2 a = .inl (0, N, .inl f)) (hin : vp_in i N) (kk : hk_WP M d mc ms k n (pc + 1) ls (.int (f i.toNatClampNeg) :: st) h Q) : hk_WP M d mc ms k n pc ls (.int i :: .ref a :: st) h Q := by
  intro G p l e R s m args below meth c H locs lsA C0 hS hV hL
  exact va_iald C0.1 C0.2.1 hS.1 hS.2.1 a 0 (hk_wl_int ha he) rfl hin hd (kk G p l e R s m args below meth c H locs lsA C0 hS hV hL)
theorem hk_zaload {a N : Nat} {f : Nat → Int32} {i : Int32} (hd : decode M.2.1 pc = .ok (.baload, 1)) (ha : a < h.1) (he : h.2 a = .inl (1, N, .inl f)) (hin : vp_in i N) (kk : hk_WP M d mc ms k n (pc + 1) ls (.int (f i.toNatClampNeg) :: st) h Q) : hk_WP M d mc ms k n pc ls (.int i :: .ref a :: st) h Q := by
  intro G p l e R s m args below meth c H locs lsA C0 hS hV hL
  exact va_zald C0.1 C0.2.1 hS.1 hS.2.1 a 1 (hk_wl_int ha he) rfl hin hd (kk G p l e R s m args below meth c H locs lsA C0 hS hV hL)
theorem hk_aaload {a N : Nat} {f : Nat → Option Nat} {i : Int32} (hd : decode M.2.1 pc = .ok (.aaload, 1)) (ha : a < h.1) (he : h.2 a = .inl (2, N, .inr f)) (hin : vp_in i N) (kk : hk_WP M d mc ms k n (pc + 1) ls (va_rf (f i.toNatClampNeg) :: st) h Q) : hk_WP M d mc ms k n pc ls (.int i :: .ref a :: st) h Q := by
  intro G p l e R s m args below meth c H locs lsA C0 hS hV hL
  refine va_aldq C0.1 C0.2.1 hS.1 hS.2.1 a 2 (hk_wl_ref ha he) rfl hin hd ?_
  have := kk G p l e R s m args below meth c H locs lsA C0 hS hV hL
  have e9 : va_rf ((f i.toNatClampNeg).map (fun a => hk_b G + a)) = hk_v (hk_b G) (va_rf (f i.toNatClampNeg)) := by cases f i.toNatClampNeg <;> rfl
  simp only [e9]
  exact this
theorem hk_alen {a t N : Nat} {x : (Nat → Int32) ⊕ (Nat → Option Nat)} {v : Int32} (hd : decode M.2.1 pc = .ok (.arraylength, 1)) (ha : a < h.1) (he : h.2 a = .inl (t, N, x)) (hv : Int32.ofNat N = v) (kk : hk_WP M d mc ms k n (pc + 1) ls (.int v :: st) h Q) : hk_WP M d mc ms k n pc ls (.ref a :: st) h Q := by
  intro G p l e R s m args below meth c H locs lsA C0 hS hV hL
  have K := kk G p l e R s m args below meth c H locs lsA C0 hS hV hL
  have ht : ∃ (i : Nat) (ty : FieldType), (hk_tys G)[i]? = some (hk_cid G t, ty) := by
    match t with
    | 0 => exact ⟨0, _, rfl⟩
    | 1 => exact ⟨1, _, rfl⟩
    | t + 2 => exact ⟨2, _, rfl⟩
  obtain ⟨i, ty, ht⟩ := ht
  match x, he with
  | .inl f, he => exact va_alen C0.1 C0.2.1 hS.1 hS.2.1 a i (hk_wl_int ha he) ht hv hd K
  | .inr f, he => exact va_alen C0.1 C0.2.1 hS.1 hS.2.1 a i (hk_wl_ref ha he) ht hv hd K
theorem hk_arr_st {cA : ClassId} {N i : Nat} {f : Nat → Int32} {x : Int32} : (arrV cA N (fun j => .int (f j))).setSlot i (.int x) = vp_cell cA (N, .inl (upd f i x)) := by
  rw [vp_cell_i, arrV_store]
  congr 1
  funext q
  by_cases hq : q = i
  · subst hq; simp [updV, upd]
  · simp [updV, upd, hq]
theorem hk_iastore {a N : Nat} {f : Nat → Int32} {i x : Int32} (hd : decode M.2.1 pc = .ok (.iastore, 1)) (ha : a < h.1) (he : h.2 a = .inl (0, N, .inl f)) (hin : vp_in i N) (kk : hk_WP M d mc ms k n (pc + 1) ls st (hk_up h a (.inl (0, N, .inl (upd f i.toNatClampNeg x)))) Q) : hk_WP M d mc ms k n pc ls (.int x :: .int i :: .ref a :: st) h Q := by
  intro G p l e R s m args below meth c H locs lsA C0 hS hV hL
  have he' := hk_wl_int (G := G) ha he
  have hP := hS.2.1 a _ he'
  refine W.iast C0.1 C0.2.1 hP ((hS.1.2 0 _ rfl).1 N (fun j => .int (f j))) (fun q => by cases q) (by show ¬ (i < 0 ∨ (arrV _ _ _).slots.size ≤ _); rw [arrV_size]; exact hin) rfl rfl hd fun H1 e7 z oq => ?_
  have hP1 := hS.2.1.set (hk_D G h) he' (e := .inl (hk_cid G 0, N, .inl (upd f i.toNatClampNeg x))) (H1 := H1) (by show H1[_]? = some (vp_cell _ _); rw [← hk_arr_st]; exact e7) oq
  exact kk G p l e R s m args below meth c H1 _ lsA C0 (hk_S_set (x := .inl (0, N, .inl (upd f i.toNatClampNeg x))) hS hP1 z) (hV.put z oq (Nat.le_add_right _ _)) hL
theorem hk_zastore {a N : Nat} {f : Nat → Int32} {i x : Int32} (hx : narrow .boolean (.int x) = .int x) (hd : decode M.2.1 pc = .ok (.bastore, 1)) (ha : a < h.1) (he : h.2 a = .inl (1, N, .inl f)) (hin : vp_in i N) (kk : hk_WP M d mc ms k n (pc + 1) ls st (hk_up h a (.inl (1, N, .inl (upd f i.toNatClampNeg x)))) Q) : hk_WP M d mc ms k n pc ls (.int x :: .int i :: .ref a :: st) h Q := by
  intro G p l e R s m args below meth c H locs lsA C0 hS hV hL
  have he' := hk_wl_int (G := G) ha he
  have hP := hS.2.1 a _ he'
  refine W.zast C0.1 C0.2.1 hP ((hS.1.2 1 _ rfl).1 N (fun j => .int (f j))) (fun q => by cases q) (by show ¬ (i < 0 ∨ (arrV _ _ _).slots.size ≤ _); rw [arrV_size]; exact hin) rfl rfl hd fun H1 e7 z oq => ?_
  rw [hx] at e7
  have hP1 := hS.2.1.set (hk_D G h) he' (e := .inl (hk_cid G 1, N, .inl (upd f i.toNatClampNeg x))) (H1 := H1) (by show H1[_]? = some (vp_cell _ _); rw [← hk_arr_st]; exact e7) oq
  exact kk G p l e R s m args below meth c H1 _ lsA C0 (hk_S_set (x := .inl (1, N, .inl (upd f i.toNatClampNeg x))) hS hP1 z) (hV.put z oq (Nat.le_add_right _ _)) hL
/-- making: the new object is number h.1 -/
theorem hk_S_push {G : hk_G} {x : hk_E} {s : State} {H H1 : Heap} (hS : hk_S G h s H) (hx : va_at G.1 vwCl (hk_b G + h.1, hk_ce G x) H1) (hz : H1.size = H.size + 1) (ho : ∀ q : Nat, q < H.size → H1[q]? = H[q]?) : hk_S G (hk_push h x) s H1 := by
  refine ⟨hS.1, hk_wl_push x ▸ (hS.2.1.kept (fun k q hq => ho _ ((hS.2.1 k q hq).lt))).app (fun k q hq => ?_), by rw [hz, hS.2.2]; rfl⟩
  have hk0 : k = 0 := by
    have := (List.getElem?_eq_some_iff.mp hq).1
    simpa using this
  subst hk0
  cases hq
  exact hx
theorem hk_new {C : String} {T : u_T} {N ci idx : Nat} {fs : List Value} (ty : Nat → FieldType) (hty : ∀ k, k < N → parseFieldDescriptor (T k).2.2.1 = some (ty k)) (hc : vwCl[ci]? = some (C, T, N)) (hin : ∀ w ∈ u_ws C T N, w ∈ hk_T)
    (hw : Cond.classLink M.1.cls idx C ∈ hk_T ∧ Cond.instantiable C N ∈ hk_T ∧ Cond.initialized C ∈ hk_T) (hfs : ∀ b j, j < N → defaultValue (ty j) = vp_V (fs.map (hk_v b)) j) (hr : k + 1 ≤ mc ∧ n + N ≤ ms)
    (hd : decode M.2.1 pc = .ok (.new idx, 3)) (kk : hk_WP M d mc ms (k + 1) (n + N) (pc + 3) ls (.ref h.1 :: st) (hk_push h (.inr (ci, fs))) Q) : hk_WP M d mc ms k n pc ls st h Q := by
  intro G p l e R s m args below meth c H locs lsA C0 hS hV hL
  have hts := C0.2.2.2.2.1
  have hKn := hS.1.1 ci _ hc
  have hR := C0.2.2.2.2.2.2.2.2.2.1
  refine W.newcK C0.1 C0.2.1 C0.2.2.2.1 (hts _ hw.1) (hts _ hw.2.1) (hts _ hw.2.2) rfl hd (Nat.le_trans hr.1 hR.1) (Nat.le_trans hr.2 hR.2) hKn.2.1 hS.2.2 fun H1 kC hkC e1 z1 o1 => ?_
  refine kk G p l e R s m args below meth c H1 locs lsA C0 (hk_S_push (x := .inr (ci, fs)) hS ⟨_, hc, (u_born ty hts hin hKn hkC e1 hty).to (hfs _)⟩ (by rw [z1, hS.2.2]) (fun q hq => o1 q (by rw [← hS.2.2]; exact hq))) ?_ hL
  exact ⟨Nat.le_trans hV.1 (by rw [z1, hS.2.2]; exact Nat.le_succ _), fun q h1 h2 => by rw [o1 q (by rw [← hS.2.2]; exact Nat.lt_of_lt_of_le h1 hV.1)]; exact hV.2.1 q h1 h2, hV.2.2⟩
theorem hk_newa {at_ : ArrayType} {ty : FieldType} {t N : Nat} {v : Int32} (hty : newarray.typeOf at_ = ty) (ht : (t = 0 ∧ ty = .int) ∨ (t = 1 ∧ ty = .boolean)) (hw : Cond.arrayClass ty ∈ hk_T) (hv : ¬ v < 0) (hN : v.toNatClampNeg = N) (hb : N * componentBytes ty ≤ 536870912) (hr : k + 1 ≤ mc ∧ n + N ≤ ms)
    (hd : decode M.2.1 pc = .ok (.newarray at_, 2)) (kk : hk_WP M d mc ms (k + 1) (n + N) (pc + 2) ls (.ref h.1 :: st) (hk_push h (.inl (t, N, .inl (fun _ => 0)))) Q) : hk_WP M d mc ms k n pc ls (.int v :: st) h Q := by
  subst hty
  intro G p l e R s m args below meth c H locs lsA C0 hS hV hL
  have hts := C0.2.2.2.2.1
  have hR := C0.2.2.2.2.2.2.2.2.2.1
  refine va_newaK C0.1 C0.2.1 (hts _ hw) rfl hd rfl hv hN hb (Nat.le_trans hr.1 hR.1) (Nat.le_trans hr.2 hR.2) hS.2.2 fun H1 cA e1 z1 o1 hAr hNm => ?_
  have hcA : cA = hk_cid G t ∧ defaultValue (newarray.typeOf at_) = .int 0 := by
    rcases ht with ⟨rfl, h2⟩ | ⟨rfl, h2⟩
    · rw [h2] at hNm ⊢
      have h3 : s.vm.findClass ("[" ++ FieldType.int.toString) = some G.2.1.1 := (hS.1.2 0 _ rfl).2
      exact ⟨Option.some.inj (hNm.symm.trans h3), rfl⟩
    · rw [h2] at hNm ⊢
      have h3 : s.vm.findClass ("[" ++ FieldType.boolean.toString) = some G.2.1.2.1 := (hS.1.2 1 _ rfl).2
      exact ⟨Option.some.inj (hNm.symm.trans h3), rfl⟩
  rw [hcA.1, hcA.2] at e1
  refine kk G p l e R s m args below meth c H1 locs lsA C0 (hk_S_push (x := .inl (t, N, .inl (fun _ => 0))) hS e1 (by rw [z1, hS.2.2]) (fun q hq => o1 q (by rw [← hS.2.2]; exact hq))) ?_ hL
  exact ⟨Nat.le_trans hV.1 (by rw [z1, hS.2.2]; exact Nat.le_succ _), fun q h1 h2 => by rw [o1 q (by rw [← hS.2.2]; exact Nat.lt_of_lt_of_le h1 hV.1)]; exact hV.2.1 q h1 h2, hV.2.2⟩
theorem hk_newq {idx N : Nat} {v : Int32} (hw : Cond.classLink M.1.cls idx RX3 ∈ hk_T ∧ Cond.arrayOver (.object RX3) ∈ hk_T) (hv : ¬ v < 0) (hN : v.toNatClampNeg = N) (hb : N * 4 ≤ 536870912) (hr : k + 1 ≤ mc ∧ n + N ≤ ms)
    (hd : decode M.2.1 pc = .ok (.anewarray idx, 3)) (kk : hk_WP M d mc ms (k + 1) (n + N) (pc + 3) ls (.ref h.1 :: st) (hk_push h (.inl (2, N, .inr (fun _ => none)))) Q) : hk_WP M d mc ms k n pc ls (.int v :: st) h Q := by
  intro G p l e R s m args below meth c H locs lsA C0 hS hV hL
  have hts := C0.2.2.2.2.1
  have hR := C0.2.2.2.2.2.2.2.2.2.1
  subst hN
  refine W.anew C0.1 C0.2.1 C0.2.2.2.1 (hts _ hw.1) (hts _ hw.2) rfl hd rfl hv hb (Nat.le_trans hr.1 hR.1) (Nat.le_trans hr.2 hR.2) fun cA kA comp f1 f2 f3 f4 => ?_
  obtain ⟨_, _, _, _, _, h3⟩ := (hS.1.2 2 _ rfl).2
  have hcA : cA = hk_cid G 2 := Option.some.inj (f1.symm.trans h3)
  rw [hcA, show (H.push ({ cls := hk_cid G 2, slots := Array.replicate v.toNatClampNeg .null, vm := .none } : Cell)) = H.push (arrV (hk_cid G 2) v.toNatClampNeg (fun _ => .null)) by rw [← arrV_new]]
  rw [show H.size = hk_b G + h.1 from hS.2.2]
  refine kk G p l e R s m args below meth c _ locs lsA C0 (hk_S_push (x := .inl (2, v.toNatClampNeg, .inr (fun _ => none))) hS ?_ (by simp) (fun q hq => by rw [Array.getElem?_push, if_neg (Nat.ne_of_lt hq)])) ?_ hL
  · show (H.push _)[hk_b G + h.1]? = some (vp_cell _ _)
    rw [← hS.2.2, Array.getElem?_push_size]
    rfl
  · exact ⟨Nat.le_trans hV.1 (by simp), fun q h1 h2 => by rw [Array.getElem?_push, if_neg (Nat.ne_of_lt (Nat.lt_of_lt_of_le h1 hV.1))]; exact hV.2.1 q h1 h2, hV.2.2⟩
theorem hk_aastore {a w ci N : Nat} {f : Nat → Option Nat} {vs : List Value} {i : Int32} (hci : (vwCl[ci]?).map (·.1) = some RX3) (hd : decode M.2.1 pc = .ok (.aastore, 1)) (ha : a < h.1) (he : h.2 a = .inl (2, N, .inr f)) (hin : vp_in i N) (hw : w < h.1) (hwe : h.2 w = .inr (ci, vs))
    (kk : hk_WP M d mc ms k n (pc + 1) ls st (hk_up h a (.inl (2, N, .inr (va_up f i.toNatClampNeg (some w))))) Q) : hk_WP M d mc ms k n pc ls (.ref w :: .int i :: .ref a :: st) h Q := by
  intro G p l e R s m args below meth c H locs lsA C0 hS hV hL
  have he' := hk_wl_ref (G := G) ha he
  have hP := hS.2.1 a _ he'
  obtain ⟨r, hr', cellV, g1, g2, g3, -⟩ := hS.2.1 w _ (hk_wl_obj (G := G) hw hwe)
  have hr1 : r.1 = RX3 := by
    have hr'' : vwCl[ci]? = some r := hr'
    rw [hr''] at hci
    exact Option.some.inj hci
  have hcls := (hS.1.1 ci r hr').2
  obtain ⟨kA, comp, k1, k2, k3, -⟩ := (hS.1.2 2 _ rfl).2
  obtain ⟨hfc, kC, hkC, hkind⟩ := id hcls
  have hcomp : comp = G.1.1 ci := Option.some.inj (k3.symm.trans (by rw [← hr1]; exact hfc))
  subst hcomp
  have hlt : i.toNatClampNeg < N := Nat.not_le.mp fun q => hin (Or.inr q)
  have h0 : ¬ i < 0 := fun q => hin (Or.inl q)
  refine W.aast C0.1 C0.2.1 (v := hk_b G + w) (cv := cellV) (t := .object RX3) hP (fun q h => by cases h) (fun h => by cases h) k1 k2 rfl hkC ⟨h0, by show _ < (arrV _ _ _).slots.size; rw [arrV_size]; exact hlt⟩ g1 (fun q h => by rw [g3] at h; cases h) (by rw [g2]; exact hkC) (by rw [g2]; exact va_assign hcls) rfl rfl hd fun H1 e7 z oq => ?_
  have hP1 := hS.2.1.set (hk_D G h) he' (e := .inl (hk_cid G 2, N, .inr (.inr (.inr (.inr (fun j => (va_up f i.toNatClampNeg (some w) j).map (fun a => hk_b G + a))))))) (H1 := H1) (by
    show H1[_]? = some (vp_cell _ _)
    rw [vp_cell_q]
    refine e7.trans ?_
    show some ((arrV _ _ _).setSlot _ _) = _
    rw [arrV_store]
    congr 2
    funext q
    by_cases hq : q = i.toNatClampNeg
    · subst hq; simp [updV, va_up, va_rf]
    · simp [updV, va_up, hq]) oq
  exact kk G p l e R s m args below meth c H1 _ lsA C0 (hk_S_set (x := .inl (2, N, .inr (va_up f i.toNatClampNeg (some w)))) hS hP1 z) (hV.put z oq (Nat.le_add_right _ _)) hL
end HM
end
section
/-! calls over contracts -/
theorem hk_after {p : Program} {l : Launch} {e : Env} {R : Room} {s : State} {m : MethodId} {args : Array Value} {below : List Frame} {meth : Method} {c : Code} {H : Heap} {locs : List Loc} {cells slots mc' ms' pc : Nat} {Z : State → Prop} {G : hk_G} {lsA : Array Slot} {st0 rest : List Value} {Qc : Option Value → hk_H → Prop} {a : Array Value}
    (hr : va_Run p l e R s m args below meth c H locs cells slots mc' ms' (F0 m pc lsA st0) rest (hk_Q G Qc a) (hk_A G)) (hS : va_S (hk_A G) s.heap H locs)
    (kk : ∀ (r : Option Value) (h' : hk_H) (H1 : Heap) (locs1 : List Loc), Qc r h' → hk_S G h' s H1 → va_S (hk_A G) s.heap H1 locs1 → W p l e R s m args below meth c H1 locs1 (cells + mc') (slots + ms') Z (F0 m (pc + 3) lsA ((r.map (hk_v (hk_b G))).toList ++ rest))) :
    W p l e R s m args below meth c H locs cells slots Z (F0 m pc lsA st0) := by
  intro T hT X
  obtain ⟨v, st₀, t, T', L, h0, X', hL, e1, e2, ⟨⟨r, h', hv, hp, hb⟩, hz, hk⟩, st⟩ := hr T hT X
  cases hv
  rw [h0] at hz hk
  have hvm : t.vm.Alike s.vm := by rw [← e2]; exact X'.warmed.alike.symm
  obtain ⟨t2, a1, b1⟩ := kk r h' T'.heap (locs ++ L) hp (by rw [e1]; exact ⟨va_K.moved hvm hb.1, hb.2⟩)
    ⟨Nat.le_trans hS.1 (by rw [e1]; exact hz), fun q h1 h2 => by rw [e1, hk q (Nat.lt_of_lt_of_le h1 hS.1) h2]; exact hS.2.1 q h1 h2, fun q hq => by
      rcases List.mem_append.mp hq with h | h
      · exact hS.2.2 q h
      · exact hL q h⟩ T' rfl X'
  exact ⟨t2, st t2 a1, b1⟩
theorem hk_blind {G : hk_G} {av : List Value} {h : hk_H} : FrameBlind (hk_Pre G av h) := fun a U g mk q => by
  obtain ⟨q1, q2, q3, q4⟩ := q
  exact ⟨q1, ⟨va_K.moved (u := U) (U := U.calling g mk a) (Vm.Alike.refl U.vm) q2.1, q2.2⟩, hk_Nw.same (u := U) (U := U.calling g mk a) rfl q3, hk_X.same (u := U) (U := U.calling g mk a) rfl q4⟩
/-- the words of a call -/
def hk_Wd (y : MethodName) (bytes : ByteArray) (maxL : Nat) (ret : Option FieldType) (n : Nat) : Prop :=
  Cond.code y bytes maxL ret ∈ hk_T ∧ Cond.initialized y.cls ∈ hk_T ∧ (y.cls ≠ "java/lang/invoke/MethodHandle" ∧ y.cls ≠ "java/lang/invoke/VarHandle" ∧ (parseMethodDescriptor y.desc).map (fun d => d.parameters.length) = some n) ∧ maxL ≤ 45
section HC
variable {M : hk_M} {d mc ms k n pc : Nat} {ls : List (Option Value)} {st st0 : List Value} {h : hk_H} {Q Qc : Option Value → hk_H → Prop} {y : MethodName} {bytes : ByteArray} {maxL : Nat} {ret : Option FieldType} {d' mc' ms' idx na a : Nat} {As : List Value} {fs : List Value} {ci : Nat}
theorem hk_pre_at {G : hk_G} {av : List Value} {s : State} {H : Heap} {locs : List Loc} {args : Array Value} (hS : hk_S G h s H) (hV : va_S (hk_A G) s.heap H locs) (hN : hk_Nw s) (hX : hk_X G s s.heap) : ∀ U : State, U.heap = H → s.WarmedH U.vm → hk_Pre G av h (av.map (hk_v (hk_b G))).toArray U := by
  intro U hU hW
  refine ⟨rfl, by rw [hU]; exact hS.warm hW, hN.warm hW, ?_⟩
  rw [hU]
  exact (hX.kept (fun q h1 h2 => hV.2.1 q h1 h2)).warm hW
theorem hk_lenargs {sig : MethodDescriptor} (hw : hk_Wd y bytes maxL ret na) (h : parseMethodDescriptor y.desc = some sig) : na = sig.parameters.length := by
  have := hw.2.2.1.2.2
  rw [h] at this
  exact (Option.some.inj this).symm
/-- what a call's words and room give -/
theorem hk_CB {G : hk_G} {p : Program} {R : Room} {s : State} {m : MethodId} {args : Array Value} {meth : Method} {c : Code} (C0 : hk_Cx M d mc ms G p R s m args meth c) (hw : hk_Wd y bytes maxL ret na) (hl : Cond.methodLink M.1.cls idx y ∈ hk_T) (hdep : d' + 1 ≤ d) :
    CallB R s args M.1.cls idx y bytes maxL ret (.code y bytes maxL ret :: hk_T) (hk_rm d' mc' ms') mc' ms' na := by
  have hts := C0.2.2.2.2.1
  have hR := C0.2.2.2.2.2.2.2.2.1
  refine callB_of na hts (hk_goodIn _ (fun w h => by rcases List.mem_cons.mp h with rfl | h; exact hw.1; exact h)) rfl rfl rfl (hts _ hw.2.1) (hts _ hl) hw.2.2.1 ⟨Nat.le_trans hdep hR.1, ?_⟩
  have := hw.2.2.2
  show 8 + (maxL + 11) + 64 * d' ≤ R.locals
  omega
theorem hk_CN {G : hk_G} {p : Program} {R : Room} {s : State} {m : MethodId} {args : Array Value} {meth : Method} {c : Code} {host : String} (C0 : hk_Cx M d mc ms G p R s m args meth c) (hw : hk_Wd y bytes maxL ret na) (hl : Cond.methodLinkNest M.1.cls idx y host ∈ hk_N) (hdep : d' + 1 ≤ d) :
    va_CN R s args M.1.cls idx y host bytes maxL ret (.code y bytes maxL ret :: hk_T) (hk_rm d' mc' ms') mc' ms' na := by
  have hts := C0.2.2.2.2.1
  have hR := C0.2.2.2.2.2.2.2.2.1
  refine va_cnB na hts (hk_goodIn _ (fun w h => by rcases List.mem_cons.mp h with rfl | h; exact hw.1; exact h)) rfl rfl rfl (C0.2.2.2.2.2.2.2.2.2.2.1 _ hl) (hts _ hw.2.1) hw.2.2.1 ⟨Nat.le_trans hdep hR.1, ?_⟩
  have := hw.2.2.2
  show 8 + (maxL + 11) + 64 * d' ≤ R.locals
  omega
theorem hk_recv {G : hk_G} {s : State} {H : Heap} (hS : hk_S G h s H) (ha : a < h.1) (he : h.2 a = .inr (ci, fs)) (hci : (vwCl[ci]?).map (·.1) = some y.cls) : ∃ cell : Cell, H[hk_b G + a]? = some cell ∧ cell.vm.isStatics = false ∧ s.vm.findClass y.cls = some cell.cls := by
  obtain ⟨q, hq, hq1⟩ := Option.map_eq_some_iff.mp hci
  rw [← hq1]
  exact va_recv hS.1 hS.2.1 hq (hk_wl_obj ha he)
theorem hk_rev {b : Nat} {As : List Value} : (As.map (hk_v b)).reverse = As.reverse.map (hk_v b) := List.map_reverse.symm
theorem hk_stk {b : Nat} {As : List Value} (v : Value) (hst : st0 = As.reverse ++ v :: st) : st0.map (hk_v b) = (As.map (hk_v b)).reverse ++ hk_v b v :: st.map (hk_v b) := by
  rw [hst, List.map_append, hk_rev]; rfl
theorem hk_stkS {b : Nat} {As : List Value} (hst : st0 = As.reverse ++ st) : st0.map (hk_v b) = (As.map (hk_v b)).reverse ++ st.map (hk_v b) := by
  rw [hst, List.map_append, hk_rev]
theorem hk_cats {b : Nat} (h : (st.map fun v => v.category).sum ≤ 8) {m pc : Nat} {cl : MethodId} {lsA : Array Slot} {x : List Value} : 2 * (F0 cl pc lsA x).monitorRoom + ((st.map (hk_v b)).map fun v => v.category).sum ≤ 8 := by
  refine lv_room ?_
  rw [List.map_map]
  have : ((fun v => Value.category v) ∘ hk_v b) = fun v => v.category := by funext v; exact hk_v_cat b v
  rw [this]
  exact h
theorem hk_rl {b : Nat} {r : Option Value} : (r.map (hk_v b)).toList ++ st.map (hk_v b) = (r.toList ++ st).map (hk_v b) := by cases r <;> rfl
theorem hk_invV (hC : hk_Ct (y, bytes, maxL, ret) d' mc' ms' (.ref a :: As) h Qc) (hw : hk_Wd y bytes maxL ret na) (hl : Cond.methodLink M.1.cls idx y ∈ hk_T ∧ Cond.instanceMethod y ∈ hk_T ∧ Cond.selects y.cls y y ∈ hk_T)
    (hd : decode M.2.1 pc = .ok (.invokevirtual idx, 3)) (ha : a < h.1) (he : h.2 a = .inr (ci, fs)) (hci : (vwCl[ci]?).map (·.1) = some y.cls) (hst : st0 = As.reverse ++ .ref a :: st) (hn : As.length = na) (hdep : d' + 1 ≤ d) (hrm : k + mc' ≤ mc ∧ n + ms' ≤ ms) (hcat : (st.map fun v => v.category).sum ≤ 8)
    (kk : ∀ (r : Option Value) (h' : hk_H), Qc r h' → hk_WP M d mc ms (k + mc') (n + ms') (pc + 3) ls (r.toList ++ st) h' Q) : hk_WP M d mc ms k n pc ls st0 h Q := by
  intro G p l e R s m args below meth c H locs lsA C0 hS hV hL
  have hts := C0.2.2.2.2.1
  have hR := C0.2.2.2.2.2.2.2.2.2.1
  refine hk_after (va_runV ⟨C0.1, C0.2.1, C0.2.2.1, C0.2.2.2.1, hts⟩ (hC l G) ⟨hk_CB C0 hw hl.1 hdep, hts _ hl.2.1, hts _ hl.2.2⟩ ⟨hk_blind, hk_recv hS ha he hci, hk_pre_at (args := args) hS hV C0.2.2.2.2.2.2.2.2.2.2.1 C0.2.2.2.2.2.2.2.2.2.2.2.2⟩ rfl (by rw [List.length_map]; exact hn) hL.1 (hk_stk _ hst) (hk_cats (m := 0) hcat) hd ⟨Nat.le_trans hrm.1 hR.1, Nat.le_trans hrm.2 hR.2⟩) hV (fun r h' H1 locs1 hq hS1 hV1 => ?_)
  rw [hk_rl]
  exact kk r h' hq G p l e R s m args below meth c H1 locs1 lsA C0 hS1 hV1 hL
theorem hk_invVN {host : String} (hC : hk_Ct (y, bytes, maxL, ret) d' mc' ms' (.ref a :: As) h Qc) (hw : hk_Wd y bytes maxL ret na) (hl : Cond.methodLinkNest M.1.cls idx y host ∈ hk_N ∧ Cond.instanceMethod y ∈ hk_T ∧ Cond.selects y.cls y y ∈ hk_T)
    (hd : decode M.2.1 pc = .ok (.invokevirtual idx, 3)) (ha : a < h.1) (he : h.2 a = .inr (ci, fs)) (hci : (vwCl[ci]?).map (·.1) = some y.cls) (hst : st0 = As.reverse ++ .ref a :: st) (hn : As.length = na) (hdep : d' + 1 ≤ d) (hrm : k + mc' ≤ mc ∧ n + ms' ≤ ms) (hcat : (st.map fun v => v.category).sum ≤ 8)
    (kk : ∀ (r : Option Value) (h' : hk_H), Qc r h' → hk_WP M d mc ms (k + mc') (n + ms') (pc + 3) ls (r.toList ++ st) h' Q) : hk_WP M d mc ms k n pc ls st0 h Q := by
  intro G p l e R s m args below meth c H locs lsA C0 hS hV hL
  have hts := C0.2.2.2.2.1
  have hR := C0.2.2.2.2.2.2.2.2.2.1
  refine hk_after (va_runVN ⟨C0.1, C0.2.1, C0.2.2.1, C0.2.2.2.1, hts⟩ (hC l G) ⟨hk_CN C0 hw hl.1 hdep, hts _ hl.2.1, hts _ hl.2.2⟩ ⟨hk_blind, hk_recv hS ha he hci, hk_pre_at (args := args) hS hV C0.2.2.2.2.2.2.2.2.2.2.1 C0.2.2.2.2.2.2.2.2.2.2.2.2⟩ rfl (by rw [List.length_map]; exact hn) hL.1 (hk_stk _ hst) (hk_cats (m := 0) hcat) hd ⟨Nat.le_trans hrm.1 hR.1, Nat.le_trans hrm.2 hR.2⟩) hV (fun r h' H1 locs1 hq hS1 hV1 => ?_)
  rw [hk_rl]
  exact kk r h' hq G p l e R s m args below meth c H1 locs1 lsA C0 hS1 hV1 hL
theorem hk_invS (hC : hk_Ct (y, bytes, maxL, ret) d' mc' ms' As h Qc) (hw : hk_Wd y bytes maxL ret na) (hl : Cond.methodLink M.1.cls idx y ∈ hk_T ∧ Cond.static y ∈ hk_T)
    (hd : decode M.2.1 pc = .ok (.invokestatic idx, 3)) (hst : st0 = As.reverse ++ st) (hn : As.length = na) (hdep : d' + 1 ≤ d) (hrm : k + mc' ≤ mc ∧ n + ms' ≤ ms) (hcat : (st.map fun v => v.category).sum ≤ 8)
    (kk : ∀ (r : Option Value) (h' : hk_H), Qc r h' → hk_WP M d mc ms (k + mc') (n + ms') (pc + 3) ls (r.toList ++ st) h' Q) : hk_WP M d mc ms k n pc ls st0 h Q := by
  intro G p l e R s m args below meth c H locs lsA C0 hS hV hL
  have hts := C0.2.2.2.2.1
  have hR := C0.2.2.2.2.2.2.2.2.2.1
  refine hk_after (va_runS ⟨C0.1, C0.2.1, C0.2.2.1, C0.2.2.2.1, hts⟩ (hC l G) ⟨hk_CB C0 hw hl.1 hdep, hts _ hl.2⟩ ⟨hk_blind, hk_pre_at (args := args) hS hV C0.2.2.2.2.2.2.2.2.2.2.1 C0.2.2.2.2.2.2.2.2.2.2.2.2⟩ rfl (by rw [List.length_map]; exact hn) hL.1 (hk_stkS hst) (hk_cats (m := 0) hcat) hd ⟨Nat.le_trans hrm.1 hR.1, Nat.le_trans hrm.2 hR.2⟩) hV (fun r h' H1 locs1 hq hS1 hV1 => ?_)
  rw [hk_rl]
  exact kk r h' hq G p l e R s m args below meth c H1 locs1 lsA C0 hS1 hV1 hL
theorem hk_invSN {host : String} (hC : hk_Ct (y, bytes, maxL, ret) d' mc' ms' As h Qc) (hw : hk_Wd y bytes maxL ret na) (hl : Cond.methodLinkNest M.1.cls idx y host ∈ hk_N ∧ Cond.static y ∈ hk_T)
    (hd : decode M.2.1 pc = .ok (.invokestatic idx, 3)) (hst : st0 = As.reverse ++ st) (hn : As.length = na) (hdep : d' + 1 ≤ d) (hrm : k + mc' ≤ mc ∧ n + ms' ≤ ms) (hcat : (st.map fun v => v.category).sum ≤ 8)
    (kk : ∀ (r : Option Value) (h' : hk_H), Qc r h' → hk_WP M d mc ms (k + mc') (n + ms') (pc + 3) ls (r.toList ++ st) h' Q) : hk_WP M d mc ms k n pc ls st0 h Q := by
  intro G p l e R s m args below meth c H locs lsA C0 hS hV hL
  have hts := C0.2.2.2.2.1
  have hR := C0.2.2.2.2.2.2.2.2.2.1
  refine hk_after (va_runSN ⟨C0.1, C0.2.1, C0.2.2.1, C0.2.2.2.1, hts⟩ (hC l G) ⟨hk_CN C0 hw hl.1 hdep, hts _ hl.2, trivial⟩ ⟨hk_blind, hk_pre_at (args := args) hS hV C0.2.2.2.2.2.2.2.2.2.2.1 C0.2.2.2.2.2.2.2.2.2.2.2.2⟩ rfl (by rw [List.length_map]; exact hn) hL.1 (hk_stkS hst) (hk_cats (m := 0) hcat) hd ⟨Nat.le_trans hrm.1 hR.1, Nat.le_trans hrm.2 hR.2⟩) hV (fun r h' H1 locs1 hq hS1 hV1 => ?_)
  rw [hk_rl]
  exact kk r h' hq G p l e R s m args below meth c H1 locs1 lsA C0 hS1 hV1 hL
theorem hk_invI (hC : hk_Ct (y, bytes, maxL, none) d' mc' ms' (.ref a :: As) h Qc) (hw : hk_Wd y bytes maxL none na) (hy : y.name = "<init>") (hl : Cond.methodLink M.1.cls idx y ∈ hk_T ∧ Cond.instanceMethod y ∈ hk_T)
    (hd : decode M.2.1 pc = .ok (.invokespecial idx, 3)) (hst : st0 = As.reverse ++ .ref a :: st) (hn : As.length = na) (hdep : d' + 1 ≤ d) (hrm : k + mc' ≤ mc ∧ n + ms' ≤ ms) (hcat : (st.map fun v => v.category).sum ≤ 8)
    (kk : ∀ (r : Option Value) (h' : hk_H), Qc r h' → hk_WP M d mc ms (k + mc') (n + ms') (pc + 3) ls (r.toList ++ st) h' Q) : hk_WP M d mc ms k n pc ls st0 h Q := by
  intro G p l e R s m args below meth c H locs lsA C0 hS hV hL
  have hts := C0.2.2.2.2.1
  have hR := C0.2.2.2.2.2.2.2.2.2.1
  refine hk_after (va_runI ⟨C0.1, C0.2.1, C0.2.2.1, C0.2.2.2.1, hts⟩ (hC l G) ⟨hk_CB C0 hw hl.1 hdep, hy, hts _ hl.2⟩ ⟨hk_blind, hk_pre_at (args := args) hS hV C0.2.2.2.2.2.2.2.2.2.2.1 C0.2.2.2.2.2.2.2.2.2.2.2.2⟩ rfl (by rw [List.length_map]; exact hn) hL.1 (hk_stk _ hst) (hk_cats (m := 0) hcat) hd ⟨Nat.le_trans hrm.1 hR.1, Nat.le_trans hrm.2 hR.2⟩) hV (fun r h' H1 locs1 hq hS1 hV1 => ?_)
  rw [hk_rl]
  exact kk r h' hq G p l e R s m args below meth c H1 locs1 lsA C0 hS1 hV1 hL
theorem hk_invIN {host : String} (hC : hk_Ct (y, bytes, maxL, none) d' mc' ms' (.ref a :: As) h Qc) (hw : hk_Wd y bytes maxL none na) (hy : y.name = "<init>") (hl : Cond.methodLinkNest M.1.cls idx y host ∈ hk_N ∧ Cond.instanceMethod y ∈ hk_T)
    (hd : decode M.2.1 pc = .ok (.invokespecial idx, 3)) (hst : st0 = As.reverse ++ .ref a :: st) (hn : As.length = na) (hdep : d' + 1 ≤ d) (hrm : k + mc' ≤ mc ∧ n + ms' ≤ ms) (hcat : (st.map fun v => v.category).sum ≤ 8)
    (kk : ∀ (r : Option Value) (h' : hk_H), Qc r h' → hk_WP M d mc ms (k + mc') (n + ms') (pc + 3) ls (r.toList ++ st) h' Q) : hk_WP M d mc ms k n pc ls st0 h Q := by
  intro G p l e R s m args below meth c H locs lsA C0 hS hV hL
  have hts := C0.2.2.2.2.1
  have hR := C0.2.2.2.2.2.2.2.2.2.1
  refine hk_after (va_runIN ⟨C0.1, C0.2.1, C0.2.2.1, C0.2.2.2.1, hts⟩ (hC l G) ⟨hk_CN C0 hw hl.1 hdep, hy, hts _ hl.2⟩ ⟨hk_blind, hk_pre_at (args := args) hS hV C0.2.2.2.2.2.2.2.2.2.2.1 C0.2.2.2.2.2.2.2.2.2.2.2.2⟩ rfl (by rw [List.length_map]; exact hn) hL.1 (hk_stk _ hst) (hk_cats (m := 0) hcat) hd ⟨Nat.le_trans hrm.1 hR.1, Nat.le_trans hrm.2 hR.2⟩) hV (fun r h' H1 locs1 hq hS1 hV1 => ?_)
  rw [hk_rl]
  exact kk r h' hq G p l e R s m args below meth c H1 locs1 lsA C0 hS1 hV1 hL
/-- Object's constructor does nothing -/
theorem hk_objInit (hl : Cond.methodLink M.1.cls idx Lib.objectInit ∈ hk_T ∧ Cond.instanceMethod Lib.objectInit ∈ hk_T ∧ Cond.code Lib.objectInit ⟨#[0xb1]⟩ 1 none ∈ hk_T) (hd : decode M.2.1 pc = .ok (.invokespecial idx, 3)) (hdep : 1 ≤ d) (hcat : (st.map fun v => v.category).sum ≤ 8) (kk : hk_WP M d mc ms k n (pc + 3) ls st h Q) : hk_WP M d mc ms k n pc ls (.ref a :: st) h Q := by
  intro G p l e R s m args below meth c H locs lsA C0 hS hV hL
  have hts := C0.2.2.2.2.1
  have hR := C0.2.2.2.2.2.2.2.2.1
  refine W.objInit C0.1 C0.2.1 C0.2.2.2.1 (hts _ hl.1) (hts _ hl.2.1) (hts _ hl.2.2) rfl (hL.1.trans C0.2.2.1.symm) rfl hd (Nat.le_trans hdep hR.1) ?_ (kk G p l e R s m args below meth c H locs lsA C0 hS hV hL)
  have h1 := hk_cats (b := hk_b G) (m := 0) (cl := m) (pc := pc) (lsA := lsA) (x := (Value.ref a :: st).map (hk_v (hk_b G))) hcat
  omega
theorem hk_mmax {x z : Int32} (hl : Cond.methodLink M.1.cls idx Lib.Math.max.name ∈ hk_T ∧ Cond.static Lib.Math.max.name ∈ hk_T ∧ Cond.initialized "java/lang/Math" ∈ hk_T ∧ Cond.code Lib.Math.max.name Lib.Math.max.code 2 (some .int) ∈ hk_T) (hd : decode M.2.1 pc = .ok (.invokestatic idx, 3)) (hdep : 1 ≤ d) (hcat : (st.map fun v => v.category).sum ≤ 8) (hk : k ≤ mc ∧ n ≤ ms)
    (kk : hk_WP M d mc ms k n (pc + 3) ls (.int (if x < z then z else x) :: st) h Q) : hk_WP M d mc ms k n pc ls (.int z :: .int x :: st) h Q := by
  intro G p l e R s m args below meth c H locs lsA C0 hS hV hL
  have hts := C0.2.2.2.2.1
  have hR := C0.2.2.2.2.2.2.2.2.1
  have hR2 := C0.2.2.2.2.2.2.2.2.2.1
  refine va_mmax C0.1 C0.2.1 (C0.2.2.1.trans hL.1.symm) C0.2.2.2.1 (hts _ hl.1) (hts _ hl.2.1) (hts _ hl.2.2.1) (hts _ hl.2.2.2) (Nat.le_trans hdep hR.1) ?_ (Nat.le_trans hk.1 hR2.1) (Nat.le_trans hk.2 hR2.2) hd (kk G p l e R s m args below meth c H locs lsA C0 hS hV hL)
  have h1 := hk_cats (b := hk_b G) (m := 0) (cl := m) (pc := pc) (lsA := lsA) (x := []) hcat
  omega
theorem hk_mmin {x z : Int32} (hl : Cond.methodLink M.1.cls idx Lib.Math.min.name ∈ hk_T ∧ Cond.static Lib.Math.min.name ∈ hk_T ∧ Cond.initialized "java/lang/Math" ∈ hk_T ∧ Cond.code Lib.Math.min.name Lib.Math.min.code 2 (some .int) ∈ hk_T) (hd : decode M.2.1 pc = .ok (.invokestatic idx, 3)) (hdep : 1 ≤ d) (hcat : (st.map fun v => v.category).sum ≤ 8) (hk : k ≤ mc ∧ n ≤ ms)
    (kk : hk_WP M d mc ms k n (pc + 3) ls (.int (if z < x then z else x) :: st) h Q) : hk_WP M d mc ms k n pc ls (.int z :: .int x :: st) h Q := by
  intro G p l e R s m args below meth c H locs lsA C0 hS hV hL
  have hts := C0.2.2.2.2.1
  have hR := C0.2.2.2.2.2.2.2.2.1
  have hR2 := C0.2.2.2.2.2.2.2.2.2.1
  refine va_mmin C0.1 C0.2.1 (C0.2.2.1.trans hL.1.symm) C0.2.2.2.1 (hts _ hl.1) (hts _ hl.2.1) (hts _ hl.2.2.1) (hts _ hl.2.2.2) (Nat.le_trans hdep hR.1) ?_ (Nat.le_trans hk.1 hR2.1) (Nat.le_trans hk.2 hR2.2) hd (kk G p l e R s m args below meth c H locs lsA C0 hS hV hL)
  have h1 := hk_cats (b := hk_b G) (m := 0) (cl := m) (pc := pc) (lsA := lsA) (x := []) hcat
  omega
theorem hk_mminL {x z : Int64} (hl : Cond.methodLink M.1.cls idx Lib.MathLoose.min_long.x ∈ hk_T ∧ Cond.static Lib.MathLoose.min_long.x ∈ hk_T ∧ Cond.initialized "java/lang/Math" ∈ hk_T ∧ Cond.code Lib.MathLoose.min_long.x Lib.MathLoose.min_long.code 4 (some .long) ∈ hk_T) (hd : decode M.2.1 pc = .ok (.invokestatic idx, 3)) (hdep : 1 ≤ d) (hcat : (st.map fun v => v.category).sum ≤ 8) (hk : k ≤ mc ∧ n ≤ ms)
    (kk : hk_WP M d mc ms k n (pc + 3) ls (.long (if z < x then z else x) :: st) h Q) : hk_WP M d mc ms k n pc ls (.long z :: .long x :: st) h Q := by
  intro G p l e R s m args below meth c H locs lsA C0 hS hV hL
  have hts := C0.2.2.2.2.1
  have hR := C0.2.2.2.2.2.2.2.2.1
  have hR2 := C0.2.2.2.2.2.2.2.2.2.1
  refine va_mmin_long C0.1 C0.2.1 (C0.2.2.1.trans hL.1.symm) C0.2.2.2.1 (hts _ hl.1) (hts _ hl.2.1) (hts _ hl.2.2.1) (hts _ hl.2.2.2) (Nat.le_trans hdep hR.1) ?_ (Nat.le_trans hk.1 hR2.1) (Nat.le_trans hk.2 hR2.2) hd (kk G p l e R s m args below meth c H locs lsA C0 hS hV hL)
  have h1 := hk_cats (b := hk_b G) (m := 0) (cl := m) (pc := pc) (lsA := lsA) (x := []) hcat
  omega
theorem hk_args : ∀ (vs : List Value) (j : Nat), (∀ v ∈ vs, v.category = 1) → ∀ (i : Nat) (v : Value), vs[i]? = some v → (j + i, v) ∈ lv_args j vs := by
  intro vs
  induction vs with
  | nil => intro j _ i v h; simp at h
  | cons a l ih =>
    intro j hc i v h
    have ha : a.category = 1 := hc a List.mem_cons_self
    unfold lv_args
    rw [ha]
    match i, h with
    | 0, h => simp at h; subst h; exact List.mem_cons_self
    | i + 1, h =>
      refine List.mem_cons_of_mem _ ?_
      have := ih (j + 1) (fun v hv => hc v (List.mem_cons_of_mem _ hv)) i v (by simpa using h)
      rw [show j + (i + 1) = j + 1 + i by omega]
      exact this
theorem hk_sl_len : ∀ (vs : List Value), (∀ v ∈ vs, v.category = 1) → (lg_sl vs).length = vs.length := by
  intro vs
  induction vs with
  | nil => intro _; rfl
  | cons a l ih =>
    intro hc
    have ha : a.category = 1 := hc a List.mem_cons_self
    have := ih (fun v hv => hc v (List.mem_cons_of_mem _ hv))
    simp [lg_sl, ha] at this ⊢
    try omega
/-- a contract out of a walk of the body -/
theorem hk_ofWP {M : hk_M} {av : List Value} (hy : plainName M.1.cls = true) (hcat : ∀ v ∈ av, v.category = 1) (hlen : av.length ≤ M.2.2.1) (w : hk_WP M d mc ms 0 0 0 (av.map some ++ List.replicate (M.2.2.1 - av.length) none) [] h Q) : hk_Ct M d mc ms av h Q := by
  intro l G
  refine Met.ofW (cc := M.2.1) (maxL := M.2.2.1) (ret := M.2.2.2) hy rfl ?_
  intro p e s m args below meth c s₁ B hml hv
  obtain ⟨rfl, hS, hN, hX⟩ := hv
  have hts := atoms_spec (ws := Cond.code M.1 M.2.1 M.2.2.1 M.2.2.2 :: hk_T) B.pre
  have hcat' : ∀ v ∈ av.map (hk_v (hk_b G)), v.category = 1 := fun v hv => by
    obtain ⟨w, hw, rfl⟩ := List.mem_map.mp hv
    rw [hk_v_cat]; exact hcat w hw
  rw [lg_entry_eq]
  refine w G p l e _ s m _ below meth c s.heap [] _ ⟨B.exec, B.bytes, hml, findClass_of_methodNamed B.named, fun w hw => hts w (List.mem_cons_of_mem _ hw), B.returns, B.notSynchronized, (name_of_methodNamed B.named B.method).1, ⟨Nat.le_refl _, Nat.le_refl _⟩, ⟨Nat.le_refl _, Nat.le_refl _⟩, hN, by rw [hS.2.2]; exact Nat.le_add_right _ _, hX⟩ hS va_S.rf ?_
  have hl := lv_entry (av.map (hk_v (hk_b G))) (n := M.2.2.1) (by rw [hk_sl_len _ hcat', List.length_map]; exact hlen)
  refine ⟨hl.1, hl.2.1, fun q hq => hl.2.2 q ?_⟩
  obtain ⟨v, h1, h2⟩ := hk_as_mem.mp hq
  by_cases hi : q.1 < av.length
  · rw [List.getElem?_append_left (by simpa using hi), List.getElem?_map] at h1
    have h3 : av[q.1]? = some v := by
      cases h4 : av[q.1]? with
      | none => rw [h4] at h1; simp at h1
      | some w => rw [h4] at h1; simp at h1; rw [h1]
    have := hk_args (av.map (hk_v (hk_b G))) 0 hcat' q.1 (hk_v (hk_b G) v) (by rw [List.getElem?_map, h3]; rfl)
    rw [← h2] at this
    simpa using this
  · rw [List.getElem?_append_right (by simpa using Nat.not_lt.mp hi)] at h1
    rw [List.getElem?_replicate] at h1
    split at h1 <;> simp at h1
end HC
end
section
/-! rows for every field, method and constant that the instructions name (written by wip/whole/links.py) -/
theorem hk_ins {ws : List Cond} (ps : List Nat) (hp : ws = ps.filterMap (fun i => tables_1[i]?)) (hg : ws.all goodWord = true) : ∀ w ∈ ws, w ∈ hk_T := by
  intro w hw
  have h1 := List.all_eq_true.mp hg w hw
  rw [hp] at hw
  obtain ⟨i, -, hi⟩ := List.mem_filterMap.mp hw
  exact hk_t i hi h1
theorem hk_in0 : ∀ w ∈ u_ws RX0 TX0 7, w ∈ hk_T := hk_ins [71, 73, 75, 77, 79, 81, 83] (by decide +kernel) (by decide +kernel)
theorem hk_in1 : ∀ w ∈ u_ws RX1 TX1 1, w ∈ hk_T := hk_ins [199] (by decide +kernel) (by decide +kernel)
theorem hk_in2 : ∀ w ∈ u_ws RX2 TX2 3, w ∈ hk_T := hk_ins [100, 102, 104] (by decide +kernel) (by decide +kernel)
theorem hk_in3 : ∀ w ∈ u_ws RX3 TX3 4, w ∈ hk_T := hk_ins [661, 663, 665, 667] (by decide +kernel) (by decide +kernel)
theorem hk_in4 : ∀ w ∈ u_ws RX4 TX4 5, w ∈ hk_T := hk_ins [149, 151, 153, 155, 157] (by decide +kernel) (by decide +kernel)
theorem hk_in5 : ∀ w ∈ u_ws RX5 TX5 5, w ∈ hk_T := hk_ins [129, 131, 133, 135, 137] (by decide +kernel) (by decide +kernel)
theorem hk_in6 : ∀ w ∈ u_ws RX6 TX6 4, w ∈ hk_T := hk_ins [48, 50, 52, 54] (by decide +kernel) (by decide +kernel)
theorem hk_in7 : ∀ w ∈ u_ws RX7 TX7 2, w ∈ hk_T := hk_ins [214, 216] (by decide +kernel) (by decide +kernel)
theorem hk_in8 : ∀ w ∈ u_ws RX8 TX8 3, w ∈ hk_T := hk_ins [182, 184, 186] (by decide +kernel) (by decide +kernel)
theorem hk_in9 : ∀ w ∈ u_ws RX9 TX9 7, w ∈ hk_T := hk_ins [226, 228, 230, 232, 234, 236, 238] (by decide +kernel) (by decide +kernel)
theorem hk_in10 : ∀ w ∈ u_ws RX10 TX10 81, w ∈ hk_T := hk_ins [987, 989, 991, 993, 995, 997, 999, 1001, 1003, 1005, 1007, 1009, 1011, 1013, 1015, 1017, 1019, 1021, 1023, 1025, 1027, 1029, 1031, 1033, 1035, 1037, 1039, 1041, 1043, 1045, 1047, 1049, 1051, 1053, 1055, 1057, 1059, 1061, 1063, 1065, 1067, 1069, 1071, 1073, 1075, 1077, 1079, 1081, 1083, 1085, 1087, 1089, 1091, 1093, 1095, 1097, 1099, 1101, 1103, 1105, 1107, 1109, 1111, 1113, 1115, 1117, 1119, 1121, 1123, 1125, 1127, 1129, 1131, 1133, 1135, 1137, 1139, 1141, 1143, 1145, 1147] (by decide +kernel) (by decide +kernel)
abbrev MX9_init : hk_M := (yX9_init, cX9_init, 1, none)
theorem hk_wX9_init : hk_Wd yX9_init cX9_init 1 (none) 0 := ⟨hk_t 23 (by decide +kernel) rfl, hk_t 1 (by decide +kernel) rfl, ⟨by decide +kernel, by decide +kernel, by decide +kernel⟩, by decide⟩
abbrev MX0_init : hk_M := (yX0_init, cX0_init, 2, none)
theorem hk_wX0_init : hk_Wd yX0_init cX0_init 2 (none) 0 := ⟨hk_t 31 (by decide +kernel) rfl, hk_t 2 (by decide +kernel) rfl, ⟨by decide +kernel, by decide +kernel, by decide +kernel⟩, by decide⟩
abbrev MX6_init : hk_M := (yX6_init, cX6_init, 3, none)
theorem hk_wX6_init : hk_Wd yX6_init cX6_init 3 (none) 2 := ⟨hk_t 37 (by decide +kernel) rfl, hk_t 3 (by decide +kernel) rfl, ⟨by decide +kernel, by decide +kernel, by decide +kernel⟩, by decide⟩
abbrev MX0_tellSun : hk_M := (yX0_tellSun, cX0_tellSun, 4, none)
theorem hk_wX0_tellSun : hk_Wd yX0_tellSun cX0_tellSun 4 (none) 3 := ⟨hk_t 61 (by decide +kernel) rfl, hk_t 2 (by decide +kernel) rfl, ⟨by decide +kernel, by decide +kernel, by decide +kernel⟩, by decide⟩
abbrev MX2_init : hk_M := (yX2_init, cX2_init, 1, none)
theorem hk_wX2_init : hk_Wd yX2_init cX2_init 1 (none) 0 := ⟨hk_t 90 (by decide +kernel) rfl, hk_t 4 (by decide +kernel) rfl, ⟨by decide +kernel, by decide +kernel, by decide +kernel⟩, by decide⟩
abbrev MX4_init : hk_M := (yX4_init, cX4_init, 1, none)
theorem hk_wX4_init : hk_Wd yX4_init cX4_init 1 (none) 0 := ⟨hk_t 111 (by decide +kernel) rfl, hk_t 5 (by decide +kernel) rfl, ⟨by decide +kernel, by decide +kernel, by decide +kernel⟩, by decide⟩
abbrev MX5_init : hk_M := (yX5_init, cX5_init, 1, none)
theorem hk_wX5_init : hk_Wd yX5_init cX5_init 1 (none) 0 := ⟨hk_t 117 (by decide +kernel) rfl, hk_t 6 (by decide +kernel) rfl, ⟨by decide +kernel, by decide +kernel, by decide +kernel⟩, by decide⟩
abbrev MX8_init : hk_M := (yX8_init, cX8_init, 1, none)
theorem hk_wX8_init : hk_Wd yX8_init cX8_init 1 (none) 0 := ⟨hk_t 164 (by decide +kernel) rfl, hk_t 7 (by decide +kernel) rfl, ⟨by decide +kernel, by decide +kernel, by decide +kernel⟩, by decide⟩
abbrev MX6_add : hk_M := (yX6_add, cX6_add, 1, some FieldType.int)
theorem hk_wX6_add : hk_Wd yX6_add cX6_add 1 (some FieldType.int) 0 := ⟨hk_t 171 (by decide +kernel) rfl, hk_t 3 (by decide +kernel) rfl, ⟨by decide +kernel, by decide +kernel, by decide +kernel⟩, by decide⟩
abbrev MX6_isFull : hk_M := (yX6_isFull, cX6_isFull, 1, some FieldType.boolean)
theorem hk_wX6_isFull : hk_Wd yX6_isFull cX6_isFull 1 (some FieldType.boolean) 0 := ⟨hk_t 175 (by decide +kernel) rfl, hk_t 3 (by decide +kernel) rfl, ⟨by decide +kernel, by decide +kernel, by decide +kernel⟩, by decide⟩
abbrev MX1_init : hk_M := (yX1_init, cX1_init, 1, none)
theorem hk_wX1_init : hk_Wd yX1_init cX1_init 1 (none) 0 := ⟨hk_t 193 (by decide +kernel) rfl, hk_t 8 (by decide +kernel) rfl, ⟨by decide +kernel, by decide +kernel, by decide +kernel⟩, by decide⟩
abbrev MX7_init : hk_M := (yX7_init, cX7_init, 1, none)
theorem hk_wX7_init : hk_Wd yX7_init cX7_init 1 (none) 0 := ⟨hk_t 206 (by decide +kernel) rfl, hk_t 9 (by decide +kernel) rfl, ⟨by decide +kernel, by decide +kernel, by decide +kernel⟩, by decide⟩
abbrev MX9_corner : hk_M := (yX9_corner, cX9_corner, 1, some FieldType.int)
theorem hk_wX9_corner : hk_Wd yX9_corner cX9_corner 1 (some FieldType.int) 0 := ⟨hk_t 244 (by decide +kernel) rfl, hk_t 1 (by decide +kernel) rfl, ⟨by decide +kernel, by decide +kernel, by decide +kernel⟩, by decide⟩
abbrev MX0_addCorner : hk_M := (yX0_addCorner, cX0_addCorner, 1, some FieldType.int)
theorem hk_wX0_addCorner : hk_Wd yX0_addCorner cX0_addCorner 1 (some FieldType.int) 0 := ⟨hk_t 248 (by decide +kernel) rfl, hk_t 2 (by decide +kernel) rfl, ⟨by decide +kernel, by decide +kernel, by decide +kernel⟩, by decide⟩
abbrev MX9_street : hk_M := (yX9_street, cX9_street, 6, some FieldType.int)
theorem hk_wX9_street : hk_Wd yX9_street cX9_street 6 (some FieldType.int) 3 := ⟨hk_t 252 (by decide +kernel) rfl, hk_t 1 (by decide +kernel) rfl, ⟨by decide +kernel, by decide +kernel, by decide +kernel⟩, by decide⟩
abbrev MX0_isCorner : hk_M := (yX0_isCorner, cX0_isCorner, 2, some FieldType.boolean)
theorem hk_wX0_isCorner : hk_Wd yX0_isCorner cX0_isCorner 2 (some FieldType.boolean) 1 := ⟨hk_t 256 (by decide +kernel) rfl, hk_t 2 (by decide +kernel) rfl, ⟨by decide +kernel, by decide +kernel, by decide +kernel⟩, by decide⟩
abbrev MX0_addStreet : hk_M := (yX0_addStreet, cX0_addStreet, 6, some FieldType.int)
theorem hk_wX0_addStreet : hk_Wd yX0_addStreet cX0_addStreet 6 (some FieldType.int) 4 := ⟨hk_t 260 (by decide +kernel) rfl, hk_t 2 (by decide +kernel) rfl, ⟨by decide +kernel, by decide +kernel, by decide +kernel⟩, by decide⟩
abbrev MX6_set : hk_M := (yX6_set, cX6_set, 4, none)
theorem hk_wX6_set : hk_Wd yX6_set cX6_set 4 (none) 3 := ⟨hk_t 265 (by decide +kernel) rfl, hk_t 3 (by decide +kernel) rfl, ⟨by decide +kernel, by decide +kernel, by decide +kernel⟩, by decide⟩
abbrev MX9_shut : hk_M := (yX9_shut, cX9_shut, 4, some FieldType.int)
theorem hk_wX9_shut : hk_Wd yX9_shut cX9_shut 4 (some FieldType.int) 3 := ⟨hk_t 269 (by decide +kernel) rfl, hk_t 1 (by decide +kernel) rfl, ⟨by decide +kernel, by decide +kernel, by decide +kernel⟩, by decide⟩
abbrev MX6_has : hk_M := (yX6_has, cX6_has, 2, some FieldType.boolean)
theorem hk_wX6_has : hk_Wd yX6_has cX6_has 2 (some FieldType.boolean) 1 := ⟨hk_t 273 (by decide +kernel) rfl, hk_t 3 (by decide +kernel) rfl, ⟨by decide +kernel, by decide +kernel, by decide +kernel⟩, by decide⟩
abbrev MX0_addSpan : hk_M := (yX0_addSpan, cX0_addSpan, 5, some FieldType.int)
theorem hk_wX0_addSpan : hk_Wd yX0_addSpan cX0_addSpan 5 (some FieldType.int) 3 := ⟨hk_t 278 (by decide +kernel) rfl, hk_t 2 (by decide +kernel) rfl, ⟨by decide +kernel, by decide +kernel, by decide +kernel⟩, by decide⟩
abbrev MX6_get : hk_M := (yX6_get, cX6_get, 4, some FieldType.int)
theorem hk_wX6_get : hk_Wd yX6_get cX6_get 4 (some FieldType.int) 2 := ⟨hk_t 282 (by decide +kernel) rfl, hk_t 3 (by decide +kernel) rfl, ⟨by decide +kernel, by decide +kernel, by decide +kernel⟩, by decide⟩
abbrev MX9_sun : hk_M := (yX9_sun, cX9_sun, 4, some FieldType.int)
theorem hk_wX9_sun : hk_Wd yX9_sun cX9_sun 4 (some FieldType.int) 3 := ⟨hk_t 286 (by decide +kernel) rfl, hk_t 1 (by decide +kernel) rfl, ⟨by decide +kernel, by decide +kernel, by decide +kernel⟩, by decide⟩
abbrev MX9_way : hk_M := (yX9_way, cX9_way, 5, some FieldType.int)
theorem hk_wX9_way : hk_Wd yX9_way cX9_way 5 (some FieldType.int) 3 := ⟨hk_t 291 (by decide +kernel) rfl, hk_t 1 (by decide +kernel) rfl, ⟨by decide +kernel, by decide +kernel, by decide +kernel⟩, by decide⟩
abbrev MX9_isMinute : hk_M := (yX9_isMinute, cX9_isMinute, 1, some FieldType.boolean)
theorem hk_wX9_isMinute : hk_Wd yX9_isMinute cX9_isMinute 1 (some FieldType.boolean) 1 := ⟨hk_t 294 (by decide +kernel) rfl, hk_t 1 (by decide +kernel) rfl, ⟨by decide +kernel, by decide +kernel, by decide +kernel⟩, by decide⟩
abbrev MX0_measure : hk_M := (yX0_measure, cX0_measure, 5, none)
theorem hk_wX0_measure : hk_Wd yX0_measure cX0_measure 5 (none) 2 := ⟨hk_t 298 (by decide +kernel) rfl, hk_t 2 (by decide +kernel) rfl, ⟨by decide +kernel, by decide +kernel, by decide +kernel⟩, by decide⟩
abbrev MX0_isShut : hk_M := (yX0_isShut, cX0_isShut, 7, some FieldType.boolean)
theorem hk_wX0_isShut : hk_Wd yX0_isShut cX0_isShut 7 (some FieldType.boolean) 2 := ⟨hk_t 302 (by decide +kernel) rfl, hk_t 2 (by decide +kernel) rfl, ⟨by decide +kernel, by decide +kernel, by decide +kernel⟩, by decide⟩
abbrev MX0_lowerAll : hk_M := (yX0_lowerAll, cX0_lowerAll, 6, some FieldType.boolean)
theorem hk_wX0_lowerAll : hk_Wd yX0_lowerAll cX0_lowerAll 6 (some FieldType.boolean) 0 := ⟨hk_t 307 (by decide +kernel) rfl, hk_t 2 (by decide +kernel) rfl, ⟨by decide +kernel, by decide +kernel, by decide +kernel⟩, by decide⟩
abbrev MX0_isOpen : hk_M := (yX0_isOpen, cX0_isOpen, 2, some FieldType.boolean)
theorem hk_wX0_isOpen : hk_Wd yX0_isOpen cX0_isOpen 2 (some FieldType.boolean) 1 := ⟨hk_t 311 (by decide +kernel) rfl, hk_t 2 (by decide +kernel) rfl, ⟨by decide +kernel, by decide +kernel, by decide +kernel⟩, by decide⟩
abbrev MX0_costFrom : hk_M := (yX0_costFrom, cX0_costFrom, 2, some FieldType.int)
theorem hk_wX0_costFrom : hk_Wd yX0_costFrom cX0_costFrom 2 (some FieldType.int) 1 := ⟨hk_t 315 (by decide +kernel) rfl, hk_t 2 (by decide +kernel) rfl, ⟨by decide +kernel, by decide +kernel, by decide +kernel⟩, by decide⟩
abbrev MX0_lower : hk_M := (yX0_lower, cX0_lower, 3, some FieldType.boolean)
theorem hk_wX0_lower : hk_Wd yX0_lower cX0_lower 3 (some FieldType.boolean) 2 := ⟨hk_t 320 (by decide +kernel) rfl, hk_t 2 (by decide +kernel) rfl, ⟨by decide +kernel, by decide +kernel, by decide +kernel⟩, by decide⟩
abbrev MX0_yardsFrom : hk_M := (yX0_yardsFrom, cX0_yardsFrom, 3, some FieldType.int)
theorem hk_wX0_yardsFrom : hk_Wd yX0_yardsFrom cX0_yardsFrom 3 (some FieldType.int) 1 := ⟨hk_t 324 (by decide +kernel) rfl, hk_t 2 (by decide +kernel) rfl, ⟨by decide +kernel, by decide +kernel, by decide +kernel⟩, by decide⟩
abbrev MX0_keepSteps : hk_M := (yX0_keepSteps, cX0_keepSteps, 5, none)
theorem hk_wX0_keepSteps : hk_Wd yX0_keepSteps cX0_keepSteps 5 (none) 2 := ⟨hk_t 328 (by decide +kernel) rfl, hk_t 2 (by decide +kernel) rfl, ⟨by decide +kernel, by decide +kernel, by decide +kernel⟩, by decide⟩
abbrev MX0_leastNext : hk_M := (yX0_leastNext, cX0_leastNext, 8, some FieldType.int)
theorem hk_wX0_leastNext : hk_Wd yX0_leastNext cX0_leastNext 8 (some FieldType.int) 1 := ⟨hk_t 332 (by decide +kernel) rfl, hk_t 2 (by decide +kernel) rfl, ⟨by decide +kernel, by decide +kernel, by decide +kernel⟩, by decide⟩
abbrev MX9_step : hk_M := (yX9_step, cX9_step, 2, some FieldType.int)
theorem hk_wX9_step : hk_Wd yX9_step cX9_step 2 (some FieldType.int) 1 := ⟨hk_t 336 (by decide +kernel) rfl, hk_t 1 (by decide +kernel) rfl, ⟨by decide +kernel, by decide +kernel, by decide +kernel⟩, by decide⟩
abbrev MX0_stepAt : hk_M := (yX0_stepAt, cX0_stepAt, 2, some FieldType.int)
theorem hk_wX0_stepAt : hk_Wd yX0_stepAt cX0_stepAt 2 (some FieldType.int) 1 := ⟨hk_t 340 (by decide +kernel) rfl, hk_t 2 (by decide +kernel) rfl, ⟨by decide +kernel, by decide +kernel, by decide +kernel⟩, by decide⟩
abbrev MX9_night : hk_M := (yX9_night, cX9_night, 2, some FieldType.int)
theorem hk_wX9_night : hk_Wd yX9_night cX9_night 2 (some FieldType.int) 1 := ⟨hk_t 344 (by decide +kernel) rfl, hk_t 1 (by decide +kernel) rfl, ⟨by decide +kernel, by decide +kernel, by decide +kernel⟩, by decide⟩
abbrev MX0_nightIn : hk_M := (yX0_nightIn, cX0_nightIn, 4, some FieldType.int)
theorem hk_wX0_nightIn : hk_Wd yX0_nightIn cX0_nightIn 4 (some FieldType.int) 1 := ⟨hk_t 348 (by decide +kernel) rfl, hk_t 2 (by decide +kernel) rfl, ⟨by decide +kernel, by decide +kernel, by decide +kernel⟩, by decide⟩
abbrev MX9_coach : hk_M := (yX9_coach, cX9_coach, 3, some FieldType.int)
theorem hk_wX9_coach : hk_Wd yX9_coach cX9_coach 3 (some FieldType.int) 2 := ⟨hk_t 355 (by decide +kernel) rfl, hk_t 1 (by decide +kernel) rfl, ⟨by decide +kernel, by decide +kernel, by decide +kernel⟩, by decide⟩
abbrev MX2_hasPlate : hk_M := (yX2_hasPlate, cX2_hasPlate, 3, some FieldType.boolean)
theorem hk_wX2_hasPlate : hk_Wd yX2_hasPlate cX2_hasPlate 3 (some FieldType.boolean) 1 := ⟨hk_t 359 (by decide +kernel) rfl, hk_t 4 (by decide +kernel) rfl, ⟨by decide +kernel, by decide +kernel, by decide +kernel⟩, by decide⟩
abbrev MX2_addCoach : hk_M := (yX2_addCoach, cX2_addCoach, 4, some FieldType.int)
theorem hk_wX2_addCoach : hk_Wd yX2_addCoach cX2_addCoach 4 (some FieldType.int) 2 := ⟨hk_t 364 (by decide +kernel) rfl, hk_t 4 (by decide +kernel) rfl, ⟨by decide +kernel, by decide +kernel, by decide +kernel⟩, by decide⟩
abbrev MX2_settle : hk_M := (yX2_settle, cX2_settle, 4, none)
theorem hk_wX2_settle : hk_Wd yX2_settle cX2_settle 4 (none) 3 := ⟨hk_t 370 (by decide +kernel) rfl, hk_t 4 (by decide +kernel) rfl, ⟨by decide +kernel, by decide +kernel, by decide +kernel⟩, by decide⟩
abbrev MX9_licence : hk_M := (yX9_licence, cX9_licence, 4, some FieldType.int)
theorem hk_wX9_licence : hk_Wd yX9_licence cX9_licence 4 (some FieldType.int) 3 := ⟨hk_t 374 (by decide +kernel) rfl, hk_t 1 (by decide +kernel) rfl, ⟨by decide +kernel, by decide +kernel, by decide +kernel⟩, by decide⟩
abbrev MX2_holderOf : hk_M := (yX2_holderOf, cX2_holderOf, 4, some FieldType.int)
theorem hk_wX2_holderOf : hk_Wd yX2_holderOf cX2_holderOf 4 (some FieldType.int) 2 := ⟨hk_t 378 (by decide +kernel) rfl, hk_t 4 (by decide +kernel) rfl, ⟨by decide +kernel, by decide +kernel, by decide +kernel⟩, by decide⟩
abbrev MX2_addLicence : hk_M := (yX2_addLicence, cX2_addLicence, 5, some FieldType.int)
theorem hk_wX2_addLicence : hk_Wd yX2_addLicence cX2_addLicence 5 (some FieldType.int) 3 := ⟨hk_t 382 (by decide +kernel) rfl, hk_t 4 (by decide +kernel) rfl, ⟨by decide +kernel, by decide +kernel, by decide +kernel⟩, by decide⟩
abbrev MX9_look : hk_M := (yX9_look, cX9_look, 4, some FieldType.int)
theorem hk_wX9_look : hk_Wd yX9_look cX9_look 4 (some FieldType.int) 2 := ⟨hk_t 386 (by decide +kernel) rfl, hk_t 1 (by decide +kernel) rfl, ⟨by decide +kernel, by decide +kernel, by decide +kernel⟩, by decide⟩
abbrev MX9_today : hk_M := (yX9_today, cX9_today, 1, some FieldType.int)
theorem hk_wX9_today : hk_Wd yX9_today cX9_today 1 (some FieldType.int) 0 := ⟨hk_t 390 (by decide +kernel) rfl, hk_t 1 (by decide +kernel) rfl, ⟨by decide +kernel, by decide +kernel, by decide +kernel⟩, by decide⟩
abbrev MX9_stand : hk_M := (yX9_stand, cX9_stand, 3, some FieldType.int)
theorem hk_wX9_stand : hk_Wd yX9_stand cX9_stand 3 (some FieldType.int) 2 := ⟨hk_t 396 (by decide +kernel) rfl, hk_t 1 (by decide +kernel) rfl, ⟨by decide +kernel, by decide +kernel, by decide +kernel⟩, by decide⟩
abbrev MX2_addStand : hk_M := (yX2_addStand, cX2_addStand, 4, some FieldType.int)
theorem hk_wX2_addStand : hk_Wd yX2_addStand cX2_addStand 4 (some FieldType.int) 2 := ⟨hk_t 400 (by decide +kernel) rfl, hk_t 4 (by decide +kernel) rfl, ⟨by decide +kernel, by decide +kernel, by decide +kernel⟩, by decide⟩
abbrev MX9_go : hk_M := (yX9_go, cX9_go, 6, some FieldType.int)
theorem hk_wX9_go : hk_Wd yX9_go cX9_go 6 (some FieldType.int) 2 := ⟨hk_t 404 (by decide +kernel) rfl, hk_t 1 (by decide +kernel) rfl, ⟨by decide +kernel, by decide +kernel, by decide +kernel⟩, by decide⟩
abbrev MX2_isMoving : hk_M := (yX2_isMoving, cX2_isMoving, 3, some FieldType.boolean)
theorem hk_wX2_isMoving : hk_Wd yX2_isMoving cX2_isMoving 3 (some FieldType.boolean) 1 := ⟨hk_t 408 (by decide +kernel) rfl, hk_t 4 (by decide +kernel) rfl, ⟨by decide +kernel, by decide +kernel, by decide +kernel⟩, by decide⟩
abbrev MX2_isStandingAt : hk_M := (yX2_isStandingAt, cX2_isStandingAt, 3, some FieldType.boolean)
theorem hk_wX2_isStandingAt : hk_Wd yX2_isStandingAt cX2_isStandingAt 3 (some FieldType.boolean) 2 := ⟨hk_t 412 (by decide +kernel) rfl, hk_t 4 (by decide +kernel) rfl, ⟨by decide +kernel, by decide +kernel, by decide +kernel⟩, by decide⟩
abbrev MX2_isStanding : hk_M := (yX2_isStanding, cX2_isStanding, 2, some FieldType.boolean)
theorem hk_wX2_isStanding : hk_Wd yX2_isStanding cX2_isStanding 2 (some FieldType.boolean) 1 := ⟨hk_t 416 (by decide +kernel) rfl, hk_t 4 (by decide +kernel) rfl, ⟨by decide +kernel, by decide +kernel, by decide +kernel⟩, by decide⟩
abbrev MX9_timeOf : hk_M := (yX9_timeOf, cX9_timeOf, 1, some FieldType.int)
theorem hk_wX9_timeOf : hk_Wd yX9_timeOf cX9_timeOf 1 (some FieldType.int) 1 := ⟨hk_t 419 (by decide +kernel) rfl, hk_t 1 (by decide +kernel) rfl, ⟨by decide +kernel, by decide +kernel, by decide +kernel⟩, by decide⟩
abbrev MX2_leaveRow : hk_M := (yX2_leaveRow, cX2_leaveRow, 7, none)
theorem hk_wX2_leaveRow : hk_Wd yX2_leaveRow cX2_leaveRow 7 (none) 1 := ⟨hk_t 423 (by decide +kernel) rfl, hk_t 4 (by decide +kernel) rfl, ⟨by decide +kernel, by decide +kernel, by decide +kernel⟩, by decide⟩
abbrev MX2_rowLength : hk_M := (yX2_rowLength, cX2_rowLength, 2, some FieldType.int)
theorem hk_wX2_rowLength : hk_Wd yX2_rowLength cX2_rowLength 2 (some FieldType.int) 1 := ⟨hk_t 427 (by decide +kernel) rfl, hk_t 4 (by decide +kernel) rfl, ⟨by decide +kernel, by decide +kernel, by decide +kernel⟩, by decide⟩
abbrev MX2_coachInRow : hk_M := (yX2_coachInRow, cX2_coachInRow, 3, some FieldType.int)
theorem hk_wX2_coachInRow : hk_Wd yX2_coachInRow cX2_coachInRow 3 (some FieldType.int) 2 := ⟨hk_t 431 (by decide +kernel) rfl, hk_t 4 (by decide +kernel) rfl, ⟨by decide +kernel, by decide +kernel, by decide +kernel⟩, by decide⟩
abbrev MX2_setOut : hk_M := (yX2_setOut, cX2_setOut, 6, none)
theorem hk_wX2_setOut : hk_Wd yX2_setOut cX2_setOut 6 (none) 5 := ⟨hk_t 435 (by decide +kernel) rfl, hk_t 4 (by decide +kernel) rfl, ⟨by decide +kernel, by decide +kernel, by decide +kernel⟩, by decide⟩
abbrev MX2_arrive : hk_M := (yX2_arrive, cX2_arrive, 4, none)
theorem hk_wX2_arrive : hk_Wd yX2_arrive cX2_arrive 4 (none) 1 := ⟨hk_t 439 (by decide +kernel) rfl, hk_t 4 (by decide +kernel) rfl, ⟨by decide +kernel, by decide +kernel, by decide +kernel⟩, by decide⟩
abbrev MX9_about : hk_M := (yX9_about, cX9_about, 3, some FieldType.int)
theorem hk_wX9_about : hk_Wd yX9_about cX9_about 3 (some FieldType.int) 2 := ⟨hk_t 443 (by decide +kernel) rfl, hk_t 1 (by decide +kernel) rfl, ⟨by decide +kernel, by decide +kernel, by decide +kernel⟩, by decide⟩
abbrev MX9_thisYear : hk_M := (yX9_thisYear, cX9_thisYear, 1, some FieldType.int)
theorem hk_wX9_thisYear : hk_Wd yX9_thisYear cX9_thisYear 1 (some FieldType.int) 0 := ⟨hk_t 447 (by decide +kernel) rfl, hk_t 1 (by decide +kernel) rfl, ⟨by decide +kernel, by decide +kernel, by decide +kernel⟩, by decide⟩
abbrev MX8_tripsOf : hk_M := (yX8_tripsOf, cX8_tripsOf, 4, some FieldType.int)
theorem hk_wX8_tripsOf : hk_Wd yX8_tripsOf cX8_tripsOf 4 (some FieldType.int) 1 := ⟨hk_t 451 (by decide +kernel) rfl, hk_t 7 (by decide +kernel) rfl, ⟨by decide +kernel, by decide +kernel, by decide +kernel⟩, by decide⟩
abbrev MX9_earned : hk_M := (yX9_earned, cX9_earned, 4, some FieldType.int)
theorem hk_wX9_earned : hk_Wd yX9_earned cX9_earned 4 (some FieldType.int) 1 := ⟨hk_t 456 (by decide +kernel) rfl, hk_t 1 (by decide +kernel) rfl, ⟨by decide +kernel, by decide +kernel, by decide +kernel⟩, by decide⟩
abbrev MX9_fareDue : hk_M := (yX9_fareDue, cX9_fareDue, 6, some FieldType.int)
theorem hk_wX9_fareDue : hk_Wd yX9_fareDue cX9_fareDue 6 (some FieldType.int) 2 := ⟨hk_t 460 (by decide +kernel) rfl, hk_t 1 (by decide +kernel) rfl, ⟨by decide +kernel, by decide +kernel, by decide +kernel⟩, by decide⟩
abbrev MX9_tellTrip : hk_M := (yX9_tellTrip, cX9_tellTrip, 6, none)
theorem hk_wX9_tellTrip : hk_Wd yX9_tellTrip cX9_tellTrip 6 (none) 2 := ⟨hk_t 464 (by decide +kernel) rfl, hk_t 1 (by decide +kernel) rfl, ⟨by decide +kernel, by decide +kernel, by decide +kernel⟩, by decide⟩
abbrev MX4_tellRide : hk_M := (yX4_tellRide, cX4_tellRide, 4, none)
theorem hk_wX4_tellRide : hk_Wd yX4_tellRide cX4_tellRide 4 (none) 3 := ⟨hk_t 468 (by decide +kernel) rfl, hk_t 5 (by decide +kernel) rfl, ⟨by decide +kernel, by decide +kernel, by decide +kernel⟩, by decide⟩
abbrev MX4_tellTime : hk_M := (yX4_tellTime, cX4_tellTime, 4, none)
theorem hk_wX4_tellTime : hk_Wd yX4_tellTime cX4_tellTime 4 (none) 3 := ⟨hk_t 472 (by decide +kernel) rfl, hk_t 5 (by decide +kernel) rfl, ⟨by decide +kernel, by decide +kernel, by decide +kernel⟩, by decide⟩
abbrev MX4_tellLoad : hk_M := (yX4_tellLoad, cX4_tellLoad, 4, none)
theorem hk_wX4_tellLoad : hk_Wd yX4_tellLoad cX4_tellLoad 4 (none) 3 := ⟨hk_t 476 (by decide +kernel) rfl, hk_t 5 (by decide +kernel) rfl, ⟨by decide +kernel, by decide +kernel, by decide +kernel⟩, by decide⟩
abbrev MX9_dayOf : hk_M := (yX9_dayOf, cX9_dayOf, 2, some FieldType.int)
theorem hk_wX9_dayOf : hk_Wd yX9_dayOf cX9_dayOf 2 (some FieldType.int) 1 := ⟨hk_t 480 (by decide +kernel) rfl, hk_t 1 (by decide +kernel) rfl, ⟨by decide +kernel, by decide +kernel, by decide +kernel⟩, by decide⟩
abbrev MX4_lawInForce : hk_M := (yX4_lawInForce, cX4_lawInForce, 6, some FieldType.int)
theorem hk_wX4_lawInForce : hk_Wd yX4_lawInForce cX4_lawInForce 6 (some FieldType.int) 3 := ⟨hk_t 484 (by decide +kernel) rfl, hk_t 5 (by decide +kernel) rfl, ⟨by decide +kernel, by decide +kernel, by decide +kernel⟩, by decide⟩
abbrev MX4_lawAt : hk_M := (yX4_lawAt, cX4_lawAt, 2, some (FieldType.object "HackneyStands$Law"))
theorem hk_wX4_lawAt : hk_Wd yX4_lawAt cX4_lawAt 2 (some (FieldType.object "HackneyStands$Law")) 1 := ⟨hk_t 488 (by decide +kernel) rfl, hk_t 5 (by decide +kernel) rfl, ⟨by decide +kernel, by decide +kernel, by decide +kernel⟩, by decide⟩
abbrev MX4_fareBy : hk_M := (yX4_fareBy, cX4_fareBy, 3, some FieldType.int)
theorem hk_wX4_fareBy : hk_Wd yX4_fareBy cX4_fareBy 3 (some FieldType.int) 1 := ⟨hk_t 492 (by decide +kernel) rfl, hk_t 5 (by decide +kernel) rfl, ⟨by decide +kernel, by decide +kernel, by decide +kernel⟩, by decide⟩
abbrev MX3_worth : hk_M := (yX3_worth, cX3_worth, 7, some FieldType.int)
theorem hk_wX3_worth : hk_Wd yX3_worth cX3_worth 7 (some FieldType.int) 2 := ⟨hk_t 498 (by decide +kernel) rfl, hk_t 12 (by decide +kernel) rfl, ⟨by decide +kernel, by decide +kernel, by decide +kernel⟩, by decide⟩
abbrev MX3_nameAt : hk_M := (yX3_nameAt, cX3_nameAt, 2, some FieldType.int)
theorem hk_wX3_nameAt : hk_Wd yX3_nameAt cX3_nameAt 2 (some FieldType.int) 2 := ⟨hk_t 501 (by decide +kernel) rfl, hk_t 12 (by decide +kernel) rfl, ⟨by decide +kernel, by decide +kernel, by decide +kernel⟩, by decide⟩
abbrev MX3_reckoned : hk_M := (yX3_reckoned, cX3_reckoned, 3, some FieldType.int)
theorem hk_wX3_reckoned : hk_Wd yX3_reckoned cX3_reckoned 3 (some FieldType.int) 3 := ⟨hk_t 507 (by decide +kernel) rfl, hk_t 12 (by decide +kernel) rfl, ⟨by decide +kernel, by decide +kernel, by decide +kernel⟩, by decide⟩
abbrev MX4_lesserFare : hk_M := (yX4_lesserFare, cX4_lesserFare, 2, some FieldType.int)
theorem hk_wX4_lesserFare : hk_Wd yX4_lesserFare cX4_lesserFare 2 (some FieldType.int) 2 := ⟨hk_t 514 (by decide +kernel) rfl, hk_t 5 (by decide +kernel) rfl, ⟨by decide +kernel, by decide +kernel, by decide +kernel⟩, by decide⟩
abbrev MX9_turn : hk_M := (yX9_turn, cX9_turn, 3, some FieldType.int)
theorem hk_wX9_turn : hk_Wd yX9_turn cX9_turn 3 (some FieldType.int) 2 := ⟨hk_t 519 (by decide +kernel) rfl, hk_t 1 (by decide +kernel) rfl, ⟨by decide +kernel, by decide +kernel, by decide +kernel⟩, by decide⟩
abbrev MX9_feed : hk_M := (yX9_feed, cX9_feed, 3, some FieldType.int)
theorem hk_wX9_feed : hk_Wd yX9_feed cX9_feed 3 (some FieldType.int) 2 := ⟨hk_t 524 (by decide +kernel) rfl, hk_t 1 (by decide +kernel) rfl, ⟨by decide +kernel, by decide +kernel, by decide +kernel⟩, by decide⟩
abbrev MX5_addBytes : hk_M := (yX5_addBytes, cX5_addBytes, 4, some FieldType.int)
theorem hk_wX5_addBytes : hk_Wd yX5_addBytes cX5_addBytes 4 (some FieldType.int) 2 := ⟨hk_t 528 (by decide +kernel) rfl, hk_t 6 (by decide +kernel) rfl, ⟨by decide +kernel, by decide +kernel, by decide +kernel⟩, by decide⟩
abbrev MX9_law : hk_M := (yX9_law, cX9_law, 3, some FieldType.int)
theorem hk_wX9_law : hk_Wd yX9_law cX9_law 3 (some FieldType.int) 2 := ⟨hk_t 532 (by decide +kernel) rfl, hk_t 1 (by decide +kernel) rfl, ⟨by decide +kernel, by decide +kernel, by decide +kernel⟩, by decide⟩
abbrev MX4_makeLaw : hk_M := (yX4_makeLaw, cX4_makeLaw, 5, some FieldType.int)
theorem hk_wX4_makeLaw : hk_Wd yX4_makeLaw cX4_makeLaw 5 (some FieldType.int) 3 := ⟨hk_t 536 (by decide +kernel) rfl, hk_t 5 (by decide +kernel) rfl, ⟨by decide +kernel, by decide +kernel, by decide +kernel⟩, by decide⟩
abbrev MX5_isLaw : hk_M := (yX5_isLaw, cX5_isLaw, 1, some FieldType.boolean)
theorem hk_wX5_isLaw : hk_Wd yX5_isLaw cX5_isLaw 1 (some FieldType.boolean) 0 := ⟨hk_t 540 (by decide +kernel) rfl, hk_t 6 (by decide +kernel) rfl, ⟨by decide +kernel, by decide +kernel, by decide +kernel⟩, by decide⟩
abbrev MX5_readE : hk_M := (yX5_readE, cX5_readE, 4, some FieldType.boolean)
theorem hk_wX5_readE : hk_Wd yX5_readE cX5_readE 4 (some FieldType.boolean) 1 := ⟨hk_t 544 (by decide +kernel) rfl, hk_t 6 (by decide +kernel) rfl, ⟨by decide +kernel, by decide +kernel, by decide +kernel⟩, by decide⟩
abbrev MX5_readC : hk_M := (yX5_readC, cX5_readC, 3, some FieldType.boolean)
theorem hk_wX5_readC : hk_Wd yX5_readC cX5_readC 3 (some FieldType.boolean) 1 := ⟨hk_t 548 (by decide +kernel) rfl, hk_t 6 (by decide +kernel) rfl, ⟨by decide +kernel, by decide +kernel, by decide +kernel⟩, by decide⟩
abbrev MX5_readS : hk_M := (yX5_readS, cX5_readS, 3, some FieldType.boolean)
theorem hk_wX5_readS : hk_Wd yX5_readS cX5_readS 3 (some FieldType.boolean) 1 := ⟨hk_t 552 (by decide +kernel) rfl, hk_t 6 (by decide +kernel) rfl, ⟨by decide +kernel, by decide +kernel, by decide +kernel⟩, by decide⟩
abbrev MX5_readP : hk_M := (yX5_readP, cX5_readP, 3, some FieldType.boolean)
theorem hk_wX5_readP : hk_Wd yX5_readP cX5_readP 3 (some FieldType.boolean) 1 := ⟨hk_t 556 (by decide +kernel) rfl, hk_t 6 (by decide +kernel) rfl, ⟨by decide +kernel, by decide +kernel, by decide +kernel⟩, by decide⟩
abbrev MX5_readO : hk_M := (yX5_readO, cX5_readO, 4, some FieldType.boolean)
theorem hk_wX5_readO : hk_Wd yX5_readO cX5_readO 4 (some FieldType.boolean) 1 := ⟨hk_t 560 (by decide +kernel) rfl, hk_t 6 (by decide +kernel) rfl, ⟨by decide +kernel, by decide +kernel, by decide +kernel⟩, by decide⟩
abbrev MX5_sign : hk_M := (yX5_sign, cX5_sign, 1, some FieldType.int)
theorem hk_wX5_sign : hk_Wd yX5_sign cX5_sign 1 (some FieldType.int) 0 := ⟨hk_t 564 (by decide +kernel) rfl, hk_t 6 (by decide +kernel) rfl, ⟨by decide +kernel, by decide +kernel, by decide +kernel⟩, by decide⟩
abbrev MX5_isDigit : hk_M := (yX5_isDigit, cX5_isDigit, 1, some FieldType.boolean)
theorem hk_wX5_isDigit : hk_Wd yX5_isDigit cX5_isDigit 1 (some FieldType.boolean) 1 := ⟨hk_t 567 (by decide +kernel) rfl, hk_t 6 (by decide +kernel) rfl, ⟨by decide +kernel, by decide +kernel, by decide +kernel⟩, by decide⟩
abbrev MX5_readNumber : hk_M := (yX5_readNumber, cX5_readNumber, 3, some FieldType.boolean)
theorem hk_wX5_readNumber : hk_Wd yX5_readNumber cX5_readNumber 3 (some FieldType.boolean) 0 := ⟨hk_t 571 (by decide +kernel) rfl, hk_t 6 (by decide +kernel) rfl, ⟨by decide +kernel, by decide +kernel, by decide +kernel⟩, by decide⟩
abbrev MX5_put : hk_M := (yX5_put, cX5_put, 3, some FieldType.int)
theorem hk_wX5_put : hk_Wd yX5_put cX5_put 3 (some FieldType.int) 2 := ⟨hk_t 575 (by decide +kernel) rfl, hk_t 6 (by decide +kernel) rfl, ⟨by decide +kernel, by decide +kernel, by decide +kernel⟩, by decide⟩
abbrev MX5_readBraced : hk_M := (yX5_readBraced, cX5_readBraced, 2, some FieldType.boolean)
theorem hk_wX5_readBraced : hk_Wd yX5_readBraced cX5_readBraced 2 (some FieldType.boolean) 1 := ⟨hk_t 579 (by decide +kernel) rfl, hk_t 6 (by decide +kernel) rfl, ⟨by decide +kernel, by decide +kernel, by decide +kernel⟩, by decide⟩
abbrev MX4_nameOf : hk_M := (yX4_nameOf, cX4_nameOf, 2, some FieldType.int)
theorem hk_wX4_nameOf : hk_Wd yX4_nameOf cX4_nameOf 2 (some FieldType.int) 1 := ⟨hk_t 582 (by decide +kernel) rfl, hk_t 5 (by decide +kernel) rfl, ⟨by decide +kernel, by decide +kernel, by decide +kernel⟩, by decide⟩
abbrev MX5_aimHere : hk_M := (yX5_aimHere, cX5_aimHere, 2, none)
theorem hk_wX5_aimHere : hk_Wd yX5_aimHere cX5_aimHere 2 (none) 1 := ⟨hk_t 635 (by decide +kernel) rfl, hk_t 6 (by decide +kernel) rfl, ⟨by decide +kernel, by decide +kernel, by decide +kernel⟩, by decide⟩
abbrev MX3_init : hk_M := (yX3_init, cX3_init, 5, none)
theorem hk_wX3_init : hk_Wd yX3_init cX3_init 5 (none) 4 := ⟨hk_t 652 (by decide +kernel) rfl, hk_t 12 (by decide +kernel) rfl, ⟨by decide +kernel, by decide +kernel, by decide +kernel⟩, by decide⟩
abbrev MX9_inForce : hk_M := (yX9_inForce, cX9_inForce, 5, some FieldType.int)
theorem hk_wX9_inForce : hk_Wd yX9_inForce cX9_inForce 5 (some FieldType.int) 3 := ⟨hk_t 674 (by decide +kernel) rfl, hk_t 1 (by decide +kernel) rfl, ⟨by decide +kernel, by decide +kernel, by decide +kernel⟩, by decide⟩
abbrev MX9_isDay : hk_M := (yX9_isDay, cX9_isDay, 1, some FieldType.boolean)
theorem hk_wX9_isDay : hk_Wd yX9_isDay cX9_isDay 1 (some FieldType.boolean) 1 := ⟨hk_t 677 (by decide +kernel) rfl, hk_t 1 (by decide +kernel) rfl, ⟨by decide +kernel, by decide +kernel, by decide +kernel⟩, by decide⟩
abbrev MX9_says : hk_M := (yX9_says, cX9_says, 9, some FieldType.int)
theorem hk_wX9_says : hk_Wd yX9_says cX9_says 9 (some FieldType.int) 5 := ⟨hk_t 681 (by decide +kernel) rfl, hk_t 1 (by decide +kernel) rfl, ⟨by decide +kernel, by decide +kernel, by decide +kernel⟩, by decide⟩
abbrev MX4_worthOf : hk_M := (yX4_worthOf, cX4_worthOf, 3, some FieldType.int)
theorem hk_wX4_worthOf : hk_Wd yX4_worthOf cX4_worthOf 3 (some FieldType.int) 1 := ⟨hk_t 688 (by decide +kernel) rfl, hk_t 5 (by decide +kernel) rfl, ⟨by decide +kernel, by decide +kernel, by decide +kernel⟩, by decide⟩
abbrev MX9_call : hk_M := (yX9_call, cX9_call, 7, some FieldType.int)
theorem hk_wX9_call : hk_Wd yX9_call cX9_call 7 (some FieldType.int) 3 := ⟨hk_t 692 (by decide +kernel) rfl, hk_t 1 (by decide +kernel) rfl, ⟨by decide +kernel, by decide +kernel, by decide +kernel⟩, by decide⟩
abbrev MX9_isOrder : hk_M := (yX9_isOrder, cX9_isOrder, 4, some FieldType.boolean)
theorem hk_wX9_isOrder : hk_Wd yX9_isOrder cX9_isOrder 4 (some FieldType.boolean) 3 := ⟨hk_t 696 (by decide +kernel) rfl, hk_t 1 (by decide +kernel) rfl, ⟨by decide +kernel, by decide +kernel, by decide +kernel⟩, by decide⟩
abbrev MX9_isLoad : hk_M := (yX9_isLoad, cX9_isLoad, 2, some FieldType.boolean)
theorem hk_wX9_isLoad : hk_Wd yX9_isLoad cX9_isLoad 2 (some FieldType.boolean) 2 := ⟨hk_t 699 (by decide +kernel) rfl, hk_t 1 (by decide +kernel) rfl, ⟨by decide +kernel, by decide +kernel, by decide +kernel⟩, by decide⟩
abbrev MX9_draftTrip : hk_M := (yX9_draftTrip, cX9_draftTrip, 5, some FieldType.boolean)
theorem hk_wX9_draftTrip : hk_Wd yX9_draftTrip cX9_draftTrip 5 (some FieldType.boolean) 3 := ⟨hk_t 703 (by decide +kernel) rfl, hk_t 1 (by decide +kernel) rfl, ⟨by decide +kernel, by decide +kernel, by decide +kernel⟩, by decide⟩
abbrev MX0_badFrom : hk_M := (yX0_badFrom, cX0_badFrom, 2, some FieldType.int)
theorem hk_wX0_badFrom : hk_Wd yX0_badFrom cX0_badFrom 2 (some FieldType.int) 1 := ⟨hk_t 707 (by decide +kernel) rfl, hk_t 2 (by decide +kernel) rfl, ⟨by decide +kernel, by decide +kernel, by decide +kernel⟩, by decide⟩
abbrev MX9_standAskedAfter : hk_M := (yX9_standAskedAfter, cX9_standAskedAfter, 5, some FieldType.int)
theorem hk_wX9_standAskedAfter : hk_Wd yX9_standAskedAfter cX9_standAskedAfter 5 (some FieldType.int) 1 := ⟨hk_t 712 (by decide +kernel) rfl, hk_t 1 (by decide +kernel) rfl, ⟨by decide +kernel, by decide +kernel, by decide +kernel⟩, by decide⟩
abbrev MX9_yardsToCaller : hk_M := (yX9_yardsToCaller, cX9_yardsToCaller, 2, some FieldType.int)
theorem hk_wX9_yardsToCaller : hk_Wd yX9_yardsToCaller cX9_yardsToCaller 2 (some FieldType.int) 1 := ⟨hk_t 716 (by decide +kernel) rfl, hk_t 1 (by decide +kernel) rfl, ⟨by decide +kernel, by decide +kernel, by decide +kernel⟩, by decide⟩
abbrev MX9_isAskedAfter : hk_M := (yX9_isAskedAfter, cX9_isAskedAfter, 5, some FieldType.boolean)
theorem hk_wX9_isAskedAfter : hk_Wd yX9_isAskedAfter cX9_isAskedAfter 5 (some FieldType.boolean) 2 := ⟨hk_t 720 (by decide +kernel) rfl, hk_t 1 (by decide +kernel) rfl, ⟨by decide +kernel, by decide +kernel, by decide +kernel⟩, by decide⟩
abbrev MX9_firstToCome : hk_M := (yX9_firstToCome, cX9_firstToCome, 5, some FieldType.int)
theorem hk_wX9_firstToCome : hk_Wd yX9_firstToCome cX9_firstToCome 5 (some FieldType.int) 1 := ⟨hk_t 724 (by decide +kernel) rfl, hk_t 1 (by decide +kernel) rfl, ⟨by decide +kernel, by decide +kernel, by decide +kernel⟩, by decide⟩
abbrev MX9_whyNot : hk_M := (yX9_whyNot, cX9_whyNot, 5, some FieldType.int)
theorem hk_wX9_whyNot : hk_Wd yX9_whyNot cX9_whyNot 5 (some FieldType.int) 2 := ⟨hk_t 729 (by decide +kernel) rfl, hk_t 1 (by decide +kernel) rfl, ⟨by decide +kernel, by decide +kernel, by decide +kernel⟩, by decide⟩
abbrev MX8_draftCoach : hk_M := (yX8_draftCoach, cX8_draftCoach, 4, none)
theorem hk_wX8_draftCoach : hk_Wd yX8_draftCoach cX8_draftCoach 4 (none) 3 := ⟨hk_t 733 (by decide +kernel) rfl, hk_t 7 (by decide +kernel) rfl, ⟨by decide +kernel, by decide +kernel, by decide +kernel⟩, by decide⟩
abbrev MX8_draftTimes : hk_M := (yX8_draftTimes, cX8_draftTimes, 4, some FieldType.int)
theorem hk_wX8_draftTimes : hk_Wd yX8_draftTimes cX8_draftTimes 4 (some FieldType.int) 2 := ⟨hk_t 738 (by decide +kernel) rfl, hk_t 7 (by decide +kernel) rfl, ⟨by decide +kernel, by decide +kernel, by decide +kernel⟩, by decide⟩
abbrev MX8_noteRefusal : hk_M := (yX8_noteRefusal, cX8_noteRefusal, 2, none)
theorem hk_wX8_noteRefusal : hk_Wd yX8_noteRefusal cX8_noteRefusal 2 (none) 0 := ⟨hk_t 742 (by decide +kernel) rfl, hk_t 7 (by decide +kernel) rfl, ⟨by decide +kernel, by decide +kernel, by decide +kernel⟩, by decide⟩
abbrev MX9_sendToCaller : hk_M := (yX9_sendToCaller, cX9_sendToCaller, 3, some FieldType.int)
theorem hk_wX9_sendToCaller : hk_Wd yX9_sendToCaller cX9_sendToCaller 3 (some FieldType.int) 1 := ⟨hk_t 746 (by decide +kernel) rfl, hk_t 1 (by decide +kernel) rfl, ⟨by decide +kernel, by decide +kernel, by decide +kernel⟩, by decide⟩
abbrev MX8_keepDraft : hk_M := (yX8_keepDraft, cX8_keepDraft, 3, some FieldType.int)
theorem hk_wX8_keepDraft : hk_Wd yX8_keepDraft cX8_keepDraft 3 (some FieldType.int) 0 := ⟨hk_t 750 (by decide +kernel) rfl, hk_t 7 (by decide +kernel) rfl, ⟨by decide +kernel, by decide +kernel, by decide +kernel⟩, by decide⟩
abbrev MX9_why : hk_M := (yX9_why, cX9_why, 6, some FieldType.int)
theorem hk_wX9_why : hk_Wd yX9_why cX9_why 6 (some FieldType.int) 4 := ⟨hk_t 754 (by decide +kernel) rfl, hk_t 1 (by decide +kernel) rfl, ⟨by decide +kernel, by decide +kernel, by decide +kernel⟩, by decide⟩
abbrev MX9_minutes : hk_M := (yX9_minutes, cX9_minutes, 5, some FieldType.int)
theorem hk_wX9_minutes : hk_Wd yX9_minutes cX9_minutes 5 (some FieldType.int) 1 := ⟨hk_t 759 (by decide +kernel) rfl, hk_t 1 (by decide +kernel) rfl, ⟨by decide +kernel, by decide +kernel, by decide +kernel⟩, by decide⟩
abbrev MX2_nextToArrive : hk_M := (yX2_nextToArrive, cX2_nextToArrive, 6, some FieldType.int)
theorem hk_wX2_nextToArrive : hk_Wd yX2_nextToArrive cX2_nextToArrive 6 (some FieldType.int) 1 := ⟨hk_t 763 (by decide +kernel) rfl, hk_t 4 (by decide +kernel) rfl, ⟨by decide +kernel, by decide +kernel, by decide +kernel⟩, by decide⟩
abbrev MX9_passTo : hk_M := (yX9_passTo, cX9_passTo, 2, none)
theorem hk_wX9_passTo : hk_Wd yX9_passTo cX9_passTo 2 (none) 1 := ⟨hk_t 768 (by decide +kernel) rfl, hk_t 1 (by decide +kernel) rfl, ⟨by decide +kernel, by decide +kernel, by decide +kernel⟩, by decide⟩
abbrev MX2_spend : hk_M := (yX2_spend, cX2_spend, 4, none)
theorem hk_wX2_spend : hk_Wd yX2_spend cX2_spend 4 (none) 1 := ⟨hk_t 772 (by decide +kernel) rfl, hk_t 4 (by decide +kernel) rfl, ⟨by decide +kernel, by decide +kernel, by decide +kernel⟩, by decide⟩
abbrev MX2_gainOf : hk_M := (yX2_gainOf, cX2_gainOf, 1, some FieldType.int)
theorem hk_wX2_gainOf : hk_Wd yX2_gainOf cX2_gainOf 1 (some FieldType.int) 1 := ⟨hk_t 775 (by decide +kernel) rfl, hk_t 4 (by decide +kernel) rfl, ⟨by decide +kernel, by decide +kernel, by decide +kernel⟩, by decide⟩
abbrev MX9_trip : hk_M := (yX9_trip, cX9_trip, 3, some FieldType.int)
theorem hk_wX9_trip : hk_Wd yX9_trip cX9_trip 3 (some FieldType.int) 2 := ⟨hk_t 781 (by decide +kernel) rfl, hk_t 1 (by decide +kernel) rfl, ⟨by decide +kernel, by decide +kernel, by decide +kernel⟩, by decide⟩
abbrev MX6_isCell : hk_M := (yX6_isCell, cX6_isCell, 3, some FieldType.boolean)
theorem hk_wX6_isCell : hk_Wd yX6_isCell cX6_isCell 3 (some FieldType.boolean) 2 := ⟨hk_t 785 (by decide +kernel) rfl, hk_t 3 (by decide +kernel) rfl, ⟨by decide +kernel, by decide +kernel, by decide +kernel⟩, by decide⟩
abbrev MX9_due : hk_M := (yX9_due, cX9_due, 5, some FieldType.int)
theorem hk_wX9_due : hk_Wd yX9_due cX9_due 5 (some FieldType.int) 3 := ⟨hk_t 790 (by decide +kernel) rfl, hk_t 1 (by decide +kernel) rfl, ⟨by decide +kernel, by decide +kernel, by decide +kernel⟩, by decide⟩
abbrev MX9_kindDue : hk_M := (yX9_kindDue, cX9_kindDue, 5, some FieldType.int)
theorem hk_wX9_kindDue : hk_Wd yX9_kindDue cX9_kindDue 5 (some FieldType.int) 2 := ⟨hk_t 794 (by decide +kernel) rfl, hk_t 1 (by decide +kernel) rfl, ⟨by decide +kernel, by decide +kernel, by decide +kernel⟩, by decide⟩
abbrev MX9_refusal : hk_M := (yX9_refusal, cX9_refusal, 3, some FieldType.int)
theorem hk_wX9_refusal : hk_Wd yX9_refusal cX9_refusal 3 (some FieldType.int) 2 := ⟨hk_t 798 (by decide +kernel) rfl, hk_t 1 (by decide +kernel) rfl, ⟨by decide +kernel, by decide +kernel, by decide +kernel⟩, by decide⟩
abbrev MX9_complain : hk_M := (yX9_complain, cX9_complain, 3, some FieldType.int)
theorem hk_wX9_complain : hk_Wd yX9_complain cX9_complain 3 (some FieldType.int) 2 := ⟨hk_t 802 (by decide +kernel) rfl, hk_t 1 (by decide +kernel) rfl, ⟨by decide +kernel, by decide +kernel, by decide +kernel⟩, by decide⟩
abbrev MX1_isOf : hk_M := (yX1_isOf, cX1_isOf, 3, some FieldType.boolean)
theorem hk_wX1_isOf : hk_Wd yX1_isOf cX1_isOf 3 (some FieldType.boolean) 1 := ⟨hk_t 807 (by decide +kernel) rfl, hk_t 8 (by decide +kernel) rfl, ⟨by decide +kernel, by decide +kernel, by decide +kernel⟩, by decide⟩
abbrev MX1_addComplaint : hk_M := (yX1_addComplaint, cX1_addComplaint, 4, some FieldType.int)
theorem hk_wX1_addComplaint : hk_Wd yX1_addComplaint cX1_addComplaint 4 (some FieldType.int) 2 := ⟨hk_t 812 (by decide +kernel) rfl, hk_t 8 (by decide +kernel) rfl, ⟨by decide +kernel, by decide +kernel, by decide +kernel⟩, by decide⟩
abbrev MX9_judged : hk_M := (yX9_judged, cX9_judged, 3, some FieldType.int)
theorem hk_wX9_judged : hk_Wd yX9_judged cX9_judged 3 (some FieldType.int) 2 := ⟨hk_t 818 (by decide +kernel) rfl, hk_t 1 (by decide +kernel) rfl, ⟨by decide +kernel, by decide +kernel, by decide +kernel⟩, by decide⟩
abbrev MX9_overpaid : hk_M := (yX9_overpaid, cX9_overpaid, 4, some FieldType.int)
theorem hk_wX9_overpaid : hk_Wd yX9_overpaid cX9_overpaid 4 (some FieldType.int) 1 := ⟨hk_t 822 (by decide +kernel) rfl, hk_t 1 (by decide +kernel) rfl, ⟨by decide +kernel, by decide +kernel, by decide +kernel⟩, by decide⟩
abbrev MX9_likeCases : hk_M := (yX9_likeCases, cX9_likeCases, 5, some FieldType.int)
theorem hk_wX9_likeCases : hk_Wd yX9_likeCases cX9_likeCases 5 (some FieldType.int) 2 := ⟨hk_t 826 (by decide +kernel) rfl, hk_t 1 (by decide +kernel) rfl, ⟨by decide +kernel, by decide +kernel, by decide +kernel⟩, by decide⟩
abbrev MX9_isLike : hk_M := (yX9_isLike, cX9_isLike, 5, some FieldType.boolean)
theorem hk_wX9_isLike : hk_Wd yX9_isLike cX9_isLike 5 (some FieldType.boolean) 2 := ⟨hk_t 830 (by decide +kernel) rfl, hk_t 1 (by decide +kernel) rfl, ⟨by decide +kernel, by decide +kernel, by decide +kernel⟩, by decide⟩
abbrev MX8_isSame : hk_M := (yX8_isSame, cX8_isSame, 4, some FieldType.boolean)
theorem hk_wX8_isSame : hk_Wd yX8_isSame cX8_isSame 4 (some FieldType.boolean) 3 := ⟨hk_t 834 (by decide +kernel) rfl, hk_t 7 (by decide +kernel) rfl, ⟨by decide +kernel, by decide +kernel, by decide +kernel⟩, by decide⟩
abbrev MX9_latestLikeCase : hk_M := (yX9_latestLikeCase, cX9_latestLikeCase, 3, some FieldType.int)
theorem hk_wX9_latestLikeCase : hk_Wd yX9_latestLikeCase cX9_latestLikeCase 3 (some FieldType.int) 1 := ⟨hk_t 838 (by decide +kernel) rfl, hk_t 1 (by decide +kernel) rfl, ⟨by decide +kernel, by decide +kernel, by decide +kernel⟩, by decide⟩
abbrev MX9_lost : hk_M := (yX9_lost, cX9_lost, 5, some FieldType.int)
theorem hk_wX9_lost : hk_Wd yX9_lost cX9_lost 5 (some FieldType.int) 4 := ⟨hk_t 842 (by decide +kernel) rfl, hk_t 1 (by decide +kernel) rfl, ⟨by decide +kernel, by decide +kernel, by decide +kernel⟩, by decide⟩
abbrev MX7_addLost : hk_M := (yX7_addLost, cX7_addLost, 6, some FieldType.int)
theorem hk_wX7_addLost : hk_Wd yX7_addLost cX7_addLost 6 (some FieldType.int) 4 := ⟨hk_t 846 (by decide +kernel) rfl, hk_t 9 (by decide +kernel) rfl, ⟨by decide +kernel, by decide +kernel, by decide +kernel⟩, by decide⟩
abbrev MX9_found : hk_M := (yX9_found, cX9_found, 3, some FieldType.int)
theorem hk_wX9_found : hk_Wd yX9_found cX9_found 3 (some FieldType.int) 2 := ⟨hk_t 852 (by decide +kernel) rfl, hk_t 1 (by decide +kernel) rfl, ⟨by decide +kernel, by decide +kernel, by decide +kernel⟩, by decide⟩
abbrev MX7_addFound : hk_M := (yX7_addFound, cX7_addFound, 5, some FieldType.int)
theorem hk_wX7_addFound : hk_Wd yX7_addFound cX7_addFound 5 (some FieldType.int) 3 := ⟨hk_t 856 (by decide +kernel) rfl, hk_t 9 (by decide +kernel) rfl, ⟨by decide +kernel, by decide +kernel, by decide +kernel⟩, by decide⟩
abbrev MX9_joined : hk_M := (yX9_joined, cX9_joined, 3, some FieldType.int)
theorem hk_wX9_joined : hk_Wd yX9_joined cX9_joined 3 (some FieldType.int) 1 := ⟨hk_t 860 (by decide +kernel) rfl, hk_t 1 (by decide +kernel) rfl, ⟨by decide +kernel, by decide +kernel, by decide +kernel⟩, by decide⟩
abbrev MX9_onlyFoundFor : hk_M := (yX9_onlyFoundFor, cX9_onlyFoundFor, 4, some FieldType.int)
theorem hk_wX9_onlyFoundFor : hk_Wd yX9_onlyFoundFor cX9_onlyFoundFor 4 (some FieldType.int) 1 := ⟨hk_t 864 (by decide +kernel) rfl, hk_t 1 (by decide +kernel) rfl, ⟨by decide +kernel, by decide +kernel, by decide +kernel⟩, by decide⟩
abbrev MX9_isFitting : hk_M := (yX9_isFitting, cX9_isFitting, 5, some FieldType.boolean)
theorem hk_wX9_isFitting : hk_Wd yX9_isFitting cX9_isFitting 5 (some FieldType.boolean) 2 := ⟨hk_t 868 (by decide +kernel) rfl, hk_t 1 (by decide +kernel) rfl, ⟨by decide +kernel, by decide +kernel, by decide +kernel⟩, by decide⟩
abbrev MX7_isPlate : hk_M := (yX7_isPlate, cX7_isPlate, 6, some FieldType.boolean)
theorem hk_wX7_isPlate : hk_Wd yX7_isPlate cX7_isPlate 6 (some FieldType.boolean) 2 := ⟨hk_t 871 (by decide +kernel) rfl, hk_t 9 (by decide +kernel) rfl, ⟨by decide +kernel, by decide +kernel, by decide +kernel⟩, by decide⟩
abbrev MX8_wasOnTrip : hk_M := (yX8_wasOnTrip, cX8_wasOnTrip, 6, some FieldType.boolean)
theorem hk_wX8_wasOnTrip : hk_Wd yX8_wasOnTrip cX8_wasOnTrip 6 (some FieldType.boolean) 3 := ⟨hk_t 875 (by decide +kernel) rfl, hk_t 7 (by decide +kernel) rfl, ⟨by decide +kernel, by decide +kernel, by decide +kernel⟩, by decide⟩
abbrev MX9_lossesFitting : hk_M := (yX9_lossesFitting, cX9_lossesFitting, 4, some FieldType.int)
theorem hk_wX9_lossesFitting : hk_Wd yX9_lossesFitting cX9_lossesFitting 4 (some FieldType.int) 1 := ⟨hk_t 879 (by decide +kernel) rfl, hk_t 1 (by decide +kernel) rfl, ⟨by decide +kernel, by decide +kernel, by decide +kernel⟩, by decide⟩
abbrev MX9_fits : hk_M := (yX9_fits, cX9_fits, 4, some FieldType.int)
theorem hk_wX9_fits : hk_Wd yX9_fits cX9_fits 4 (some FieldType.int) 1 := ⟨hk_t 883 (by decide +kernel) rfl, hk_t 1 (by decide +kernel) rfl, ⟨by decide +kernel, by decide +kernel, by decide +kernel⟩, by decide⟩
abbrev MX9_tried : hk_M := (yX9_tried, cX9_tried, 10, some FieldType.int)
theorem hk_wX9_tried : hk_Wd yX9_tried cX9_tried 10 (some FieldType.int) 3 := ⟨hk_t 887 (by decide +kernel) rfl, hk_t 1 (by decide +kernel) rfl, ⟨by decide +kernel, by decide +kernel, by decide +kernel⟩, by decide⟩
abbrev MX4_isOfKind : hk_M := (yX4_isOfKind, cX4_isOfKind, 4, some FieldType.boolean)
theorem hk_wX4_isOfKind : hk_Wd yX4_isOfKind cX4_isOfKind 4 (some FieldType.boolean) 2 := ⟨hk_t 891 (by decide +kernel) rfl, hk_t 5 (by decide +kernel) rfl, ⟨by decide +kernel, by decide +kernel, by decide +kernel⟩, by decide⟩
abbrev MX9_count : hk_M := (yX9_count, cX9_count, 2, some FieldType.int)
theorem hk_wX9_count : hk_Wd yX9_count cX9_count 2 (some FieldType.int) 1 := ⟨hk_t 899 (by decide +kernel) rfl, hk_t 1 (by decide +kernel) rfl, ⟨by decide +kernel, by decide +kernel, by decide +kernel⟩, by decide⟩
abbrev MX10_init : hk_M := (yX10_init, cX10_init, 2, none)
theorem hk_wX10_init : hk_Wd yX10_init cX10_init 2 (none) 0 := ⟨hk_t 904 (by decide +kernel) rfl, hk_t 10 (by decide +kernel) rfl, ⟨by decide +kernel, by decide +kernel, by decide +kernel⟩, by decide⟩
abbrev MX10_corner : hk_M := (yX10_corner, cX10_corner, 1, some FieldType.int)
theorem hk_wX10_corner : hk_Wd yX10_corner cX10_corner 1 (some FieldType.int) 0 := ⟨hk_t 1154 (by decide +kernel) rfl, hk_t 10 (by decide +kernel) rfl, ⟨by decide +kernel, by decide +kernel, by decide +kernel⟩, by decide⟩
abbrev MX10_street : hk_M := (yX10_street, cX10_street, 4, some FieldType.int)
theorem hk_wX10_street : hk_Wd yX10_street cX10_street 4 (some FieldType.int) 3 := ⟨hk_t 1158 (by decide +kernel) rfl, hk_t 10 (by decide +kernel) rfl, ⟨by decide +kernel, by decide +kernel, by decide +kernel⟩, by decide⟩
abbrev MX10_isCorner : hk_M := (yX10_isCorner, cX10_isCorner, 2, some FieldType.boolean)
theorem hk_wX10_isCorner : hk_Wd yX10_isCorner cX10_isCorner 2 (some FieldType.boolean) 1 := ⟨hk_t 1162 (by decide +kernel) rfl, hk_t 10 (by decide +kernel) rfl, ⟨by decide +kernel, by decide +kernel, by decide +kernel⟩, by decide⟩
abbrev MX10_within : hk_M := (yX10_within, cX10_within, 3, some FieldType.boolean)
theorem hk_wX10_within : hk_Wd yX10_within cX10_within 3 (some FieldType.boolean) 3 := ⟨hk_t 1165 (by decide +kernel) rfl, hk_t 10 (by decide +kernel) rfl, ⟨by decide +kernel, by decide +kernel, by decide +kernel⟩, by decide⟩
abbrev MX10_shut : hk_M := (yX10_shut, cX10_shut, 4, some FieldType.int)
theorem hk_wX10_shut : hk_Wd yX10_shut cX10_shut 4 (some FieldType.int) 3 := ⟨hk_t 1169 (by decide +kernel) rfl, hk_t 10 (by decide +kernel) rfl, ⟨by decide +kernel, by decide +kernel, by decide +kernel⟩, by decide⟩
abbrev MX10_sun : hk_M := (yX10_sun, cX10_sun, 4, some FieldType.int)
theorem hk_wX10_sun : hk_Wd yX10_sun cX10_sun 4 (some FieldType.int) 3 := ⟨hk_t 1174 (by decide +kernel) rfl, hk_t 10 (by decide +kernel) rfl, ⟨by decide +kernel, by decide +kernel, by decide +kernel⟩, by decide⟩
abbrev MX10_night : hk_M := (yX10_night, cX10_night, 2, some FieldType.int)
theorem hk_wX10_night : hk_Wd yX10_night cX10_night 2 (some FieldType.int) 1 := ⟨hk_t 1178 (by decide +kernel) rfl, hk_t 10 (by decide +kernel) rfl, ⟨by decide +kernel, by decide +kernel, by decide +kernel⟩, by decide⟩
abbrev MX10_isMinute : hk_M := (yX10_isMinute, cX10_isMinute, 1, some FieldType.boolean)
theorem hk_wX10_isMinute : hk_Wd yX10_isMinute cX10_isMinute 1 (some FieldType.boolean) 1 := ⟨hk_t 1181 (by decide +kernel) rfl, hk_t 10 (by decide +kernel) rfl, ⟨by decide +kernel, by decide +kernel, by decide +kernel⟩, by decide⟩
abbrev MX10_isNight : hk_M := (yX10_isNight, cX10_isNight, 3, some FieldType.boolean)
theorem hk_wX10_isNight : hk_Wd yX10_isNight cX10_isNight 3 (some FieldType.boolean) 1 := ⟨hk_t 1186 (by decide +kernel) rfl, hk_t 10 (by decide +kernel) rfl, ⟨by decide +kernel, by decide +kernel, by decide +kernel⟩, by decide⟩
abbrev MX10_way : hk_M := (yX10_way, cX10_way, 6, some FieldType.int)
theorem hk_wX10_way : hk_Wd yX10_way cX10_way 6 (some FieldType.int) 3 := ⟨hk_t 1190 (by decide +kernel) rfl, hk_t 10 (by decide +kernel) rfl, ⟨by decide +kernel, by decide +kernel, by decide +kernel⟩, by decide⟩
abbrev MX10_yardsOf : hk_M := (yX10_yardsOf, cX10_yardsOf, 4, some FieldType.int)
theorem hk_wX10_yardsOf : hk_Wd yX10_yardsOf cX10_yardsOf 4 (some FieldType.int) 3 := ⟨hk_t 1194 (by decide +kernel) rfl, hk_t 10 (by decide +kernel) rfl, ⟨by decide +kernel, by decide +kernel, by decide +kernel⟩, by decide⟩
abbrev MX10_findFar : hk_M := (yX10_findFar, cX10_findFar, 5, none)
theorem hk_wX10_findFar : hk_Wd yX10_findFar cX10_findFar 5 (none) 2 := ⟨hk_t 1198 (by decide +kernel) rfl, hk_t 10 (by decide +kernel) rfl, ⟨by decide +kernel, by decide +kernel, by decide +kernel⟩, by decide⟩
abbrev MX10_isShut : hk_M := (yX10_isShut, cX10_isShut, 5, some FieldType.boolean)
theorem hk_wX10_isShut : hk_Wd yX10_isShut cX10_isShut 5 (some FieldType.boolean) 2 := ⟨hk_t 1203 (by decide +kernel) rfl, hk_t 10 (by decide +kernel) rfl, ⟨by decide +kernel, by decide +kernel, by decide +kernel⟩, by decide⟩
abbrev MX10_come : hk_M := (yX10_come, cX10_come, 5, some FieldType.boolean)
theorem hk_wX10_come : hk_Wd yX10_come cX10_come 5 (some FieldType.boolean) 3 := ⟨hk_t 1207 (by decide +kernel) rfl, hk_t 10 (by decide +kernel) rfl, ⟨by decide +kernel, by decide +kernel, by decide +kernel⟩, by decide⟩
abbrev MX10_findWay : hk_M := (yX10_findWay, cX10_findWay, 8, none)
theorem hk_wX10_findWay : hk_Wd yX10_findWay cX10_findWay 8 (none) 3 := ⟨hk_t 1211 (by decide +kernel) rfl, hk_t 10 (by decide +kernel) rfl, ⟨by decide +kernel, by decide +kernel, by decide +kernel⟩, by decide⟩
abbrev MX10_step : hk_M := (yX10_step, cX10_step, 2, some FieldType.int)
theorem hk_wX10_step : hk_Wd yX10_step cX10_step 2 (some FieldType.int) 1 := ⟨hk_t 1215 (by decide +kernel) rfl, hk_t 10 (by decide +kernel) rfl, ⟨by decide +kernel, by decide +kernel, by decide +kernel⟩, by decide⟩
abbrev MX10_coach : hk_M := (yX10_coach, cX10_coach, 4, some FieldType.int)
theorem hk_wX10_coach : hk_Wd yX10_coach cX10_coach 4 (some FieldType.int) 2 := ⟨hk_t 1219 (by decide +kernel) rfl, hk_t 10 (by decide +kernel) rfl, ⟨by decide +kernel, by decide +kernel, by decide +kernel⟩, by decide⟩
abbrev MX10_licence : hk_M := (yX10_licence, cX10_licence, 4, some FieldType.int)
theorem hk_wX10_licence : hk_Wd yX10_licence cX10_licence 4 (some FieldType.int) 3 := ⟨hk_t 1223 (by decide +kernel) rfl, hk_t 10 (by decide +kernel) rfl, ⟨by decide +kernel, by decide +kernel, by decide +kernel⟩, by decide⟩
abbrev MX10_isCoach : hk_M := (yX10_isCoach, cX10_isCoach, 2, some FieldType.boolean)
theorem hk_wX10_isCoach : hk_Wd yX10_isCoach cX10_isCoach 2 (some FieldType.boolean) 1 := ⟨hk_t 1227 (by decide +kernel) rfl, hk_t 10 (by decide +kernel) rfl, ⟨by decide +kernel, by decide +kernel, by decide +kernel⟩, by decide⟩
abbrev MX10_holder : hk_M := (yX10_holder, cX10_holder, 4, some FieldType.int)
theorem hk_wX10_holder : hk_Wd yX10_holder cX10_holder 4 (some FieldType.int) 2 := ⟨hk_t 1231 (by decide +kernel) rfl, hk_t 10 (by decide +kernel) rfl, ⟨by decide +kernel, by decide +kernel, by decide +kernel⟩, by decide⟩
abbrev MX10_look : hk_M := (yX10_look, cX10_look, 4, some FieldType.int)
theorem hk_wX10_look : hk_Wd yX10_look cX10_look 4 (some FieldType.int) 2 := ⟨hk_t 1235 (by decide +kernel) rfl, hk_t 10 (by decide +kernel) rfl, ⟨by decide +kernel, by decide +kernel, by decide +kernel⟩, by decide⟩
abbrev MX10_today : hk_M := (yX10_today, cX10_today, 1, some FieldType.int)
theorem hk_wX10_today : hk_Wd yX10_today cX10_today 1 (some FieldType.int) 0 := ⟨hk_t 1239 (by decide +kernel) rfl, hk_t 10 (by decide +kernel) rfl, ⟨by decide +kernel, by decide +kernel, by decide +kernel⟩, by decide⟩
abbrev MX10_stand : hk_M := (yX10_stand, cX10_stand, 3, some FieldType.int)
theorem hk_wX10_stand : hk_Wd yX10_stand cX10_stand 3 (some FieldType.int) 2 := ⟨hk_t 1243 (by decide +kernel) rfl, hk_t 10 (by decide +kernel) rfl, ⟨by decide +kernel, by decide +kernel, by decide +kernel⟩, by decide⟩
abbrev MX10_go : hk_M := (yX10_go, cX10_go, 6, some FieldType.int)
theorem hk_wX10_go : hk_Wd yX10_go cX10_go 6 (some FieldType.int) 2 := ⟨hk_t 1247 (by decide +kernel) rfl, hk_t 10 (by decide +kernel) rfl, ⟨by decide +kernel, by decide +kernel, by decide +kernel⟩, by decide⟩
abbrev MX10_isStand : hk_M := (yX10_isStand, cX10_isStand, 2, some FieldType.boolean)
theorem hk_wX10_isStand : hk_Wd yX10_isStand cX10_isStand 2 (some FieldType.boolean) 1 := ⟨hk_t 1251 (by decide +kernel) rfl, hk_t 10 (by decide +kernel) rfl, ⟨by decide +kernel, by decide +kernel, by decide +kernel⟩, by decide⟩
abbrev MX10_standOf : hk_M := (yX10_standOf, cX10_standOf, 4, some FieldType.int)
theorem hk_wX10_standOf : hk_Wd yX10_standOf cX10_standOf 4 (some FieldType.int) 1 := ⟨hk_t 1255 (by decide +kernel) rfl, hk_t 10 (by decide +kernel) rfl, ⟨by decide +kernel, by decide +kernel, by decide +kernel⟩, by decide⟩
abbrev MX10_leaveRow : hk_M := (yX10_leaveRow, cX10_leaveRow, 5, none)
theorem hk_wX10_leaveRow : hk_Wd yX10_leaveRow cX10_leaveRow 5 (none) 1 := ⟨hk_t 1259 (by decide +kernel) rfl, hk_t 10 (by decide +kernel) rfl, ⟨by decide +kernel, by decide +kernel, by decide +kernel⟩, by decide⟩
abbrev MX10_minutesOf : hk_M := (yX10_minutesOf, cX10_minutesOf, 1, some FieldType.int)
theorem hk_wX10_minutesOf : hk_Wd yX10_minutesOf cX10_minutesOf 1 (some FieldType.int) 1 := ⟨hk_t 1262 (by decide +kernel) rfl, hk_t 10 (by decide +kernel) rfl, ⟨by decide +kernel, by decide +kernel, by decide +kernel⟩, by decide⟩
abbrev MX10_arrive : hk_M := (yX10_arrive, cX10_arrive, 3, none)
theorem hk_wX10_arrive : hk_Wd yX10_arrive cX10_arrive 3 (none) 1 := ⟨hk_t 1266 (by decide +kernel) rfl, hk_t 10 (by decide +kernel) rfl, ⟨by decide +kernel, by decide +kernel, by decide +kernel⟩, by decide⟩
abbrev MX10_about : hk_M := (yX10_about, cX10_about, 4, some FieldType.int)
theorem hk_wX10_about : hk_Wd yX10_about cX10_about 4 (some FieldType.int) 2 := ⟨hk_t 1270 (by decide +kernel) rfl, hk_t 10 (by decide +kernel) rfl, ⟨by decide +kernel, by decide +kernel, by decide +kernel⟩, by decide⟩
abbrev MX10_tripsOf : hk_M := (yX10_tripsOf, cX10_tripsOf, 6, some FieldType.int)
theorem hk_wX10_tripsOf : hk_Wd yX10_tripsOf cX10_tripsOf 6 (some FieldType.int) 2 := ⟨hk_t 1274 (by decide +kernel) rfl, hk_t 10 (by decide +kernel) rfl, ⟨by decide +kernel, by decide +kernel, by decide +kernel⟩, by decide⟩
abbrev MX10_dueOf : hk_M := (yX10_dueOf, cX10_dueOf, 4, some FieldType.int)
theorem hk_wX10_dueOf : hk_Wd yX10_dueOf cX10_dueOf 4 (some FieldType.int) 2 := ⟨hk_t 1278 (by decide +kernel) rfl, hk_t 10 (by decide +kernel) rfl, ⟨by decide +kernel, by decide +kernel, by decide +kernel⟩, by decide⟩
abbrev MX10_nameTrip : hk_M := (yX10_nameTrip, cX10_nameTrip, 2, none)
theorem hk_wX10_nameTrip : hk_Wd yX10_nameTrip cX10_nameTrip 2 (none) 1 := ⟨hk_t 1282 (by decide +kernel) rfl, hk_t 10 (by decide +kernel) rfl, ⟨by decide +kernel, by decide +kernel, by decide +kernel⟩, by decide⟩
abbrev MX10_name : hk_M := (yX10_name, cX10_name, 9, none)
theorem hk_wX10_name : hk_Wd yX10_name cX10_name 9 (none) 8 := ⟨hk_t 1286 (by decide +kernel) rfl, hk_t 10 (by decide +kernel) rfl, ⟨by decide +kernel, by decide +kernel, by decide +kernel⟩, by decide⟩
abbrev MX10_force : hk_M := (yX10_force, cX10_force, 6, some FieldType.int)
theorem hk_wX10_force : hk_Wd yX10_force cX10_force 6 (some FieldType.int) 3 := ⟨hk_t 1290 (by decide +kernel) rfl, hk_t 10 (by decide +kernel) rfl, ⟨by decide +kernel, by decide +kernel, by decide +kernel⟩, by decide⟩
abbrev MX10_fare : hk_M := (yX10_fare, cX10_fare, 5, some FieldType.int)
theorem hk_wX10_fare : hk_Wd yX10_fare cX10_fare 5 (some FieldType.int) 2 := ⟨hk_t 1294 (by decide +kernel) rfl, hk_t 10 (by decide +kernel) rfl, ⟨by decide +kernel, by decide +kernel, by decide +kernel⟩, by decide⟩
abbrev MX10_fareBy : hk_M := (yX10_fareBy, cX10_fareBy, 3, some FieldType.int)
theorem hk_wX10_fareBy : hk_Wd yX10_fareBy cX10_fareBy 3 (some FieldType.int) 1 := ⟨hk_t 1298 (by decide +kernel) rfl, hk_t 10 (by decide +kernel) rfl, ⟨by decide +kernel, by decide +kernel, by decide +kernel⟩, by decide⟩
abbrev MX10_workOut : hk_M := (yX10_workOut, cX10_workOut, 4, some FieldType.int)
theorem hk_wX10_workOut : hk_Wd yX10_workOut cX10_workOut 4 (some FieldType.int) 2 := ⟨hk_t 1302 (by decide +kernel) rfl, hk_t 10 (by decide +kernel) rfl, ⟨by decide +kernel, by decide +kernel, by decide +kernel⟩, by decide⟩
abbrev MX10_chosen : hk_M := (yX10_chosen, cX10_chosen, 5, some FieldType.int)
theorem hk_wX10_chosen : hk_Wd yX10_chosen cX10_chosen 5 (some FieldType.int) 1 := ⟨hk_t 1306 (by decide +kernel) rfl, hk_t 10 (by decide +kernel) rfl, ⟨by decide +kernel, by decide +kernel, by decide +kernel⟩, by decide⟩
abbrev MX10_compared : hk_M := (yX10_compared, cX10_compared, 5, some FieldType.int)
theorem hk_wX10_compared : hk_Wd yX10_compared cX10_compared 5 (some FieldType.int) 1 := ⟨hk_t 1310 (by decide +kernel) rfl, hk_t 10 (by decide +kernel) rfl, ⟨by decide +kernel, by decide +kernel, by decide +kernel⟩, by decide⟩
abbrev MX10_sum : hk_M := (yX10_sum, cX10_sum, 5, some FieldType.int)
theorem hk_wX10_sum : hk_Wd yX10_sum cX10_sum 5 (some FieldType.int) 1 := ⟨hk_t 1314 (by decide +kernel) rfl, hk_t 10 (by decide +kernel) rfl, ⟨by decide +kernel, by decide +kernel, by decide +kernel⟩, by decide⟩
abbrev MX10_product : hk_M := (yX10_product, cX10_product, 5, some FieldType.int)
theorem hk_wX10_product : hk_Wd yX10_product cX10_product 5 (some FieldType.int) 1 := ⟨hk_t 1318 (by decide +kernel) rfl, hk_t 10 (by decide +kernel) rfl, ⟨by decide +kernel, by decide +kernel, by decide +kernel⟩, by decide⟩
abbrev MX10_one : hk_M := (yX10_one, cX10_one, 5, some FieldType.int)
theorem hk_wX10_one : hk_Wd yX10_one cX10_one 5 (some FieldType.int) 1 := ⟨hk_t 1322 (by decide +kernel) rfl, hk_t 10 (by decide +kernel) rfl, ⟨by decide +kernel, by decide +kernel, by decide +kernel⟩, by decide⟩
abbrev MX10_byteAt : hk_M := (yX10_byteAt, cX10_byteAt, 2, some FieldType.int)
theorem hk_wX10_byteAt : hk_Wd yX10_byteAt cX10_byteAt 2 (some FieldType.int) 1 := ⟨hk_t 1326 (by decide +kernel) rfl, hk_t 10 (by decide +kernel) rfl, ⟨by decide +kernel, by decide +kernel, by decide +kernel⟩, by decide⟩
abbrev MX10_opens : hk_M := (yX10_opens, cX10_opens, 2, some FieldType.boolean)
theorem hk_wX10_opens : hk_Wd yX10_opens cX10_opens 2 (some FieldType.boolean) 0 := ⟨hk_t 1330 (by decide +kernel) rfl, hk_t 10 (by decide +kernel) rfl, ⟨by decide +kernel, by decide +kernel, by decide +kernel⟩, by decide⟩
abbrev MX10_wrong : hk_M := (yX10_wrong, cX10_wrong, 1, some FieldType.int)
theorem hk_wX10_wrong : hk_Wd yX10_wrong cX10_wrong 1 (some FieldType.int) 0 := ⟨hk_t 1334 (by decide +kernel) rfl, hk_t 10 (by decide +kernel) rfl, ⟨by decide +kernel, by decide +kernel, by decide +kernel⟩, by decide⟩
abbrev MX10_nameOf : hk_M := (yX10_nameOf, cX10_nameOf, 1, some FieldType.int)
theorem hk_wX10_nameOf : hk_Wd yX10_nameOf cX10_nameOf 1 (some FieldType.int) 1 := ⟨hk_t 1337 (by decide +kernel) rfl, hk_t 10 (by decide +kernel) rfl, ⟨by decide +kernel, by decide +kernel, by decide +kernel⟩, by decide⟩
abbrev MX10_turn : hk_M := (yX10_turn, cX10_turn, 3, some FieldType.int)
theorem hk_wX10_turn : hk_Wd yX10_turn cX10_turn 3 (some FieldType.int) 2 := ⟨hk_t 1342 (by decide +kernel) rfl, hk_t 10 (by decide +kernel) rfl, ⟨by decide +kernel, by decide +kernel, by decide +kernel⟩, by decide⟩
abbrev MX10_feed : hk_M := (yX10_feed, cX10_feed, 4, some FieldType.int)
theorem hk_wX10_feed : hk_Wd yX10_feed cX10_feed 4 (some FieldType.int) 2 := ⟨hk_t 1346 (by decide +kernel) rfl, hk_t 10 (by decide +kernel) rfl, ⟨by decide +kernel, by decide +kernel, by decide +kernel⟩, by decide⟩
abbrev MX10_law : hk_M := (yX10_law, cX10_law, 6, some FieldType.int)
theorem hk_wX10_law : hk_Wd yX10_law cX10_law 6 (some FieldType.int) 2 := ⟨hk_t 1350 (by decide +kernel) rfl, hk_t 10 (by decide +kernel) rfl, ⟨by decide +kernel, by decide +kernel, by decide +kernel⟩, by decide⟩
abbrev MX10_isDay : hk_M := (yX10_isDay, cX10_isDay, 1, some FieldType.boolean)
theorem hk_wX10_isDay : hk_Wd yX10_isDay cX10_isDay 1 (some FieldType.boolean) 1 := ⟨hk_t 1353 (by decide +kernel) rfl, hk_t 10 (by decide +kernel) rfl, ⟨by decide +kernel, by decide +kernel, by decide +kernel⟩, by decide⟩
abbrev MX10_inForce : hk_M := (yX10_inForce, cX10_inForce, 4, some FieldType.int)
theorem hk_wX10_inForce : hk_Wd yX10_inForce cX10_inForce 4 (some FieldType.int) 3 := ⟨hk_t 1357 (by decide +kernel) rfl, hk_t 10 (by decide +kernel) rfl, ⟨by decide +kernel, by decide +kernel, by decide +kernel⟩, by decide⟩
abbrev MX10_says : hk_M := (yX10_says, cX10_says, 6, some FieldType.int)
theorem hk_wX10_says : hk_Wd yX10_says cX10_says 6 (some FieldType.int) 5 := ⟨hk_t 1361 (by decide +kernel) rfl, hk_t 10 (by decide +kernel) rfl, ⟨by decide +kernel, by decide +kernel, by decide +kernel⟩, by decide⟩
abbrev MX10_call : hk_M := (yX10_call, cX10_call, 13, some FieldType.int)
theorem hk_wX10_call : hk_Wd yX10_call cX10_call 13 (some FieldType.int) 3 := ⟨hk_t 1367 (by decide +kernel) rfl, hk_t 10 (by decide +kernel) rfl, ⟨by decide +kernel, by decide +kernel, by decide +kernel⟩, by decide⟩
abbrev MX10_mayBeCalled : hk_M := (yX10_mayBeCalled, cX10_mayBeCalled, 4, some FieldType.boolean)
theorem hk_wX10_mayBeCalled : hk_Wd yX10_mayBeCalled cX10_mayBeCalled 4 (some FieldType.boolean) 3 := ⟨hk_t 1371 (by decide +kernel) rfl, hk_t 10 (by decide +kernel) rfl, ⟨by decide +kernel, by decide +kernel, by decide +kernel⟩, by decide⟩
abbrev MX10_isCall : hk_M := (yX10_isCall, cX10_isCall, 1, some FieldType.boolean)
theorem hk_wX10_isCall : hk_Wd yX10_isCall cX10_isCall 1 (some FieldType.boolean) 1 := ⟨hk_t 1374 (by decide +kernel) rfl, hk_t 10 (by decide +kernel) rfl, ⟨by decide +kernel, by decide +kernel, by decide +kernel⟩, by decide⟩
abbrev MX10_whyNot : hk_M := (yX10_whyNot, cX10_whyNot, 9, some FieldType.int)
theorem hk_wX10_whyNot : hk_Wd yX10_whyNot cX10_whyNot 9 (some FieldType.int) 7 := ⟨hk_t 1378 (by decide +kernel) rfl, hk_t 10 (by decide +kernel) rfl, ⟨by decide +kernel, by decide +kernel, by decide +kernel⟩, by decide⟩
abbrev MX10_drive : hk_M := (yX10_drive, cX10_drive, 10, none)
theorem hk_wX10_drive : hk_Wd yX10_drive cX10_drive 10 (none) 8 := ⟨hk_t 1382 (by decide +kernel) rfl, hk_t 10 (by decide +kernel) rfl, ⟨by decide +kernel, by decide +kernel, by decide +kernel⟩, by decide⟩
abbrev MX10_note : hk_M := (yX10_note, cX10_note, 4, none)
theorem hk_wX10_note : hk_Wd yX10_note cX10_note 4 (none) 3 := ⟨hk_t 1386 (by decide +kernel) rfl, hk_t 10 (by decide +kernel) rfl, ⟨by decide +kernel, by decide +kernel, by decide +kernel⟩, by decide⟩
abbrev MX10_why : hk_M := (yX10_why, cX10_why, 8, some FieldType.int)
theorem hk_wX10_why : hk_Wd yX10_why cX10_why 8 (some FieldType.int) 4 := ⟨hk_t 1390 (by decide +kernel) rfl, hk_t 10 (by decide +kernel) rfl, ⟨by decide +kernel, by decide +kernel, by decide +kernel⟩, by decide⟩
abbrev MX10_minutes : hk_M := (yX10_minutes, cX10_minutes, 3, some FieldType.int)
theorem hk_wX10_minutes : hk_Wd yX10_minutes cX10_minutes 3 (some FieldType.int) 1 := ⟨hk_t 1394 (by decide +kernel) rfl, hk_t 10 (by decide +kernel) rfl, ⟨by decide +kernel, by decide +kernel, by decide +kernel⟩, by decide⟩
abbrev MX10_oneMinute : hk_M := (yX10_oneMinute, cX10_oneMinute, 3, none)
theorem hk_wX10_oneMinute : hk_Wd yX10_oneMinute cX10_oneMinute 3 (none) 0 := ⟨hk_t 1398 (by decide +kernel) rfl, hk_t 10 (by decide +kernel) rfl, ⟨by decide +kernel, by decide +kernel, by decide +kernel⟩, by decide⟩
abbrev MX10_trip : hk_M := (yX10_trip, cX10_trip, 3, some FieldType.int)
theorem hk_wX10_trip : hk_Wd yX10_trip cX10_trip 3 (some FieldType.int) 2 := ⟨hk_t 1402 (by decide +kernel) rfl, hk_t 10 (by decide +kernel) rfl, ⟨by decide +kernel, by decide +kernel, by decide +kernel⟩, by decide⟩
abbrev MX10_isTrip : hk_M := (yX10_isTrip, cX10_isTrip, 2, some FieldType.boolean)
theorem hk_wX10_isTrip : hk_Wd yX10_isTrip cX10_isTrip 2 (some FieldType.boolean) 1 := ⟨hk_t 1406 (by decide +kernel) rfl, hk_t 10 (by decide +kernel) rfl, ⟨by decide +kernel, by decide +kernel, by decide +kernel⟩, by decide⟩
abbrev MX10_due : hk_M := (yX10_due, cX10_due, 5, some FieldType.int)
theorem hk_wX10_due : hk_Wd yX10_due cX10_due 5 (some FieldType.int) 3 := ⟨hk_t 1410 (by decide +kernel) rfl, hk_t 10 (by decide +kernel) rfl, ⟨by decide +kernel, by decide +kernel, by decide +kernel⟩, by decide⟩
abbrev MX10_refusal : hk_M := (yX10_refusal, cX10_refusal, 3, some FieldType.int)
theorem hk_wX10_refusal : hk_Wd yX10_refusal cX10_refusal 3 (some FieldType.int) 2 := ⟨hk_t 1414 (by decide +kernel) rfl, hk_t 10 (by decide +kernel) rfl, ⟨by decide +kernel, by decide +kernel, by decide +kernel⟩, by decide⟩
abbrev MX10_complain : hk_M := (yX10_complain, cX10_complain, 4, some FieldType.int)
theorem hk_wX10_complain : hk_Wd yX10_complain cX10_complain 4 (some FieldType.int) 2 := ⟨hk_t 1418 (by decide +kernel) rfl, hk_t 10 (by decide +kernel) rfl, ⟨by decide +kernel, by decide +kernel, by decide +kernel⟩, by decide⟩
abbrev MX10_judged : hk_M := (yX10_judged, cX10_judged, 7, some FieldType.int)
theorem hk_wX10_judged : hk_Wd yX10_judged cX10_judged 7 (some FieldType.int) 2 := ⟨hk_t 1422 (by decide +kernel) rfl, hk_t 10 (by decide +kernel) rfl, ⟨by decide +kernel, by decide +kernel, by decide +kernel⟩, by decide⟩
abbrev MX10_areLike : hk_M := (yX10_areLike, cX10_areLike, 5, some FieldType.boolean)
theorem hk_wX10_areLike : hk_Wd yX10_areLike cX10_areLike 5 (some FieldType.boolean) 2 := ⟨hk_t 1426 (by decide +kernel) rfl, hk_t 10 (by decide +kernel) rfl, ⟨by decide +kernel, by decide +kernel, by decide +kernel⟩, by decide⟩
abbrev MX10_over : hk_M := (yX10_over, cX10_over, 5, some FieldType.int)
theorem hk_wX10_over : hk_Wd yX10_over cX10_over 5 (some FieldType.int) 1 := ⟨hk_t 1430 (by decide +kernel) rfl, hk_t 10 (by decide +kernel) rfl, ⟨by decide +kernel, by decide +kernel, by decide +kernel⟩, by decide⟩
abbrev MX10_lost : hk_M := (yX10_lost, cX10_lost, 5, some FieldType.int)
theorem hk_wX10_lost : hk_Wd yX10_lost cX10_lost 5 (some FieldType.int) 4 := ⟨hk_t 1434 (by decide +kernel) rfl, hk_t 10 (by decide +kernel) rfl, ⟨by decide +kernel, by decide +kernel, by decide +kernel⟩, by decide⟩
abbrev MX10_found : hk_M := (yX10_found, cX10_found, 3, some FieldType.int)
theorem hk_wX10_found : hk_Wd yX10_found cX10_found 3 (some FieldType.int) 2 := ⟨hk_t 1438 (by decide +kernel) rfl, hk_t 10 (by decide +kernel) rfl, ⟨by decide +kernel, by decide +kernel, by decide +kernel⟩, by decide⟩
abbrev MX10_fits : hk_M := (yX10_fits, cX10_fits, 4, some FieldType.int)
theorem hk_wX10_fits : hk_Wd yX10_fits cX10_fits 4 (some FieldType.int) 1 := ⟨hk_t 1442 (by decide +kernel) rfl, hk_t 10 (by decide +kernel) rfl, ⟨by decide +kernel, by decide +kernel, by decide +kernel⟩, by decide⟩
abbrev MX10_fit : hk_M := (yX10_fit, cX10_fit, 6, some FieldType.boolean)
theorem hk_wX10_fit : hk_Wd yX10_fit cX10_fit 6 (some FieldType.boolean) 2 := ⟨hk_t 1446 (by decide +kernel) rfl, hk_t 10 (by decide +kernel) rfl, ⟨by decide +kernel, by decide +kernel, by decide +kernel⟩, by decide⟩
abbrev MX10_fitsPlate : hk_M := (yX10_fitsPlate, cX10_fitsPlate, 7, some FieldType.boolean)
theorem hk_wX10_fitsPlate : hk_Wd yX10_fitsPlate cX10_fitsPlate 7 (some FieldType.boolean) 2 := ⟨hk_t 1450 (by decide +kernel) rfl, hk_t 10 (by decide +kernel) rfl, ⟨by decide +kernel, by decide +kernel, by decide +kernel⟩, by decide⟩
abbrev MX10_joined : hk_M := (yX10_joined, cX10_joined, 5, some FieldType.int)
theorem hk_wX10_joined : hk_Wd yX10_joined cX10_joined 5 (some FieldType.int) 1 := ⟨hk_t 1454 (by decide +kernel) rfl, hk_t 10 (by decide +kernel) rfl, ⟨by decide +kernel, by decide +kernel, by decide +kernel⟩, by decide⟩
abbrev MX10_tried : hk_M := (yX10_tried, cX10_tried, 7, some FieldType.int)
theorem hk_wX10_tried : hk_Wd yX10_tried cX10_tried 7 (some FieldType.int) 3 := ⟨hk_t 1459 (by decide +kernel) rfl, hk_t 10 (by decide +kernel) rfl, ⟨by decide +kernel, by decide +kernel, by decide +kernel⟩, by decide⟩
abbrev MX10_isFareLaw : hk_M := (yX10_isFareLaw, cX10_isFareLaw, 3, some FieldType.boolean)
theorem hk_wX10_isFareLaw : hk_Wd yX10_isFareLaw cX10_isFareLaw 3 (some FieldType.boolean) 2 := ⟨hk_t 1463 (by decide +kernel) rfl, hk_t 10 (by decide +kernel) rfl, ⟨by decide +kernel, by decide +kernel, by decide +kernel⟩, by decide⟩
abbrev MX10_count : hk_M := (yX10_count, cX10_count, 2, some FieldType.int)
theorem hk_wX10_count : hk_Wd yX10_count cX10_count 2 (some FieldType.int) 1 := ⟨hk_t 1467 (by decide +kernel) rfl, hk_t 10 (by decide +kernel) rfl, ⟨by decide +kernel, by decide +kernel, by decide +kernel⟩, by decide⟩
section HLk
variable {M : hk_M} {d mc ms k n pc : Nat} {ls : List (Option Value)} {st st0 : List Value} {h : hk_H} {Q Qc : Option Value → hk_H → Prop} {d' mc' ms' a ci : Nat} {As fs : List Value}
theorem ivX0_13 (hM : M.1.cls = RX0) (hC : hk_Ct MX6_init d' mc' ms' (.ref a :: As) h Qc) (hd : decode M.2.1 pc = .ok (.invokespecial 13, 3)) (hst : st0 = As.reverse ++ .ref a :: st) (hn : As.length = 2) (hdep : d' + 1 ≤ d) (hrm : k + mc' ≤ mc ∧ n + ms' ≤ ms) (hcat : (st.map fun v => v.category).sum ≤ 8) (kk : ∀ (r : Option Value) (h' : hk_H), Qc r h' → hk_WP M d mc ms (k + mc') (n + ms') (pc + 3) ls (r.toList ++ st) h' Q) : hk_WP M d mc ms k n pc ls st0 h Q :=
  hk_invIN (host := "HackneyStands") hC hk_wX6_init rfl ⟨(by rw [hM]; exact hk_n 35 (by decide +kernel) rfl), hk_t 36 (by decide +kernel) rfl⟩ hd hst hn hdep hrm hcat kk
theorem gfX0_16 (hM : M.1.cls = RX0) {v : Value} (hd : decode M.2.1 pc = .ok (.getfield 16, 3)) (ha : a < h.1) (he : h.2 a = .inr (0, fs)) (hv : fs[1]? = some v) (kk : hk_WP M d mc ms k n (pc + 3) ls (v :: st) h Q) : hk_WP M d mc ms k n pc ls (.ref a :: st) h Q :=
  hk_getf (ci := 0) (kf := 1) (C := RX0) (T := TX0) (N := 7) rfl hk_in0 (by decide) (by rw [hM]; exact hk_t 64 (by decide +kernel) rfl) hd ha he hv kk
theorem pfX0_16 (hM : M.1.cls = RX0) {x : Nat} (hd : decode M.2.1 pc = .ok (.putfield 16, 3)) (ha : a < h.1) (he : h.2 a = .inr (0, fs)) (hl : 1 < fs.length) (hI : M.1.name = "<init>") (kk : hk_WP M d mc ms k n (pc + 3) ls st (hk_up h a (.inr (0, fs.set 1 (.ref x)))) Q) : hk_WP M d mc ms k n pc ls (.ref x :: .ref a :: st) h Q :=
  hk_putF (ci := 0) (kf := 1) (C := RX0) (T := TX0) (N := 7) tyX0 tyX0_ok nmX0 rfl hk_in0 (by decide) (by rw [hM]; exact hk_t 64 (by decide +kernel) rfl) rfl hI (by rw [hM]; rfl) (fun _ => rfl) (fun _ => rfl) hd ha he hl kk
theorem gfX0_20 (hM : M.1.cls = RX0) {v : Value} (hd : decode M.2.1 pc = .ok (.getfield 20, 3)) (ha : a < h.1) (he : h.2 a = .inr (0, fs)) (hv : fs[2]? = some v) (kk : hk_WP M d mc ms k n (pc + 3) ls (v :: st) h Q) : hk_WP M d mc ms k n pc ls (.ref a :: st) h Q :=
  hk_getf (ci := 0) (kf := 2) (C := RX0) (T := TX0) (N := 7) rfl hk_in0 (by decide) (by rw [hM]; exact hk_t 66 (by decide +kernel) rfl) hd ha he hv kk
theorem pfX0_20 (hM : M.1.cls = RX0) {x : Nat} (hd : decode M.2.1 pc = .ok (.putfield 20, 3)) (ha : a < h.1) (he : h.2 a = .inr (0, fs)) (hl : 2 < fs.length) (hI : M.1.name = "<init>") (kk : hk_WP M d mc ms k n (pc + 3) ls st (hk_up h a (.inr (0, fs.set 2 (.ref x)))) Q) : hk_WP M d mc ms k n pc ls (.ref x :: .ref a :: st) h Q :=
  hk_putF (ci := 0) (kf := 2) (C := RX0) (T := TX0) (N := 7) tyX0 tyX0_ok nmX0 rfl hk_in0 (by decide) (by rw [hM]; exact hk_t 66 (by decide +kernel) rfl) rfl hI (by rw [hM]; rfl) (fun _ => rfl) (fun _ => rfl) hd ha he hl kk
theorem gfX0_24 (hM : M.1.cls = RX0) {v : Value} (hd : decode M.2.1 pc = .ok (.getfield 24, 3)) (ha : a < h.1) (he : h.2 a = .inr (0, fs)) (hv : fs[3]? = some v) (kk : hk_WP M d mc ms k n (pc + 3) ls (v :: st) h Q) : hk_WP M d mc ms k n pc ls (.ref a :: st) h Q :=
  hk_getf (ci := 0) (kf := 3) (C := RX0) (T := TX0) (N := 7) rfl hk_in0 (by decide) (by rw [hM]; exact hk_t 67 (by decide +kernel) rfl) hd ha he hv kk
theorem pfX0_24 (hM : M.1.cls = RX0) {x : Nat} (hd : decode M.2.1 pc = .ok (.putfield 24, 3)) (ha : a < h.1) (he : h.2 a = .inr (0, fs)) (hl : 3 < fs.length) (hI : M.1.name = "<init>") (kk : hk_WP M d mc ms k n (pc + 3) ls st (hk_up h a (.inr (0, fs.set 3 (.ref x)))) Q) : hk_WP M d mc ms k n pc ls (.ref x :: .ref a :: st) h Q :=
  hk_putF (ci := 0) (kf := 3) (C := RX0) (T := TX0) (N := 7) tyX0 tyX0_ok nmX0 rfl hk_in0 (by decide) (by rw [hM]; exact hk_t 67 (by decide +kernel) rfl) rfl hI (by rw [hM]; rfl) (fun _ => rfl) (fun _ => rfl) hd ha he hl kk
theorem gfX0_27 (hM : M.1.cls = RX0) {v : Value} (hd : decode M.2.1 pc = .ok (.getfield 27, 3)) (ha : a < h.1) (he : h.2 a = .inr (0, fs)) (hv : fs[4]? = some v) (kk : hk_WP M d mc ms k n (pc + 3) ls (v :: st) h Q) : hk_WP M d mc ms k n pc ls (.ref a :: st) h Q :=
  hk_getf (ci := 0) (kf := 4) (C := RX0) (T := TX0) (N := 7) rfl hk_in0 (by decide) (by rw [hM]; exact hk_t 68 (by decide +kernel) rfl) hd ha he hv kk
theorem pfX0_27 (hM : M.1.cls = RX0) {x : Nat} (hd : decode M.2.1 pc = .ok (.putfield 27, 3)) (ha : a < h.1) (he : h.2 a = .inr (0, fs)) (hl : 4 < fs.length) (hI : M.1.name = "<init>") (kk : hk_WP M d mc ms k n (pc + 3) ls st (hk_up h a (.inr (0, fs.set 4 (.ref x)))) Q) : hk_WP M d mc ms k n pc ls (.ref x :: .ref a :: st) h Q :=
  hk_putF (ci := 0) (kf := 4) (C := RX0) (T := TX0) (N := 7) tyX0 tyX0_ok nmX0 rfl hk_in0 (by decide) (by rw [hM]; exact hk_t 68 (by decide +kernel) rfl) rfl hI (by rw [hM]; rfl) (fun _ => rfl) (fun _ => rfl) hd ha he hl kk
theorem gfX0_30 (hM : M.1.cls = RX0) {v : Value} (hd : decode M.2.1 pc = .ok (.getfield 30, 3)) (ha : a < h.1) (he : h.2 a = .inr (0, fs)) (hv : fs[5]? = some v) (kk : hk_WP M d mc ms k n (pc + 3) ls (v :: st) h Q) : hk_WP M d mc ms k n pc ls (.ref a :: st) h Q :=
  hk_getf (ci := 0) (kf := 5) (C := RX0) (T := TX0) (N := 7) rfl hk_in0 (by decide) (by rw [hM]; exact hk_t 69 (by decide +kernel) rfl) hd ha he hv kk
theorem pfX0_30 (hM : M.1.cls = RX0) {x : Nat} (hd : decode M.2.1 pc = .ok (.putfield 30, 3)) (ha : a < h.1) (he : h.2 a = .inr (0, fs)) (hl : 5 < fs.length) (hI : M.1.name = "<init>") (kk : hk_WP M d mc ms k n (pc + 3) ls st (hk_up h a (.inr (0, fs.set 5 (.ref x)))) Q) : hk_WP M d mc ms k n pc ls (.ref x :: .ref a :: st) h Q :=
  hk_putF (ci := 0) (kf := 5) (C := RX0) (T := TX0) (N := 7) tyX0 tyX0_ok nmX0 rfl hk_in0 (by decide) (by rw [hM]; exact hk_t 69 (by decide +kernel) rfl) rfl hI (by rw [hM]; rfl) (fun _ => rfl) (fun _ => rfl) hd ha he hl kk
theorem ivX0_33 (hM : M.1.cls = RX0) (hC : hk_Ct MX0_tellSun d' mc' ms' (.ref a :: As) h Qc) (hd : decode M.2.1 pc = .ok (.invokevirtual 33, 3)) (ha : a < h.1) (he : h.2 a = .inr (0, fs)) (hst : st0 = As.reverse ++ .ref a :: st) (hn : As.length = 3) (hdep : d' + 1 ≤ d) (hrm : k + mc' ≤ mc ∧ n + ms' ≤ ms) (hcat : (st.map fun v => v.category).sum ≤ 8) (kk : ∀ (r : Option Value) (h' : hk_H), Qc r h' → hk_WP M d mc ms (k + mc') (n + ms') (pc + 3) ls (r.toList ++ st) h' Q) : hk_WP M d mc ms k n pc ls st0 h Q :=
  hk_invV hC hk_wX0_tellSun ⟨(by rw [hM]; exact hk_t 58 (by decide +kernel) rfl), hk_t 60 (by decide +kernel) rfl, hk_ts 0 (by decide +kernel) rfl⟩ hd ha he rfl hst hn hdep hrm hcat kk
theorem gfX0_37 (hM : M.1.cls = RX0) {v : Value} (hd : decode M.2.1 pc = .ok (.getfield 37, 3)) (ha : a < h.1) (he : h.2 a = .inr (0, fs)) (hv : fs[0]? = some v) (kk : hk_WP M d mc ms k n (pc + 3) ls (v :: st) h Q) : hk_WP M d mc ms k n pc ls (.ref a :: st) h Q :=
  hk_getf (ci := 0) (kf := 0) (C := RX0) (T := TX0) (N := 7) rfl hk_in0 (by decide) (by rw [hM]; exact hk_t 62 (by decide +kernel) rfl) hd ha he hv kk
theorem pfX0_37 (hM : M.1.cls = RX0) {x : Int32} (hd : decode M.2.1 pc = .ok (.putfield 37, 3)) (ha : a < h.1) (he : h.2 a = .inr (0, fs)) (hl : 0 < fs.length) (kk : hk_WP M d mc ms k n (pc + 3) ls st (hk_up h a (.inr (0, fs.set 0 (.int x)))) Q) : hk_WP M d mc ms k n pc ls (.int x :: .ref a :: st) h Q :=
  hk_putf (ci := 0) (kf := 0) (C := RX0) (T := TX0) (N := 7) tyX0 tyX0_ok nmX0 rfl hk_in0 (by decide) (by rw [hM]; exact hk_t 62 (by decide +kernel) rfl) rfl (fun _ => rfl) (fun _ => rfl) hd ha he hl kk
theorem ivX0_41 (hM : M.1.cls = RX0) (hC : hk_Ct MX6_add d' mc' ms' (.ref a :: As) h Qc) (hd : decode M.2.1 pc = .ok (.invokevirtual 41, 3)) (ha : a < h.1) (he : h.2 a = .inr (6, fs)) (hst : st0 = As.reverse ++ .ref a :: st) (hn : As.length = 0) (hdep : d' + 1 ≤ d) (hrm : k + mc' ≤ mc ∧ n + ms' ≤ ms) (hcat : (st.map fun v => v.category).sum ≤ 8) (kk : ∀ (r : Option Value) (h' : hk_H), Qc r h' → hk_WP M d mc ms (k + mc') (n + ms') (pc + 3) ls (r.toList ++ st) h' Q) : hk_WP M d mc ms k n pc ls st0 h Q :=
  hk_invVN (host := "HackneyStands") hC hk_wX6_add ⟨(by rw [hM]; exact hk_n 261 (by decide +kernel) rfl), hk_t 170 (by decide +kernel) rfl, hk_ts 1 (by decide +kernel) rfl⟩ hd ha he rfl hst hn hdep hrm hcat kk
theorem ivX0_45 (hM : M.1.cls = RX0) (hC : hk_Ct MX6_set d' mc' ms' (.ref a :: As) h Qc) (hd : decode M.2.1 pc = .ok (.invokevirtual 45, 3)) (ha : a < h.1) (he : h.2 a = .inr (6, fs)) (hst : st0 = As.reverse ++ .ref a :: st) (hn : As.length = 3) (hdep : d' + 1 ≤ d) (hrm : k + mc' ≤ mc ∧ n + ms' ≤ ms) (hcat : (st.map fun v => v.category).sum ≤ 8) (kk : ∀ (r : Option Value) (h' : hk_H), Qc r h' → hk_WP M d mc ms (k + mc') (n + ms') (pc + 3) ls (r.toList ++ st) h' Q) : hk_WP M d mc ms k n pc ls st0 h Q :=
  hk_invVN (host := "HackneyStands") hC hk_wX6_set ⟨(by rw [hM]; exact hk_n 262 (by decide +kernel) rfl), hk_t 264 (by decide +kernel) rfl, hk_ts 6 (by decide +kernel) rfl⟩ hd ha he rfl hst hn hdep hrm hcat kk
theorem ivX0_47 (hM : M.1.cls = RX0) (hC : hk_Ct MX6_get d' mc' ms' (.ref a :: As) h Qc) (hd : decode M.2.1 pc = .ok (.invokevirtual 47, 3)) (ha : a < h.1) (he : h.2 a = .inr (6, fs)) (hst : st0 = As.reverse ++ .ref a :: st) (hn : As.length = 2) (hdep : d' + 1 ≤ d) (hrm : k + mc' ≤ mc ∧ n + ms' ≤ ms) (hcat : (st.map fun v => v.category).sum ≤ 8) (kk : ∀ (r : Option Value) (h' : hk_H), Qc r h' → hk_WP M d mc ms (k + mc') (n + ms') (pc + 3) ls (r.toList ++ st) h' Q) : hk_WP M d mc ms k n pc ls st0 h Q :=
  hk_invVN (host := "HackneyStands") hC hk_wX6_get ⟨(by rw [hM]; exact hk_n 279 (by decide +kernel) rfl), hk_t 281 (by decide +kernel) rfl, hk_ts 9 (by decide +kernel) rfl⟩ hd ha he rfl hst hn hdep hrm hcat kk
theorem ivX0_56 (hM : M.1.cls = RX0) (hC : hk_Ct MX0_isCorner d' mc' ms' (.ref a :: As) h Qc) (hd : decode M.2.1 pc = .ok (.invokevirtual 56, 3)) (ha : a < h.1) (he : h.2 a = .inr (0, fs)) (hst : st0 = As.reverse ++ .ref a :: st) (hn : As.length = 1) (hdep : d' + 1 ≤ d) (hrm : k + mc' ≤ mc ∧ n + ms' ≤ ms) (hcat : (st.map fun v => v.category).sum ≤ 8) (kk : ∀ (r : Option Value) (h' : hk_H), Qc r h' → hk_WP M d mc ms (k + mc') (n + ms') (pc + 3) ls (r.toList ++ st) h' Q) : hk_WP M d mc ms k n pc ls st0 h Q :=
  hk_invV hC hk_wX0_isCorner ⟨(by rw [hM]; exact hk_t 316 (by decide +kernel) rfl), hk_t 255 (by decide +kernel) rfl, hk_ts 4 (by decide +kernel) rfl⟩ hd ha he rfl hst hn hdep hrm hcat kk
theorem gfX0_61 (hM : M.1.cls = RX0) {v : Value} (hd : decode M.2.1 pc = .ok (.getfield 61, 3)) (ha : a < h.1) (he : h.2 a = .inr (6, fs)) (hv : fs[3]? = some v) (kk : hk_WP M d mc ms k n (pc + 3) ls (v :: st) h Q) : hk_WP M d mc ms k n pc ls (.ref a :: st) h Q :=
  hk_getfN (ci := 6) (kf := 3) (C := RX6) (T := TX6) (N := 4) (host := "HackneyStands") rfl hk_in6 (by decide) (by rw [hM]; exact hk_n 46 (by decide +kernel) rfl) hd ha he hv kk
theorem ivX0_64 (hM : M.1.cls = RX0) (hC : hk_Ct MX0_isShut d' mc' ms' (.ref a :: As) h Qc) (hd : decode M.2.1 pc = .ok (.invokevirtual 64, 3)) (ha : a < h.1) (he : h.2 a = .inr (0, fs)) (hst : st0 = As.reverse ++ .ref a :: st) (hn : As.length = 2) (hdep : d' + 1 ≤ d) (hrm : k + mc' ≤ mc ∧ n + ms' ≤ ms) (hcat : (st.map fun v => v.category).sum ≤ 8) (kk : ∀ (r : Option Value) (h' : hk_H), Qc r h' → hk_WP M d mc ms (k + mc') (n + ms') (pc + 3) ls (r.toList ++ st) h' Q) : hk_WP M d mc ms k n pc ls st0 h Q :=
  hk_invV hC hk_wX0_isShut ⟨(by rw [hM]; exact hk_t 299 (by decide +kernel) rfl), hk_t 301 (by decide +kernel) rfl, hk_ts 11 (by decide +kernel) rfl⟩ hd ha he rfl hst hn hdep hrm hcat kk
theorem ivX0_68 (hM : M.1.cls = RX0) (hC : hk_Ct MX0_lowerAll d' mc' ms' (.ref a :: As) h Qc) (hd : decode M.2.1 pc = .ok (.invokevirtual 68, 3)) (ha : a < h.1) (he : h.2 a = .inr (0, fs)) (hst : st0 = As.reverse ++ .ref a :: st) (hn : As.length = 0) (hdep : d' + 1 ≤ d) (hrm : k + mc' ≤ mc ∧ n + ms' ≤ ms) (hcat : (st.map fun v => v.category).sum ≤ 8) (kk : ∀ (r : Option Value) (h' : hk_H), Qc r h' → hk_WP M d mc ms (k + mc') (n + ms') (pc + 3) ls (r.toList ++ st) h' Q) : hk_WP M d mc ms k n pc ls st0 h Q :=
  hk_invV hC hk_wX0_lowerAll ⟨(by rw [hM]; exact hk_t 304 (by decide +kernel) rfl), hk_t 306 (by decide +kernel) rfl, hk_ts 12 (by decide +kernel) rfl⟩ hd ha he rfl hst hn hdep hrm hcat kk
theorem ivX0_72 (hM : M.1.cls = RX0) (hC : hk_Ct MX0_isOpen d' mc' ms' (.ref a :: As) h Qc) (hd : decode M.2.1 pc = .ok (.invokevirtual 72, 3)) (ha : a < h.1) (he : h.2 a = .inr (0, fs)) (hst : st0 = As.reverse ++ .ref a :: st) (hn : As.length = 1) (hdep : d' + 1 ≤ d) (hrm : k + mc' ≤ mc ∧ n + ms' ≤ ms) (hcat : (st.map fun v => v.category).sum ≤ 8) (kk : ∀ (r : Option Value) (h' : hk_H), Qc r h' → hk_WP M d mc ms (k + mc') (n + ms') (pc + 3) ls (r.toList ++ st) h' Q) : hk_WP M d mc ms k n pc ls st0 h Q :=
  hk_invV hC hk_wX0_isOpen ⟨(by rw [hM]; exact hk_t 308 (by decide +kernel) rfl), hk_t 310 (by decide +kernel) rfl, hk_ts 13 (by decide +kernel) rfl⟩ hd ha he rfl hst hn hdep hrm hcat kk
theorem ivX0_75 (hM : M.1.cls = RX0) (hC : hk_Ct MX0_costFrom d' mc' ms' (.ref a :: As) h Qc) (hd : decode M.2.1 pc = .ok (.invokevirtual 75, 3)) (ha : a < h.1) (he : h.2 a = .inr (0, fs)) (hst : st0 = As.reverse ++ .ref a :: st) (hn : As.length = 1) (hdep : d' + 1 ≤ d) (hrm : k + mc' ≤ mc ∧ n + ms' ≤ ms) (hcat : (st.map fun v => v.category).sum ≤ 8) (kk : ∀ (r : Option Value) (h' : hk_H), Qc r h' → hk_WP M d mc ms (k + mc') (n + ms') (pc + 3) ls (r.toList ++ st) h' Q) : hk_WP M d mc ms k n pc ls st0 h Q :=
  hk_invV hC hk_wX0_costFrom ⟨(by rw [hM]; exact hk_t 312 (by decide +kernel) rfl), hk_t 314 (by decide +kernel) rfl, hk_ts 14 (by decide +kernel) rfl⟩ hd ha he rfl hst hn hdep hrm hcat kk
theorem ivX0_79 (hM : M.1.cls = RX0) (hC : hk_Ct MX0_lower d' mc' ms' (.ref a :: As) h Qc) (hd : decode M.2.1 pc = .ok (.invokevirtual 79, 3)) (ha : a < h.1) (he : h.2 a = .inr (0, fs)) (hst : st0 = As.reverse ++ .ref a :: st) (hn : As.length = 2) (hdep : d' + 1 ≤ d) (hrm : k + mc' ≤ mc ∧ n + ms' ≤ ms) (hcat : (st.map fun v => v.category).sum ≤ 8) (kk : ∀ (r : Option Value) (h' : hk_H), Qc r h' → hk_WP M d mc ms (k + mc') (n + ms') (pc + 3) ls (r.toList ++ st) h' Q) : hk_WP M d mc ms k n pc ls st0 h Q :=
  hk_invV hC hk_wX0_lower ⟨(by rw [hM]; exact hk_t 317 (by decide +kernel) rfl), hk_t 319 (by decide +kernel) rfl, hk_ts 15 (by decide +kernel) rfl⟩ hd ha he rfl hst hn hdep hrm hcat kk
theorem gfX0_82 (hM : M.1.cls = RX0) {v : Value} (hd : decode M.2.1 pc = .ok (.getfield 82, 3)) (ha : a < h.1) (he : h.2 a = .inr (0, fs)) (hv : fs[6]? = some v) (kk : hk_WP M d mc ms k n (pc + 3) ls (v :: st) h Q) : hk_WP M d mc ms k n pc ls (.ref a :: st) h Q :=
  hk_getf (ci := 0) (kf := 6) (C := RX0) (T := TX0) (N := 7) rfl hk_in0 (by decide) (by rw [hM]; exact hk_t 70 (by decide +kernel) rfl) hd ha he hv kk
theorem pfX0_82 (hM : M.1.cls = RX0) {x : Int32} (hd : decode M.2.1 pc = .ok (.putfield 82, 3)) (ha : a < h.1) (he : h.2 a = .inr (0, fs)) (hl : 6 < fs.length) (kk : hk_WP M d mc ms k n (pc + 3) ls st (hk_up h a (.inr (0, fs.set 6 (.int x)))) Q) : hk_WP M d mc ms k n pc ls (.int x :: .ref a :: st) h Q :=
  hk_putf (ci := 0) (kf := 6) (C := RX0) (T := TX0) (N := 7) tyX0 tyX0_ok nmX0 rfl hk_in0 (by decide) (by rw [hM]; exact hk_t 70 (by decide +kernel) rfl) rfl (fun _ => rfl) (fun _ => rfl) hd ha he hl kk
theorem ivX0_85 (hM : M.1.cls = RX0) (hC : hk_Ct MX0_leastNext d' mc' ms' (.ref a :: As) h Qc) (hd : decode M.2.1 pc = .ok (.invokevirtual 85, 3)) (ha : a < h.1) (he : h.2 a = .inr (0, fs)) (hst : st0 = As.reverse ++ .ref a :: st) (hn : As.length = 1) (hdep : d' + 1 ≤ d) (hrm : k + mc' ≤ mc ∧ n + ms' ≤ ms) (hcat : (st.map fun v => v.category).sum ≤ 8) (kk : ∀ (r : Option Value) (h' : hk_H), Qc r h' → hk_WP M d mc ms (k + mc') (n + ms') (pc + 3) ls (r.toList ++ st) h' Q) : hk_WP M d mc ms k n pc ls st0 h Q :=
  hk_invV hC hk_wX0_leastNext ⟨(by rw [hM]; exact hk_t 329 (by decide +kernel) rfl), hk_t 331 (by decide +kernel) rfl, hk_ts 18 (by decide +kernel) rfl⟩ hd ha he rfl hst hn hdep hrm hcat kk
theorem ivX1_11 (hM : M.1.cls = RX1) (hC : hk_Ct MX6_init d' mc' ms' (.ref a :: As) h Qc) (hd : decode M.2.1 pc = .ok (.invokespecial 11, 3)) (hst : st0 = As.reverse ++ .ref a :: st) (hn : As.length = 2) (hdep : d' + 1 ≤ d) (hrm : k + mc' ≤ mc ∧ n + ms' ≤ ms) (hcat : (st.map fun v => v.category).sum ≤ 8) (kk : ∀ (r : Option Value) (h' : hk_H), Qc r h' → hk_WP M d mc ms (k + mc') (n + ms') (pc + 3) ls (r.toList ++ st) h' Q) : hk_WP M d mc ms k n pc ls st0 h Q :=
  hk_invIN (host := "HackneyStands") hC hk_wX6_init rfl ⟨(by rw [hM]; exact hk_n 196 (by decide +kernel) rfl), hk_t 36 (by decide +kernel) rfl⟩ hd hst hn hdep hrm hcat kk
theorem gfX1_14 (hM : M.1.cls = RX1) {v : Value} (hd : decode M.2.1 pc = .ok (.getfield 14, 3)) (ha : a < h.1) (he : h.2 a = .inr (1, fs)) (hv : fs[0]? = some v) (kk : hk_WP M d mc ms k n (pc + 3) ls (v :: st) h Q) : hk_WP M d mc ms k n pc ls (.ref a :: st) h Q :=
  hk_getf (ci := 1) (kf := 0) (C := RX1) (T := TX1) (N := 1) rfl hk_in1 (by decide) (by rw [hM]; exact hk_t 197 (by decide +kernel) rfl) hd ha he hv kk
theorem pfX1_14 (hM : M.1.cls = RX1) {x : Nat} (hd : decode M.2.1 pc = .ok (.putfield 14, 3)) (ha : a < h.1) (he : h.2 a = .inr (1, fs)) (hl : 0 < fs.length) (hI : M.1.name = "<init>") (kk : hk_WP M d mc ms k n (pc + 3) ls st (hk_up h a (.inr (1, fs.set 0 (.ref x)))) Q) : hk_WP M d mc ms k n pc ls (.ref x :: .ref a :: st) h Q :=
  hk_putF (ci := 1) (kf := 0) (C := RX1) (T := TX1) (N := 1) tyX1 tyX1_ok nmX1 rfl hk_in1 (by decide) (by rw [hM]; exact hk_t 197 (by decide +kernel) rfl) rfl hI (by rw [hM]; rfl) (fun _ => rfl) (fun _ => rfl) hd ha he hl kk
theorem gfX1_20 (hM : M.1.cls = RX1) {v : Value} (hd : decode M.2.1 pc = .ok (.getfield 20, 3)) (ha : a < h.1) (he : h.2 a = .inr (6, fs)) (hv : fs[3]? = some v) (kk : hk_WP M d mc ms k n (pc + 3) ls (v :: st) h Q) : hk_WP M d mc ms k n pc ls (.ref a :: st) h Q :=
  hk_getfN (ci := 6) (kf := 3) (C := RX6) (T := TX6) (N := 4) (host := "HackneyStands") rfl hk_in6 (by decide) (by rw [hM]; exact hk_n 44 (by decide +kernel) rfl) hd ha he hv kk
theorem ivX1_24 (hM : M.1.cls = RX1) (hC : hk_Ct MX6_get d' mc' ms' (.ref a :: As) h Qc) (hd : decode M.2.1 pc = .ok (.invokevirtual 24, 3)) (ha : a < h.1) (he : h.2 a = .inr (6, fs)) (hst : st0 = As.reverse ++ .ref a :: st) (hn : As.length = 2) (hdep : d' + 1 ≤ d) (hrm : k + mc' ≤ mc ∧ n + ms' ≤ ms) (hcat : (st.map fun v => v.category).sum ≤ 8) (kk : ∀ (r : Option Value) (h' : hk_H), Qc r h' → hk_WP M d mc ms (k + mc') (n + ms') (pc + 3) ls (r.toList ++ st) h' Q) : hk_WP M d mc ms k n pc ls st0 h Q :=
  hk_invVN (host := "HackneyStands") hC hk_wX6_get ⟨(by rw [hM]; exact hk_n 808 (by decide +kernel) rfl), hk_t 281 (by decide +kernel) rfl, hk_ts 9 (by decide +kernel) rfl⟩ hd ha he rfl hst hn hdep hrm hcat kk
theorem ivX1_28 (hM : M.1.cls = RX1) (hC : hk_Ct MX6_add d' mc' ms' (.ref a :: As) h Qc) (hd : decode M.2.1 pc = .ok (.invokevirtual 28, 3)) (ha : a < h.1) (he : h.2 a = .inr (6, fs)) (hst : st0 = As.reverse ++ .ref a :: st) (hn : As.length = 0) (hdep : d' + 1 ≤ d) (hrm : k + mc' ≤ mc ∧ n + ms' ≤ ms) (hcat : (st.map fun v => v.category).sum ≤ 8) (kk : ∀ (r : Option Value) (h' : hk_H), Qc r h' → hk_WP M d mc ms (k + mc') (n + ms') (pc + 3) ls (r.toList ++ st) h' Q) : hk_WP M d mc ms k n pc ls st0 h Q :=
  hk_invVN (host := "HackneyStands") hC hk_wX6_add ⟨(by rw [hM]; exact hk_n 813 (by decide +kernel) rfl), hk_t 170 (by decide +kernel) rfl, hk_ts 1 (by decide +kernel) rfl⟩ hd ha he rfl hst hn hdep hrm hcat kk
theorem ivX1_32 (hM : M.1.cls = RX1) (hC : hk_Ct MX6_set d' mc' ms' (.ref a :: As) h Qc) (hd : decode M.2.1 pc = .ok (.invokevirtual 32, 3)) (ha : a < h.1) (he : h.2 a = .inr (6, fs)) (hst : st0 = As.reverse ++ .ref a :: st) (hn : As.length = 3) (hdep : d' + 1 ≤ d) (hrm : k + mc' ≤ mc ∧ n + ms' ≤ ms) (hcat : (st.map fun v => v.category).sum ≤ 8) (kk : ∀ (r : Option Value) (h' : hk_H), Qc r h' → hk_WP M d mc ms (k + mc') (n + ms') (pc + 3) ls (r.toList ++ st) h' Q) : hk_WP M d mc ms k n pc ls st0 h Q :=
  hk_invVN (host := "HackneyStands") hC hk_wX6_set ⟨(by rw [hM]; exact hk_n 814 (by decide +kernel) rfl), hk_t 264 (by decide +kernel) rfl, hk_ts 6 (by decide +kernel) rfl⟩ hd ha he rfl hst hn hdep hrm hcat kk
theorem ivX2_13 (hM : M.1.cls = RX2) (hC : hk_Ct MX6_init d' mc' ms' (.ref a :: As) h Qc) (hd : decode M.2.1 pc = .ok (.invokespecial 13, 3)) (hst : st0 = As.reverse ++ .ref a :: st) (hn : As.length = 2) (hdep : d' + 1 ≤ d) (hrm : k + mc' ≤ mc ∧ n + ms' ≤ ms) (hcat : (st.map fun v => v.category).sum ≤ 8) (kk : ∀ (r : Option Value) (h' : hk_H), Qc r h' → hk_WP M d mc ms (k + mc') (n + ms') (pc + 3) ls (r.toList ++ st) h' Q) : hk_WP M d mc ms k n pc ls st0 h Q :=
  hk_invIN (host := "HackneyStands") hC hk_wX6_init rfl ⟨(by rw [hM]; exact hk_n 93 (by decide +kernel) rfl), hk_t 36 (by decide +kernel) rfl⟩ hd hst hn hdep hrm hcat kk
theorem gfX2_16 (hM : M.1.cls = RX2) {v : Value} (hd : decode M.2.1 pc = .ok (.getfield 16, 3)) (ha : a < h.1) (he : h.2 a = .inr (2, fs)) (hv : fs[0]? = some v) (kk : hk_WP M d mc ms k n (pc + 3) ls (v :: st) h Q) : hk_WP M d mc ms k n pc ls (.ref a :: st) h Q :=
  hk_getf (ci := 2) (kf := 0) (C := RX2) (T := TX2) (N := 3) rfl hk_in2 (by decide) (by rw [hM]; exact hk_t 94 (by decide +kernel) rfl) hd ha he hv kk
theorem pfX2_16 (hM : M.1.cls = RX2) {x : Nat} (hd : decode M.2.1 pc = .ok (.putfield 16, 3)) (ha : a < h.1) (he : h.2 a = .inr (2, fs)) (hl : 0 < fs.length) (hI : M.1.name = "<init>") (kk : hk_WP M d mc ms k n (pc + 3) ls st (hk_up h a (.inr (2, fs.set 0 (.ref x)))) Q) : hk_WP M d mc ms k n pc ls (.ref x :: .ref a :: st) h Q :=
  hk_putF (ci := 2) (kf := 0) (C := RX2) (T := TX2) (N := 3) tyX2 tyX2_ok nmX2 rfl hk_in2 (by decide) (by rw [hM]; exact hk_t 94 (by decide +kernel) rfl) rfl hI (by rw [hM]; rfl) (fun _ => rfl) (fun _ => rfl) hd ha he hl kk
theorem gfX2_20 (hM : M.1.cls = RX2) {v : Value} (hd : decode M.2.1 pc = .ok (.getfield 20, 3)) (ha : a < h.1) (he : h.2 a = .inr (2, fs)) (hv : fs[1]? = some v) (kk : hk_WP M d mc ms k n (pc + 3) ls (v :: st) h Q) : hk_WP M d mc ms k n pc ls (.ref a :: st) h Q :=
  hk_getf (ci := 2) (kf := 1) (C := RX2) (T := TX2) (N := 3) rfl hk_in2 (by decide) (by rw [hM]; exact hk_t 96 (by decide +kernel) rfl) hd ha he hv kk
theorem pfX2_20 (hM : M.1.cls = RX2) {x : Nat} (hd : decode M.2.1 pc = .ok (.putfield 20, 3)) (ha : a < h.1) (he : h.2 a = .inr (2, fs)) (hl : 1 < fs.length) (hI : M.1.name = "<init>") (kk : hk_WP M d mc ms k n (pc + 3) ls st (hk_up h a (.inr (2, fs.set 1 (.ref x)))) Q) : hk_WP M d mc ms k n pc ls (.ref x :: .ref a :: st) h Q :=
  hk_putF (ci := 2) (kf := 1) (C := RX2) (T := TX2) (N := 3) tyX2 tyX2_ok nmX2 rfl hk_in2 (by decide) (by rw [hM]; exact hk_t 96 (by decide +kernel) rfl) rfl hI (by rw [hM]; rfl) (fun _ => rfl) (fun _ => rfl) hd ha he hl kk
theorem gfX2_23 (hM : M.1.cls = RX2) {v : Value} (hd : decode M.2.1 pc = .ok (.getfield 23, 3)) (ha : a < h.1) (he : h.2 a = .inr (2, fs)) (hv : fs[2]? = some v) (kk : hk_WP M d mc ms k n (pc + 3) ls (v :: st) h Q) : hk_WP M d mc ms k n pc ls (.ref a :: st) h Q :=
  hk_getf (ci := 2) (kf := 2) (C := RX2) (T := TX2) (N := 3) rfl hk_in2 (by decide) (by rw [hM]; exact hk_t 98 (by decide +kernel) rfl) hd ha he hv kk
theorem pfX2_23 (hM : M.1.cls = RX2) {x : Nat} (hd : decode M.2.1 pc = .ok (.putfield 23, 3)) (ha : a < h.1) (he : h.2 a = .inr (2, fs)) (hl : 2 < fs.length) (hI : M.1.name = "<init>") (kk : hk_WP M d mc ms k n (pc + 3) ls st (hk_up h a (.inr (2, fs.set 2 (.ref x)))) Q) : hk_WP M d mc ms k n pc ls (.ref x :: .ref a :: st) h Q :=
  hk_putF (ci := 2) (kf := 2) (C := RX2) (T := TX2) (N := 3) tyX2 tyX2_ok nmX2 rfl hk_in2 (by decide) (by rw [hM]; exact hk_t 98 (by decide +kernel) rfl) rfl hI (by rw [hM]; rfl) (fun _ => rfl) (fun _ => rfl) hd ha he hl kk
theorem gfX2_26 (hM : M.1.cls = RX2) {v : Value} (hd : decode M.2.1 pc = .ok (.getfield 26, 3)) (ha : a < h.1) (he : h.2 a = .inr (6, fs)) (hv : fs[3]? = some v) (kk : hk_WP M d mc ms k n (pc + 3) ls (v :: st) h Q) : hk_WP M d mc ms k n pc ls (.ref a :: st) h Q :=
  hk_getfN (ci := 6) (kf := 3) (C := RX6) (T := TX6) (N := 4) (host := "HackneyStands") rfl hk_in6 (by decide) (by rw [hM]; exact hk_n 43 (by decide +kernel) rfl) hd ha he hv kk
theorem ivX2_30 (hM : M.1.cls = RX2) (hC : hk_Ct MX6_get d' mc' ms' (.ref a :: As) h Qc) (hd : decode M.2.1 pc = .ok (.invokevirtual 30, 3)) (ha : a < h.1) (he : h.2 a = .inr (6, fs)) (hst : st0 = As.reverse ++ .ref a :: st) (hn : As.length = 2) (hdep : d' + 1 ≤ d) (hrm : k + mc' ≤ mc ∧ n + ms' ≤ ms) (hcat : (st.map fun v => v.category).sum ≤ 8) (kk : ∀ (r : Option Value) (h' : hk_H), Qc r h' → hk_WP M d mc ms (k + mc') (n + ms') (pc + 3) ls (r.toList ++ st) h' Q) : hk_WP M d mc ms k n pc ls st0 h Q :=
  hk_invVN (host := "HackneyStands") hC hk_wX6_get ⟨(by rw [hM]; exact hk_n 360 (by decide +kernel) rfl), hk_t 281 (by decide +kernel) rfl, hk_ts 9 (by decide +kernel) rfl⟩ hd ha he rfl hst hn hdep hrm hcat kk
theorem ivX2_34 (hM : M.1.cls = RX2) (hC : hk_Ct MX6_add d' mc' ms' (.ref a :: As) h Qc) (hd : decode M.2.1 pc = .ok (.invokevirtual 34, 3)) (ha : a < h.1) (he : h.2 a = .inr (6, fs)) (hst : st0 = As.reverse ++ .ref a :: st) (hn : As.length = 0) (hdep : d' + 1 ≤ d) (hrm : k + mc' ≤ mc ∧ n + ms' ≤ ms) (hcat : (st.map fun v => v.category).sum ≤ 8) (kk : ∀ (r : Option Value) (h' : hk_H), Qc r h' → hk_WP M d mc ms (k + mc') (n + ms') (pc + 3) ls (r.toList ++ st) h' Q) : hk_WP M d mc ms k n pc ls st0 h Q :=
  hk_invVN (host := "HackneyStands") hC hk_wX6_add ⟨(by rw [hM]; exact hk_n 365 (by decide +kernel) rfl), hk_t 170 (by decide +kernel) rfl, hk_ts 1 (by decide +kernel) rfl⟩ hd ha he rfl hst hn hdep hrm hcat kk
theorem ivX2_38 (hM : M.1.cls = RX2) (hC : hk_Ct MX6_set d' mc' ms' (.ref a :: As) h Qc) (hd : decode M.2.1 pc = .ok (.invokevirtual 38, 3)) (ha : a < h.1) (he : h.2 a = .inr (6, fs)) (hst : st0 = As.reverse ++ .ref a :: st) (hn : As.length = 3) (hdep : d' + 1 ≤ d) (hrm : k + mc' ≤ mc ∧ n + ms' ≤ ms) (hcat : (st.map fun v => v.category).sum ≤ 8) (kk : ∀ (r : Option Value) (h' : hk_H), Qc r h' → hk_WP M d mc ms (k + mc') (n + ms') (pc + 3) ls (r.toList ++ st) h' Q) : hk_WP M d mc ms k n pc ls st0 h Q :=
  hk_invVN (host := "HackneyStands") hC hk_wX6_set ⟨(by rw [hM]; exact hk_n 366 (by decide +kernel) rfl), hk_t 264 (by decide +kernel) rfl, hk_ts 6 (by decide +kernel) rfl⟩ hd ha he rfl hst hn hdep hrm hcat kk
theorem ivX2_42 (hM : M.1.cls = RX2) (hC : hk_Ct MX2_settle d' mc' ms' (.ref a :: As) h Qc) (hd : decode M.2.1 pc = .ok (.invokevirtual 42, 3)) (ha : a < h.1) (he : h.2 a = .inr (2, fs)) (hst : st0 = As.reverse ++ .ref a :: st) (hn : As.length = 3) (hdep : d' + 1 ≤ d) (hrm : k + mc' ≤ mc ∧ n + ms' ≤ ms) (hcat : (st.map fun v => v.category).sum ≤ 8) (kk : ∀ (r : Option Value) (h' : hk_H), Qc r h' → hk_WP M d mc ms (k + mc') (n + ms') (pc + 3) ls (r.toList ++ st) h' Q) : hk_WP M d mc ms k n pc ls st0 h Q :=
  hk_invV hC hk_wX2_settle ⟨(by rw [hM]; exact hk_t 367 (by decide +kernel) rfl), hk_t 369 (by decide +kernel) rfl, hk_ts 23 (by decide +kernel) rfl⟩ hd ha he rfl hst hn hdep hrm hcat kk
theorem ivX2_45 (hM : M.1.cls = RX2) (hC : hk_Ct MX2_isStanding d' mc' ms' (.ref a :: As) h Qc) (hd : decode M.2.1 pc = .ok (.invokevirtual 45, 3)) (ha : a < h.1) (he : h.2 a = .inr (2, fs)) (hst : st0 = As.reverse ++ .ref a :: st) (hn : As.length = 1) (hdep : d' + 1 ≤ d) (hrm : k + mc' ≤ mc ∧ n + ms' ≤ ms) (hcat : (st.map fun v => v.category).sum ≤ 8) (kk : ∀ (r : Option Value) (h' : hk_H), Qc r h' → hk_WP M d mc ms (k + mc') (n + ms') (pc + 3) ls (r.toList ++ st) h' Q) : hk_WP M d mc ms k n pc ls st0 h Q :=
  hk_invV hC hk_wX2_isStanding ⟨(by rw [hM]; exact hk_t 413 (by decide +kernel) rfl), hk_t 415 (by decide +kernel) rfl, hk_ts 30 (by decide +kernel) rfl⟩ hd ha he rfl hst hn hdep hrm hcat kk
theorem ivX2_49 (hM : M.1.cls = RX2) (hC : hk_Ct MX2_rowLength d' mc' ms' (.ref a :: As) h Qc) (hd : decode M.2.1 pc = .ok (.invokevirtual 49, 3)) (ha : a < h.1) (he : h.2 a = .inr (2, fs)) (hst : st0 = As.reverse ++ .ref a :: st) (hn : As.length = 1) (hdep : d' + 1 ≤ d) (hrm : k + mc' ≤ mc ∧ n + ms' ≤ ms) (hcat : (st.map fun v => v.category).sum ≤ 8) (kk : ∀ (r : Option Value) (h' : hk_H), Qc r h' → hk_WP M d mc ms (k + mc') (n + ms') (pc + 3) ls (r.toList ++ st) h' Q) : hk_WP M d mc ms k n pc ls st0 h Q :=
  hk_invV hC hk_wX2_rowLength ⟨(by rw [hM]; exact hk_t 424 (by decide +kernel) rfl), hk_t 426 (by decide +kernel) rfl, hk_ts 32 (by decide +kernel) rfl⟩ hd ha he rfl hst hn hdep hrm hcat kk
theorem ivX2_53 (hM : M.1.cls = RX2) (hC : hk_Ct MX2_coachInRow d' mc' ms' (.ref a :: As) h Qc) (hd : decode M.2.1 pc = .ok (.invokevirtual 53, 3)) (ha : a < h.1) (he : h.2 a = .inr (2, fs)) (hst : st0 = As.reverse ++ .ref a :: st) (hn : As.length = 2) (hdep : d' + 1 ≤ d) (hrm : k + mc' ≤ mc ∧ n + ms' ≤ ms) (hcat : (st.map fun v => v.category).sum ≤ 8) (kk : ∀ (r : Option Value) (h' : hk_H), Qc r h' → hk_WP M d mc ms (k + mc') (n + ms') (pc + 3) ls (r.toList ++ st) h' Q) : hk_WP M d mc ms k n pc ls st0 h Q :=
  hk_invV hC hk_wX2_coachInRow ⟨(by rw [hM]; exact hk_t 428 (by decide +kernel) rfl), hk_t 430 (by decide +kernel) rfl, hk_ts 33 (by decide +kernel) rfl⟩ hd ha he rfl hst hn hdep hrm hcat kk
theorem ivX2_56 (hM : M.1.cls = RX2) (hC : hk_Ct MX2_isMoving d' mc' ms' (.ref a :: As) h Qc) (hd : decode M.2.1 pc = .ok (.invokevirtual 56, 3)) (ha : a < h.1) (he : h.2 a = .inr (2, fs)) (hst : st0 = As.reverse ++ .ref a :: st) (hn : As.length = 1) (hdep : d' + 1 ≤ d) (hrm : k + mc' ≤ mc ∧ n + ms' ≤ ms) (hcat : (st.map fun v => v.category).sum ≤ 8) (kk : ∀ (r : Option Value) (h' : hk_H), Qc r h' → hk_WP M d mc ms (k + mc') (n + ms') (pc + 3) ls (r.toList ++ st) h' Q) : hk_WP M d mc ms k n pc ls st0 h Q :=
  hk_invV hC hk_wX2_isMoving ⟨(by rw [hM]; exact hk_t 764 (by decide +kernel) rfl), hk_t 407 (by decide +kernel) rfl, hk_ts 28 (by decide +kernel) rfl⟩ hd ha he rfl hst hn hdep hrm hcat kk
theorem ivX2_59 (hM : M.1.cls = RX2) (hC : hk_Ct MX2_gainOf d' mc' ms' As h Qc) (hd : decode M.2.1 pc = .ok (.invokestatic 59, 3)) (hst : st0 = As.reverse ++ st) (hn : As.length = 1) (hdep : d' + 1 ≤ d) (hrm : k + mc' ≤ mc ∧ n + ms' ≤ ms) (hcat : (st.map fun v => v.category).sum ≤ 8) (kk : ∀ (r : Option Value) (h' : hk_H), Qc r h' → hk_WP M d mc ms (k + mc') (n + ms') (pc + 3) ls (r.toList ++ st) h' Q) : hk_WP M d mc ms k n pc ls st0 h Q :=
  hk_invS hC hk_wX2_gainOf ⟨(by rw [hM]; exact hk_t 773 (by decide +kernel) rfl), hk_t 774 (by decide +kernel) rfl⟩ hd hst hn hdep hrm hcat kk
theorem gfX3_7 (hM : M.1.cls = RX3) {v : Value} (hd : decode M.2.1 pc = .ok (.getfield 7, 3)) (ha : a < h.1) (he : h.2 a = .inr (3, fs)) (hv : fs[0]? = some v) (kk : hk_WP M d mc ms k n (pc + 3) ls (v :: st) h Q) : hk_WP M d mc ms k n pc ls (.ref a :: st) h Q :=
  hk_getf (ci := 3) (kf := 0) (C := RX3) (T := TX3) (N := 4) rfl hk_in3 (by decide) (by rw [hM]; exact hk_t 654 (by decide +kernel) rfl) hd ha he hv kk
theorem pfX3_7 (hM : M.1.cls = RX3) {x : Int32} (hd : decode M.2.1 pc = .ok (.putfield 7, 3)) (ha : a < h.1) (he : h.2 a = .inr (3, fs)) (hl : 0 < fs.length) (hI : M.1.name = "<init>") (kk : hk_WP M d mc ms k n (pc + 3) ls st (hk_up h a (.inr (3, fs.set 0 (.int x)))) Q) : hk_WP M d mc ms k n pc ls (.int x :: .ref a :: st) h Q :=
  hk_putF (ci := 3) (kf := 0) (C := RX3) (T := TX3) (N := 4) tyX3 tyX3_ok nmX3 rfl hk_in3 (by decide) (by rw [hM]; exact hk_t 654 (by decide +kernel) rfl) rfl hI (by rw [hM]; rfl) (fun _ => rfl) (fun _ => rfl) hd ha he hl kk
theorem gfX3_13 (hM : M.1.cls = RX3) {v : Value} (hd : decode M.2.1 pc = .ok (.getfield 13, 3)) (ha : a < h.1) (he : h.2 a = .inr (3, fs)) (hv : fs[1]? = some v) (kk : hk_WP M d mc ms k n (pc + 3) ls (v :: st) h Q) : hk_WP M d mc ms k n pc ls (.ref a :: st) h Q :=
  hk_getf (ci := 3) (kf := 1) (C := RX3) (T := TX3) (N := 4) rfl hk_in3 (by decide) (by rw [hM]; exact hk_t 656 (by decide +kernel) rfl) hd ha he hv kk
theorem pfX3_13 (hM : M.1.cls = RX3) {x : Int32} (hd : decode M.2.1 pc = .ok (.putfield 13, 3)) (ha : a < h.1) (he : h.2 a = .inr (3, fs)) (hl : 1 < fs.length) (hI : M.1.name = "<init>") (kk : hk_WP M d mc ms k n (pc + 3) ls st (hk_up h a (.inr (3, fs.set 1 (.int x)))) Q) : hk_WP M d mc ms k n pc ls (.int x :: .ref a :: st) h Q :=
  hk_putF (ci := 3) (kf := 1) (C := RX3) (T := TX3) (N := 4) tyX3 tyX3_ok nmX3 rfl hk_in3 (by decide) (by rw [hM]; exact hk_t 656 (by decide +kernel) rfl) rfl hI (by rw [hM]; rfl) (fun _ => rfl) (fun _ => rfl) hd ha he hl kk
theorem gfX3_16 (hM : M.1.cls = RX3) {v : Value} (hd : decode M.2.1 pc = .ok (.getfield 16, 3)) (ha : a < h.1) (he : h.2 a = .inr (3, fs)) (hv : fs[2]? = some v) (kk : hk_WP M d mc ms k n (pc + 3) ls (v :: st) h Q) : hk_WP M d mc ms k n pc ls (.ref a :: st) h Q :=
  hk_getf (ci := 3) (kf := 2) (C := RX3) (T := TX3) (N := 4) rfl hk_in3 (by decide) (by rw [hM]; exact hk_t 658 (by decide +kernel) rfl) hd ha he hv kk
theorem pfX3_16 (hM : M.1.cls = RX3) {x : Int32} (hd : decode M.2.1 pc = .ok (.putfield 16, 3)) (ha : a < h.1) (he : h.2 a = .inr (3, fs)) (hl : 2 < fs.length) (hI : M.1.name = "<init>") (kk : hk_WP M d mc ms k n (pc + 3) ls st (hk_up h a (.inr (3, fs.set 2 (.int x)))) Q) : hk_WP M d mc ms k n pc ls (.int x :: .ref a :: st) h Q :=
  hk_putF (ci := 3) (kf := 2) (C := RX3) (T := TX3) (N := 4) tyX3 tyX3_ok nmX3 rfl hk_in3 (by decide) (by rw [hM]; exact hk_t 658 (by decide +kernel) rfl) rfl hI (by rw [hM]; rfl) (fun _ => rfl) (fun _ => rfl) hd ha he hl kk
theorem gfX3_19 (hM : M.1.cls = RX3) {v : Value} (hd : decode M.2.1 pc = .ok (.getfield 19, 3)) (ha : a < h.1) (he : h.2 a = .inr (3, fs)) (hv : fs[3]? = some v) (kk : hk_WP M d mc ms k n (pc + 3) ls (v :: st) h Q) : hk_WP M d mc ms k n pc ls (.ref a :: st) h Q :=
  hk_getf (ci := 3) (kf := 3) (C := RX3) (T := TX3) (N := 4) rfl hk_in3 (by decide) (by rw [hM]; exact hk_t 660 (by decide +kernel) rfl) hd ha he hv kk
theorem pfX3_19 (hM : M.1.cls = RX3) {x : Nat} (hd : decode M.2.1 pc = .ok (.putfield 19, 3)) (ha : a < h.1) (he : h.2 a = .inr (3, fs)) (hl : 3 < fs.length) (hI : M.1.name = "<init>") (kk : hk_WP M d mc ms k n (pc + 3) ls st (hk_up h a (.inr (3, fs.set 3 (.ref x)))) Q) : hk_WP M d mc ms k n pc ls (.ref x :: .ref a :: st) h Q :=
  hk_putF (ci := 3) (kf := 3) (C := RX3) (T := TX3) (N := 4) tyX3 tyX3_ok nmX3 rfl hk_in3 (by decide) (by rw [hM]; exact hk_t 660 (by decide +kernel) rfl) rfl hI (by rw [hM]; rfl) (fun _ => rfl) (fun _ => rfl) hd ha he hl kk
theorem ivX3_23 (hM : M.1.cls = RX3) (hC : hk_Ct MX3_nameAt d' mc' ms' As h Qc) (hd : decode M.2.1 pc = .ok (.invokestatic 23, 3)) (hst : st0 = As.reverse ++ st) (hn : As.length = 2) (hdep : d' + 1 ≤ d) (hrm : k + mc' ≤ mc ∧ n + ms' ≤ ms) (hcat : (st.map fun v => v.category).sum ≤ 8) (kk : ∀ (r : Option Value) (h' : hk_H), Qc r h' → hk_WP M d mc ms (k + mc') (n + ms') (pc + 3) ls (r.toList ++ st) h' Q) : hk_WP M d mc ms k n pc ls st0 h Q :=
  hk_invS hC hk_wX3_nameAt ⟨(by rw [hM]; exact hk_t 499 (by decide +kernel) rfl), hk_t 500 (by decide +kernel) rfl⟩ hd hst hn hdep hrm hcat kk
theorem ivX3_33 (hM : M.1.cls = RX3) (hC : hk_Ct MX3_reckoned d' mc' ms' As h Qc) (hd : decode M.2.1 pc = .ok (.invokestatic 33, 3)) (hst : st0 = As.reverse ++ st) (hn : As.length = 3) (hdep : d' + 1 ≤ d) (hrm : k + mc' ≤ mc ∧ n + ms' ≤ ms) (hcat : (st.map fun v => v.category).sum ≤ 8) (kk : ∀ (r : Option Value) (h' : hk_H), Qc r h' → hk_WP M d mc ms (k + mc') (n + ms') (pc + 3) ls (r.toList ++ st) h' Q) : hk_WP M d mc ms k n pc ls st0 h Q :=
  hk_invS hC hk_wX3_reckoned ⟨(by rw [hM]; exact hk_t 505 (by decide +kernel) rfl), hk_t 506 (by decide +kernel) rfl⟩ hd hst hn hdep hrm hcat kk
theorem ivX4_11 (hM : M.1.cls = RX4) (hC : hk_Ct MX5_init d' mc' ms' (.ref a :: As) h Qc) (hd : decode M.2.1 pc = .ok (.invokespecial 11, 3)) (hst : st0 = As.reverse ++ .ref a :: st) (hn : As.length = 0) (hdep : d' + 1 ≤ d) (hrm : k + mc' ≤ mc ∧ n + ms' ≤ ms) (hcat : (st.map fun v => v.category).sum ≤ 8) (kk : ∀ (r : Option Value) (h' : hk_H), Qc r h' → hk_WP M d mc ms (k + mc') (n + ms') (pc + 3) ls (r.toList ++ st) h' Q) : hk_WP M d mc ms k n pc ls st0 h Q :=
  hk_invIN (host := "HackneyStands") hC hk_wX5_init rfl ⟨(by rw [hM]; exact hk_n 115 (by decide +kernel) rfl), hk_t 116 (by decide +kernel) rfl⟩ hd hst hn hdep hrm hcat kk
theorem gfX4_12 (hM : M.1.cls = RX4) {v : Value} (hd : decode M.2.1 pc = .ok (.getfield 12, 3)) (ha : a < h.1) (he : h.2 a = .inr (4, fs)) (hv : fs[0]? = some v) (kk : hk_WP M d mc ms k n (pc + 3) ls (v :: st) h Q) : hk_WP M d mc ms k n pc ls (.ref a :: st) h Q :=
  hk_getf (ci := 4) (kf := 0) (C := RX4) (T := TX4) (N := 5) rfl hk_in4 (by decide) (by rw [hM]; exact hk_t 142 (by decide +kernel) rfl) hd ha he hv kk
theorem pfX4_12 (hM : M.1.cls = RX4) {x : Nat} (hd : decode M.2.1 pc = .ok (.putfield 12, 3)) (ha : a < h.1) (he : h.2 a = .inr (4, fs)) (hl : 0 < fs.length) (hI : M.1.name = "<init>") (kk : hk_WP M d mc ms k n (pc + 3) ls st (hk_up h a (.inr (4, fs.set 0 (.ref x)))) Q) : hk_WP M d mc ms k n pc ls (.ref x :: .ref a :: st) h Q :=
  hk_putF (ci := 4) (kf := 0) (C := RX4) (T := TX4) (N := 5) tyX4 tyX4_ok nmX4 rfl hk_in4 (by decide) (by rw [hM]; exact hk_t 142 (by decide +kernel) rfl) rfl hI (by rw [hM]; rfl) (fun _ => rfl) (fun _ => rfl) hd ha he hl kk
theorem gfX4_20 (hM : M.1.cls = RX4) {v : Value} (hd : decode M.2.1 pc = .ok (.getfield 20, 3)) (ha : a < h.1) (he : h.2 a = .inr (4, fs)) (hv : fs[1]? = some v) (kk : hk_WP M d mc ms k n (pc + 3) ls (v :: st) h Q) : hk_WP M d mc ms k n pc ls (.ref a :: st) h Q :=
  hk_getf (ci := 4) (kf := 1) (C := RX4) (T := TX4) (N := 5) rfl hk_in4 (by decide) (by rw [hM]; exact hk_t 144 (by decide +kernel) rfl) hd ha he hv kk
theorem pfX4_20 (hM : M.1.cls = RX4) {x : Nat} (hd : decode M.2.1 pc = .ok (.putfield 20, 3)) (ha : a < h.1) (he : h.2 a = .inr (4, fs)) (hl : 1 < fs.length) (hI : M.1.name = "<init>") (kk : hk_WP M d mc ms k n (pc + 3) ls st (hk_up h a (.inr (4, fs.set 1 (.ref x)))) Q) : hk_WP M d mc ms k n pc ls (.ref x :: .ref a :: st) h Q :=
  hk_putF (ci := 4) (kf := 1) (C := RX4) (T := TX4) (N := 5) tyX4 tyX4_ok nmX4 rfl hk_in4 (by decide) (by rw [hM]; exact hk_t 144 (by decide +kernel) rfl) rfl hI (by rw [hM]; rfl) (fun _ => rfl) (fun _ => rfl) hd ha he hl kk
theorem gfX4_24 (hM : M.1.cls = RX4) {v : Value} (hd : decode M.2.1 pc = .ok (.getfield 24, 3)) (ha : a < h.1) (he : h.2 a = .inr (4, fs)) (hv : fs[3]? = some v) (kk : hk_WP M d mc ms k n (pc + 3) ls (v :: st) h Q) : hk_WP M d mc ms k n pc ls (.ref a :: st) h Q :=
  hk_getf (ci := 4) (kf := 3) (C := RX4) (T := TX4) (N := 5) rfl hk_in4 (by decide) (by rw [hM]; exact hk_t 147 (by decide +kernel) rfl) hd ha he hv kk
theorem pfX4_24 (hM : M.1.cls = RX4) {x : Nat} (hd : decode M.2.1 pc = .ok (.putfield 24, 3)) (ha : a < h.1) (he : h.2 a = .inr (4, fs)) (hl : 3 < fs.length) (hI : M.1.name = "<init>") (kk : hk_WP M d mc ms k n (pc + 3) ls st (hk_up h a (.inr (4, fs.set 3 (.ref x)))) Q) : hk_WP M d mc ms k n pc ls (.ref x :: .ref a :: st) h Q :=
  hk_putF (ci := 4) (kf := 3) (C := RX4) (T := TX4) (N := 5) tyX4 tyX4_ok nmX4 rfl hk_in4 (by decide) (by rw [hM]; exact hk_t 147 (by decide +kernel) rfl) rfl hI (by rw [hM]; rfl) (fun _ => rfl) (fun _ => rfl) hd ha he hl kk
theorem gfX4_28 (hM : M.1.cls = RX4) {v : Value} (hd : decode M.2.1 pc = .ok (.getfield 28, 3)) (ha : a < h.1) (he : h.2 a = .inr (4, fs)) (hv : fs[4]? = some v) (kk : hk_WP M d mc ms k n (pc + 3) ls (v :: st) h Q) : hk_WP M d mc ms k n pc ls (.ref a :: st) h Q :=
  hk_getf (ci := 4) (kf := 4) (C := RX4) (T := TX4) (N := 5) rfl hk_in4 (by decide) (by rw [hM]; exact hk_t 148 (by decide +kernel) rfl) hd ha he hv kk
theorem pfX4_28 (hM : M.1.cls = RX4) {x : Nat} (hd : decode M.2.1 pc = .ok (.putfield 28, 3)) (ha : a < h.1) (he : h.2 a = .inr (4, fs)) (hl : 4 < fs.length) (hI : M.1.name = "<init>") (kk : hk_WP M d mc ms k n (pc + 3) ls st (hk_up h a (.inr (4, fs.set 4 (.ref x)))) Q) : hk_WP M d mc ms k n pc ls (.ref x :: .ref a :: st) h Q :=
  hk_putF (ci := 4) (kf := 4) (C := RX4) (T := TX4) (N := 5) tyX4 tyX4_ok nmX4 rfl hk_in4 (by decide) (by rw [hM]; exact hk_t 148 (by decide +kernel) rfl) rfl hI (by rw [hM]; rfl) (fun _ => rfl) (fun _ => rfl) hd ha he hl kk
theorem gfX4_43 (hM : M.1.cls = RX4) {v : Value} (hd : decode M.2.1 pc = .ok (.getfield 43, 3)) (ha : a < h.1) (he : h.2 a = .inr (4, fs)) (hv : fs[2]? = some v) (kk : hk_WP M d mc ms k n (pc + 3) ls (v :: st) h Q) : hk_WP M d mc ms k n pc ls (.ref a :: st) h Q :=
  hk_getf (ci := 4) (kf := 2) (C := RX4) (T := TX4) (N := 5) rfl hk_in4 (by decide) (by rw [hM]; exact hk_t 145 (by decide +kernel) rfl) hd ha he hv kk
theorem pfX4_43 (hM : M.1.cls = RX4) {x : Int32} (hd : decode M.2.1 pc = .ok (.putfield 43, 3)) (ha : a < h.1) (he : h.2 a = .inr (4, fs)) (hl : 2 < fs.length) (kk : hk_WP M d mc ms k n (pc + 3) ls st (hk_up h a (.inr (4, fs.set 2 (.int x)))) Q) : hk_WP M d mc ms k n pc ls (.int x :: .ref a :: st) h Q :=
  hk_putf (ci := 4) (kf := 2) (C := RX4) (T := TX4) (N := 5) tyX4 tyX4_ok nmX4 rfl hk_in4 (by decide) (by rw [hM]; exact hk_t 145 (by decide +kernel) rfl) rfl (fun _ => rfl) (fun _ => rfl) hd ha he hl kk
theorem ivX4_47 (hM : M.1.cls = RX4) (hC : hk_Ct MX5_isLaw d' mc' ms' (.ref a :: As) h Qc) (hd : decode M.2.1 pc = .ok (.invokevirtual 47, 3)) (ha : a < h.1) (he : h.2 a = .inr (5, fs)) (hst : st0 = As.reverse ++ .ref a :: st) (hn : As.length = 0) (hdep : d' + 1 ≤ d) (hrm : k + mc' ≤ mc ∧ n + ms' ≤ ms) (hcat : (st.map fun v => v.category).sum ≤ 8) (kk : ∀ (r : Option Value) (h' : hk_H), Qc r h' → hk_WP M d mc ms (k + mc') (n + ms') (pc + 3) ls (r.toList ++ st) h' Q) : hk_WP M d mc ms k n pc ls st0 h Q :=
  hk_invVN (host := "HackneyStands") hC hk_wX5_isLaw ⟨(by rw [hM]; exact hk_n 537 (by decide +kernel) rfl), hk_t 539 (by decide +kernel) rfl, hk_ts 51 (by decide +kernel) rfl⟩ hd ha he rfl hst hn hdep hrm hcat kk
theorem gfX4_51 (hM : M.1.cls = RX4) {v : Value} (hd : decode M.2.1 pc = .ok (.getfield 51, 3)) (ha : a < h.1) (he : h.2 a = .inr (5, fs)) (hv : fs[2]? = some v) (kk : hk_WP M d mc ms k n (pc + 3) ls (v :: st) h Q) : hk_WP M d mc ms k n pc ls (.ref a :: st) h Q :=
  hk_getfN (ci := 5) (kf := 2) (C := RX5) (T := TX5) (N := 5) (host := "HackneyStands") rfl hk_in5 (by decide) (by rw [hM]; exact hk_n 123 (by decide +kernel) rfl) hd ha he hv kk
theorem pfX4_51 (hM : M.1.cls = RX4) {x : Int32} (hd : decode M.2.1 pc = .ok (.putfield 51, 3)) (ha : a < h.1) (he : h.2 a = .inr (5, fs)) (hl : 2 < fs.length) (kk : hk_WP M d mc ms k n (pc + 3) ls st (hk_up h a (.inr (5, fs.set 2 (.int x)))) Q) : hk_WP M d mc ms k n pc ls (.int x :: .ref a :: st) h Q :=
  hk_putfN (ci := 5) (kf := 2) (C := RX5) (T := TX5) (N := 5) (host := "HackneyStands") tyX5 tyX5_ok nmX5 rfl hk_in5 (by decide) (by rw [hM]; exact hk_n 123 (by decide +kernel) rfl) rfl (fun _ => rfl) (fun _ => rfl) hd ha he hl kk
theorem gfX4_53 (hM : M.1.cls = RX4) {v : Value} (hd : decode M.2.1 pc = .ok (.getfield 53, 3)) (ha : a < h.1) (he : h.2 a = .inr (5, fs)) (hv : fs[3]? = some v) (kk : hk_WP M d mc ms k n (pc + 3) ls (v :: st) h Q) : hk_WP M d mc ms k n pc ls (.ref a :: st) h Q :=
  hk_getfN (ci := 5) (kf := 3) (C := RX5) (T := TX5) (N := 5) (host := "HackneyStands") rfl hk_in5 (by decide) (by rw [hM]; exact hk_n 126 (by decide +kernel) rfl) hd ha he hv kk
theorem gfX4_56 (hM : M.1.cls = RX4) {v : Value} (hd : decode M.2.1 pc = .ok (.getfield 56, 3)) (ha : a < h.1) (he : h.2 a = .inr (5, fs)) (hv : fs[1]? = some v) (kk : hk_WP M d mc ms k n (pc + 3) ls (v :: st) h Q) : hk_WP M d mc ms k n pc ls (.ref a :: st) h Q :=
  hk_getfN (ci := 5) (kf := 1) (C := RX5) (T := TX5) (N := 5) (host := "HackneyStands") rfl hk_in5 (by decide) (by rw [hM]; exact hk_n 121 (by decide +kernel) rfl) hd ha he hv kk
theorem gfX4_59 (hM : M.1.cls = RX4) {v : Value} (hd : decode M.2.1 pc = .ok (.getfield 59, 3)) (ha : a < h.1) (he : h.2 a = .inr (5, fs)) (hv : fs[4]? = some v) (kk : hk_WP M d mc ms k n (pc + 3) ls (v :: st) h Q) : hk_WP M d mc ms k n pc ls (.ref a :: st) h Q :=
  hk_getfN (ci := 5) (kf := 4) (C := RX5) (T := TX5) (N := 5) (host := "HackneyStands") rfl hk_in5 (by decide) (by rw [hM]; exact hk_n 128 (by decide +kernel) rfl) hd ha he hv kk
theorem ivX4_68 (hM : M.1.cls = RX4) (hC : hk_Ct MX3_init d' mc' ms' (.ref a :: As) h Qc) (hd : decode M.2.1 pc = .ok (.invokespecial 68, 3)) (hst : st0 = As.reverse ++ .ref a :: st) (hn : As.length = 4) (hdep : d' + 1 ≤ d) (hrm : k + mc' ≤ mc ∧ n + ms' ≤ ms) (hcat : (st.map fun v => v.category).sum ≤ 8) (kk : ∀ (r : Option Value) (h' : hk_H), Qc r h' → hk_WP M d mc ms (k + mc') (n + ms') (pc + 3) ls (r.toList ++ st) h' Q) : hk_WP M d mc ms k n pc ls st0 h Q :=
  hk_invIN (host := "HackneyStands") hC hk_wX3_init rfl ⟨(by rw [hM]; exact hk_n 650 (by decide +kernel) rfl), hk_t 651 (by decide +kernel) rfl⟩ hd hst hn hdep hrm hcat kk
theorem ivX4_71 (hM : M.1.cls = RX4) (hC : hk_Ct MX4_lawAt d' mc' ms' (.ref a :: As) h Qc) (hd : decode M.2.1 pc = .ok (.invokevirtual 71, 3)) (ha : a < h.1) (he : h.2 a = .inr (4, fs)) (hst : st0 = As.reverse ++ .ref a :: st) (hn : As.length = 1) (hdep : d' + 1 ≤ d) (hrm : k + mc' ≤ mc ∧ n + ms' ≤ ms) (hcat : (st.map fun v => v.category).sum ≤ 8) (kk : ∀ (r : Option Value) (h' : hk_H), Qc r h' → hk_WP M d mc ms (k + mc') (n + ms') (pc + 3) ls (r.toList ++ st) h' Q) : hk_WP M d mc ms k n pc ls st0 h Q :=
  hk_invV hC hk_wX4_lawAt ⟨(by rw [hM]; exact hk_t 485 (by decide +kernel) rfl), hk_t 487 (by decide +kernel) rfl, hk_ts 46 (by decide +kernel) rfl⟩ hd ha he rfl hst hn hdep hrm hcat kk
theorem gfX4_75 (hM : M.1.cls = RX4) {v : Value} (hd : decode M.2.1 pc = .ok (.getfield 75, 3)) (ha : a < h.1) (he : h.2 a = .inr (3, fs)) (hv : fs[0]? = some v) (kk : hk_WP M d mc ms k n (pc + 3) ls (v :: st) h Q) : hk_WP M d mc ms k n pc ls (.ref a :: st) h Q :=
  hk_getfN (ci := 3) (kf := 0) (C := RX3) (T := TX3) (N := 4) (host := "HackneyStands") rfl hk_in3 (by decide) (by rw [hM]; exact hk_n 655 (by decide +kernel) rfl) hd ha he hv kk
theorem gfX4_78 (hM : M.1.cls = RX4) {v : Value} (hd : decode M.2.1 pc = .ok (.getfield 78, 3)) (ha : a < h.1) (he : h.2 a = .inr (3, fs)) (hv : fs[2]? = some v) (kk : hk_WP M d mc ms k n (pc + 3) ls (v :: st) h Q) : hk_WP M d mc ms k n pc ls (.ref a :: st) h Q :=
  hk_getfN (ci := 3) (kf := 2) (C := RX3) (T := TX3) (N := 4) (host := "HackneyStands") rfl hk_in3 (by decide) (by rw [hM]; exact hk_n 659 (by decide +kernel) rfl) hd ha he hv kk
theorem gfX4_81 (hM : M.1.cls = RX4) {v : Value} (hd : decode M.2.1 pc = .ok (.getfield 81, 3)) (ha : a < h.1) (he : h.2 a = .inr (3, fs)) (hv : fs[1]? = some v) (kk : hk_WP M d mc ms k n (pc + 3) ls (v :: st) h Q) : hk_WP M d mc ms k n pc ls (.ref a :: st) h Q :=
  hk_getfN (ci := 3) (kf := 1) (C := RX3) (T := TX3) (N := 4) (host := "HackneyStands") rfl hk_in3 (by decide) (by rw [hM]; exact hk_n 657 (by decide +kernel) rfl) hd ha he hv kk
theorem ivX4_84 (hM : M.1.cls = RX4) (hC : hk_Ct MX3_worth d' mc' ms' (.ref a :: As) h Qc) (hd : decode M.2.1 pc = .ok (.invokevirtual 84, 3)) (ha : a < h.1) (he : h.2 a = .inr (3, fs)) (hst : st0 = As.reverse ++ .ref a :: st) (hn : As.length = 2) (hdep : d' + 1 ≤ d) (hrm : k + mc' ≤ mc ∧ n + ms' ≤ ms) (hcat : (st.map fun v => v.category).sum ≤ 8) (kk : ∀ (r : Option Value) (h' : hk_H), Qc r h' → hk_WP M d mc ms (k + mc') (n + ms') (pc + 3) ls (r.toList ++ st) h' Q) : hk_WP M d mc ms k n pc ls st0 h Q :=
  hk_invVN (host := "HackneyStands") hC hk_wX3_worth ⟨(by rw [hM]; exact hk_n 494 (by decide +kernel) rfl), hk_t 496 (by decide +kernel) rfl, hk_ts 48 (by decide +kernel) rfl⟩ hd ha he rfl hst hn hdep hrm hcat kk
theorem gfX5_11 (hM : M.1.cls = RX5) {v : Value} (hd : decode M.2.1 pc = .ok (.getfield 11, 3)) (ha : a < h.1) (he : h.2 a = .inr (5, fs)) (hv : fs[0]? = some v) (kk : hk_WP M d mc ms k n (pc + 3) ls (v :: st) h Q) : hk_WP M d mc ms k n pc ls (.ref a :: st) h Q :=
  hk_getf (ci := 5) (kf := 0) (C := RX5) (T := TX5) (N := 5) rfl hk_in5 (by decide) (by rw [hM]; exact hk_t 119 (by decide +kernel) rfl) hd ha he hv kk
theorem pfX5_11 (hM : M.1.cls = RX5) {x : Nat} (hd : decode M.2.1 pc = .ok (.putfield 11, 3)) (ha : a < h.1) (he : h.2 a = .inr (5, fs)) (hl : 0 < fs.length) (hI : M.1.name = "<init>") (kk : hk_WP M d mc ms k n (pc + 3) ls st (hk_up h a (.inr (5, fs.set 0 (.ref x)))) Q) : hk_WP M d mc ms k n pc ls (.ref x :: .ref a :: st) h Q :=
  hk_putF (ci := 5) (kf := 0) (C := RX5) (T := TX5) (N := 5) tyX5 tyX5_ok nmX5 rfl hk_in5 (by decide) (by rw [hM]; exact hk_t 119 (by decide +kernel) rfl) rfl hI (by rw [hM]; rfl) (fun _ => rfl) (fun _ => rfl) hd ha he hl kk
theorem gfX5_15 (hM : M.1.cls = RX5) {v : Value} (hd : decode M.2.1 pc = .ok (.getfield 15, 3)) (ha : a < h.1) (he : h.2 a = .inr (5, fs)) (hv : fs[1]? = some v) (kk : hk_WP M d mc ms k n (pc + 3) ls (v :: st) h Q) : hk_WP M d mc ms k n pc ls (.ref a :: st) h Q :=
  hk_getf (ci := 5) (kf := 1) (C := RX5) (T := TX5) (N := 5) rfl hk_in5 (by decide) (by rw [hM]; exact hk_t 120 (by decide +kernel) rfl) hd ha he hv kk
theorem pfX5_15 (hM : M.1.cls = RX5) {x : Nat} (hd : decode M.2.1 pc = .ok (.putfield 15, 3)) (ha : a < h.1) (he : h.2 a = .inr (5, fs)) (hl : 1 < fs.length) (hI : M.1.name = "<init>") (kk : hk_WP M d mc ms k n (pc + 3) ls st (hk_up h a (.inr (5, fs.set 1 (.ref x)))) Q) : hk_WP M d mc ms k n pc ls (.ref x :: .ref a :: st) h Q :=
  hk_putF (ci := 5) (kf := 1) (C := RX5) (T := TX5) (N := 5) tyX5 tyX5_ok nmX5 rfl hk_in5 (by decide) (by rw [hM]; exact hk_t 120 (by decide +kernel) rfl) rfl hI (by rw [hM]; rfl) (fun _ => rfl) (fun _ => rfl) hd ha he hl kk
theorem gfX5_18 (hM : M.1.cls = RX5) {v : Value} (hd : decode M.2.1 pc = .ok (.getfield 18, 3)) (ha : a < h.1) (he : h.2 a = .inr (5, fs)) (hv : fs[2]? = some v) (kk : hk_WP M d mc ms k n (pc + 3) ls (v :: st) h Q) : hk_WP M d mc ms k n pc ls (.ref a :: st) h Q :=
  hk_getf (ci := 5) (kf := 2) (C := RX5) (T := TX5) (N := 5) rfl hk_in5 (by decide) (by rw [hM]; exact hk_t 122 (by decide +kernel) rfl) hd ha he hv kk
theorem pfX5_18 (hM : M.1.cls = RX5) {x : Int32} (hd : decode M.2.1 pc = .ok (.putfield 18, 3)) (ha : a < h.1) (he : h.2 a = .inr (5, fs)) (hl : 2 < fs.length) (kk : hk_WP M d mc ms k n (pc + 3) ls st (hk_up h a (.inr (5, fs.set 2 (.int x)))) Q) : hk_WP M d mc ms k n pc ls (.int x :: .ref a :: st) h Q :=
  hk_putf (ci := 5) (kf := 2) (C := RX5) (T := TX5) (N := 5) tyX5 tyX5_ok nmX5 rfl hk_in5 (by decide) (by rw [hM]; exact hk_t 122 (by decide +kernel) rfl) rfl (fun _ => rfl) (fun _ => rfl) hd ha he hl kk
theorem gfX5_22 (hM : M.1.cls = RX5) {v : Value} (hd : decode M.2.1 pc = .ok (.getfield 22, 3)) (ha : a < h.1) (he : h.2 a = .inr (5, fs)) (hv : fs[3]? = some v) (kk : hk_WP M d mc ms k n (pc + 3) ls (v :: st) h Q) : hk_WP M d mc ms k n pc ls (.ref a :: st) h Q :=
  hk_getf (ci := 5) (kf := 3) (C := RX5) (T := TX5) (N := 5) rfl hk_in5 (by decide) (by rw [hM]; exact hk_t 125 (by decide +kernel) rfl) hd ha he hv kk
theorem pfX5_22 (hM : M.1.cls = RX5) {x : Int32} (hd : decode M.2.1 pc = .ok (.putfield 22, 3)) (ha : a < h.1) (he : h.2 a = .inr (5, fs)) (hl : 3 < fs.length) (kk : hk_WP M d mc ms k n (pc + 3) ls st (hk_up h a (.inr (5, fs.set 3 (.int x)))) Q) : hk_WP M d mc ms k n pc ls (.int x :: .ref a :: st) h Q :=
  hk_putf (ci := 5) (kf := 3) (C := RX5) (T := TX5) (N := 5) tyX5 tyX5_ok nmX5 rfl hk_in5 (by decide) (by rw [hM]; exact hk_t 125 (by decide +kernel) rfl) rfl (fun _ => rfl) (fun _ => rfl) hd ha he hl kk
theorem gfX5_25 (hM : M.1.cls = RX5) {v : Value} (hd : decode M.2.1 pc = .ok (.getfield 25, 3)) (ha : a < h.1) (he : h.2 a = .inr (5, fs)) (hv : fs[4]? = some v) (kk : hk_WP M d mc ms k n (pc + 3) ls (v :: st) h Q) : hk_WP M d mc ms k n pc ls (.ref a :: st) h Q :=
  hk_getf (ci := 5) (kf := 4) (C := RX5) (T := TX5) (N := 5) rfl hk_in5 (by decide) (by rw [hM]; exact hk_t 127 (by decide +kernel) rfl) hd ha he hv kk
theorem pfX5_25 (hM : M.1.cls = RX5) {x : Int32} (hd : decode M.2.1 pc = .ok (.putfield 25, 3)) (ha : a < h.1) (he : h.2 a = .inr (5, fs)) (hl : 4 < fs.length) (kk : hk_WP M d mc ms k n (pc + 3) ls st (hk_up h a (.inr (5, fs.set 4 (.int x)))) Q) : hk_WP M d mc ms k n pc ls (.int x :: .ref a :: st) h Q :=
  hk_putf (ci := 5) (kf := 4) (C := RX5) (T := TX5) (N := 5) tyX5 tyX5_ok nmX5 rfl hk_in5 (by decide) (by rw [hM]; exact hk_t 127 (by decide +kernel) rfl) rfl (fun _ => rfl) (fun _ => rfl) hd ha he hl kk
theorem ivX5_28 (hM : M.1.cls = RX5) (hC : hk_Ct MX5_readE d' mc' ms' (.ref a :: As) h Qc) (hd : decode M.2.1 pc = .ok (.invokevirtual 28, 3)) (ha : a < h.1) (he : h.2 a = .inr (5, fs)) (hst : st0 = As.reverse ++ .ref a :: st) (hn : As.length = 1) (hdep : d' + 1 ≤ d) (hrm : k + mc' ≤ mc ∧ n + ms' ≤ ms) (hcat : (st.map fun v => v.category).sum ≤ 8) (kk : ∀ (r : Option Value) (h' : hk_H), Qc r h' → hk_WP M d mc ms (k + mc') (n + ms') (pc + 3) ls (r.toList ++ st) h' Q) : hk_WP M d mc ms k n pc ls st0 h Q :=
  hk_invV hC hk_wX5_readE ⟨(by rw [hM]; exact hk_t 541 (by decide +kernel) rfl), hk_t 543 (by decide +kernel) rfl, hk_ts 52 (by decide +kernel) rfl⟩ hd ha he rfl hst hn hdep hrm hcat kk
theorem ivX5_34 (hM : M.1.cls = RX5) (hC : hk_Ct MX5_readC d' mc' ms' (.ref a :: As) h Qc) (hd : decode M.2.1 pc = .ok (.invokevirtual 34, 3)) (ha : a < h.1) (he : h.2 a = .inr (5, fs)) (hst : st0 = As.reverse ++ .ref a :: st) (hn : As.length = 1) (hdep : d' + 1 ≤ d) (hrm : k + mc' ≤ mc ∧ n + ms' ≤ ms) (hcat : (st.map fun v => v.category).sum ≤ 8) (kk : ∀ (r : Option Value) (h' : hk_H), Qc r h' → hk_WP M d mc ms (k + mc') (n + ms') (pc + 3) ls (r.toList ++ st) h' Q) : hk_WP M d mc ms k n pc ls st0 h Q :=
  hk_invV hC hk_wX5_readC ⟨(by rw [hM]; exact hk_t 545 (by decide +kernel) rfl), hk_t 547 (by decide +kernel) rfl, hk_ts 53 (by decide +kernel) rfl⟩ hd ha he rfl hst hn hdep hrm hcat kk
theorem ivX5_37 (hM : M.1.cls = RX5) (hC : hk_Ct MX5_sign d' mc' ms' (.ref a :: As) h Qc) (hd : decode M.2.1 pc = .ok (.invokevirtual 37, 3)) (ha : a < h.1) (he : h.2 a = .inr (5, fs)) (hst : st0 = As.reverse ++ .ref a :: st) (hn : As.length = 0) (hdep : d' + 1 ≤ d) (hrm : k + mc' ≤ mc ∧ n + ms' ≤ ms) (hcat : (st.map fun v => v.category).sum ≤ 8) (kk : ∀ (r : Option Value) (h' : hk_H), Qc r h' → hk_WP M d mc ms (k + mc') (n + ms') (pc + 3) ls (r.toList ++ st) h' Q) : hk_WP M d mc ms k n pc ls st0 h Q :=
  hk_invV hC hk_wX5_sign ⟨(by rw [hM]; exact hk_t 561 (by decide +kernel) rfl), hk_t 563 (by decide +kernel) rfl, hk_ts 57 (by decide +kernel) rfl⟩ hd ha he rfl hst hn hdep hrm hcat kk
theorem ivX5_41 (hM : M.1.cls = RX5) (hC : hk_Ct MX5_put d' mc' ms' (.ref a :: As) h Qc) (hd : decode M.2.1 pc = .ok (.invokevirtual 41, 3)) (ha : a < h.1) (he : h.2 a = .inr (5, fs)) (hst : st0 = As.reverse ++ .ref a :: st) (hn : As.length = 2) (hdep : d' + 1 ≤ d) (hrm : k + mc' ≤ mc ∧ n + ms' ≤ ms) (hcat : (st.map fun v => v.category).sum ≤ 8) (kk : ∀ (r : Option Value) (h' : hk_H), Qc r h' → hk_WP M d mc ms (k + mc') (n + ms') (pc + 3) ls (r.toList ++ st) h' Q) : hk_WP M d mc ms k n pc ls st0 h Q :=
  hk_invV hC hk_wX5_put ⟨(by rw [hM]; exact hk_t 572 (by decide +kernel) rfl), hk_t 574 (by decide +kernel) rfl, hk_ts 59 (by decide +kernel) rfl⟩ hd ha he rfl hst hn hdep hrm hcat kk
theorem ivX5_45 (hM : M.1.cls = RX5) (hC : hk_Ct MX5_aimHere d' mc' ms' (.ref a :: As) h Qc) (hd : decode M.2.1 pc = .ok (.invokevirtual 45, 3)) (ha : a < h.1) (he : h.2 a = .inr (5, fs)) (hst : st0 = As.reverse ++ .ref a :: st) (hn : As.length = 1) (hdep : d' + 1 ≤ d) (hrm : k + mc' ≤ mc ∧ n + ms' ≤ ms) (hcat : (st.map fun v => v.category).sum ≤ 8) (kk : ∀ (r : Option Value) (h' : hk_H), Qc r h' → hk_WP M d mc ms (k + mc') (n + ms') (pc + 3) ls (r.toList ++ st) h' Q) : hk_WP M d mc ms k n pc ls st0 h Q :=
  hk_invV hC hk_wX5_aimHere ⟨(by rw [hM]; exact hk_t 632 (by decide +kernel) rfl), hk_t 634 (by decide +kernel) rfl, hk_ts 61 (by decide +kernel) rfl⟩ hd ha he rfl hst hn hdep hrm hcat kk
theorem ivX5_49 (hM : M.1.cls = RX5) (hC : hk_Ct MX5_readS d' mc' ms' (.ref a :: As) h Qc) (hd : decode M.2.1 pc = .ok (.invokevirtual 49, 3)) (ha : a < h.1) (he : h.2 a = .inr (5, fs)) (hst : st0 = As.reverse ++ .ref a :: st) (hn : As.length = 1) (hdep : d' + 1 ≤ d) (hrm : k + mc' ≤ mc ∧ n + ms' ≤ ms) (hcat : (st.map fun v => v.category).sum ≤ 8) (kk : ∀ (r : Option Value) (h' : hk_H), Qc r h' → hk_WP M d mc ms (k + mc') (n + ms') (pc + 3) ls (r.toList ++ st) h' Q) : hk_WP M d mc ms k n pc ls st0 h Q :=
  hk_invV hC hk_wX5_readS ⟨(by rw [hM]; exact hk_t 549 (by decide +kernel) rfl), hk_t 551 (by decide +kernel) rfl, hk_ts 54 (by decide +kernel) rfl⟩ hd ha he rfl hst hn hdep hrm hcat kk
theorem ivX5_52 (hM : M.1.cls = RX5) (hC : hk_Ct MX5_readP d' mc' ms' (.ref a :: As) h Qc) (hd : decode M.2.1 pc = .ok (.invokevirtual 52, 3)) (ha : a < h.1) (he : h.2 a = .inr (5, fs)) (hst : st0 = As.reverse ++ .ref a :: st) (hn : As.length = 1) (hdep : d' + 1 ≤ d) (hrm : k + mc' ≤ mc ∧ n + ms' ≤ ms) (hcat : (st.map fun v => v.category).sum ≤ 8) (kk : ∀ (r : Option Value) (h' : hk_H), Qc r h' → hk_WP M d mc ms (k + mc') (n + ms') (pc + 3) ls (r.toList ++ st) h' Q) : hk_WP M d mc ms k n pc ls st0 h Q :=
  hk_invV hC hk_wX5_readP ⟨(by rw [hM]; exact hk_t 553 (by decide +kernel) rfl), hk_t 555 (by decide +kernel) rfl, hk_ts 55 (by decide +kernel) rfl⟩ hd ha he rfl hst hn hdep hrm hcat kk
theorem ivX5_55 (hM : M.1.cls = RX5) (hC : hk_Ct MX5_readO d' mc' ms' (.ref a :: As) h Qc) (hd : decode M.2.1 pc = .ok (.invokevirtual 55, 3)) (ha : a < h.1) (he : h.2 a = .inr (5, fs)) (hst : st0 = As.reverse ++ .ref a :: st) (hn : As.length = 1) (hdep : d' + 1 ≤ d) (hrm : k + mc' ≤ mc ∧ n + ms' ≤ ms) (hcat : (st.map fun v => v.category).sum ≤ 8) (kk : ∀ (r : Option Value) (h' : hk_H), Qc r h' → hk_WP M d mc ms (k + mc') (n + ms') (pc + 3) ls (r.toList ++ st) h' Q) : hk_WP M d mc ms k n pc ls st0 h Q :=
  hk_invV hC hk_wX5_readO ⟨(by rw [hM]; exact hk_t 557 (by decide +kernel) rfl), hk_t 559 (by decide +kernel) rfl, hk_ts 56 (by decide +kernel) rfl⟩ hd ha he rfl hst hn hdep hrm hcat kk
theorem ivX5_58 (hM : M.1.cls = RX5) (hC : hk_Ct MX5_isDigit d' mc' ms' As h Qc) (hd : decode M.2.1 pc = .ok (.invokestatic 58, 3)) (hst : st0 = As.reverse ++ st) (hn : As.length = 1) (hdep : d' + 1 ≤ d) (hrm : k + mc' ≤ mc ∧ n + ms' ≤ ms) (hcat : (st.map fun v => v.category).sum ≤ 8) (kk : ∀ (r : Option Value) (h' : hk_H), Qc r h' → hk_WP M d mc ms (k + mc') (n + ms') (pc + 3) ls (r.toList ++ st) h' Q) : hk_WP M d mc ms k n pc ls st0 h Q :=
  hk_invS hC hk_wX5_isDigit ⟨(by rw [hM]; exact hk_t 565 (by decide +kernel) rfl), hk_t 566 (by decide +kernel) rfl⟩ hd hst hn hdep hrm hcat kk
theorem ivX5_61 (hM : M.1.cls = RX5) (hC : hk_Ct MX5_readNumber d' mc' ms' (.ref a :: As) h Qc) (hd : decode M.2.1 pc = .ok (.invokevirtual 61, 3)) (ha : a < h.1) (he : h.2 a = .inr (5, fs)) (hst : st0 = As.reverse ++ .ref a :: st) (hn : As.length = 0) (hdep : d' + 1 ≤ d) (hrm : k + mc' ≤ mc ∧ n + ms' ≤ ms) (hcat : (st.map fun v => v.category).sum ≤ 8) (kk : ∀ (r : Option Value) (h' : hk_H), Qc r h' → hk_WP M d mc ms (k + mc') (n + ms') (pc + 3) ls (r.toList ++ st) h' Q) : hk_WP M d mc ms k n pc ls st0 h Q :=
  hk_invV hC hk_wX5_readNumber ⟨(by rw [hM]; exact hk_t 568 (by decide +kernel) rfl), hk_t 570 (by decide +kernel) rfl, hk_ts 58 (by decide +kernel) rfl⟩ hd ha he rfl hst hn hdep hrm hcat kk
theorem ivX5_65 (hM : M.1.cls = RX5) (hC : hk_Ct MX5_readBraced d' mc' ms' (.ref a :: As) h Qc) (hd : decode M.2.1 pc = .ok (.invokevirtual 65, 3)) (ha : a < h.1) (he : h.2 a = .inr (5, fs)) (hst : st0 = As.reverse ++ .ref a :: st) (hn : As.length = 1) (hdep : d' + 1 ≤ d) (hrm : k + mc' ≤ mc ∧ n + ms' ≤ ms) (hcat : (st.map fun v => v.category).sum ≤ 8) (kk : ∀ (r : Option Value) (h' : hk_H), Qc r h' → hk_WP M d mc ms (k + mc') (n + ms') (pc + 3) ls (r.toList ++ st) h' Q) : hk_WP M d mc ms k n pc ls st0 h Q :=
  hk_invV hC hk_wX5_readBraced ⟨(by rw [hM]; exact hk_t 576 (by decide +kernel) rfl), hk_t 578 (by decide +kernel) rfl, hk_ts 60 (by decide +kernel) rfl⟩ hd ha he rfl hst hn hdep hrm hcat kk
theorem ivX5_68 (hM : M.1.cls = RX5) (hC : hk_Ct MX4_nameOf d' mc' ms' As h Qc) (hd : decode M.2.1 pc = .ok (.invokestatic 68, 3)) (hst : st0 = As.reverse ++ st) (hn : As.length = 1) (hdep : d' + 1 ≤ d) (hrm : k + mc' ≤ mc ∧ n + ms' ≤ ms) (hcat : (st.map fun v => v.category).sum ≤ 8) (kk : ∀ (r : Option Value) (h' : hk_H), Qc r h' → hk_WP M d mc ms (k + mc') (n + ms') (pc + 3) ls (r.toList ++ st) h' Q) : hk_WP M d mc ms k n pc ls st0 h Q :=
  hk_invSN (host := "HackneyStands") hC hk_wX4_nameOf ⟨(by rw [hM]; exact hk_n 580 (by decide +kernel) rfl), hk_t 581 (by decide +kernel) rfl⟩ hd hst hn hdep hrm hcat kk
theorem gfX6_9 (hM : M.1.cls = RX6) {v : Value} (hd : decode M.2.1 pc = .ok (.getfield 9, 3)) (ha : a < h.1) (he : h.2 a = .inr (6, fs)) (hv : fs[0]? = some v) (kk : hk_WP M d mc ms k n (pc + 3) ls (v :: st) h Q) : hk_WP M d mc ms k n pc ls (.ref a :: st) h Q :=
  hk_getf (ci := 6) (kf := 0) (C := RX6) (T := TX6) (N := 4) rfl hk_in6 (by decide) (by rw [hM]; exact hk_t 39 (by decide +kernel) rfl) hd ha he hv kk
theorem pfX6_9 (hM : M.1.cls = RX6) {x : Int32} (hd : decode M.2.1 pc = .ok (.putfield 9, 3)) (ha : a < h.1) (he : h.2 a = .inr (6, fs)) (hl : 0 < fs.length) (hI : M.1.name = "<init>") (kk : hk_WP M d mc ms k n (pc + 3) ls st (hk_up h a (.inr (6, fs.set 0 (.int x)))) Q) : hk_WP M d mc ms k n pc ls (.int x :: .ref a :: st) h Q :=
  hk_putF (ci := 6) (kf := 0) (C := RX6) (T := TX6) (N := 4) tyX6 tyX6_ok nmX6 rfl hk_in6 (by decide) (by rw [hM]; exact hk_t 39 (by decide +kernel) rfl) rfl hI (by rw [hM]; rfl) (fun _ => rfl) (fun _ => rfl) hd ha he hl kk
theorem gfX6_15 (hM : M.1.cls = RX6) {v : Value} (hd : decode M.2.1 pc = .ok (.getfield 15, 3)) (ha : a < h.1) (he : h.2 a = .inr (6, fs)) (hv : fs[1]? = some v) (kk : hk_WP M d mc ms k n (pc + 3) ls (v :: st) h Q) : hk_WP M d mc ms k n pc ls (.ref a :: st) h Q :=
  hk_getf (ci := 6) (kf := 1) (C := RX6) (T := TX6) (N := 4) rfl hk_in6 (by decide) (by rw [hM]; exact hk_t 40 (by decide +kernel) rfl) hd ha he hv kk
theorem pfX6_15 (hM : M.1.cls = RX6) {x : Int32} (hd : decode M.2.1 pc = .ok (.putfield 15, 3)) (ha : a < h.1) (he : h.2 a = .inr (6, fs)) (hl : 1 < fs.length) (hI : M.1.name = "<init>") (kk : hk_WP M d mc ms k n (pc + 3) ls st (hk_up h a (.inr (6, fs.set 1 (.int x)))) Q) : hk_WP M d mc ms k n pc ls (.int x :: .ref a :: st) h Q :=
  hk_putF (ci := 6) (kf := 1) (C := RX6) (T := TX6) (N := 4) tyX6 tyX6_ok nmX6 rfl hk_in6 (by decide) (by rw [hM]; exact hk_t 40 (by decide +kernel) rfl) rfl hI (by rw [hM]; rfl) (fun _ => rfl) (fun _ => rfl) hd ha he hl kk
theorem gfX6_18 (hM : M.1.cls = RX6) {v : Value} (hd : decode M.2.1 pc = .ok (.getfield 18, 3)) (ha : a < h.1) (he : h.2 a = .inr (6, fs)) (hv : fs[2]? = some v) (kk : hk_WP M d mc ms k n (pc + 3) ls (v :: st) h Q) : hk_WP M d mc ms k n pc ls (.ref a :: st) h Q :=
  hk_getf (ci := 6) (kf := 2) (C := RX6) (T := TX6) (N := 4) rfl hk_in6 (by decide) (by rw [hM]; exact hk_t 41 (by decide +kernel) rfl) hd ha he hv kk
theorem pfX6_18 (hM : M.1.cls = RX6) {x : Nat} (hd : decode M.2.1 pc = .ok (.putfield 18, 3)) (ha : a < h.1) (he : h.2 a = .inr (6, fs)) (hl : 2 < fs.length) (hI : M.1.name = "<init>") (kk : hk_WP M d mc ms k n (pc + 3) ls st (hk_up h a (.inr (6, fs.set 2 (.ref x)))) Q) : hk_WP M d mc ms k n pc ls (.ref x :: .ref a :: st) h Q :=
  hk_putF (ci := 6) (kf := 2) (C := RX6) (T := TX6) (N := 4) tyX6 tyX6_ok nmX6 rfl hk_in6 (by decide) (by rw [hM]; exact hk_t 41 (by decide +kernel) rfl) rfl hI (by rw [hM]; rfl) (fun _ => rfl) (fun _ => rfl) hd ha he hl kk
theorem gfX6_22 (hM : M.1.cls = RX6) {v : Value} (hd : decode M.2.1 pc = .ok (.getfield 22, 3)) (ha : a < h.1) (he : h.2 a = .inr (6, fs)) (hv : fs[3]? = some v) (kk : hk_WP M d mc ms k n (pc + 3) ls (v :: st) h Q) : hk_WP M d mc ms k n pc ls (.ref a :: st) h Q :=
  hk_getf (ci := 6) (kf := 3) (C := RX6) (T := TX6) (N := 4) rfl hk_in6 (by decide) (by rw [hM]; exact hk_t 42 (by decide +kernel) rfl) hd ha he hv kk
theorem pfX6_22 (hM : M.1.cls = RX6) {x : Int32} (hd : decode M.2.1 pc = .ok (.putfield 22, 3)) (ha : a < h.1) (he : h.2 a = .inr (6, fs)) (hl : 3 < fs.length) (kk : hk_WP M d mc ms k n (pc + 3) ls st (hk_up h a (.inr (6, fs.set 3 (.int x)))) Q) : hk_WP M d mc ms k n pc ls (.int x :: .ref a :: st) h Q :=
  hk_putf (ci := 6) (kf := 3) (C := RX6) (T := TX6) (N := 4) tyX6 tyX6_ok nmX6 rfl hk_in6 (by decide) (by rw [hM]; exact hk_t 42 (by decide +kernel) rfl) rfl (fun _ => rfl) (fun _ => rfl) hd ha he hl kk
theorem ivX6_25 (hM : M.1.cls = RX6) (hC : hk_Ct MX6_has d' mc' ms' (.ref a :: As) h Qc) (hd : decode M.2.1 pc = .ok (.invokevirtual 25, 3)) (ha : a < h.1) (he : h.2 a = .inr (6, fs)) (hst : st0 = As.reverse ++ .ref a :: st) (hn : As.length = 1) (hdep : d' + 1 ≤ d) (hrm : k + mc' ≤ mc ∧ n + ms' ≤ ms) (hcat : (st.map fun v => v.category).sum ≤ 8) (kk : ∀ (r : Option Value) (h' : hk_H), Qc r h' → hk_WP M d mc ms (k + mc') (n + ms') (pc + 3) ls (r.toList ++ st) h' Q) : hk_WP M d mc ms k n pc ls st0 h Q :=
  hk_invV hC hk_wX6_has ⟨(by rw [hM]; exact hk_t 786 (by decide +kernel) rfl), hk_t 272 (by decide +kernel) rfl, hk_ts 7 (by decide +kernel) rfl⟩ hd ha he rfl hst hn hdep hrm hcat kk
theorem ivX6_29 (hM : M.1.cls = RX6) (hC : hk_Ct MX6_isFull d' mc' ms' (.ref a :: As) h Qc) (hd : decode M.2.1 pc = .ok (.invokevirtual 29, 3)) (ha : a < h.1) (he : h.2 a = .inr (6, fs)) (hst : st0 = As.reverse ++ .ref a :: st) (hn : As.length = 0) (hdep : d' + 1 ≤ d) (hrm : k + mc' ≤ mc ∧ n + ms' ≤ ms) (hcat : (st.map fun v => v.category).sum ≤ 8) (kk : ∀ (r : Option Value) (h' : hk_H), Qc r h' → hk_WP M d mc ms (k + mc') (n + ms') (pc + 3) ls (r.toList ++ st) h' Q) : hk_WP M d mc ms k n pc ls st0 h Q :=
  hk_invV hC hk_wX6_isFull ⟨(by rw [hM]; exact hk_t 172 (by decide +kernel) rfl), hk_t 174 (by decide +kernel) rfl, hk_ts 2 (by decide +kernel) rfl⟩ hd ha he rfl hst hn hdep hrm hcat kk
theorem ivX7_11 (hM : M.1.cls = RX7) (hC : hk_Ct MX6_init d' mc' ms' (.ref a :: As) h Qc) (hd : decode M.2.1 pc = .ok (.invokespecial 11, 3)) (hst : st0 = As.reverse ++ .ref a :: st) (hn : As.length = 2) (hdep : d' + 1 ≤ d) (hrm : k + mc' ≤ mc ∧ n + ms' ≤ ms) (hcat : (st.map fun v => v.category).sum ≤ 8) (kk : ∀ (r : Option Value) (h' : hk_H), Qc r h' → hk_WP M d mc ms (k + mc') (n + ms') (pc + 3) ls (r.toList ++ st) h' Q) : hk_WP M d mc ms k n pc ls st0 h Q :=
  hk_invIN (host := "HackneyStands") hC hk_wX6_init rfl ⟨(by rw [hM]; exact hk_n 209 (by decide +kernel) rfl), hk_t 36 (by decide +kernel) rfl⟩ hd hst hn hdep hrm hcat kk
theorem gfX7_14 (hM : M.1.cls = RX7) {v : Value} (hd : decode M.2.1 pc = .ok (.getfield 14, 3)) (ha : a < h.1) (he : h.2 a = .inr (7, fs)) (hv : fs[0]? = some v) (kk : hk_WP M d mc ms k n (pc + 3) ls (v :: st) h Q) : hk_WP M d mc ms k n pc ls (.ref a :: st) h Q :=
  hk_getf (ci := 7) (kf := 0) (C := RX7) (T := TX7) (N := 2) rfl hk_in7 (by decide) (by rw [hM]; exact hk_t 210 (by decide +kernel) rfl) hd ha he hv kk
theorem pfX7_14 (hM : M.1.cls = RX7) {x : Nat} (hd : decode M.2.1 pc = .ok (.putfield 14, 3)) (ha : a < h.1) (he : h.2 a = .inr (7, fs)) (hl : 0 < fs.length) (hI : M.1.name = "<init>") (kk : hk_WP M d mc ms k n (pc + 3) ls st (hk_up h a (.inr (7, fs.set 0 (.ref x)))) Q) : hk_WP M d mc ms k n pc ls (.ref x :: .ref a :: st) h Q :=
  hk_putF (ci := 7) (kf := 0) (C := RX7) (T := TX7) (N := 2) tyX7 tyX7_ok nmX7 rfl hk_in7 (by decide) (by rw [hM]; exact hk_t 210 (by decide +kernel) rfl) rfl hI (by rw [hM]; rfl) (fun _ => rfl) (fun _ => rfl) hd ha he hl kk
theorem gfX7_18 (hM : M.1.cls = RX7) {v : Value} (hd : decode M.2.1 pc = .ok (.getfield 18, 3)) (ha : a < h.1) (he : h.2 a = .inr (7, fs)) (hv : fs[1]? = some v) (kk : hk_WP M d mc ms k n (pc + 3) ls (v :: st) h Q) : hk_WP M d mc ms k n pc ls (.ref a :: st) h Q :=
  hk_getf (ci := 7) (kf := 1) (C := RX7) (T := TX7) (N := 2) rfl hk_in7 (by decide) (by rw [hM]; exact hk_t 212 (by decide +kernel) rfl) hd ha he hv kk
theorem pfX7_18 (hM : M.1.cls = RX7) {x : Nat} (hd : decode M.2.1 pc = .ok (.putfield 18, 3)) (ha : a < h.1) (he : h.2 a = .inr (7, fs)) (hl : 1 < fs.length) (hI : M.1.name = "<init>") (kk : hk_WP M d mc ms k n (pc + 3) ls st (hk_up h a (.inr (7, fs.set 1 (.ref x)))) Q) : hk_WP M d mc ms k n pc ls (.ref x :: .ref a :: st) h Q :=
  hk_putF (ci := 7) (kf := 1) (C := RX7) (T := TX7) (N := 2) tyX7 tyX7_ok nmX7 rfl hk_in7 (by decide) (by rw [hM]; exact hk_t 212 (by decide +kernel) rfl) rfl hI (by rw [hM]; rfl) (fun _ => rfl) (fun _ => rfl) hd ha he hl kk
theorem ivX7_21 (hM : M.1.cls = RX7) (hC : hk_Ct MX6_add d' mc' ms' (.ref a :: As) h Qc) (hd : decode M.2.1 pc = .ok (.invokevirtual 21, 3)) (ha : a < h.1) (he : h.2 a = .inr (6, fs)) (hst : st0 = As.reverse ++ .ref a :: st) (hn : As.length = 0) (hdep : d' + 1 ≤ d) (hrm : k + mc' ≤ mc ∧ n + ms' ≤ ms) (hcat : (st.map fun v => v.category).sum ≤ 8) (kk : ∀ (r : Option Value) (h' : hk_H), Qc r h' → hk_WP M d mc ms (k + mc') (n + ms') (pc + 3) ls (r.toList ++ st) h' Q) : hk_WP M d mc ms k n pc ls st0 h Q :=
  hk_invVN (host := "HackneyStands") hC hk_wX6_add ⟨(by rw [hM]; exact hk_n 847 (by decide +kernel) rfl), hk_t 170 (by decide +kernel) rfl, hk_ts 1 (by decide +kernel) rfl⟩ hd ha he rfl hst hn hdep hrm hcat kk
theorem ivX7_25 (hM : M.1.cls = RX7) (hC : hk_Ct MX6_set d' mc' ms' (.ref a :: As) h Qc) (hd : decode M.2.1 pc = .ok (.invokevirtual 25, 3)) (ha : a < h.1) (he : h.2 a = .inr (6, fs)) (hst : st0 = As.reverse ++ .ref a :: st) (hn : As.length = 3) (hdep : d' + 1 ≤ d) (hrm : k + mc' ≤ mc ∧ n + ms' ≤ ms) (hcat : (st.map fun v => v.category).sum ≤ 8) (kk : ∀ (r : Option Value) (h' : hk_H), Qc r h' → hk_WP M d mc ms (k + mc') (n + ms') (pc + 3) ls (r.toList ++ st) h' Q) : hk_WP M d mc ms k n pc ls st0 h Q :=
  hk_invVN (host := "HackneyStands") hC hk_wX6_set ⟨(by rw [hM]; exact hk_n 848 (by decide +kernel) rfl), hk_t 264 (by decide +kernel) rfl, hk_ts 6 (by decide +kernel) rfl⟩ hd ha he rfl hst hn hdep hrm hcat kk
theorem ivX8_11 (hM : M.1.cls = RX8) (hC : hk_Ct MX6_init d' mc' ms' (.ref a :: As) h Qc) (hd : decode M.2.1 pc = .ok (.invokespecial 11, 3)) (hst : st0 = As.reverse ++ .ref a :: st) (hn : As.length = 2) (hdep : d' + 1 ≤ d) (hrm : k + mc' ≤ mc ∧ n + ms' ≤ ms) (hcat : (st.map fun v => v.category).sum ≤ 8) (kk : ∀ (r : Option Value) (h' : hk_H), Qc r h' → hk_WP M d mc ms (k + mc') (n + ms') (pc + 3) ls (r.toList ++ st) h' Q) : hk_WP M d mc ms k n pc ls st0 h Q :=
  hk_invIN (host := "HackneyStands") hC hk_wX6_init rfl ⟨(by rw [hM]; exact hk_n 167 (by decide +kernel) rfl), hk_t 36 (by decide +kernel) rfl⟩ hd hst hn hdep hrm hcat kk
theorem gfX8_14 (hM : M.1.cls = RX8) {v : Value} (hd : decode M.2.1 pc = .ok (.getfield 14, 3)) (ha : a < h.1) (he : h.2 a = .inr (8, fs)) (hv : fs[0]? = some v) (kk : hk_WP M d mc ms k n (pc + 3) ls (v :: st) h Q) : hk_WP M d mc ms k n pc ls (.ref a :: st) h Q :=
  hk_getf (ci := 8) (kf := 0) (C := RX8) (T := TX8) (N := 3) rfl hk_in8 (by decide) (by rw [hM]; exact hk_t 176 (by decide +kernel) rfl) hd ha he hv kk
theorem pfX8_14 (hM : M.1.cls = RX8) {x : Nat} (hd : decode M.2.1 pc = .ok (.putfield 14, 3)) (ha : a < h.1) (he : h.2 a = .inr (8, fs)) (hl : 0 < fs.length) (hI : M.1.name = "<init>") (kk : hk_WP M d mc ms k n (pc + 3) ls st (hk_up h a (.inr (8, fs.set 0 (.ref x)))) Q) : hk_WP M d mc ms k n pc ls (.ref x :: .ref a :: st) h Q :=
  hk_putF (ci := 8) (kf := 0) (C := RX8) (T := TX8) (N := 3) tyX8 tyX8_ok nmX8 rfl hk_in8 (by decide) (by rw [hM]; exact hk_t 176 (by decide +kernel) rfl) rfl hI (by rw [hM]; rfl) (fun _ => rfl) (fun _ => rfl) hd ha he hl kk
theorem gfX8_18 (hM : M.1.cls = RX8) {v : Value} (hd : decode M.2.1 pc = .ok (.getfield 18, 3)) (ha : a < h.1) (he : h.2 a = .inr (8, fs)) (hv : fs[1]? = some v) (kk : hk_WP M d mc ms k n (pc + 3) ls (v :: st) h Q) : hk_WP M d mc ms k n pc ls (.ref a :: st) h Q :=
  hk_getf (ci := 8) (kf := 1) (C := RX8) (T := TX8) (N := 3) rfl hk_in8 (by decide) (by rw [hM]; exact hk_t 178 (by decide +kernel) rfl) hd ha he hv kk
theorem pfX8_18 (hM : M.1.cls = RX8) {x : Nat} (hd : decode M.2.1 pc = .ok (.putfield 18, 3)) (ha : a < h.1) (he : h.2 a = .inr (8, fs)) (hl : 1 < fs.length) (hI : M.1.name = "<init>") (kk : hk_WP M d mc ms k n (pc + 3) ls st (hk_up h a (.inr (8, fs.set 1 (.ref x)))) Q) : hk_WP M d mc ms k n pc ls (.ref x :: .ref a :: st) h Q :=
  hk_putF (ci := 8) (kf := 1) (C := RX8) (T := TX8) (N := 3) tyX8 tyX8_ok nmX8 rfl hk_in8 (by decide) (by rw [hM]; exact hk_t 178 (by decide +kernel) rfl) rfl hI (by rw [hM]; rfl) (fun _ => rfl) (fun _ => rfl) hd ha he hl kk
theorem gfX8_21 (hM : M.1.cls = RX8) {v : Value} (hd : decode M.2.1 pc = .ok (.getfield 21, 3)) (ha : a < h.1) (he : h.2 a = .inr (8, fs)) (hv : fs[2]? = some v) (kk : hk_WP M d mc ms k n (pc + 3) ls (v :: st) h Q) : hk_WP M d mc ms k n pc ls (.ref a :: st) h Q :=
  hk_getf (ci := 8) (kf := 2) (C := RX8) (T := TX8) (N := 3) rfl hk_in8 (by decide) (by rw [hM]; exact hk_t 180 (by decide +kernel) rfl) hd ha he hv kk
theorem pfX8_21 (hM : M.1.cls = RX8) {x : Nat} (hd : decode M.2.1 pc = .ok (.putfield 21, 3)) (ha : a < h.1) (he : h.2 a = .inr (8, fs)) (hl : 2 < fs.length) (hI : M.1.name = "<init>") (kk : hk_WP M d mc ms k n (pc + 3) ls st (hk_up h a (.inr (8, fs.set 2 (.ref x)))) Q) : hk_WP M d mc ms k n pc ls (.ref x :: .ref a :: st) h Q :=
  hk_putF (ci := 8) (kf := 2) (C := RX8) (T := TX8) (N := 3) tyX8 tyX8_ok nmX8 rfl hk_in8 (by decide) (by rw [hM]; exact hk_t 180 (by decide +kernel) rfl) rfl hI (by rw [hM]; rfl) (fun _ => rfl) (fun _ => rfl) hd ha he hl kk
theorem ivX8_24 (hM : M.1.cls = RX8) (hC : hk_Ct MX6_add d' mc' ms' (.ref a :: As) h Qc) (hd : decode M.2.1 pc = .ok (.invokevirtual 24, 3)) (ha : a < h.1) (he : h.2 a = .inr (6, fs)) (hst : st0 = As.reverse ++ .ref a :: st) (hn : As.length = 0) (hdep : d' + 1 ≤ d) (hrm : k + mc' ≤ mc ∧ n + ms' ≤ ms) (hcat : (st.map fun v => v.category).sum ≤ 8) (kk : ∀ (r : Option Value) (h' : hk_H), Qc r h' → hk_WP M d mc ms (k + mc') (n + ms') (pc + 3) ls (r.toList ++ st) h' Q) : hk_WP M d mc ms k n pc ls st0 h Q :=
  hk_invVN (host := "HackneyStands") hC hk_wX6_add ⟨(by rw [hM]; exact hk_n 168 (by decide +kernel) rfl), hk_t 170 (by decide +kernel) rfl, hk_ts 1 (by decide +kernel) rfl⟩ hd ha he rfl hst hn hdep hrm hcat kk
theorem ivX8_28 (hM : M.1.cls = RX8) (hC : hk_Ct MX6_set d' mc' ms' (.ref a :: As) h Qc) (hd : decode M.2.1 pc = .ok (.invokevirtual 28, 3)) (ha : a < h.1) (he : h.2 a = .inr (6, fs)) (hst : st0 = As.reverse ++ .ref a :: st) (hn : As.length = 3) (hdep : d' + 1 ≤ d) (hrm : k + mc' ≤ mc ∧ n + ms' ≤ ms) (hcat : (st.map fun v => v.category).sum ≤ 8) (kk : ∀ (r : Option Value) (h' : hk_H), Qc r h' → hk_WP M d mc ms (k + mc') (n + ms') (pc + 3) ls (r.toList ++ st) h' Q) : hk_WP M d mc ms k n pc ls st0 h Q :=
  hk_invVN (host := "HackneyStands") hC hk_wX6_set ⟨(by rw [hM]; exact hk_n 734 (by decide +kernel) rfl), hk_t 264 (by decide +kernel) rfl, hk_ts 6 (by decide +kernel) rfl⟩ hd ha he rfl hst hn hdep hrm hcat kk
theorem ivX8_32 (hM : M.1.cls = RX8) (hC : hk_Ct MX6_get d' mc' ms' (.ref a :: As) h Qc) (hd : decode M.2.1 pc = .ok (.invokevirtual 32, 3)) (ha : a < h.1) (he : h.2 a = .inr (6, fs)) (hst : st0 = As.reverse ++ .ref a :: st) (hn : As.length = 2) (hdep : d' + 1 ≤ d) (hrm : k + mc' ≤ mc ∧ n + ms' ≤ ms) (hcat : (st.map fun v => v.category).sum ≤ 8) (kk : ∀ (r : Option Value) (h' : hk_H), Qc r h' → hk_WP M d mc ms (k + mc') (n + ms') (pc + 3) ls (r.toList ++ st) h' Q) : hk_WP M d mc ms k n pc ls st0 h Q :=
  hk_invVN (host := "HackneyStands") hC hk_wX6_get ⟨(by rw [hM]; exact hk_n 452 (by decide +kernel) rfl), hk_t 281 (by decide +kernel) rfl, hk_ts 9 (by decide +kernel) rfl⟩ hd ha he rfl hst hn hdep hrm hcat kk
theorem gfX8_36 (hM : M.1.cls = RX8) {v : Value} (hd : decode M.2.1 pc = .ok (.getfield 36, 3)) (ha : a < h.1) (he : h.2 a = .inr (6, fs)) (hv : fs[3]? = some v) (kk : hk_WP M d mc ms k n (pc + 3) ls (v :: st) h Q) : hk_WP M d mc ms k n pc ls (.ref a :: st) h Q :=
  hk_getfN (ci := 6) (kf := 3) (C := RX6) (T := TX6) (N := 4) (host := "HackneyStands") rfl hk_in6 (by decide) (by rw [hM]; exact hk_n 45 (by decide +kernel) rfl) hd ha he hv kk
theorem gfX9_7 (hM : M.1.cls = RX9) {v : Value} (hd : decode M.2.1 pc = .ok (.getfield 7, 3)) (ha : a < h.1) (he : h.2 a = .inr (9, fs)) (hv : fs[0]? = some v) (kk : hk_WP M d mc ms k n (pc + 3) ls (v :: st) h Q) : hk_WP M d mc ms k n pc ls (.ref a :: st) h Q :=
  hk_getf (ci := 9) (kf := 0) (C := RX9) (T := TX9) (N := 7) rfl hk_in9 (by decide) (by rw [hM]; exact hk_t 219 (by decide +kernel) rfl) hd ha he hv kk
theorem pfX9_7 (hM : M.1.cls = RX9) {x : Int32} (hd : decode M.2.1 pc = .ok (.putfield 7, 3)) (ha : a < h.1) (he : h.2 a = .inr (9, fs)) (hl : 0 < fs.length) (kk : hk_WP M d mc ms k n (pc + 3) ls st (hk_up h a (.inr (9, fs.set 0 (.int x)))) Q) : hk_WP M d mc ms k n pc ls (.int x :: .ref a :: st) h Q :=
  hk_putf (ci := 9) (kf := 0) (C := RX9) (T := TX9) (N := 7) tyX9 tyX9_ok nmX9 rfl hk_in9 (by decide) (by rw [hM]; exact hk_t 219 (by decide +kernel) rfl) rfl (fun _ => rfl) (fun _ => rfl) hd ha he hl kk
theorem ivX9_15 (hM : M.1.cls = RX9) (hC : hk_Ct MX0_init d' mc' ms' (.ref a :: As) h Qc) (hd : decode M.2.1 pc = .ok (.invokespecial 15, 3)) (hst : st0 = As.reverse ++ .ref a :: st) (hn : As.length = 0) (hdep : d' + 1 ≤ d) (hrm : k + mc' ≤ mc ∧ n + ms' ≤ ms) (hcat : (st.map fun v => v.category).sum ≤ 8) (kk : ∀ (r : Option Value) (h' : hk_H), Qc r h' → hk_WP M d mc ms (k + mc') (n + ms') (pc + 3) ls (r.toList ++ st) h' Q) : hk_WP M d mc ms k n pc ls st0 h Q :=
  hk_invIN (host := "HackneyStands") hC hk_wX0_init rfl ⟨(by rw [hM]; exact hk_n 29 (by decide +kernel) rfl), hk_t 30 (by decide +kernel) rfl⟩ hd hst hn hdep hrm hcat kk
theorem gfX9_16 (hM : M.1.cls = RX9) {v : Value} (hd : decode M.2.1 pc = .ok (.getfield 16, 3)) (ha : a < h.1) (he : h.2 a = .inr (9, fs)) (hv : fs[1]? = some v) (kk : hk_WP M d mc ms k n (pc + 3) ls (v :: st) h Q) : hk_WP M d mc ms k n pc ls (.ref a :: st) h Q :=
  hk_getf (ci := 9) (kf := 1) (C := RX9) (T := TX9) (N := 7) rfl hk_in9 (by decide) (by rw [hM]; exact hk_t 220 (by decide +kernel) rfl) hd ha he hv kk
theorem pfX9_16 (hM : M.1.cls = RX9) {x : Nat} (hd : decode M.2.1 pc = .ok (.putfield 16, 3)) (ha : a < h.1) (he : h.2 a = .inr (9, fs)) (hl : 1 < fs.length) (hI : M.1.name = "<init>") (kk : hk_WP M d mc ms k n (pc + 3) ls st (hk_up h a (.inr (9, fs.set 1 (.ref x)))) Q) : hk_WP M d mc ms k n pc ls (.ref x :: .ref a :: st) h Q :=
  hk_putF (ci := 9) (kf := 1) (C := RX9) (T := TX9) (N := 7) tyX9 tyX9_ok nmX9 rfl hk_in9 (by decide) (by rw [hM]; exact hk_t 220 (by decide +kernel) rfl) rfl hI (by rw [hM]; rfl) (fun _ => rfl) (fun _ => rfl) hd ha he hl kk
theorem ivX9_22 (hM : M.1.cls = RX9) (hC : hk_Ct MX2_init d' mc' ms' (.ref a :: As) h Qc) (hd : decode M.2.1 pc = .ok (.invokespecial 22, 3)) (hst : st0 = As.reverse ++ .ref a :: st) (hn : As.length = 0) (hdep : d' + 1 ≤ d) (hrm : k + mc' ≤ mc ∧ n + ms' ≤ ms) (hcat : (st.map fun v => v.category).sum ≤ 8) (kk : ∀ (r : Option Value) (h' : hk_H), Qc r h' → hk_WP M d mc ms (k + mc') (n + ms') (pc + 3) ls (r.toList ++ st) h' Q) : hk_WP M d mc ms k n pc ls st0 h Q :=
  hk_invIN (host := "HackneyStands") hC hk_wX2_init rfl ⟨(by rw [hM]; exact hk_n 88 (by decide +kernel) rfl), hk_t 89 (by decide +kernel) rfl⟩ hd hst hn hdep hrm hcat kk
theorem gfX9_23 (hM : M.1.cls = RX9) {v : Value} (hd : decode M.2.1 pc = .ok (.getfield 23, 3)) (ha : a < h.1) (he : h.2 a = .inr (9, fs)) (hv : fs[2]? = some v) (kk : hk_WP M d mc ms k n (pc + 3) ls (v :: st) h Q) : hk_WP M d mc ms k n pc ls (.ref a :: st) h Q :=
  hk_getf (ci := 9) (kf := 2) (C := RX9) (T := TX9) (N := 7) rfl hk_in9 (by decide) (by rw [hM]; exact hk_t 221 (by decide +kernel) rfl) hd ha he hv kk
theorem pfX9_23 (hM : M.1.cls = RX9) {x : Nat} (hd : decode M.2.1 pc = .ok (.putfield 23, 3)) (ha : a < h.1) (he : h.2 a = .inr (9, fs)) (hl : 2 < fs.length) (hI : M.1.name = "<init>") (kk : hk_WP M d mc ms k n (pc + 3) ls st (hk_up h a (.inr (9, fs.set 2 (.ref x)))) Q) : hk_WP M d mc ms k n pc ls (.ref x :: .ref a :: st) h Q :=
  hk_putF (ci := 9) (kf := 2) (C := RX9) (T := TX9) (N := 7) tyX9 tyX9_ok nmX9 rfl hk_in9 (by decide) (by rw [hM]; exact hk_t 221 (by decide +kernel) rfl) rfl hI (by rw [hM]; rfl) (fun _ => rfl) (fun _ => rfl) hd ha he hl kk
theorem ivX9_29 (hM : M.1.cls = RX9) (hC : hk_Ct MX4_init d' mc' ms' (.ref a :: As) h Qc) (hd : decode M.2.1 pc = .ok (.invokespecial 29, 3)) (hst : st0 = As.reverse ++ .ref a :: st) (hn : As.length = 0) (hdep : d' + 1 ≤ d) (hrm : k + mc' ≤ mc ∧ n + ms' ≤ ms) (hcat : (st.map fun v => v.category).sum ≤ 8) (kk : ∀ (r : Option Value) (h' : hk_H), Qc r h' → hk_WP M d mc ms (k + mc') (n + ms') (pc + 3) ls (r.toList ++ st) h' Q) : hk_WP M d mc ms k n pc ls st0 h Q :=
  hk_invIN (host := "HackneyStands") hC hk_wX4_init rfl ⟨(by rw [hM]; exact hk_n 109 (by decide +kernel) rfl), hk_t 110 (by decide +kernel) rfl⟩ hd hst hn hdep hrm hcat kk
theorem gfX9_30 (hM : M.1.cls = RX9) {v : Value} (hd : decode M.2.1 pc = .ok (.getfield 30, 3)) (ha : a < h.1) (he : h.2 a = .inr (9, fs)) (hv : fs[3]? = some v) (kk : hk_WP M d mc ms k n (pc + 3) ls (v :: st) h Q) : hk_WP M d mc ms k n pc ls (.ref a :: st) h Q :=
  hk_getf (ci := 9) (kf := 3) (C := RX9) (T := TX9) (N := 7) rfl hk_in9 (by decide) (by rw [hM]; exact hk_t 222 (by decide +kernel) rfl) hd ha he hv kk
theorem pfX9_30 (hM : M.1.cls = RX9) {x : Nat} (hd : decode M.2.1 pc = .ok (.putfield 30, 3)) (ha : a < h.1) (he : h.2 a = .inr (9, fs)) (hl : 3 < fs.length) (hI : M.1.name = "<init>") (kk : hk_WP M d mc ms k n (pc + 3) ls st (hk_up h a (.inr (9, fs.set 3 (.ref x)))) Q) : hk_WP M d mc ms k n pc ls (.ref x :: .ref a :: st) h Q :=
  hk_putF (ci := 9) (kf := 3) (C := RX9) (T := TX9) (N := 7) tyX9 tyX9_ok nmX9 rfl hk_in9 (by decide) (by rw [hM]; exact hk_t 222 (by decide +kernel) rfl) rfl hI (by rw [hM]; rfl) (fun _ => rfl) (fun _ => rfl) hd ha he hl kk
theorem ivX9_36 (hM : M.1.cls = RX9) (hC : hk_Ct MX8_init d' mc' ms' (.ref a :: As) h Qc) (hd : decode M.2.1 pc = .ok (.invokespecial 36, 3)) (hst : st0 = As.reverse ++ .ref a :: st) (hn : As.length = 0) (hdep : d' + 1 ≤ d) (hrm : k + mc' ≤ mc ∧ n + ms' ≤ ms) (hcat : (st.map fun v => v.category).sum ≤ 8) (kk : ∀ (r : Option Value) (h' : hk_H), Qc r h' → hk_WP M d mc ms (k + mc') (n + ms') (pc + 3) ls (r.toList ++ st) h' Q) : hk_WP M d mc ms k n pc ls st0 h Q :=
  hk_invIN (host := "HackneyStands") hC hk_wX8_init rfl ⟨(by rw [hM]; exact hk_n 162 (by decide +kernel) rfl), hk_t 163 (by decide +kernel) rfl⟩ hd hst hn hdep hrm hcat kk
theorem gfX9_37 (hM : M.1.cls = RX9) {v : Value} (hd : decode M.2.1 pc = .ok (.getfield 37, 3)) (ha : a < h.1) (he : h.2 a = .inr (9, fs)) (hv : fs[4]? = some v) (kk : hk_WP M d mc ms k n (pc + 3) ls (v :: st) h Q) : hk_WP M d mc ms k n pc ls (.ref a :: st) h Q :=
  hk_getf (ci := 9) (kf := 4) (C := RX9) (T := TX9) (N := 7) rfl hk_in9 (by decide) (by rw [hM]; exact hk_t 223 (by decide +kernel) rfl) hd ha he hv kk
theorem pfX9_37 (hM : M.1.cls = RX9) {x : Nat} (hd : decode M.2.1 pc = .ok (.putfield 37, 3)) (ha : a < h.1) (he : h.2 a = .inr (9, fs)) (hl : 4 < fs.length) (hI : M.1.name = "<init>") (kk : hk_WP M d mc ms k n (pc + 3) ls st (hk_up h a (.inr (9, fs.set 4 (.ref x)))) Q) : hk_WP M d mc ms k n pc ls (.ref x :: .ref a :: st) h Q :=
  hk_putF (ci := 9) (kf := 4) (C := RX9) (T := TX9) (N := 7) tyX9 tyX9_ok nmX9 rfl hk_in9 (by decide) (by rw [hM]; exact hk_t 223 (by decide +kernel) rfl) rfl hI (by rw [hM]; rfl) (fun _ => rfl) (fun _ => rfl) hd ha he hl kk
theorem ivX9_43 (hM : M.1.cls = RX9) (hC : hk_Ct MX1_init d' mc' ms' (.ref a :: As) h Qc) (hd : decode M.2.1 pc = .ok (.invokespecial 43, 3)) (hst : st0 = As.reverse ++ .ref a :: st) (hn : As.length = 0) (hdep : d' + 1 ≤ d) (hrm : k + mc' ≤ mc ∧ n + ms' ≤ ms) (hcat : (st.map fun v => v.category).sum ≤ 8) (kk : ∀ (r : Option Value) (h' : hk_H), Qc r h' → hk_WP M d mc ms (k + mc') (n + ms') (pc + 3) ls (r.toList ++ st) h' Q) : hk_WP M d mc ms k n pc ls st0 h Q :=
  hk_invIN (host := "HackneyStands") hC hk_wX1_init rfl ⟨(by rw [hM]; exact hk_n 191 (by decide +kernel) rfl), hk_t 192 (by decide +kernel) rfl⟩ hd hst hn hdep hrm hcat kk
theorem gfX9_44 (hM : M.1.cls = RX9) {v : Value} (hd : decode M.2.1 pc = .ok (.getfield 44, 3)) (ha : a < h.1) (he : h.2 a = .inr (9, fs)) (hv : fs[5]? = some v) (kk : hk_WP M d mc ms k n (pc + 3) ls (v :: st) h Q) : hk_WP M d mc ms k n pc ls (.ref a :: st) h Q :=
  hk_getf (ci := 9) (kf := 5) (C := RX9) (T := TX9) (N := 7) rfl hk_in9 (by decide) (by rw [hM]; exact hk_t 224 (by decide +kernel) rfl) hd ha he hv kk
theorem pfX9_44 (hM : M.1.cls = RX9) {x : Nat} (hd : decode M.2.1 pc = .ok (.putfield 44, 3)) (ha : a < h.1) (he : h.2 a = .inr (9, fs)) (hl : 5 < fs.length) (hI : M.1.name = "<init>") (kk : hk_WP M d mc ms k n (pc + 3) ls st (hk_up h a (.inr (9, fs.set 5 (.ref x)))) Q) : hk_WP M d mc ms k n pc ls (.ref x :: .ref a :: st) h Q :=
  hk_putF (ci := 9) (kf := 5) (C := RX9) (T := TX9) (N := 7) tyX9 tyX9_ok nmX9 rfl hk_in9 (by decide) (by rw [hM]; exact hk_t 224 (by decide +kernel) rfl) rfl hI (by rw [hM]; rfl) (fun _ => rfl) (fun _ => rfl) hd ha he hl kk
theorem ivX9_50 (hM : M.1.cls = RX9) (hC : hk_Ct MX7_init d' mc' ms' (.ref a :: As) h Qc) (hd : decode M.2.1 pc = .ok (.invokespecial 50, 3)) (hst : st0 = As.reverse ++ .ref a :: st) (hn : As.length = 0) (hdep : d' + 1 ≤ d) (hrm : k + mc' ≤ mc ∧ n + ms' ≤ ms) (hcat : (st.map fun v => v.category).sum ≤ 8) (kk : ∀ (r : Option Value) (h' : hk_H), Qc r h' → hk_WP M d mc ms (k + mc') (n + ms') (pc + 3) ls (r.toList ++ st) h' Q) : hk_WP M d mc ms k n pc ls st0 h Q :=
  hk_invIN (host := "HackneyStands") hC hk_wX7_init rfl ⟨(by rw [hM]; exact hk_n 204 (by decide +kernel) rfl), hk_t 205 (by decide +kernel) rfl⟩ hd hst hn hdep hrm hcat kk
theorem gfX9_51 (hM : M.1.cls = RX9) {v : Value} (hd : decode M.2.1 pc = .ok (.getfield 51, 3)) (ha : a < h.1) (he : h.2 a = .inr (9, fs)) (hv : fs[6]? = some v) (kk : hk_WP M d mc ms k n (pc + 3) ls (v :: st) h Q) : hk_WP M d mc ms k n pc ls (.ref a :: st) h Q :=
  hk_getf (ci := 9) (kf := 6) (C := RX9) (T := TX9) (N := 7) rfl hk_in9 (by decide) (by rw [hM]; exact hk_t 225 (by decide +kernel) rfl) hd ha he hv kk
theorem pfX9_51 (hM : M.1.cls = RX9) {x : Nat} (hd : decode M.2.1 pc = .ok (.putfield 51, 3)) (ha : a < h.1) (he : h.2 a = .inr (9, fs)) (hl : 6 < fs.length) (hI : M.1.name = "<init>") (kk : hk_WP M d mc ms k n (pc + 3) ls st (hk_up h a (.inr (9, fs.set 6 (.ref x)))) Q) : hk_WP M d mc ms k n pc ls (.ref x :: .ref a :: st) h Q :=
  hk_putF (ci := 9) (kf := 6) (C := RX9) (T := TX9) (N := 7) tyX9 tyX9_ok nmX9 rfl hk_in9 (by decide) (by rw [hM]; exact hk_t 225 (by decide +kernel) rfl) rfl hI (by rw [hM]; rfl) (fun _ => rfl) (fun _ => rfl) hd ha he hl kk
theorem ivX9_55 (hM : M.1.cls = RX9) (hC : hk_Ct MX0_addCorner d' mc' ms' (.ref a :: As) h Qc) (hd : decode M.2.1 pc = .ok (.invokevirtual 55, 3)) (ha : a < h.1) (he : h.2 a = .inr (0, fs)) (hst : st0 = As.reverse ++ .ref a :: st) (hn : As.length = 0) (hdep : d' + 1 ≤ d) (hrm : k + mc' ≤ mc ∧ n + ms' ≤ ms) (hcat : (st.map fun v => v.category).sum ≤ 8) (kk : ∀ (r : Option Value) (h' : hk_H), Qc r h' → hk_WP M d mc ms (k + mc') (n + ms') (pc + 3) ls (r.toList ++ st) h' Q) : hk_WP M d mc ms k n pc ls st0 h Q :=
  hk_invVN (host := "HackneyStands") hC hk_wX0_addCorner ⟨(by rw [hM]; exact hk_n 245 (by decide +kernel) rfl), hk_t 247 (by decide +kernel) rfl, hk_ts 3 (by decide +kernel) rfl⟩ hd ha he rfl hst hn hdep hrm hcat kk
theorem ivX9_59 (hM : M.1.cls = RX9) (hC : hk_Ct MX0_isCorner d' mc' ms' (.ref a :: As) h Qc) (hd : decode M.2.1 pc = .ok (.invokevirtual 59, 3)) (ha : a < h.1) (he : h.2 a = .inr (0, fs)) (hst : st0 = As.reverse ++ .ref a :: st) (hn : As.length = 1) (hdep : d' + 1 ≤ d) (hrm : k + mc' ≤ mc ∧ n + ms' ≤ ms) (hcat : (st.map fun v => v.category).sum ≤ 8) (kk : ∀ (r : Option Value) (h' : hk_H), Qc r h' → hk_WP M d mc ms (k + mc') (n + ms') (pc + 3) ls (r.toList ++ st) h' Q) : hk_WP M d mc ms k n pc ls st0 h Q :=
  hk_invVN (host := "HackneyStands") hC hk_wX0_isCorner ⟨(by rw [hM]; exact hk_n 253 (by decide +kernel) rfl), hk_t 255 (by decide +kernel) rfl, hk_ts 4 (by decide +kernel) rfl⟩ hd ha he rfl hst hn hdep hrm hcat kk
theorem ivX9_63 (hM : M.1.cls = RX9) (hC : hk_Ct MX0_addStreet d' mc' ms' (.ref a :: As) h Qc) (hd : decode M.2.1 pc = .ok (.invokevirtual 63, 3)) (ha : a < h.1) (he : h.2 a = .inr (0, fs)) (hst : st0 = As.reverse ++ .ref a :: st) (hn : As.length = 4) (hdep : d' + 1 ≤ d) (hrm : k + mc' ≤ mc ∧ n + ms' ≤ ms) (hcat : (st.map fun v => v.category).sum ≤ 8) (kk : ∀ (r : Option Value) (h' : hk_H), Qc r h' → hk_WP M d mc ms (k + mc') (n + ms') (pc + 3) ls (r.toList ++ st) h' Q) : hk_WP M d mc ms k n pc ls st0 h Q :=
  hk_invVN (host := "HackneyStands") hC hk_wX0_addStreet ⟨(by rw [hM]; exact hk_n 257 (by decide +kernel) rfl), hk_t 259 (by decide +kernel) rfl, hk_ts 5 (by decide +kernel) rfl⟩ hd ha he rfl hst hn hdep hrm hcat kk
theorem gfX9_67 (hM : M.1.cls = RX9) {v : Value} (hd : decode M.2.1 pc = .ok (.getfield 67, 3)) (ha : a < h.1) (he : h.2 a = .inr (0, fs)) (hv : fs[1]? = some v) (kk : hk_WP M d mc ms k n (pc + 3) ls (v :: st) h Q) : hk_WP M d mc ms k n pc ls (.ref a :: st) h Q :=
  hk_getfN (ci := 0) (kf := 1) (C := RX0) (T := TX0) (N := 7) (host := "HackneyStands") rfl hk_in0 (by decide) (by rw [hM]; exact hk_n 65 (by decide +kernel) rfl) hd ha he hv kk
theorem ivX9_71 (hM : M.1.cls = RX9) (hC : hk_Ct MX6_has d' mc' ms' (.ref a :: As) h Qc) (hd : decode M.2.1 pc = .ok (.invokevirtual 71, 3)) (ha : a < h.1) (he : h.2 a = .inr (6, fs)) (hst : st0 = As.reverse ++ .ref a :: st) (hn : As.length = 1) (hdep : d' + 1 ≤ d) (hrm : k + mc' ≤ mc ∧ n + ms' ≤ ms) (hcat : (st.map fun v => v.category).sum ≤ 8) (kk : ∀ (r : Option Value) (h' : hk_H), Qc r h' → hk_WP M d mc ms (k + mc') (n + ms') (pc + 3) ls (r.toList ++ st) h' Q) : hk_WP M d mc ms k n pc ls st0 h Q :=
  hk_invVN (host := "HackneyStands") hC hk_wX6_has ⟨(by rw [hM]; exact hk_n 270 (by decide +kernel) rfl), hk_t 272 (by decide +kernel) rfl, hk_ts 7 (by decide +kernel) rfl⟩ hd ha he rfl hst hn hdep hrm hcat kk
theorem ivX9_77 (hM : M.1.cls = RX9) (hC : hk_Ct MX0_addSpan d' mc' ms' (.ref a :: As) h Qc) (hd : decode M.2.1 pc = .ok (.invokevirtual 77, 3)) (ha : a < h.1) (he : h.2 a = .inr (0, fs)) (hst : st0 = As.reverse ++ .ref a :: st) (hn : As.length = 3) (hdep : d' + 1 ≤ d) (hrm : k + mc' ≤ mc ∧ n + ms' ≤ ms) (hcat : (st.map fun v => v.category).sum ≤ 8) (kk : ∀ (r : Option Value) (h' : hk_H), Qc r h' → hk_WP M d mc ms (k + mc') (n + ms') (pc + 3) ls (r.toList ++ st) h' Q) : hk_WP M d mc ms k n pc ls st0 h Q :=
  hk_invVN (host := "HackneyStands") hC hk_wX0_addSpan ⟨(by rw [hM]; exact hk_n 275 (by decide +kernel) rfl), hk_t 277 (by decide +kernel) rfl, hk_ts 8 (by decide +kernel) rfl⟩ hd ha he rfl hst hn hdep hrm hcat kk
theorem ivX9_81 (hM : M.1.cls = RX9) (hC : hk_Ct MX0_tellSun d' mc' ms' (.ref a :: As) h Qc) (hd : decode M.2.1 pc = .ok (.invokevirtual 81, 3)) (ha : a < h.1) (he : h.2 a = .inr (0, fs)) (hst : st0 = As.reverse ++ .ref a :: st) (hn : As.length = 3) (hdep : d' + 1 ≤ d) (hrm : k + mc' ≤ mc ∧ n + ms' ≤ ms) (hcat : (st.map fun v => v.category).sum ≤ 8) (kk : ∀ (r : Option Value) (h' : hk_H), Qc r h' → hk_WP M d mc ms (k + mc') (n + ms') (pc + 3) ls (r.toList ++ st) h' Q) : hk_WP M d mc ms k n pc ls st0 h Q :=
  hk_invVN (host := "HackneyStands") hC hk_wX0_tellSun ⟨(by rw [hM]; exact hk_n 287 (by decide +kernel) rfl), hk_t 60 (by decide +kernel) rfl, hk_ts 0 (by decide +kernel) rfl⟩ hd ha he rfl hst hn hdep hrm hcat kk
theorem ivX9_85 (hM : M.1.cls = RX9) (hC : hk_Ct MX9_isMinute d' mc' ms' As h Qc) (hd : decode M.2.1 pc = .ok (.invokestatic 85, 3)) (hst : st0 = As.reverse ++ st) (hn : As.length = 1) (hdep : d' + 1 ≤ d) (hrm : k + mc' ≤ mc ∧ n + ms' ≤ ms) (hcat : (st.map fun v => v.category).sum ≤ 8) (kk : ∀ (r : Option Value) (h' : hk_H), Qc r h' → hk_WP M d mc ms (k + mc') (n + ms') (pc + 3) ls (r.toList ++ st) h' Q) : hk_WP M d mc ms k n pc ls st0 h Q :=
  hk_invS hC hk_wX9_isMinute ⟨(by rw [hM]; exact hk_t 292 (by decide +kernel) rfl), hk_t 293 (by decide +kernel) rfl⟩ hd hst hn hdep hrm hcat kk
theorem ivX9_88 (hM : M.1.cls = RX9) (hC : hk_Ct MX0_measure d' mc' ms' (.ref a :: As) h Qc) (hd : decode M.2.1 pc = .ok (.invokevirtual 88, 3)) (ha : a < h.1) (he : h.2 a = .inr (0, fs)) (hst : st0 = As.reverse ++ .ref a :: st) (hn : As.length = 2) (hdep : d' + 1 ≤ d) (hrm : k + mc' ≤ mc ∧ n + ms' ≤ ms) (hcat : (st.map fun v => v.category).sum ≤ 8) (kk : ∀ (r : Option Value) (h' : hk_H), Qc r h' → hk_WP M d mc ms (k + mc') (n + ms') (pc + 3) ls (r.toList ++ st) h' Q) : hk_WP M d mc ms k n pc ls st0 h Q :=
  hk_invVN (host := "HackneyStands") hC hk_wX0_measure ⟨(by rw [hM]; exact hk_n 295 (by decide +kernel) rfl), hk_t 297 (by decide +kernel) rfl, hk_ts 10 (by decide +kernel) rfl⟩ hd ha he rfl hst hn hdep hrm hcat kk
theorem ivX9_92 (hM : M.1.cls = RX9) (hC : hk_Ct MX0_yardsFrom d' mc' ms' (.ref a :: As) h Qc) (hd : decode M.2.1 pc = .ok (.invokevirtual 92, 3)) (ha : a < h.1) (he : h.2 a = .inr (0, fs)) (hst : st0 = As.reverse ++ .ref a :: st) (hn : As.length = 1) (hdep : d' + 1 ≤ d) (hrm : k + mc' ≤ mc ∧ n + ms' ≤ ms) (hcat : (st.map fun v => v.category).sum ≤ 8) (kk : ∀ (r : Option Value) (h' : hk_H), Qc r h' → hk_WP M d mc ms (k + mc') (n + ms') (pc + 3) ls (r.toList ++ st) h' Q) : hk_WP M d mc ms k n pc ls st0 h Q :=
  hk_invVN (host := "HackneyStands") hC hk_wX0_yardsFrom ⟨(by rw [hM]; exact hk_n 321 (by decide +kernel) rfl), hk_t 323 (by decide +kernel) rfl, hk_ts 16 (by decide +kernel) rfl⟩ hd ha he rfl hst hn hdep hrm hcat kk
theorem ivX9_96 (hM : M.1.cls = RX9) (hC : hk_Ct MX0_keepSteps d' mc' ms' (.ref a :: As) h Qc) (hd : decode M.2.1 pc = .ok (.invokevirtual 96, 3)) (ha : a < h.1) (he : h.2 a = .inr (0, fs)) (hst : st0 = As.reverse ++ .ref a :: st) (hn : As.length = 2) (hdep : d' + 1 ≤ d) (hrm : k + mc' ≤ mc ∧ n + ms' ≤ ms) (hcat : (st.map fun v => v.category).sum ≤ 8) (kk : ∀ (r : Option Value) (h' : hk_H), Qc r h' → hk_WP M d mc ms (k + mc') (n + ms') (pc + 3) ls (r.toList ++ st) h' Q) : hk_WP M d mc ms k n pc ls st0 h Q :=
  hk_invVN (host := "HackneyStands") hC hk_wX0_keepSteps ⟨(by rw [hM]; exact hk_n 325 (by decide +kernel) rfl), hk_t 327 (by decide +kernel) rfl, hk_ts 17 (by decide +kernel) rfl⟩ hd ha he rfl hst hn hdep hrm hcat kk
theorem ivX9_99 (hM : M.1.cls = RX9) (hC : hk_Ct MX0_stepAt d' mc' ms' (.ref a :: As) h Qc) (hd : decode M.2.1 pc = .ok (.invokevirtual 99, 3)) (ha : a < h.1) (he : h.2 a = .inr (0, fs)) (hst : st0 = As.reverse ++ .ref a :: st) (hn : As.length = 1) (hdep : d' + 1 ≤ d) (hrm : k + mc' ≤ mc ∧ n + ms' ≤ ms) (hcat : (st.map fun v => v.category).sum ≤ 8) (kk : ∀ (r : Option Value) (h' : hk_H), Qc r h' → hk_WP M d mc ms (k + mc') (n + ms') (pc + 3) ls (r.toList ++ st) h' Q) : hk_WP M d mc ms k n pc ls st0 h Q :=
  hk_invVN (host := "HackneyStands") hC hk_wX0_stepAt ⟨(by rw [hM]; exact hk_n 337 (by decide +kernel) rfl), hk_t 339 (by decide +kernel) rfl, hk_ts 19 (by decide +kernel) rfl⟩ hd ha he rfl hst hn hdep hrm hcat kk
theorem ivX9_102 (hM : M.1.cls = RX9) (hC : hk_Ct MX0_nightIn d' mc' ms' (.ref a :: As) h Qc) (hd : decode M.2.1 pc = .ok (.invokevirtual 102, 3)) (ha : a < h.1) (he : h.2 a = .inr (0, fs)) (hst : st0 = As.reverse ++ .ref a :: st) (hn : As.length = 1) (hdep : d' + 1 ≤ d) (hrm : k + mc' ≤ mc ∧ n + ms' ≤ ms) (hcat : (st.map fun v => v.category).sum ≤ 8) (kk : ∀ (r : Option Value) (h' : hk_H), Qc r h' → hk_WP M d mc ms (k + mc') (n + ms') (pc + 3) ls (r.toList ++ st) h' Q) : hk_WP M d mc ms k n pc ls st0 h Q :=
  hk_invVN (host := "HackneyStands") hC hk_wX0_nightIn ⟨(by rw [hM]; exact hk_n 345 (by decide +kernel) rfl), hk_t 347 (by decide +kernel) rfl, hk_ts 20 (by decide +kernel) rfl⟩ hd ha he rfl hst hn hdep hrm hcat kk
theorem ivX9_105 (hM : M.1.cls = RX9) (hC : hk_Ct MX2_hasPlate d' mc' ms' (.ref a :: As) h Qc) (hd : decode M.2.1 pc = .ok (.invokevirtual 105, 3)) (ha : a < h.1) (he : h.2 a = .inr (2, fs)) (hst : st0 = As.reverse ++ .ref a :: st) (hn : As.length = 1) (hdep : d' + 1 ≤ d) (hrm : k + mc' ≤ mc ∧ n + ms' ≤ ms) (hcat : (st.map fun v => v.category).sum ≤ 8) (kk : ∀ (r : Option Value) (h' : hk_H), Qc r h' → hk_WP M d mc ms (k + mc') (n + ms') (pc + 3) ls (r.toList ++ st) h' Q) : hk_WP M d mc ms k n pc ls st0 h Q :=
  hk_invVN (host := "HackneyStands") hC hk_wX2_hasPlate ⟨(by rw [hM]; exact hk_n 356 (by decide +kernel) rfl), hk_t 358 (by decide +kernel) rfl, hk_ts 21 (by decide +kernel) rfl⟩ hd ha he rfl hst hn hdep hrm hcat kk
theorem ivX9_108 (hM : M.1.cls = RX9) (hC : hk_Ct MX2_addCoach d' mc' ms' (.ref a :: As) h Qc) (hd : decode M.2.1 pc = .ok (.invokevirtual 108, 3)) (ha : a < h.1) (he : h.2 a = .inr (2, fs)) (hst : st0 = As.reverse ++ .ref a :: st) (hn : As.length = 2) (hdep : d' + 1 ≤ d) (hrm : k + mc' ≤ mc ∧ n + ms' ≤ ms) (hcat : (st.map fun v => v.category).sum ≤ 8) (kk : ∀ (r : Option Value) (h' : hk_H), Qc r h' → hk_WP M d mc ms (k + mc') (n + ms') (pc + 3) ls (r.toList ++ st) h' Q) : hk_WP M d mc ms k n pc ls st0 h Q :=
  hk_invVN (host := "HackneyStands") hC hk_wX2_addCoach ⟨(by rw [hM]; exact hk_n 361 (by decide +kernel) rfl), hk_t 363 (by decide +kernel) rfl, hk_ts 22 (by decide +kernel) rfl⟩ hd ha he rfl hst hn hdep hrm hcat kk
theorem gfX9_112 (hM : M.1.cls = RX9) {v : Value} (hd : decode M.2.1 pc = .ok (.getfield 112, 3)) (ha : a < h.1) (he : h.2 a = .inr (2, fs)) (hv : fs[0]? = some v) (kk : hk_WP M d mc ms k n (pc + 3) ls (v :: st) h Q) : hk_WP M d mc ms k n pc ls (.ref a :: st) h Q :=
  hk_getfN (ci := 2) (kf := 0) (C := RX2) (T := TX2) (N := 3) (host := "HackneyStands") rfl hk_in2 (by decide) (by rw [hM]; exact hk_n 95 (by decide +kernel) rfl) hd ha he hv kk
theorem ivX9_115 (hM : M.1.cls = RX9) (hC : hk_Ct MX2_holderOf d' mc' ms' (.ref a :: As) h Qc) (hd : decode M.2.1 pc = .ok (.invokevirtual 115, 3)) (ha : a < h.1) (he : h.2 a = .inr (2, fs)) (hst : st0 = As.reverse ++ .ref a :: st) (hn : As.length = 2) (hdep : d' + 1 ≤ d) (hrm : k + mc' ≤ mc ∧ n + ms' ≤ ms) (hcat : (st.map fun v => v.category).sum ≤ 8) (kk : ∀ (r : Option Value) (h' : hk_H), Qc r h' → hk_WP M d mc ms (k + mc') (n + ms') (pc + 3) ls (r.toList ++ st) h' Q) : hk_WP M d mc ms k n pc ls st0 h Q :=
  hk_invVN (host := "HackneyStands") hC hk_wX2_holderOf ⟨(by rw [hM]; exact hk_n 375 (by decide +kernel) rfl), hk_t 377 (by decide +kernel) rfl, hk_ts 24 (by decide +kernel) rfl⟩ hd ha he rfl hst hn hdep hrm hcat kk
theorem ivX9_118 (hM : M.1.cls = RX9) (hC : hk_Ct MX2_addLicence d' mc' ms' (.ref a :: As) h Qc) (hd : decode M.2.1 pc = .ok (.invokevirtual 118, 3)) (ha : a < h.1) (he : h.2 a = .inr (2, fs)) (hst : st0 = As.reverse ++ .ref a :: st) (hn : As.length = 3) (hdep : d' + 1 ≤ d) (hrm : k + mc' ≤ mc ∧ n + ms' ≤ ms) (hcat : (st.map fun v => v.category).sum ≤ 8) (kk : ∀ (r : Option Value) (h' : hk_H), Qc r h' → hk_WP M d mc ms (k + mc') (n + ms') (pc + 3) ls (r.toList ++ st) h' Q) : hk_WP M d mc ms k n pc ls st0 h Q :=
  hk_invVN (host := "HackneyStands") hC hk_wX2_addLicence ⟨(by rw [hM]; exact hk_n 379 (by decide +kernel) rfl), hk_t 381 (by decide +kernel) rfl, hk_ts 25 (by decide +kernel) rfl⟩ hd ha he rfl hst hn hdep hrm hcat kk
theorem ivX9_121 (hM : M.1.cls = RX9) (hC : hk_Ct MX9_today d' mc' ms' (.ref a :: As) h Qc) (hd : decode M.2.1 pc = .ok (.invokevirtual 121, 3)) (ha : a < h.1) (he : h.2 a = .inr (9, fs)) (hst : st0 = As.reverse ++ .ref a :: st) (hn : As.length = 0) (hdep : d' + 1 ≤ d) (hrm : k + mc' ≤ mc ∧ n + ms' ≤ ms) (hcat : (st.map fun v => v.category).sum ≤ 8) (kk : ∀ (r : Option Value) (h' : hk_H), Qc r h' → hk_WP M d mc ms (k + mc') (n + ms') (pc + 3) ls (r.toList ++ st) h' Q) : hk_WP M d mc ms k n pc ls st0 h Q :=
  hk_invV hC hk_wX9_today ⟨(by rw [hM]; exact hk_t 387 (by decide +kernel) rfl), hk_t 389 (by decide +kernel) rfl, hk_ts 26 (by decide +kernel) rfl⟩ hd ha he rfl hst hn hdep hrm hcat kk
theorem ivX9_124 (hM : M.1.cls = RX9) (hC : hk_Ct MX6_get d' mc' ms' (.ref a :: As) h Qc) (hd : decode M.2.1 pc = .ok (.invokevirtual 124, 3)) (ha : a < h.1) (he : h.2 a = .inr (6, fs)) (hst : st0 = As.reverse ++ .ref a :: st) (hn : As.length = 2) (hdep : d' + 1 ≤ d) (hrm : k + mc' ≤ mc ∧ n + ms' ≤ ms) (hcat : (st.map fun v => v.category).sum ≤ 8) (kk : ∀ (r : Option Value) (h' : hk_H), Qc r h' → hk_WP M d mc ms (k + mc') (n + ms') (pc + 3) ls (r.toList ++ st) h' Q) : hk_WP M d mc ms k n pc ls st0 h Q :=
  hk_invVN (host := "HackneyStands") hC hk_wX6_get ⟨(by rw [hM]; exact hk_n 391 (by decide +kernel) rfl), hk_t 281 (by decide +kernel) rfl, hk_ts 9 (by decide +kernel) rfl⟩ hd ha he rfl hst hn hdep hrm hcat kk
theorem ivX9_127 (hM : M.1.cls = RX9) (hC : hk_Ct MX6_set d' mc' ms' (.ref a :: As) h Qc) (hd : decode M.2.1 pc = .ok (.invokevirtual 127, 3)) (ha : a < h.1) (he : h.2 a = .inr (6, fs)) (hst : st0 = As.reverse ++ .ref a :: st) (hn : As.length = 3) (hdep : d' + 1 ≤ d) (hrm : k + mc' ≤ mc ∧ n + ms' ≤ ms) (hcat : (st.map fun v => v.category).sum ≤ 8) (kk : ∀ (r : Option Value) (h' : hk_H), Qc r h' → hk_WP M d mc ms (k + mc') (n + ms') (pc + 3) ls (r.toList ++ st) h' Q) : hk_WP M d mc ms k n pc ls st0 h Q :=
  hk_invVN (host := "HackneyStands") hC hk_wX6_set ⟨(by rw [hM]; exact hk_n 392 (by decide +kernel) rfl), hk_t 264 (by decide +kernel) rfl, hk_ts 6 (by decide +kernel) rfl⟩ hd ha he rfl hst hn hdep hrm hcat kk
theorem ivX9_130 (hM : M.1.cls = RX9) (hC : hk_Ct MX2_addStand d' mc' ms' (.ref a :: As) h Qc) (hd : decode M.2.1 pc = .ok (.invokevirtual 130, 3)) (ha : a < h.1) (he : h.2 a = .inr (2, fs)) (hst : st0 = As.reverse ++ .ref a :: st) (hn : As.length = 2) (hdep : d' + 1 ≤ d) (hrm : k + mc' ≤ mc ∧ n + ms' ≤ ms) (hcat : (st.map fun v => v.category).sum ≤ 8) (kk : ∀ (r : Option Value) (h' : hk_H), Qc r h' → hk_WP M d mc ms (k + mc') (n + ms') (pc + 3) ls (r.toList ++ st) h' Q) : hk_WP M d mc ms k n pc ls st0 h Q :=
  hk_invVN (host := "HackneyStands") hC hk_wX2_addStand ⟨(by rw [hM]; exact hk_n 397 (by decide +kernel) rfl), hk_t 399 (by decide +kernel) rfl, hk_ts 27 (by decide +kernel) rfl⟩ hd ha he rfl hst hn hdep hrm hcat kk
theorem gfX9_133 (hM : M.1.cls = RX9) {v : Value} (hd : decode M.2.1 pc = .ok (.getfield 133, 3)) (ha : a < h.1) (he : h.2 a = .inr (2, fs)) (hv : fs[2]? = some v) (kk : hk_WP M d mc ms k n (pc + 3) ls (v :: st) h Q) : hk_WP M d mc ms k n pc ls (.ref a :: st) h Q :=
  hk_getfN (ci := 2) (kf := 2) (C := RX2) (T := TX2) (N := 3) (host := "HackneyStands") rfl hk_in2 (by decide) (by rw [hM]; exact hk_n 99 (by decide +kernel) rfl) hd ha he hv kk
theorem gfX9_136 (hM : M.1.cls = RX9) {v : Value} (hd : decode M.2.1 pc = .ok (.getfield 136, 3)) (ha : a < h.1) (he : h.2 a = .inr (6, fs)) (hv : fs[3]? = some v) (kk : hk_WP M d mc ms k n (pc + 3) ls (v :: st) h Q) : hk_WP M d mc ms k n pc ls (.ref a :: st) h Q :=
  hk_getfN (ci := 6) (kf := 3) (C := RX6) (T := TX6) (N := 4) (host := "HackneyStands") rfl hk_in6 (by decide) (by rw [hM]; exact hk_n 47 (by decide +kernel) rfl) hd ha he hv kk
theorem ivX9_139 (hM : M.1.cls = RX9) (hC : hk_Ct MX2_isMoving d' mc' ms' (.ref a :: As) h Qc) (hd : decode M.2.1 pc = .ok (.invokevirtual 139, 3)) (ha : a < h.1) (he : h.2 a = .inr (2, fs)) (hst : st0 = As.reverse ++ .ref a :: st) (hn : As.length = 1) (hdep : d' + 1 ≤ d) (hrm : k + mc' ≤ mc ∧ n + ms' ≤ ms) (hcat : (st.map fun v => v.category).sum ≤ 8) (kk : ∀ (r : Option Value) (h' : hk_H), Qc r h' → hk_WP M d mc ms (k + mc') (n + ms') (pc + 3) ls (r.toList ++ st) h' Q) : hk_WP M d mc ms k n pc ls st0 h Q :=
  hk_invVN (host := "HackneyStands") hC hk_wX2_isMoving ⟨(by rw [hM]; exact hk_n 405 (by decide +kernel) rfl), hk_t 407 (by decide +kernel) rfl, hk_ts 28 (by decide +kernel) rfl⟩ hd ha he rfl hst hn hdep hrm hcat kk
theorem ivX9_142 (hM : M.1.cls = RX9) (hC : hk_Ct MX2_isStandingAt d' mc' ms' (.ref a :: As) h Qc) (hd : decode M.2.1 pc = .ok (.invokevirtual 142, 3)) (ha : a < h.1) (he : h.2 a = .inr (2, fs)) (hst : st0 = As.reverse ++ .ref a :: st) (hn : As.length = 2) (hdep : d' + 1 ≤ d) (hrm : k + mc' ≤ mc ∧ n + ms' ≤ ms) (hcat : (st.map fun v => v.category).sum ≤ 8) (kk : ∀ (r : Option Value) (h' : hk_H), Qc r h' → hk_WP M d mc ms (k + mc') (n + ms') (pc + 3) ls (r.toList ++ st) h' Q) : hk_WP M d mc ms k n pc ls st0 h Q :=
  hk_invVN (host := "HackneyStands") hC hk_wX2_isStandingAt ⟨(by rw [hM]; exact hk_n 409 (by decide +kernel) rfl), hk_t 411 (by decide +kernel) rfl, hk_ts 29 (by decide +kernel) rfl⟩ hd ha he rfl hst hn hdep hrm hcat kk
theorem ivX9_146 (hM : M.1.cls = RX9) (hC : hk_Ct MX9_timeOf d' mc' ms' As h Qc) (hd : decode M.2.1 pc = .ok (.invokestatic 146, 3)) (hst : st0 = As.reverse ++ st) (hn : As.length = 1) (hdep : d' + 1 ≤ d) (hrm : k + mc' ≤ mc ∧ n + ms' ≤ ms) (hcat : (st.map fun v => v.category).sum ≤ 8) (kk : ∀ (r : Option Value) (h' : hk_H), Qc r h' → hk_WP M d mc ms (k + mc') (n + ms') (pc + 3) ls (r.toList ++ st) h' Q) : hk_WP M d mc ms k n pc ls st0 h Q :=
  hk_invS hC hk_wX9_timeOf ⟨(by rw [hM]; exact hk_t 417 (by decide +kernel) rfl), hk_t 418 (by decide +kernel) rfl⟩ hd hst hn hdep hrm hcat kk
theorem ivX9_149 (hM : M.1.cls = RX9) (hC : hk_Ct MX2_leaveRow d' mc' ms' (.ref a :: As) h Qc) (hd : decode M.2.1 pc = .ok (.invokevirtual 149, 3)) (ha : a < h.1) (he : h.2 a = .inr (2, fs)) (hst : st0 = As.reverse ++ .ref a :: st) (hn : As.length = 1) (hdep : d' + 1 ≤ d) (hrm : k + mc' ≤ mc ∧ n + ms' ≤ ms) (hcat : (st.map fun v => v.category).sum ≤ 8) (kk : ∀ (r : Option Value) (h' : hk_H), Qc r h' → hk_WP M d mc ms (k + mc') (n + ms') (pc + 3) ls (r.toList ++ st) h' Q) : hk_WP M d mc ms k n pc ls st0 h Q :=
  hk_invVN (host := "HackneyStands") hC hk_wX2_leaveRow ⟨(by rw [hM]; exact hk_n 420 (by decide +kernel) rfl), hk_t 422 (by decide +kernel) rfl, hk_ts 31 (by decide +kernel) rfl⟩ hd ha he rfl hst hn hdep hrm hcat kk
theorem ivX9_153 (hM : M.1.cls = RX9) (hC : hk_Ct MX2_setOut d' mc' ms' (.ref a :: As) h Qc) (hd : decode M.2.1 pc = .ok (.invokevirtual 153, 3)) (ha : a < h.1) (he : h.2 a = .inr (2, fs)) (hst : st0 = As.reverse ++ .ref a :: st) (hn : As.length = 5) (hdep : d' + 1 ≤ d) (hrm : k + mc' ≤ mc ∧ n + ms' ≤ ms) (hcat : (st.map fun v => v.category).sum ≤ 8) (kk : ∀ (r : Option Value) (h' : hk_H), Qc r h' → hk_WP M d mc ms (k + mc') (n + ms') (pc + 3) ls (r.toList ++ st) h' Q) : hk_WP M d mc ms k n pc ls st0 h Q :=
  hk_invVN (host := "HackneyStands") hC hk_wX2_setOut ⟨(by rw [hM]; exact hk_n 432 (by decide +kernel) rfl), hk_t 434 (by decide +kernel) rfl, hk_ts 34 (by decide +kernel) rfl⟩ hd ha he rfl hst hn hdep hrm hcat kk
theorem ivX9_157 (hM : M.1.cls = RX9) (hC : hk_Ct MX2_arrive d' mc' ms' (.ref a :: As) h Qc) (hd : decode M.2.1 pc = .ok (.invokevirtual 157, 3)) (ha : a < h.1) (he : h.2 a = .inr (2, fs)) (hst : st0 = As.reverse ++ .ref a :: st) (hn : As.length = 1) (hdep : d' + 1 ≤ d) (hrm : k + mc' ≤ mc ∧ n + ms' ≤ ms) (hcat : (st.map fun v => v.category).sum ≤ 8) (kk : ∀ (r : Option Value) (h' : hk_H), Qc r h' → hk_WP M d mc ms (k + mc') (n + ms') (pc + 3) ls (r.toList ++ st) h' Q) : hk_WP M d mc ms k n pc ls st0 h Q :=
  hk_invVN (host := "HackneyStands") hC hk_wX2_arrive ⟨(by rw [hM]; exact hk_n 436 (by decide +kernel) rfl), hk_t 438 (by decide +kernel) rfl, hk_ts 35 (by decide +kernel) rfl⟩ hd ha he rfl hst hn hdep hrm hcat kk
theorem ivX9_160 (hM : M.1.cls = RX9) (hC : hk_Ct MX9_thisYear d' mc' ms' (.ref a :: As) h Qc) (hd : decode M.2.1 pc = .ok (.invokevirtual 160, 3)) (ha : a < h.1) (he : h.2 a = .inr (9, fs)) (hst : st0 = As.reverse ++ .ref a :: st) (hn : As.length = 0) (hdep : d' + 1 ≤ d) (hrm : k + mc' ≤ mc ∧ n + ms' ≤ ms) (hcat : (st.map fun v => v.category).sum ≤ 8) (kk : ∀ (r : Option Value) (h' : hk_H), Qc r h' → hk_WP M d mc ms (k + mc') (n + ms') (pc + 3) ls (r.toList ++ st) h' Q) : hk_WP M d mc ms k n pc ls st0 h Q :=
  hk_invV hC hk_wX9_thisYear ⟨(by rw [hM]; exact hk_t 444 (by decide +kernel) rfl), hk_t 446 (by decide +kernel) rfl, hk_ts 36 (by decide +kernel) rfl⟩ hd ha he rfl hst hn hdep hrm hcat kk
theorem ivX9_163 (hM : M.1.cls = RX9) (hC : hk_Ct MX8_tripsOf d' mc' ms' (.ref a :: As) h Qc) (hd : decode M.2.1 pc = .ok (.invokevirtual 163, 3)) (ha : a < h.1) (he : h.2 a = .inr (8, fs)) (hst : st0 = As.reverse ++ .ref a :: st) (hn : As.length = 1) (hdep : d' + 1 ≤ d) (hrm : k + mc' ≤ mc ∧ n + ms' ≤ ms) (hcat : (st.map fun v => v.category).sum ≤ 8) (kk : ∀ (r : Option Value) (h' : hk_H), Qc r h' → hk_WP M d mc ms (k + mc') (n + ms') (pc + 3) ls (r.toList ++ st) h' Q) : hk_WP M d mc ms k n pc ls st0 h Q :=
  hk_invVN (host := "HackneyStands") hC hk_wX8_tripsOf ⟨(by rw [hM]; exact hk_n 448 (by decide +kernel) rfl), hk_t 450 (by decide +kernel) rfl, hk_ts 37 (by decide +kernel) rfl⟩ hd ha he rfl hst hn hdep hrm hcat kk
theorem ivX9_166 (hM : M.1.cls = RX9) (hC : hk_Ct MX9_earned d' mc' ms' (.ref a :: As) h Qc) (hd : decode M.2.1 pc = .ok (.invokevirtual 166, 3)) (ha : a < h.1) (he : h.2 a = .inr (9, fs)) (hst : st0 = As.reverse ++ .ref a :: st) (hn : As.length = 1) (hdep : d' + 1 ≤ d) (hrm : k + mc' ≤ mc ∧ n + ms' ≤ ms) (hcat : (st.map fun v => v.category).sum ≤ 8) (kk : ∀ (r : Option Value) (h' : hk_H), Qc r h' → hk_WP M d mc ms (k + mc') (n + ms') (pc + 3) ls (r.toList ++ st) h' Q) : hk_WP M d mc ms k n pc ls st0 h Q :=
  hk_invV hC hk_wX9_earned ⟨(by rw [hM]; exact hk_t 453 (by decide +kernel) rfl), hk_t 455 (by decide +kernel) rfl, hk_ts 38 (by decide +kernel) rfl⟩ hd ha he rfl hst hn hdep hrm hcat kk
theorem ivX9_169 (hM : M.1.cls = RX9) (hC : hk_Ct MX2_coachInRow d' mc' ms' (.ref a :: As) h Qc) (hd : decode M.2.1 pc = .ok (.invokevirtual 169, 3)) (ha : a < h.1) (he : h.2 a = .inr (2, fs)) (hst : st0 = As.reverse ++ .ref a :: st) (hn : As.length = 2) (hdep : d' + 1 ≤ d) (hrm : k + mc' ≤ mc ∧ n + ms' ≤ ms) (hcat : (st.map fun v => v.category).sum ≤ 8) (kk : ∀ (r : Option Value) (h' : hk_H), Qc r h' → hk_WP M d mc ms (k + mc') (n + ms') (pc + 3) ls (r.toList ++ st) h' Q) : hk_WP M d mc ms k n pc ls st0 h Q :=
  hk_invVN (host := "HackneyStands") hC hk_wX2_coachInRow ⟨(by rw [hM]; exact hk_n 520 (by decide +kernel) rfl), hk_t 430 (by decide +kernel) rfl, hk_ts 33 (by decide +kernel) rfl⟩ hd ha he rfl hst hn hdep hrm hcat kk
theorem gfX9_172 (hM : M.1.cls = RX9) {v : Value} (hd : decode M.2.1 pc = .ok (.getfield 172, 3)) (ha : a < h.1) (he : h.2 a = .inr (4, fs)) (hv : fs[0]? = some v) (kk : hk_WP M d mc ms k n (pc + 3) ls (v :: st) h Q) : hk_WP M d mc ms k n pc ls (.ref a :: st) h Q :=
  hk_getfN (ci := 4) (kf := 0) (C := RX4) (T := TX4) (N := 5) (host := "HackneyStands") rfl hk_in4 (by decide) (by rw [hM]; exact hk_n 143 (by decide +kernel) rfl) hd ha he hv kk
theorem ivX9_176 (hM : M.1.cls = RX9) (hC : hk_Ct MX5_addBytes d' mc' ms' (.ref a :: As) h Qc) (hd : decode M.2.1 pc = .ok (.invokevirtual 176, 3)) (ha : a < h.1) (he : h.2 a = .inr (5, fs)) (hst : st0 = As.reverse ++ .ref a :: st) (hn : As.length = 2) (hdep : d' + 1 ≤ d) (hrm : k + mc' ≤ mc ∧ n + ms' ≤ ms) (hcat : (st.map fun v => v.category).sum ≤ 8) (kk : ∀ (r : Option Value) (h' : hk_H), Qc r h' → hk_WP M d mc ms (k + mc') (n + ms') (pc + 3) ls (r.toList ++ st) h' Q) : hk_WP M d mc ms k n pc ls st0 h Q :=
  hk_invVN (host := "HackneyStands") hC hk_wX5_addBytes ⟨(by rw [hM]; exact hk_n 525 (by decide +kernel) rfl), hk_t 527 (by decide +kernel) rfl, hk_ts 49 (by decide +kernel) rfl⟩ hd ha he rfl hst hn hdep hrm hcat kk
theorem ivX9_181 (hM : M.1.cls = RX9) (hC : hk_Ct MX4_makeLaw d' mc' ms' (.ref a :: As) h Qc) (hd : decode M.2.1 pc = .ok (.invokevirtual 181, 3)) (ha : a < h.1) (he : h.2 a = .inr (4, fs)) (hst : st0 = As.reverse ++ .ref a :: st) (hn : As.length = 3) (hdep : d' + 1 ≤ d) (hrm : k + mc' ≤ mc ∧ n + ms' ≤ ms) (hcat : (st.map fun v => v.category).sum ≤ 8) (kk : ∀ (r : Option Value) (h' : hk_H), Qc r h' → hk_WP M d mc ms (k + mc') (n + ms') (pc + 3) ls (r.toList ++ st) h' Q) : hk_WP M d mc ms k n pc ls st0 h Q :=
  hk_invVN (host := "HackneyStands") hC hk_wX4_makeLaw ⟨(by rw [hM]; exact hk_n 533 (by decide +kernel) rfl), hk_t 535 (by decide +kernel) rfl, hk_ts 50 (by decide +kernel) rfl⟩ hd ha he rfl hst hn hdep hrm hcat kk
theorem ivX9_184 (hM : M.1.cls = RX9) (hC : hk_Ct MX9_isDay d' mc' ms' As h Qc) (hd : decode M.2.1 pc = .ok (.invokestatic 184, 3)) (hst : st0 = As.reverse ++ st) (hn : As.length = 1) (hdep : d' + 1 ≤ d) (hrm : k + mc' ≤ mc ∧ n + ms' ≤ ms) (hcat : (st.map fun v => v.category).sum ≤ 8) (kk : ∀ (r : Option Value) (h' : hk_H), Qc r h' → hk_WP M d mc ms (k + mc') (n + ms') (pc + 3) ls (r.toList ++ st) h' Q) : hk_WP M d mc ms k n pc ls st0 h Q :=
  hk_invS hC hk_wX9_isDay ⟨(by rw [hM]; exact hk_t 675 (by decide +kernel) rfl), hk_t 676 (by decide +kernel) rfl⟩ hd hst hn hdep hrm hcat kk
theorem ivX9_187 (hM : M.1.cls = RX9) (hC : hk_Ct MX4_lawInForce d' mc' ms' (.ref a :: As) h Qc) (hd : decode M.2.1 pc = .ok (.invokevirtual 187, 3)) (ha : a < h.1) (he : h.2 a = .inr (4, fs)) (hst : st0 = As.reverse ++ .ref a :: st) (hn : As.length = 3) (hdep : d' + 1 ≤ d) (hrm : k + mc' ≤ mc ∧ n + ms' ≤ ms) (hcat : (st.map fun v => v.category).sum ≤ 8) (kk : ∀ (r : Option Value) (h' : hk_H), Qc r h' → hk_WP M d mc ms (k + mc') (n + ms') (pc + 3) ls (r.toList ++ st) h' Q) : hk_WP M d mc ms k n pc ls st0 h Q :=
  hk_invVN (host := "HackneyStands") hC hk_wX4_lawInForce ⟨(by rw [hM]; exact hk_n 481 (by decide +kernel) rfl), hk_t 483 (by decide +kernel) rfl, hk_ts 45 (by decide +kernel) rfl⟩ hd ha he rfl hst hn hdep hrm hcat kk
theorem ivX9_190 (hM : M.1.cls = RX9) (hC : hk_Ct MX4_lawAt d' mc' ms' (.ref a :: As) h Qc) (hd : decode M.2.1 pc = .ok (.invokevirtual 190, 3)) (ha : a < h.1) (he : h.2 a = .inr (4, fs)) (hst : st0 = As.reverse ++ .ref a :: st) (hn : As.length = 1) (hdep : d' + 1 ≤ d) (hrm : k + mc' ≤ mc ∧ n + ms' ≤ ms) (hcat : (st.map fun v => v.category).sum ≤ 8) (kk : ∀ (r : Option Value) (h' : hk_H), Qc r h' → hk_WP M d mc ms (k + mc') (n + ms') (pc + 3) ls (r.toList ++ st) h' Q) : hk_WP M d mc ms k n pc ls st0 h Q :=
  hk_invVN (host := "HackneyStands") hC hk_wX4_lawAt ⟨(by rw [hM]; exact hk_n 682 (by decide +kernel) rfl), hk_t 487 (by decide +kernel) rfl, hk_ts 46 (by decide +kernel) rfl⟩ hd ha he rfl hst hn hdep hrm hcat kk
theorem ivX9_196 (hM : M.1.cls = RX9) (hC : hk_Ct MX4_tellRide d' mc' ms' (.ref a :: As) h Qc) (hd : decode M.2.1 pc = .ok (.invokevirtual 196, 3)) (ha : a < h.1) (he : h.2 a = .inr (4, fs)) (hst : st0 = As.reverse ++ .ref a :: st) (hn : As.length = 3) (hdep : d' + 1 ≤ d) (hrm : k + mc' ≤ mc ∧ n + ms' ≤ ms) (hcat : (st.map fun v => v.category).sum ≤ 8) (kk : ∀ (r : Option Value) (h' : hk_H), Qc r h' → hk_WP M d mc ms (k + mc') (n + ms') (pc + 3) ls (r.toList ++ st) h' Q) : hk_WP M d mc ms k n pc ls st0 h Q :=
  hk_invVN (host := "HackneyStands") hC hk_wX4_tellRide ⟨(by rw [hM]; exact hk_n 465 (by decide +kernel) rfl), hk_t 467 (by decide +kernel) rfl, hk_ts 41 (by decide +kernel) rfl⟩ hd ha he rfl hst hn hdep hrm hcat kk
theorem ivX9_199 (hM : M.1.cls = RX9) (hC : hk_Ct MX4_tellTime d' mc' ms' (.ref a :: As) h Qc) (hd : decode M.2.1 pc = .ok (.invokevirtual 199, 3)) (ha : a < h.1) (he : h.2 a = .inr (4, fs)) (hst : st0 = As.reverse ++ .ref a :: st) (hn : As.length = 3) (hdep : d' + 1 ≤ d) (hrm : k + mc' ≤ mc ∧ n + ms' ≤ ms) (hcat : (st.map fun v => v.category).sum ≤ 8) (kk : ∀ (r : Option Value) (h' : hk_H), Qc r h' → hk_WP M d mc ms (k + mc') (n + ms') (pc + 3) ls (r.toList ++ st) h' Q) : hk_WP M d mc ms k n pc ls st0 h Q :=
  hk_invVN (host := "HackneyStands") hC hk_wX4_tellTime ⟨(by rw [hM]; exact hk_n 469 (by decide +kernel) rfl), hk_t 471 (by decide +kernel) rfl, hk_ts 42 (by decide +kernel) rfl⟩ hd ha he rfl hst hn hdep hrm hcat kk
theorem ivX9_202 (hM : M.1.cls = RX9) (hC : hk_Ct MX4_tellLoad d' mc' ms' (.ref a :: As) h Qc) (hd : decode M.2.1 pc = .ok (.invokevirtual 202, 3)) (ha : a < h.1) (he : h.2 a = .inr (4, fs)) (hst : st0 = As.reverse ++ .ref a :: st) (hn : As.length = 3) (hdep : d' + 1 ≤ d) (hrm : k + mc' ≤ mc ∧ n + ms' ≤ ms) (hcat : (st.map fun v => v.category).sum ≤ 8) (kk : ∀ (r : Option Value) (h' : hk_H), Qc r h' → hk_WP M d mc ms (k + mc') (n + ms') (pc + 3) ls (r.toList ++ st) h' Q) : hk_WP M d mc ms k n pc ls st0 h Q :=
  hk_invVN (host := "HackneyStands") hC hk_wX4_tellLoad ⟨(by rw [hM]; exact hk_n 473 (by decide +kernel) rfl), hk_t 475 (by decide +kernel) rfl, hk_ts 43 (by decide +kernel) rfl⟩ hd ha he rfl hst hn hdep hrm hcat kk
theorem ivX9_205 (hM : M.1.cls = RX9) (hC : hk_Ct MX4_worthOf d' mc' ms' (.ref a :: As) h Qc) (hd : decode M.2.1 pc = .ok (.invokevirtual 205, 3)) (ha : a < h.1) (he : h.2 a = .inr (4, fs)) (hst : st0 = As.reverse ++ .ref a :: st) (hn : As.length = 1) (hdep : d' + 1 ≤ d) (hrm : k + mc' ≤ mc ∧ n + ms' ≤ ms) (hcat : (st.map fun v => v.category).sum ≤ 8) (kk : ∀ (r : Option Value) (h' : hk_H), Qc r h' → hk_WP M d mc ms (k + mc') (n + ms') (pc + 3) ls (r.toList ++ st) h' Q) : hk_WP M d mc ms k n pc ls st0 h Q :=
  hk_invVN (host := "HackneyStands") hC hk_wX4_worthOf ⟨(by rw [hM]; exact hk_n 685 (by decide +kernel) rfl), hk_t 687 (by decide +kernel) rfl, hk_ts 62 (by decide +kernel) rfl⟩ hd ha he rfl hst hn hdep hrm hcat kk
theorem ivX9_208 (hM : M.1.cls = RX9) (hC : hk_Ct MX9_isOrder d' mc' ms' (.ref a :: As) h Qc) (hd : decode M.2.1 pc = .ok (.invokevirtual 208, 3)) (ha : a < h.1) (he : h.2 a = .inr (9, fs)) (hst : st0 = As.reverse ++ .ref a :: st) (hn : As.length = 3) (hdep : d' + 1 ≤ d) (hrm : k + mc' ≤ mc ∧ n + ms' ≤ ms) (hcat : (st.map fun v => v.category).sum ≤ 8) (kk : ∀ (r : Option Value) (h' : hk_H), Qc r h' → hk_WP M d mc ms (k + mc') (n + ms') (pc + 3) ls (r.toList ++ st) h' Q) : hk_WP M d mc ms k n pc ls st0 h Q :=
  hk_invV hC hk_wX9_isOrder ⟨(by rw [hM]; exact hk_t 693 (by decide +kernel) rfl), hk_t 695 (by decide +kernel) rfl, hk_ts 63 (by decide +kernel) rfl⟩ hd ha he rfl hst hn hdep hrm hcat kk
theorem ivX9_212 (hM : M.1.cls = RX9) (hC : hk_Ct MX9_draftTrip d' mc' ms' (.ref a :: As) h Qc) (hd : decode M.2.1 pc = .ok (.invokevirtual 212, 3)) (ha : a < h.1) (he : h.2 a = .inr (9, fs)) (hst : st0 = As.reverse ++ .ref a :: st) (hn : As.length = 3) (hdep : d' + 1 ≤ d) (hrm : k + mc' ≤ mc ∧ n + ms' ≤ ms) (hcat : (st.map fun v => v.category).sum ≤ 8) (kk : ∀ (r : Option Value) (h' : hk_H), Qc r h' → hk_WP M d mc ms (k + mc') (n + ms') (pc + 3) ls (r.toList ++ st) h' Q) : hk_WP M d mc ms k n pc ls st0 h Q :=
  hk_invV hC hk_wX9_draftTrip ⟨(by rw [hM]; exact hk_t 700 (by decide +kernel) rfl), hk_t 702 (by decide +kernel) rfl, hk_ts 64 (by decide +kernel) rfl⟩ hd ha he rfl hst hn hdep hrm hcat kk
theorem gfX9_215 (hM : M.1.cls = RX9) {v : Value} (hd : decode M.2.1 pc = .ok (.getfield 215, 3)) (ha : a < h.1) (he : h.2 a = .inr (8, fs)) (hv : fs[0]? = some v) (kk : hk_WP M d mc ms k n (pc + 3) ls (v :: st) h Q) : hk_WP M d mc ms k n pc ls (.ref a :: st) h Q :=
  hk_getfN (ci := 8) (kf := 0) (C := RX8) (T := TX8) (N := 3) (host := "HackneyStands") rfl hk_in8 (by decide) (by rw [hM]; exact hk_n 177 (by decide +kernel) rfl) hd ha he hv kk
theorem ivX9_218 (hM : M.1.cls = RX9) (hC : hk_Ct MX6_isFull d' mc' ms' (.ref a :: As) h Qc) (hd : decode M.2.1 pc = .ok (.invokevirtual 218, 3)) (ha : a < h.1) (he : h.2 a = .inr (6, fs)) (hst : st0 = As.reverse ++ .ref a :: st) (hn : As.length = 0) (hdep : d' + 1 ≤ d) (hrm : k + mc' ≤ mc ∧ n + ms' ≤ ms) (hcat : (st.map fun v => v.category).sum ≤ 8) (kk : ∀ (r : Option Value) (h' : hk_H), Qc r h' → hk_WP M d mc ms (k + mc') (n + ms') (pc + 3) ls (r.toList ++ st) h' Q) : hk_WP M d mc ms k n pc ls st0 h Q :=
  hk_invVN (host := "HackneyStands") hC hk_wX6_isFull ⟨(by rw [hM]; exact hk_n 708 (by decide +kernel) rfl), hk_t 174 (by decide +kernel) rfl, hk_ts 2 (by decide +kernel) rfl⟩ hd ha he rfl hst hn hdep hrm hcat kk
theorem ivX9_222 (hM : M.1.cls = RX9) (hC : hk_Ct MX9_standAskedAfter d' mc' ms' (.ref a :: As) h Qc) (hd : decode M.2.1 pc = .ok (.invokevirtual 222, 3)) (ha : a < h.1) (he : h.2 a = .inr (9, fs)) (hst : st0 = As.reverse ++ .ref a :: st) (hn : As.length = 1) (hdep : d' + 1 ≤ d) (hrm : k + mc' ≤ mc ∧ n + ms' ≤ ms) (hcat : (st.map fun v => v.category).sum ≤ 8) (kk : ∀ (r : Option Value) (h' : hk_H), Qc r h' → hk_WP M d mc ms (k + mc') (n + ms') (pc + 3) ls (r.toList ++ st) h' Q) : hk_WP M d mc ms k n pc ls st0 h Q :=
  hk_invV hC hk_wX9_standAskedAfter ⟨(by rw [hM]; exact hk_t 709 (by decide +kernel) rfl), hk_t 711 (by decide +kernel) rfl, hk_ts 66 (by decide +kernel) rfl⟩ hd ha he rfl hst hn hdep hrm hcat kk
theorem ivX9_225 (hM : M.1.cls = RX9) (hC : hk_Ct MX9_firstToCome d' mc' ms' (.ref a :: As) h Qc) (hd : decode M.2.1 pc = .ok (.invokevirtual 225, 3)) (ha : a < h.1) (he : h.2 a = .inr (9, fs)) (hst : st0 = As.reverse ++ .ref a :: st) (hn : As.length = 1) (hdep : d' + 1 ≤ d) (hrm : k + mc' ≤ mc ∧ n + ms' ≤ ms) (hcat : (st.map fun v => v.category).sum ≤ 8) (kk : ∀ (r : Option Value) (h' : hk_H), Qc r h' → hk_WP M d mc ms (k + mc') (n + ms') (pc + 3) ls (r.toList ++ st) h' Q) : hk_WP M d mc ms k n pc ls st0 h Q :=
  hk_invV hC hk_wX9_firstToCome ⟨(by rw [hM]; exact hk_t 721 (by decide +kernel) rfl), hk_t 723 (by decide +kernel) rfl, hk_ts 69 (by decide +kernel) rfl⟩ hd ha he rfl hst hn hdep hrm hcat kk
theorem ivX9_228 (hM : M.1.cls = RX9) (hC : hk_Ct MX9_sendToCaller d' mc' ms' (.ref a :: As) h Qc) (hd : decode M.2.1 pc = .ok (.invokevirtual 228, 3)) (ha : a < h.1) (he : h.2 a = .inr (9, fs)) (hst : st0 = As.reverse ++ .ref a :: st) (hn : As.length = 1) (hdep : d' + 1 ≤ d) (hrm : k + mc' ≤ mc ∧ n + ms' ≤ ms) (hcat : (st.map fun v => v.category).sum ≤ 8) (kk : ∀ (r : Option Value) (h' : hk_H), Qc r h' → hk_WP M d mc ms (k + mc') (n + ms') (pc + 3) ls (r.toList ++ st) h' Q) : hk_WP M d mc ms k n pc ls st0 h Q :=
  hk_invV hC hk_wX9_sendToCaller ⟨(by rw [hM]; exact hk_t 743 (by decide +kernel) rfl), hk_t 745 (by decide +kernel) rfl, hk_ts 74 (by decide +kernel) rfl⟩ hd ha he rfl hst hn hdep hrm hcat kk
theorem ivX9_231 (hM : M.1.cls = RX9) (hC : hk_Ct MX2_isStanding d' mc' ms' (.ref a :: As) h Qc) (hd : decode M.2.1 pc = .ok (.invokevirtual 231, 3)) (ha : a < h.1) (he : h.2 a = .inr (2, fs)) (hst : st0 = As.reverse ++ .ref a :: st) (hn : As.length = 1) (hdep : d' + 1 ≤ d) (hrm : k + mc' ≤ mc ∧ n + ms' ≤ ms) (hcat : (st.map fun v => v.category).sum ≤ 8) (kk : ∀ (r : Option Value) (h' : hk_H), Qc r h' → hk_WP M d mc ms (k + mc') (n + ms') (pc + 3) ls (r.toList ++ st) h' Q) : hk_WP M d mc ms k n pc ls st0 h Q :=
  hk_invVN (host := "HackneyStands") hC hk_wX2_isStanding ⟨(by rw [hM]; exact hk_n 755 (by decide +kernel) rfl), hk_t 415 (by decide +kernel) rfl, hk_ts 30 (by decide +kernel) rfl⟩ hd ha he rfl hst hn hdep hrm hcat kk
theorem ivX9_234 (hM : M.1.cls = RX9) (hC : hk_Ct MX9_yardsToCaller d' mc' ms' (.ref a :: As) h Qc) (hd : decode M.2.1 pc = .ok (.invokevirtual 234, 3)) (ha : a < h.1) (he : h.2 a = .inr (9, fs)) (hst : st0 = As.reverse ++ .ref a :: st) (hn : As.length = 1) (hdep : d' + 1 ≤ d) (hrm : k + mc' ≤ mc ∧ n + ms' ≤ ms) (hcat : (st.map fun v => v.category).sum ≤ 8) (kk : ∀ (r : Option Value) (h' : hk_H), Qc r h' → hk_WP M d mc ms (k + mc') (n + ms') (pc + 3) ls (r.toList ++ st) h' Q) : hk_WP M d mc ms k n pc ls st0 h Q :=
  hk_invV hC hk_wX9_yardsToCaller ⟨(by rw [hM]; exact hk_t 713 (by decide +kernel) rfl), hk_t 715 (by decide +kernel) rfl, hk_ts 67 (by decide +kernel) rfl⟩ hd ha he rfl hst hn hdep hrm hcat kk
theorem ivX9_237 (hM : M.1.cls = RX9) (hC : hk_Ct MX9_whyNot d' mc' ms' (.ref a :: As) h Qc) (hd : decode M.2.1 pc = .ok (.invokevirtual 237, 3)) (ha : a < h.1) (he : h.2 a = .inr (9, fs)) (hst : st0 = As.reverse ++ .ref a :: st) (hn : As.length = 2) (hdep : d' + 1 ≤ d) (hrm : k + mc' ≤ mc ∧ n + ms' ≤ ms) (hcat : (st.map fun v => v.category).sum ≤ 8) (kk : ∀ (r : Option Value) (h' : hk_H), Qc r h' → hk_WP M d mc ms (k + mc') (n + ms') (pc + 3) ls (r.toList ++ st) h' Q) : hk_WP M d mc ms k n pc ls st0 h Q :=
  hk_invV hC hk_wX9_whyNot ⟨(by rw [hM]; exact hk_t 726 (by decide +kernel) rfl), hk_t 728 (by decide +kernel) rfl, hk_ts 70 (by decide +kernel) rfl⟩ hd ha he rfl hst hn hdep hrm hcat kk
theorem ivX9_240 (hM : M.1.cls = RX9) (hC : hk_Ct MX2_nextToArrive d' mc' ms' (.ref a :: As) h Qc) (hd : decode M.2.1 pc = .ok (.invokevirtual 240, 3)) (ha : a < h.1) (he : h.2 a = .inr (2, fs)) (hst : st0 = As.reverse ++ .ref a :: st) (hn : As.length = 1) (hdep : d' + 1 ≤ d) (hrm : k + mc' ≤ mc ∧ n + ms' ≤ ms) (hcat : (st.map fun v => v.category).sum ≤ 8) (kk : ∀ (r : Option Value) (h' : hk_H), Qc r h' → hk_WP M d mc ms (k + mc') (n + ms') (pc + 3) ls (r.toList ++ st) h' Q) : hk_WP M d mc ms k n pc ls st0 h Q :=
  hk_invVN (host := "HackneyStands") hC hk_wX2_nextToArrive ⟨(by rw [hM]; exact hk_n 760 (by decide +kernel) rfl), hk_t 762 (by decide +kernel) rfl, hk_ts 76 (by decide +kernel) rfl⟩ hd ha he rfl hst hn hdep hrm hcat kk
theorem ivX9_243 (hM : M.1.cls = RX9) (hC : hk_Ct MX9_passTo d' mc' ms' (.ref a :: As) h Qc) (hd : decode M.2.1 pc = .ok (.invokevirtual 243, 3)) (ha : a < h.1) (he : h.2 a = .inr (9, fs)) (hst : st0 = As.reverse ++ .ref a :: st) (hn : As.length = 1) (hdep : d' + 1 ≤ d) (hrm : k + mc' ≤ mc ∧ n + ms' ≤ ms) (hcat : (st.map fun v => v.category).sum ≤ 8) (kk : ∀ (r : Option Value) (h' : hk_H), Qc r h' → hk_WP M d mc ms (k + mc') (n + ms') (pc + 3) ls (r.toList ++ st) h' Q) : hk_WP M d mc ms k n pc ls st0 h Q :=
  hk_invV hC hk_wX9_passTo ⟨(by rw [hM]; exact hk_t 765 (by decide +kernel) rfl), hk_t 767 (by decide +kernel) rfl, hk_ts 77 (by decide +kernel) rfl⟩ hd ha he rfl hst hn hdep hrm hcat kk
theorem ivX9_246 (hM : M.1.cls = RX9) (hC : hk_Ct MX6_isCell d' mc' ms' (.ref a :: As) h Qc) (hd : decode M.2.1 pc = .ok (.invokevirtual 246, 3)) (ha : a < h.1) (he : h.2 a = .inr (6, fs)) (hst : st0 = As.reverse ++ .ref a :: st) (hn : As.length = 2) (hdep : d' + 1 ≤ d) (hrm : k + mc' ≤ mc ∧ n + ms' ≤ ms) (hcat : (st.map fun v => v.category).sum ≤ 8) (kk : ∀ (r : Option Value) (h' : hk_H), Qc r h' → hk_WP M d mc ms (k + mc') (n + ms') (pc + 3) ls (r.toList ++ st) h' Q) : hk_WP M d mc ms k n pc ls st0 h Q :=
  hk_invVN (host := "HackneyStands") hC hk_wX6_isCell ⟨(by rw [hM]; exact hk_n 782 (by decide +kernel) rfl), hk_t 784 (by decide +kernel) rfl, hk_ts 79 (by decide +kernel) rfl⟩ hd ha he rfl hst hn hdep hrm hcat kk
theorem ivX9_249 (hM : M.1.cls = RX9) (hC : hk_Ct MX9_fareDue d' mc' ms' (.ref a :: As) h Qc) (hd : decode M.2.1 pc = .ok (.invokevirtual 249, 3)) (ha : a < h.1) (he : h.2 a = .inr (9, fs)) (hst : st0 = As.reverse ++ .ref a :: st) (hn : As.length = 2) (hdep : d' + 1 ≤ d) (hrm : k + mc' ≤ mc ∧ n + ms' ≤ ms) (hcat : (st.map fun v => v.category).sum ≤ 8) (kk : ∀ (r : Option Value) (h' : hk_H), Qc r h' → hk_WP M d mc ms (k + mc') (n + ms') (pc + 3) ls (r.toList ++ st) h' Q) : hk_WP M d mc ms k n pc ls st0 h Q :=
  hk_invV hC hk_wX9_fareDue ⟨(by rw [hM]; exact hk_t 457 (by decide +kernel) rfl), hk_t 459 (by decide +kernel) rfl, hk_ts 39 (by decide +kernel) rfl⟩ hd ha he rfl hst hn hdep hrm hcat kk
theorem ivX9_252 (hM : M.1.cls = RX9) (hC : hk_Ct MX9_kindDue d' mc' ms' (.ref a :: As) h Qc) (hd : decode M.2.1 pc = .ok (.invokevirtual 252, 3)) (ha : a < h.1) (he : h.2 a = .inr (9, fs)) (hst : st0 = As.reverse ++ .ref a :: st) (hn : As.length = 2) (hdep : d' + 1 ≤ d) (hrm : k + mc' ≤ mc ∧ n + ms' ≤ ms) (hcat : (st.map fun v => v.category).sum ≤ 8) (kk : ∀ (r : Option Value) (h' : hk_H), Qc r h' → hk_WP M d mc ms (k + mc') (n + ms') (pc + 3) ls (r.toList ++ st) h' Q) : hk_WP M d mc ms k n pc ls st0 h Q :=
  hk_invV hC hk_wX9_kindDue ⟨(by rw [hM]; exact hk_t 791 (by decide +kernel) rfl), hk_t 793 (by decide +kernel) rfl, hk_ts 80 (by decide +kernel) rfl⟩ hd ha he rfl hst hn hdep hrm hcat kk
theorem gfX9_255 (hM : M.1.cls = RX9) {v : Value} (hd : decode M.2.1 pc = .ok (.getfield 255, 3)) (ha : a < h.1) (he : h.2 a = .inr (8, fs)) (hv : fs[2]? = some v) (kk : hk_WP M d mc ms k n (pc + 3) ls (v :: st) h Q) : hk_WP M d mc ms k n pc ls (.ref a :: st) h Q :=
  hk_getfN (ci := 8) (kf := 2) (C := RX8) (T := TX8) (N := 3) (host := "HackneyStands") rfl hk_in8 (by decide) (by rw [hM]; exact hk_n 181 (by decide +kernel) rfl) hd ha he hv kk
theorem ivX9_259 (hM : M.1.cls = RX9) (hC : hk_Ct MX1_isOf d' mc' ms' (.ref a :: As) h Qc) (hd : decode M.2.1 pc = .ok (.invokevirtual 259, 3)) (ha : a < h.1) (he : h.2 a = .inr (1, fs)) (hst : st0 = As.reverse ++ .ref a :: st) (hn : As.length = 1) (hdep : d' + 1 ≤ d) (hrm : k + mc' ≤ mc ∧ n + ms' ≤ ms) (hcat : (st.map fun v => v.category).sum ≤ 8) (kk : ∀ (r : Option Value) (h' : hk_H), Qc r h' → hk_WP M d mc ms (k + mc') (n + ms') (pc + 3) ls (r.toList ++ st) h' Q) : hk_WP M d mc ms k n pc ls st0 h Q :=
  hk_invVN (host := "HackneyStands") hC hk_wX1_isOf ⟨(by rw [hM]; exact hk_n 804 (by decide +kernel) rfl), hk_t 806 (by decide +kernel) rfl, hk_ts 81 (by decide +kernel) rfl⟩ hd ha he rfl hst hn hdep hrm hcat kk
theorem ivX9_262 (hM : M.1.cls = RX9) (hC : hk_Ct MX1_addComplaint d' mc' ms' (.ref a :: As) h Qc) (hd : decode M.2.1 pc = .ok (.invokevirtual 262, 3)) (ha : a < h.1) (he : h.2 a = .inr (1, fs)) (hst : st0 = As.reverse ++ .ref a :: st) (hn : As.length = 2) (hdep : d' + 1 ≤ d) (hrm : k + mc' ≤ mc ∧ n + ms' ≤ ms) (hcat : (st.map fun v => v.category).sum ≤ 8) (kk : ∀ (r : Option Value) (h' : hk_H), Qc r h' → hk_WP M d mc ms (k + mc') (n + ms') (pc + 3) ls (r.toList ++ st) h' Q) : hk_WP M d mc ms k n pc ls st0 h Q :=
  hk_invVN (host := "HackneyStands") hC hk_wX1_addComplaint ⟨(by rw [hM]; exact hk_n 809 (by decide +kernel) rfl), hk_t 811 (by decide +kernel) rfl, hk_ts 82 (by decide +kernel) rfl⟩ hd ha he rfl hst hn hdep hrm hcat kk
theorem gfX9_265 (hM : M.1.cls = RX9) {v : Value} (hd : decode M.2.1 pc = .ok (.getfield 265, 3)) (ha : a < h.1) (he : h.2 a = .inr (1, fs)) (hv : fs[0]? = some v) (kk : hk_WP M d mc ms k n (pc + 3) ls (v :: st) h Q) : hk_WP M d mc ms k n pc ls (.ref a :: st) h Q :=
  hk_getfN (ci := 1) (kf := 0) (C := RX1) (T := TX1) (N := 1) (host := "HackneyStands") rfl hk_in1 (by decide) (by rw [hM]; exact hk_n 198 (by decide +kernel) rfl) hd ha he hv kk
theorem ivX9_268 (hM : M.1.cls = RX9) (hC : hk_Ct MX9_overpaid d' mc' ms' (.ref a :: As) h Qc) (hd : decode M.2.1 pc = .ok (.invokevirtual 268, 3)) (ha : a < h.1) (he : h.2 a = .inr (9, fs)) (hst : st0 = As.reverse ++ .ref a :: st) (hn : As.length = 1) (hdep : d' + 1 ≤ d) (hrm : k + mc' ≤ mc ∧ n + ms' ≤ ms) (hcat : (st.map fun v => v.category).sum ≤ 8) (kk : ∀ (r : Option Value) (h' : hk_H), Qc r h' → hk_WP M d mc ms (k + mc') (n + ms') (pc + 3) ls (r.toList ++ st) h' Q) : hk_WP M d mc ms k n pc ls st0 h Q :=
  hk_invV hC hk_wX9_overpaid ⟨(by rw [hM]; exact hk_t 819 (by decide +kernel) rfl), hk_t 821 (by decide +kernel) rfl, hk_ts 83 (by decide +kernel) rfl⟩ hd ha he rfl hst hn hdep hrm hcat kk
theorem ivX9_271 (hM : M.1.cls = RX9) (hC : hk_Ct MX9_likeCases d' mc' ms' (.ref a :: As) h Qc) (hd : decode M.2.1 pc = .ok (.invokevirtual 271, 3)) (ha : a < h.1) (he : h.2 a = .inr (9, fs)) (hst : st0 = As.reverse ++ .ref a :: st) (hn : As.length = 2) (hdep : d' + 1 ≤ d) (hrm : k + mc' ≤ mc ∧ n + ms' ≤ ms) (hcat : (st.map fun v => v.category).sum ≤ 8) (kk : ∀ (r : Option Value) (h' : hk_H), Qc r h' → hk_WP M d mc ms (k + mc') (n + ms') (pc + 3) ls (r.toList ++ st) h' Q) : hk_WP M d mc ms k n pc ls st0 h Q :=
  hk_invV hC hk_wX9_likeCases ⟨(by rw [hM]; exact hk_t 823 (by decide +kernel) rfl), hk_t 825 (by decide +kernel) rfl, hk_ts 84 (by decide +kernel) rfl⟩ hd ha he rfl hst hn hdep hrm hcat kk
theorem ivX9_275 (hM : M.1.cls = RX9) (hC : hk_Ct MX9_latestLikeCase d' mc' ms' (.ref a :: As) h Qc) (hd : decode M.2.1 pc = .ok (.invokevirtual 275, 3)) (ha : a < h.1) (he : h.2 a = .inr (9, fs)) (hst : st0 = As.reverse ++ .ref a :: st) (hn : As.length = 1) (hdep : d' + 1 ≤ d) (hrm : k + mc' ≤ mc ∧ n + ms' ≤ ms) (hcat : (st.map fun v => v.category).sum ≤ 8) (kk : ∀ (r : Option Value) (h' : hk_H), Qc r h' → hk_WP M d mc ms (k + mc') (n + ms') (pc + 3) ls (r.toList ++ st) h' Q) : hk_WP M d mc ms k n pc ls st0 h Q :=
  hk_invV hC hk_wX9_latestLikeCase ⟨(by rw [hM]; exact hk_t 835 (by decide +kernel) rfl), hk_t 837 (by decide +kernel) rfl, hk_ts 87 (by decide +kernel) rfl⟩ hd ha he rfl hst hn hdep hrm hcat kk
theorem ivX9_278 (hM : M.1.cls = RX9) (hC : hk_Ct MX7_addLost d' mc' ms' (.ref a :: As) h Qc) (hd : decode M.2.1 pc = .ok (.invokevirtual 278, 3)) (ha : a < h.1) (he : h.2 a = .inr (7, fs)) (hst : st0 = As.reverse ++ .ref a :: st) (hn : As.length = 4) (hdep : d' + 1 ≤ d) (hrm : k + mc' ≤ mc ∧ n + ms' ≤ ms) (hcat : (st.map fun v => v.category).sum ≤ 8) (kk : ∀ (r : Option Value) (h' : hk_H), Qc r h' → hk_WP M d mc ms (k + mc') (n + ms') (pc + 3) ls (r.toList ++ st) h' Q) : hk_WP M d mc ms k n pc ls st0 h Q :=
  hk_invVN (host := "HackneyStands") hC hk_wX7_addLost ⟨(by rw [hM]; exact hk_n 843 (by decide +kernel) rfl), hk_t 845 (by decide +kernel) rfl, hk_ts 88 (by decide +kernel) rfl⟩ hd ha he rfl hst hn hdep hrm hcat kk
theorem ivX9_281 (hM : M.1.cls = RX9) (hC : hk_Ct MX7_addFound d' mc' ms' (.ref a :: As) h Qc) (hd : decode M.2.1 pc = .ok (.invokevirtual 281, 3)) (ha : a < h.1) (he : h.2 a = .inr (7, fs)) (hst : st0 = As.reverse ++ .ref a :: st) (hn : As.length = 3) (hdep : d' + 1 ≤ d) (hrm : k + mc' ≤ mc ∧ n + ms' ≤ ms) (hcat : (st.map fun v => v.category).sum ≤ 8) (kk : ∀ (r : Option Value) (h' : hk_H), Qc r h' → hk_WP M d mc ms (k + mc') (n + ms') (pc + 3) ls (r.toList ++ st) h' Q) : hk_WP M d mc ms k n pc ls st0 h Q :=
  hk_invVN (host := "HackneyStands") hC hk_wX7_addFound ⟨(by rw [hM]; exact hk_n 853 (by decide +kernel) rfl), hk_t 855 (by decide +kernel) rfl, hk_ts 89 (by decide +kernel) rfl⟩ hd ha he rfl hst hn hdep hrm hcat kk
theorem gfX9_284 (hM : M.1.cls = RX9) {v : Value} (hd : decode M.2.1 pc = .ok (.getfield 284, 3)) (ha : a < h.1) (he : h.2 a = .inr (7, fs)) (hv : fs[0]? = some v) (kk : hk_WP M d mc ms k n (pc + 3) ls (v :: st) h Q) : hk_WP M d mc ms k n pc ls (.ref a :: st) h Q :=
  hk_getfN (ci := 7) (kf := 0) (C := RX7) (T := TX7) (N := 2) (host := "HackneyStands") rfl hk_in7 (by decide) (by rw [hM]; exact hk_n 211 (by decide +kernel) rfl) hd ha he hv kk
theorem ivX9_287 (hM : M.1.cls = RX9) (hC : hk_Ct MX9_onlyFoundFor d' mc' ms' (.ref a :: As) h Qc) (hd : decode M.2.1 pc = .ok (.invokevirtual 287, 3)) (ha : a < h.1) (he : h.2 a = .inr (9, fs)) (hst : st0 = As.reverse ++ .ref a :: st) (hn : As.length = 1) (hdep : d' + 1 ≤ d) (hrm : k + mc' ≤ mc ∧ n + ms' ≤ ms) (hcat : (st.map fun v => v.category).sum ≤ 8) (kk : ∀ (r : Option Value) (h' : hk_H), Qc r h' → hk_WP M d mc ms (k + mc') (n + ms') (pc + 3) ls (r.toList ++ st) h' Q) : hk_WP M d mc ms k n pc ls st0 h Q :=
  hk_invV hC hk_wX9_onlyFoundFor ⟨(by rw [hM]; exact hk_t 861 (by decide +kernel) rfl), hk_t 863 (by decide +kernel) rfl, hk_ts 90 (by decide +kernel) rfl⟩ hd ha he rfl hst hn hdep hrm hcat kk
theorem ivX9_290 (hM : M.1.cls = RX9) (hC : hk_Ct MX9_lossesFitting d' mc' ms' (.ref a :: As) h Qc) (hd : decode M.2.1 pc = .ok (.invokevirtual 290, 3)) (ha : a < h.1) (he : h.2 a = .inr (9, fs)) (hst : st0 = As.reverse ++ .ref a :: st) (hn : As.length = 1) (hdep : d' + 1 ≤ d) (hrm : k + mc' ≤ mc ∧ n + ms' ≤ ms) (hcat : (st.map fun v => v.category).sum ≤ 8) (kk : ∀ (r : Option Value) (h' : hk_H), Qc r h' → hk_WP M d mc ms (k + mc') (n + ms') (pc + 3) ls (r.toList ++ st) h' Q) : hk_WP M d mc ms k n pc ls st0 h Q :=
  hk_invV hC hk_wX9_lossesFitting ⟨(by rw [hM]; exact hk_t 876 (by decide +kernel) rfl), hk_t 878 (by decide +kernel) rfl, hk_ts 93 (by decide +kernel) rfl⟩ hd ha he rfl hst hn hdep hrm hcat kk
theorem gfX9_293 (hM : M.1.cls = RX9) {v : Value} (hd : decode M.2.1 pc = .ok (.getfield 293, 3)) (ha : a < h.1) (he : h.2 a = .inr (7, fs)) (hv : fs[1]? = some v) (kk : hk_WP M d mc ms k n (pc + 3) ls (v :: st) h Q) : hk_WP M d mc ms k n pc ls (.ref a :: st) h Q :=
  hk_getfN (ci := 7) (kf := 1) (C := RX7) (T := TX7) (N := 2) (host := "HackneyStands") rfl hk_in7 (by decide) (by rw [hM]; exact hk_n 213 (by decide +kernel) rfl) hd ha he hv kk
theorem ivX9_296 (hM : M.1.cls = RX9) (hC : hk_Ct MX9_isFitting d' mc' ms' (.ref a :: As) h Qc) (hd : decode M.2.1 pc = .ok (.invokevirtual 296, 3)) (ha : a < h.1) (he : h.2 a = .inr (9, fs)) (hst : st0 = As.reverse ++ .ref a :: st) (hn : As.length = 2) (hdep : d' + 1 ≤ d) (hrm : k + mc' ≤ mc ∧ n + ms' ≤ ms) (hcat : (st.map fun v => v.category).sum ≤ 8) (kk : ∀ (r : Option Value) (h' : hk_H), Qc r h' → hk_WP M d mc ms (k + mc') (n + ms') (pc + 3) ls (r.toList ++ st) h' Q) : hk_WP M d mc ms k n pc ls st0 h Q :=
  hk_invV hC hk_wX9_isFitting ⟨(by rw [hM]; exact hk_t 865 (by decide +kernel) rfl), hk_t 867 (by decide +kernel) rfl, hk_ts 91 (by decide +kernel) rfl⟩ hd ha he rfl hst hn hdep hrm hcat kk
theorem ivX9_299 (hM : M.1.cls = RX9) (hC : hk_Ct MX4_isOfKind d' mc' ms' (.ref a :: As) h Qc) (hd : decode M.2.1 pc = .ok (.invokevirtual 299, 3)) (ha : a < h.1) (he : h.2 a = .inr (4, fs)) (hst : st0 = As.reverse ++ .ref a :: st) (hn : As.length = 2) (hdep : d' + 1 ≤ d) (hrm : k + mc' ≤ mc ∧ n + ms' ≤ ms) (hcat : (st.map fun v => v.category).sum ≤ 8) (kk : ∀ (r : Option Value) (h' : hk_H), Qc r h' → hk_WP M d mc ms (k + mc') (n + ms') (pc + 3) ls (r.toList ++ st) h' Q) : hk_WP M d mc ms k n pc ls st0 h Q :=
  hk_invVN (host := "HackneyStands") hC hk_wX4_isOfKind ⟨(by rw [hM]; exact hk_n 888 (by decide +kernel) rfl), hk_t 890 (by decide +kernel) rfl, hk_ts 94 (by decide +kernel) rfl⟩ hd ha he rfl hst hn hdep hrm hcat kk
theorem ivX9_302 (hM : M.1.cls = RX9) (hC : hk_Ct MX9_dayOf d' mc' ms' (.ref a :: As) h Qc) (hd : decode M.2.1 pc = .ok (.invokevirtual 302, 3)) (ha : a < h.1) (he : h.2 a = .inr (9, fs)) (hst : st0 = As.reverse ++ .ref a :: st) (hn : As.length = 1) (hdep : d' + 1 ≤ d) (hrm : k + mc' ≤ mc ∧ n + ms' ≤ ms) (hcat : (st.map fun v => v.category).sum ≤ 8) (kk : ∀ (r : Option Value) (h' : hk_H), Qc r h' → hk_WP M d mc ms (k + mc') (n + ms') (pc + 3) ls (r.toList ++ st) h' Q) : hk_WP M d mc ms k n pc ls st0 h Q :=
  hk_invV hC hk_wX9_dayOf ⟨(by rw [hM]; exact hk_t 477 (by decide +kernel) rfl), hk_t 479 (by decide +kernel) rfl, hk_ts 44 (by decide +kernel) rfl⟩ hd ha he rfl hst hn hdep hrm hcat kk
theorem ivX9_305 (hM : M.1.cls = RX9) (hC : hk_Ct MX9_tellTrip d' mc' ms' (.ref a :: As) h Qc) (hd : decode M.2.1 pc = .ok (.invokevirtual 305, 3)) (ha : a < h.1) (he : h.2 a = .inr (9, fs)) (hst : st0 = As.reverse ++ .ref a :: st) (hn : As.length = 2) (hdep : d' + 1 ≤ d) (hrm : k + mc' ≤ mc ∧ n + ms' ≤ ms) (hcat : (st.map fun v => v.category).sum ≤ 8) (kk : ∀ (r : Option Value) (h' : hk_H), Qc r h' → hk_WP M d mc ms (k + mc') (n + ms') (pc + 3) ls (r.toList ++ st) h' Q) : hk_WP M d mc ms k n pc ls st0 h Q :=
  hk_invV hC hk_wX9_tellTrip ⟨(by rw [hM]; exact hk_t 461 (by decide +kernel) rfl), hk_t 463 (by decide +kernel) rfl, hk_ts 40 (by decide +kernel) rfl⟩ hd ha he rfl hst hn hdep hrm hcat kk
theorem ivX9_309 (hM : M.1.cls = RX9) (hC : hk_Ct MX4_fareBy d' mc' ms' (.ref a :: As) h Qc) (hd : decode M.2.1 pc = .ok (.invokevirtual 309, 3)) (ha : a < h.1) (he : h.2 a = .inr (4, fs)) (hst : st0 = As.reverse ++ .ref a :: st) (hn : As.length = 1) (hdep : d' + 1 ≤ d) (hrm : k + mc' ≤ mc ∧ n + ms' ≤ ms) (hcat : (st.map fun v => v.category).sum ≤ 8) (kk : ∀ (r : Option Value) (h' : hk_H), Qc r h' → hk_WP M d mc ms (k + mc') (n + ms') (pc + 3) ls (r.toList ++ st) h' Q) : hk_WP M d mc ms k n pc ls st0 h Q :=
  hk_invVN (host := "HackneyStands") hC hk_wX4_fareBy ⟨(by rw [hM]; exact hk_n 489 (by decide +kernel) rfl), hk_t 491 (by decide +kernel) rfl, hk_ts 47 (by decide +kernel) rfl⟩ hd ha he rfl hst hn hdep hrm hcat kk
theorem ivX9_312 (hM : M.1.cls = RX9) (hC : hk_Ct MX4_lesserFare d' mc' ms' As h Qc) (hd : decode M.2.1 pc = .ok (.invokestatic 312, 3)) (hst : st0 = As.reverse ++ st) (hn : As.length = 2) (hdep : d' + 1 ≤ d) (hrm : k + mc' ≤ mc ∧ n + ms' ≤ ms) (hcat : (st.map fun v => v.category).sum ≤ 8) (kk : ∀ (r : Option Value) (h' : hk_H), Qc r h' → hk_WP M d mc ms (k + mc') (n + ms') (pc + 3) ls (r.toList ++ st) h' Q) : hk_WP M d mc ms k n pc ls st0 h Q :=
  hk_invSN (host := "HackneyStands") hC hk_wX4_lesserFare ⟨(by rw [hM]; exact hk_n 512 (by decide +kernel) rfl), hk_t 513 (by decide +kernel) rfl⟩ hd hst hn hdep hrm hcat kk
theorem gfX9_326 (hM : M.1.cls = RX9) {v : Value} (hd : decode M.2.1 pc = .ok (.getfield 326, 3)) (ha : a < h.1) (he : h.2 a = .inr (0, fs)) (hv : fs[0]? = some v) (kk : hk_WP M d mc ms k n (pc + 3) ls (v :: st) h Q) : hk_WP M d mc ms k n pc ls (.ref a :: st) h Q :=
  hk_getfN (ci := 0) (kf := 0) (C := RX0) (T := TX0) (N := 7) (host := "HackneyStands") rfl hk_in0 (by decide) (by rw [hM]; exact hk_n 63 (by decide +kernel) rfl) hd ha he hv kk
theorem gfX9_329 (hM : M.1.cls = RX9) {v : Value} (hd : decode M.2.1 pc = .ok (.getfield 329, 3)) (ha : a < h.1) (he : h.2 a = .inr (4, fs)) (hv : fs[2]? = some v) (kk : hk_WP M d mc ms k n (pc + 3) ls (v :: st) h Q) : hk_WP M d mc ms k n pc ls (.ref a :: st) h Q :=
  hk_getfN (ci := 4) (kf := 2) (C := RX4) (T := TX4) (N := 5) (host := "HackneyStands") rfl hk_in4 (by decide) (by rw [hM]; exact hk_n 146 (by decide +kernel) rfl) hd ha he hv kk
theorem gfX9_332 (hM : M.1.cls = RX9) {v : Value} (hd : decode M.2.1 pc = .ok (.getfield 332, 3)) (ha : a < h.1) (he : h.2 a = .inr (5, fs)) (hv : fs[2]? = some v) (kk : hk_WP M d mc ms k n (pc + 3) ls (v :: st) h Q) : hk_WP M d mc ms k n pc ls (.ref a :: st) h Q :=
  hk_getfN (ci := 5) (kf := 2) (C := RX5) (T := TX5) (N := 5) (host := "HackneyStands") rfl hk_in5 (by decide) (by rw [hM]; exact hk_n 124 (by decide +kernel) rfl) hd ha he hv kk
theorem gfX9_335 (hM : M.1.cls = RX9) {v : Value} (hd : decode M.2.1 pc = .ok (.getfield 335, 3)) (ha : a < h.1) (he : h.2 a = .inr (2, fs)) (hv : fs[1]? = some v) (kk : hk_WP M d mc ms k n (pc + 3) ls (v :: st) h Q) : hk_WP M d mc ms k n pc ls (.ref a :: st) h Q :=
  hk_getfN (ci := 2) (kf := 1) (C := RX2) (T := TX2) (N := 3) (host := "HackneyStands") rfl hk_in2 (by decide) (by rw [hM]; exact hk_n 97 (by decide +kernel) rfl) hd ha he hv kk
theorem ivX9_338 (hM : M.1.cls = RX9) (hC : hk_Ct MX2_spend d' mc' ms' (.ref a :: As) h Qc) (hd : decode M.2.1 pc = .ok (.invokevirtual 338, 3)) (ha : a < h.1) (he : h.2 a = .inr (2, fs)) (hst : st0 = As.reverse ++ .ref a :: st) (hn : As.length = 1) (hdep : d' + 1 ≤ d) (hrm : k + mc' ≤ mc ∧ n + ms' ≤ ms) (hcat : (st.map fun v => v.category).sum ≤ 8) (kk : ∀ (r : Option Value) (h' : hk_H), Qc r h' → hk_WP M d mc ms (k + mc') (n + ms') (pc + 3) ls (r.toList ++ st) h' Q) : hk_WP M d mc ms k n pc ls st0 h Q :=
  hk_invVN (host := "HackneyStands") hC hk_wX2_spend ⟨(by rw [hM]; exact hk_n 769 (by decide +kernel) rfl), hk_t 771 (by decide +kernel) rfl, hk_ts 78 (by decide +kernel) rfl⟩ hd ha he rfl hst hn hdep hrm hcat kk
theorem ivX9_341 (hM : M.1.cls = RX9) (hC : hk_Ct MX9_isLoad d' mc' ms' As h Qc) (hd : decode M.2.1 pc = .ok (.invokestatic 341, 3)) (hst : st0 = As.reverse ++ st) (hn : As.length = 2) (hdep : d' + 1 ≤ d) (hrm : k + mc' ≤ mc ∧ n + ms' ≤ ms) (hcat : (st.map fun v => v.category).sum ≤ 8) (kk : ∀ (r : Option Value) (h' : hk_H), Qc r h' → hk_WP M d mc ms (k + mc') (n + ms') (pc + 3) ls (r.toList ++ st) h' Q) : hk_WP M d mc ms k n pc ls st0 h Q :=
  hk_invS hC hk_wX9_isLoad ⟨(by rw [hM]; exact hk_t 697 (by decide +kernel) rfl), hk_t 698 (by decide +kernel) rfl⟩ hd hst hn hdep hrm hcat kk
theorem gfX9_344 (hM : M.1.cls = RX9) {v : Value} (hd : decode M.2.1 pc = .ok (.getfield 344, 3)) (ha : a < h.1) (he : h.2 a = .inr (8, fs)) (hv : fs[1]? = some v) (kk : hk_WP M d mc ms k n (pc + 3) ls (v :: st) h Q) : hk_WP M d mc ms k n pc ls (.ref a :: st) h Q :=
  hk_getfN (ci := 8) (kf := 1) (C := RX8) (T := TX8) (N := 3) (host := "HackneyStands") rfl hk_in8 (by decide) (by rw [hM]; exact hk_n 179 (by decide +kernel) rfl) hd ha he hv kk
theorem ivX9_347 (hM : M.1.cls = RX9) (hC : hk_Ct MX0_badFrom d' mc' ms' (.ref a :: As) h Qc) (hd : decode M.2.1 pc = .ok (.invokevirtual 347, 3)) (ha : a < h.1) (he : h.2 a = .inr (0, fs)) (hst : st0 = As.reverse ++ .ref a :: st) (hn : As.length = 1) (hdep : d' + 1 ≤ d) (hrm : k + mc' ≤ mc ∧ n + ms' ≤ ms) (hcat : (st.map fun v => v.category).sum ≤ 8) (kk : ∀ (r : Option Value) (h' : hk_H), Qc r h' → hk_WP M d mc ms (k + mc') (n + ms') (pc + 3) ls (r.toList ++ st) h' Q) : hk_WP M d mc ms k n pc ls st0 h Q :=
  hk_invVN (host := "HackneyStands") hC hk_wX0_badFrom ⟨(by rw [hM]; exact hk_n 704 (by decide +kernel) rfl), hk_t 706 (by decide +kernel) rfl, hk_ts 65 (by decide +kernel) rfl⟩ hd ha he rfl hst hn hdep hrm hcat kk
theorem ivX9_350 (hM : M.1.cls = RX9) (hC : hk_Ct MX9_isAskedAfter d' mc' ms' (.ref a :: As) h Qc) (hd : decode M.2.1 pc = .ok (.invokevirtual 350, 3)) (ha : a < h.1) (he : h.2 a = .inr (9, fs)) (hst : st0 = As.reverse ++ .ref a :: st) (hn : As.length = 2) (hdep : d' + 1 ≤ d) (hrm : k + mc' ≤ mc ∧ n + ms' ≤ ms) (hcat : (st.map fun v => v.category).sum ≤ 8) (kk : ∀ (r : Option Value) (h' : hk_H), Qc r h' → hk_WP M d mc ms (k + mc') (n + ms') (pc + 3) ls (r.toList ++ st) h' Q) : hk_WP M d mc ms k n pc ls st0 h Q :=
  hk_invV hC hk_wX9_isAskedAfter ⟨(by rw [hM]; exact hk_t 717 (by decide +kernel) rfl), hk_t 719 (by decide +kernel) rfl, hk_ts 68 (by decide +kernel) rfl⟩ hd ha he rfl hst hn hdep hrm hcat kk
theorem ivX9_353 (hM : M.1.cls = RX9) (hC : hk_Ct MX2_rowLength d' mc' ms' (.ref a :: As) h Qc) (hd : decode M.2.1 pc = .ok (.invokevirtual 353, 3)) (ha : a < h.1) (he : h.2 a = .inr (2, fs)) (hst : st0 = As.reverse ++ .ref a :: st) (hn : As.length = 1) (hdep : d' + 1 ≤ d) (hrm : k + mc' ≤ mc ∧ n + ms' ≤ ms) (hcat : (st.map fun v => v.category).sum ≤ 8) (kk : ∀ (r : Option Value) (h' : hk_H), Qc r h' → hk_WP M d mc ms (k + mc') (n + ms') (pc + 3) ls (r.toList ++ st) h' Q) : hk_WP M d mc ms k n pc ls st0 h Q :=
  hk_invVN (host := "HackneyStands") hC hk_wX2_rowLength ⟨(by rw [hM]; exact hk_n 725 (by decide +kernel) rfl), hk_t 426 (by decide +kernel) rfl, hk_ts 32 (by decide +kernel) rfl⟩ hd ha he rfl hst hn hdep hrm hcat kk
theorem ivX9_356 (hM : M.1.cls = RX9) (hC : hk_Ct MX8_noteRefusal d' mc' ms' (.ref a :: As) h Qc) (hd : decode M.2.1 pc = .ok (.invokevirtual 356, 3)) (ha : a < h.1) (he : h.2 a = .inr (8, fs)) (hst : st0 = As.reverse ++ .ref a :: st) (hn : As.length = 0) (hdep : d' + 1 ≤ d) (hrm : k + mc' ≤ mc ∧ n + ms' ≤ ms) (hcat : (st.map fun v => v.category).sum ≤ 8) (kk : ∀ (r : Option Value) (h' : hk_H), Qc r h' → hk_WP M d mc ms (k + mc') (n + ms') (pc + 3) ls (r.toList ++ st) h' Q) : hk_WP M d mc ms k n pc ls st0 h Q :=
  hk_invVN (host := "HackneyStands") hC hk_wX8_noteRefusal ⟨(by rw [hM]; exact hk_n 739 (by decide +kernel) rfl), hk_t 741 (by decide +kernel) rfl, hk_ts 73 (by decide +kernel) rfl⟩ hd ha he rfl hst hn hdep hrm hcat kk
theorem ivX9_359 (hM : M.1.cls = RX9) (hC : hk_Ct MX8_draftCoach d' mc' ms' (.ref a :: As) h Qc) (hd : decode M.2.1 pc = .ok (.invokevirtual 359, 3)) (ha : a < h.1) (he : h.2 a = .inr (8, fs)) (hst : st0 = As.reverse ++ .ref a :: st) (hn : As.length = 3) (hdep : d' + 1 ≤ d) (hrm : k + mc' ≤ mc ∧ n + ms' ≤ ms) (hcat : (st.map fun v => v.category).sum ≤ 8) (kk : ∀ (r : Option Value) (h' : hk_H), Qc r h' → hk_WP M d mc ms (k + mc') (n + ms') (pc + 3) ls (r.toList ++ st) h' Q) : hk_WP M d mc ms k n pc ls st0 h Q :=
  hk_invVN (host := "HackneyStands") hC hk_wX8_draftCoach ⟨(by rw [hM]; exact hk_n 730 (by decide +kernel) rfl), hk_t 732 (by decide +kernel) rfl, hk_ts 71 (by decide +kernel) rfl⟩ hd ha he rfl hst hn hdep hrm hcat kk
theorem ivX9_362 (hM : M.1.cls = RX9) (hC : hk_Ct MX8_draftTimes d' mc' ms' (.ref a :: As) h Qc) (hd : decode M.2.1 pc = .ok (.invokevirtual 362, 3)) (ha : a < h.1) (he : h.2 a = .inr (8, fs)) (hst : st0 = As.reverse ++ .ref a :: st) (hn : As.length = 2) (hdep : d' + 1 ≤ d) (hrm : k + mc' ≤ mc ∧ n + ms' ≤ ms) (hcat : (st.map fun v => v.category).sum ≤ 8) (kk : ∀ (r : Option Value) (h' : hk_H), Qc r h' → hk_WP M d mc ms (k + mc') (n + ms') (pc + 3) ls (r.toList ++ st) h' Q) : hk_WP M d mc ms k n pc ls st0 h Q :=
  hk_invVN (host := "HackneyStands") hC hk_wX8_draftTimes ⟨(by rw [hM]; exact hk_n 735 (by decide +kernel) rfl), hk_t 737 (by decide +kernel) rfl, hk_ts 72 (by decide +kernel) rfl⟩ hd ha he rfl hst hn hdep hrm hcat kk
theorem ivX9_365 (hM : M.1.cls = RX9) (hC : hk_Ct MX8_keepDraft d' mc' ms' (.ref a :: As) h Qc) (hd : decode M.2.1 pc = .ok (.invokevirtual 365, 3)) (ha : a < h.1) (he : h.2 a = .inr (8, fs)) (hst : st0 = As.reverse ++ .ref a :: st) (hn : As.length = 0) (hdep : d' + 1 ≤ d) (hrm : k + mc' ≤ mc ∧ n + ms' ≤ ms) (hcat : (st.map fun v => v.category).sum ≤ 8) (kk : ∀ (r : Option Value) (h' : hk_H), Qc r h' → hk_WP M d mc ms (k + mc') (n + ms') (pc + 3) ls (r.toList ++ st) h' Q) : hk_WP M d mc ms k n pc ls st0 h Q :=
  hk_invVN (host := "HackneyStands") hC hk_wX8_keepDraft ⟨(by rw [hM]; exact hk_n 747 (by decide +kernel) rfl), hk_t 749 (by decide +kernel) rfl, hk_ts 75 (by decide +kernel) rfl⟩ hd ha he rfl hst hn hdep hrm hcat kk
theorem ivX9_368 (hM : M.1.cls = RX9) (hC : hk_Ct MX8_isSame d' mc' ms' (.ref a :: As) h Qc) (hd : decode M.2.1 pc = .ok (.invokevirtual 368, 3)) (ha : a < h.1) (he : h.2 a = .inr (8, fs)) (hst : st0 = As.reverse ++ .ref a :: st) (hn : As.length = 3) (hdep : d' + 1 ≤ d) (hrm : k + mc' ≤ mc ∧ n + ms' ≤ ms) (hcat : (st.map fun v => v.category).sum ≤ 8) (kk : ∀ (r : Option Value) (h' : hk_H), Qc r h' → hk_WP M d mc ms (k + mc') (n + ms') (pc + 3) ls (r.toList ++ st) h' Q) : hk_WP M d mc ms k n pc ls st0 h Q :=
  hk_invVN (host := "HackneyStands") hC hk_wX8_isSame ⟨(by rw [hM]; exact hk_n 831 (by decide +kernel) rfl), hk_t 833 (by decide +kernel) rfl, hk_ts 86 (by decide +kernel) rfl⟩ hd ha he rfl hst hn hdep hrm hcat kk
theorem ivX9_371 (hM : M.1.cls = RX9) (hC : hk_Ct MX9_isLike d' mc' ms' (.ref a :: As) h Qc) (hd : decode M.2.1 pc = .ok (.invokevirtual 371, 3)) (ha : a < h.1) (he : h.2 a = .inr (9, fs)) (hst : st0 = As.reverse ++ .ref a :: st) (hn : As.length = 2) (hdep : d' + 1 ≤ d) (hrm : k + mc' ≤ mc ∧ n + ms' ≤ ms) (hcat : (st.map fun v => v.category).sum ≤ 8) (kk : ∀ (r : Option Value) (h' : hk_H), Qc r h' → hk_WP M d mc ms (k + mc') (n + ms') (pc + 3) ls (r.toList ++ st) h' Q) : hk_WP M d mc ms k n pc ls st0 h Q :=
  hk_invV hC hk_wX9_isLike ⟨(by rw [hM]; exact hk_t 827 (by decide +kernel) rfl), hk_t 829 (by decide +kernel) rfl, hk_ts 85 (by decide +kernel) rfl⟩ hd ha he rfl hst hn hdep hrm hcat kk
theorem ivX9_374 (hM : M.1.cls = RX9) (hC : hk_Ct MX7_isPlate d' mc' ms' As h Qc) (hd : decode M.2.1 pc = .ok (.invokestatic 374, 3)) (hst : st0 = As.reverse ++ st) (hn : As.length = 2) (hdep : d' + 1 ≤ d) (hrm : k + mc' ≤ mc ∧ n + ms' ≤ ms) (hcat : (st.map fun v => v.category).sum ≤ 8) (kk : ∀ (r : Option Value) (h' : hk_H), Qc r h' → hk_WP M d mc ms (k + mc') (n + ms') (pc + 3) ls (r.toList ++ st) h' Q) : hk_WP M d mc ms k n pc ls st0 h Q :=
  hk_invSN (host := "HackneyStands") hC hk_wX7_isPlate ⟨(by rw [hM]; exact hk_n 869 (by decide +kernel) rfl), hk_t 870 (by decide +kernel) rfl⟩ hd hst hn hdep hrm hcat kk
theorem ivX9_377 (hM : M.1.cls = RX9) (hC : hk_Ct MX8_wasOnTrip d' mc' ms' (.ref a :: As) h Qc) (hd : decode M.2.1 pc = .ok (.invokevirtual 377, 3)) (ha : a < h.1) (he : h.2 a = .inr (8, fs)) (hst : st0 = As.reverse ++ .ref a :: st) (hn : As.length = 3) (hdep : d' + 1 ≤ d) (hrm : k + mc' ≤ mc ∧ n + ms' ≤ ms) (hcat : (st.map fun v => v.category).sum ≤ 8) (kk : ∀ (r : Option Value) (h' : hk_H), Qc r h' → hk_WP M d mc ms (k + mc') (n + ms') (pc + 3) ls (r.toList ++ st) h' Q) : hk_WP M d mc ms k n pc ls st0 h Q :=
  hk_invVN (host := "HackneyStands") hC hk_wX8_wasOnTrip ⟨(by rw [hM]; exact hk_n 872 (by decide +kernel) rfl), hk_t 874 (by decide +kernel) rfl, hk_ts 92 (by decide +kernel) rfl⟩ hd ha he rfl hst hn hdep hrm hcat kk
theorem gfX10_7 (hM : M.1.cls = RX10) {v : Value} (hd : decode M.2.1 pc = .ok (.getfield 7, 3)) (ha : a < h.1) (he : h.2 a = .inr (10, fs)) (hv : fs[1]? = some v) (kk : hk_WP M d mc ms k n (pc + 3) ls (v :: st) h Q) : hk_WP M d mc ms k n pc ls (.ref a :: st) h Q :=
  hk_getf (ci := 10) (kf := 1) (C := RX10) (T := TX10) (N := 81) rfl hk_in10 (by decide) (by rw [hM]; exact hk_t 907 (by decide +kernel) rfl) hd ha he hv kk
theorem pfX10_7 (hM : M.1.cls = RX10) {x : Nat} (hd : decode M.2.1 pc = .ok (.putfield 7, 3)) (ha : a < h.1) (he : h.2 a = .inr (10, fs)) (hl : 1 < fs.length) (hI : M.1.name = "<init>") (kk : hk_WP M d mc ms k n (pc + 3) ls st (hk_up h a (.inr (10, fs.set 1 (.ref x)))) Q) : hk_WP M d mc ms k n pc ls (.ref x :: .ref a :: st) h Q :=
  hk_putF (ci := 10) (kf := 1) (C := RX10) (T := TX10) (N := 81) tyX10 tyX10_ok nmX10 rfl hk_in10 (by decide) (by rw [hM]; exact hk_t 907 (by decide +kernel) rfl) rfl hI (by rw [hM]; rfl) (fun _ => rfl) (fun _ => rfl) hd ha he hl kk
theorem gfX10_13 (hM : M.1.cls = RX10) {v : Value} (hd : decode M.2.1 pc = .ok (.getfield 13, 3)) (ha : a < h.1) (he : h.2 a = .inr (10, fs)) (hv : fs[2]? = some v) (kk : hk_WP M d mc ms k n (pc + 3) ls (v :: st) h Q) : hk_WP M d mc ms k n pc ls (.ref a :: st) h Q :=
  hk_getf (ci := 10) (kf := 2) (C := RX10) (T := TX10) (N := 81) rfl hk_in10 (by decide) (by rw [hM]; exact hk_t 908 (by decide +kernel) rfl) hd ha he hv kk
theorem pfX10_13 (hM : M.1.cls = RX10) {x : Nat} (hd : decode M.2.1 pc = .ok (.putfield 13, 3)) (ha : a < h.1) (he : h.2 a = .inr (10, fs)) (hl : 2 < fs.length) (hI : M.1.name = "<init>") (kk : hk_WP M d mc ms k n (pc + 3) ls st (hk_up h a (.inr (10, fs.set 2 (.ref x)))) Q) : hk_WP M d mc ms k n pc ls (.ref x :: .ref a :: st) h Q :=
  hk_putF (ci := 10) (kf := 2) (C := RX10) (T := TX10) (N := 81) tyX10 tyX10_ok nmX10 rfl hk_in10 (by decide) (by rw [hM]; exact hk_t 908 (by decide +kernel) rfl) rfl hI (by rw [hM]; rfl) (fun _ => rfl) (fun _ => rfl) hd ha he hl kk
theorem gfX10_16 (hM : M.1.cls = RX10) {v : Value} (hd : decode M.2.1 pc = .ok (.getfield 16, 3)) (ha : a < h.1) (he : h.2 a = .inr (10, fs)) (hv : fs[4]? = some v) (kk : hk_WP M d mc ms k n (pc + 3) ls (v :: st) h Q) : hk_WP M d mc ms k n pc ls (.ref a :: st) h Q :=
  hk_getf (ci := 10) (kf := 4) (C := RX10) (T := TX10) (N := 81) rfl hk_in10 (by decide) (by rw [hM]; exact hk_t 910 (by decide +kernel) rfl) hd ha he hv kk
theorem pfX10_16 (hM : M.1.cls = RX10) {x : Nat} (hd : decode M.2.1 pc = .ok (.putfield 16, 3)) (ha : a < h.1) (he : h.2 a = .inr (10, fs)) (hl : 4 < fs.length) (hI : M.1.name = "<init>") (kk : hk_WP M d mc ms k n (pc + 3) ls st (hk_up h a (.inr (10, fs.set 4 (.ref x)))) Q) : hk_WP M d mc ms k n pc ls (.ref x :: .ref a :: st) h Q :=
  hk_putF (ci := 10) (kf := 4) (C := RX10) (T := TX10) (N := 81) tyX10 tyX10_ok nmX10 rfl hk_in10 (by decide) (by rw [hM]; exact hk_t 910 (by decide +kernel) rfl) rfl hI (by rw [hM]; rfl) (fun _ => rfl) (fun _ => rfl) hd ha he hl kk
theorem gfX10_19 (hM : M.1.cls = RX10) {v : Value} (hd : decode M.2.1 pc = .ok (.getfield 19, 3)) (ha : a < h.1) (he : h.2 a = .inr (10, fs)) (hv : fs[5]? = some v) (kk : hk_WP M d mc ms k n (pc + 3) ls (v :: st) h Q) : hk_WP M d mc ms k n pc ls (.ref a :: st) h Q :=
  hk_getf (ci := 10) (kf := 5) (C := RX10) (T := TX10) (N := 81) rfl hk_in10 (by decide) (by rw [hM]; exact hk_t 911 (by decide +kernel) rfl) hd ha he hv kk
theorem pfX10_19 (hM : M.1.cls = RX10) {x : Nat} (hd : decode M.2.1 pc = .ok (.putfield 19, 3)) (ha : a < h.1) (he : h.2 a = .inr (10, fs)) (hl : 5 < fs.length) (hI : M.1.name = "<init>") (kk : hk_WP M d mc ms k n (pc + 3) ls st (hk_up h a (.inr (10, fs.set 5 (.ref x)))) Q) : hk_WP M d mc ms k n pc ls (.ref x :: .ref a :: st) h Q :=
  hk_putF (ci := 10) (kf := 5) (C := RX10) (T := TX10) (N := 81) tyX10 tyX10_ok nmX10 rfl hk_in10 (by decide) (by rw [hM]; exact hk_t 911 (by decide +kernel) rfl) rfl hI (by rw [hM]; rfl) (fun _ => rfl) (fun _ => rfl) hd ha he hl kk
theorem gfX10_22 (hM : M.1.cls = RX10) {v : Value} (hd : decode M.2.1 pc = .ok (.getfield 22, 3)) (ha : a < h.1) (he : h.2 a = .inr (10, fs)) (hv : fs[6]? = some v) (kk : hk_WP M d mc ms k n (pc + 3) ls (v :: st) h Q) : hk_WP M d mc ms k n pc ls (.ref a :: st) h Q :=
  hk_getf (ci := 10) (kf := 6) (C := RX10) (T := TX10) (N := 81) rfl hk_in10 (by decide) (by rw [hM]; exact hk_t 912 (by decide +kernel) rfl) hd ha he hv kk
theorem pfX10_22 (hM : M.1.cls = RX10) {x : Nat} (hd : decode M.2.1 pc = .ok (.putfield 22, 3)) (ha : a < h.1) (he : h.2 a = .inr (10, fs)) (hl : 6 < fs.length) (hI : M.1.name = "<init>") (kk : hk_WP M d mc ms k n (pc + 3) ls st (hk_up h a (.inr (10, fs.set 6 (.ref x)))) Q) : hk_WP M d mc ms k n pc ls (.ref x :: .ref a :: st) h Q :=
  hk_putF (ci := 10) (kf := 6) (C := RX10) (T := TX10) (N := 81) tyX10 tyX10_ok nmX10 rfl hk_in10 (by decide) (by rw [hM]; exact hk_t 912 (by decide +kernel) rfl) rfl hI (by rw [hM]; rfl) (fun _ => rfl) (fun _ => rfl) hd ha he hl kk
theorem gfX10_25 (hM : M.1.cls = RX10) {v : Value} (hd : decode M.2.1 pc = .ok (.getfield 25, 3)) (ha : a < h.1) (he : h.2 a = .inr (10, fs)) (hv : fs[7]? = some v) (kk : hk_WP M d mc ms k n (pc + 3) ls (v :: st) h Q) : hk_WP M d mc ms k n pc ls (.ref a :: st) h Q :=
  hk_getf (ci := 10) (kf := 7) (C := RX10) (T := TX10) (N := 81) rfl hk_in10 (by decide) (by rw [hM]; exact hk_t 913 (by decide +kernel) rfl) hd ha he hv kk
theorem pfX10_25 (hM : M.1.cls = RX10) {x : Nat} (hd : decode M.2.1 pc = .ok (.putfield 25, 3)) (ha : a < h.1) (he : h.2 a = .inr (10, fs)) (hl : 7 < fs.length) (hI : M.1.name = "<init>") (kk : hk_WP M d mc ms k n (pc + 3) ls st (hk_up h a (.inr (10, fs.set 7 (.ref x)))) Q) : hk_WP M d mc ms k n pc ls (.ref x :: .ref a :: st) h Q :=
  hk_putF (ci := 10) (kf := 7) (C := RX10) (T := TX10) (N := 81) tyX10 tyX10_ok nmX10 rfl hk_in10 (by decide) (by rw [hM]; exact hk_t 913 (by decide +kernel) rfl) rfl hI (by rw [hM]; rfl) (fun _ => rfl) (fun _ => rfl) hd ha he hl kk
theorem gfX10_28 (hM : M.1.cls = RX10) {v : Value} (hd : decode M.2.1 pc = .ok (.getfield 28, 3)) (ha : a < h.1) (he : h.2 a = .inr (10, fs)) (hv : fs[8]? = some v) (kk : hk_WP M d mc ms k n (pc + 3) ls (v :: st) h Q) : hk_WP M d mc ms k n pc ls (.ref a :: st) h Q :=
  hk_getf (ci := 10) (kf := 8) (C := RX10) (T := TX10) (N := 81) rfl hk_in10 (by decide) (by rw [hM]; exact hk_t 914 (by decide +kernel) rfl) hd ha he hv kk
theorem pfX10_28 (hM : M.1.cls = RX10) {x : Nat} (hd : decode M.2.1 pc = .ok (.putfield 28, 3)) (ha : a < h.1) (he : h.2 a = .inr (10, fs)) (hl : 8 < fs.length) (hI : M.1.name = "<init>") (kk : hk_WP M d mc ms k n (pc + 3) ls st (hk_up h a (.inr (10, fs.set 8 (.ref x)))) Q) : hk_WP M d mc ms k n pc ls (.ref x :: .ref a :: st) h Q :=
  hk_putF (ci := 10) (kf := 8) (C := RX10) (T := TX10) (N := 81) tyX10 tyX10_ok nmX10 rfl hk_in10 (by decide) (by rw [hM]; exact hk_t 914 (by decide +kernel) rfl) rfl hI (by rw [hM]; rfl) (fun _ => rfl) (fun _ => rfl) hd ha he hl kk
theorem gfX10_31 (hM : M.1.cls = RX10) {v : Value} (hd : decode M.2.1 pc = .ok (.getfield 31, 3)) (ha : a < h.1) (he : h.2 a = .inr (10, fs)) (hv : fs[9]? = some v) (kk : hk_WP M d mc ms k n (pc + 3) ls (v :: st) h Q) : hk_WP M d mc ms k n pc ls (.ref a :: st) h Q :=
  hk_getf (ci := 10) (kf := 9) (C := RX10) (T := TX10) (N := 81) rfl hk_in10 (by decide) (by rw [hM]; exact hk_t 915 (by decide +kernel) rfl) hd ha he hv kk
theorem pfX10_31 (hM : M.1.cls = RX10) {x : Nat} (hd : decode M.2.1 pc = .ok (.putfield 31, 3)) (ha : a < h.1) (he : h.2 a = .inr (10, fs)) (hl : 9 < fs.length) (hI : M.1.name = "<init>") (kk : hk_WP M d mc ms k n (pc + 3) ls st (hk_up h a (.inr (10, fs.set 9 (.ref x)))) Q) : hk_WP M d mc ms k n pc ls (.ref x :: .ref a :: st) h Q :=
  hk_putF (ci := 10) (kf := 9) (C := RX10) (T := TX10) (N := 81) tyX10 tyX10_ok nmX10 rfl hk_in10 (by decide) (by rw [hM]; exact hk_t 915 (by decide +kernel) rfl) rfl hI (by rw [hM]; rfl) (fun _ => rfl) (fun _ => rfl) hd ha he hl kk
theorem gfX10_34 (hM : M.1.cls = RX10) {v : Value} (hd : decode M.2.1 pc = .ok (.getfield 34, 3)) (ha : a < h.1) (he : h.2 a = .inr (10, fs)) (hv : fs[10]? = some v) (kk : hk_WP M d mc ms k n (pc + 3) ls (v :: st) h Q) : hk_WP M d mc ms k n pc ls (.ref a :: st) h Q :=
  hk_getf (ci := 10) (kf := 10) (C := RX10) (T := TX10) (N := 81) rfl hk_in10 (by decide) (by rw [hM]; exact hk_t 916 (by decide +kernel) rfl) hd ha he hv kk
theorem pfX10_34 (hM : M.1.cls = RX10) {x : Nat} (hd : decode M.2.1 pc = .ok (.putfield 34, 3)) (ha : a < h.1) (he : h.2 a = .inr (10, fs)) (hl : 10 < fs.length) (hI : M.1.name = "<init>") (kk : hk_WP M d mc ms k n (pc + 3) ls st (hk_up h a (.inr (10, fs.set 10 (.ref x)))) Q) : hk_WP M d mc ms k n pc ls (.ref x :: .ref a :: st) h Q :=
  hk_putF (ci := 10) (kf := 10) (C := RX10) (T := TX10) (N := 81) tyX10 tyX10_ok nmX10 rfl hk_in10 (by decide) (by rw [hM]; exact hk_t 916 (by decide +kernel) rfl) rfl hI (by rw [hM]; rfl) (fun _ => rfl) (fun _ => rfl) hd ha he hl kk
theorem gfX10_37 (hM : M.1.cls = RX10) {v : Value} (hd : decode M.2.1 pc = .ok (.getfield 37, 3)) (ha : a < h.1) (he : h.2 a = .inr (10, fs)) (hv : fs[12]? = some v) (kk : hk_WP M d mc ms k n (pc + 3) ls (v :: st) h Q) : hk_WP M d mc ms k n pc ls (.ref a :: st) h Q :=
  hk_getf (ci := 10) (kf := 12) (C := RX10) (T := TX10) (N := 81) rfl hk_in10 (by decide) (by rw [hM]; exact hk_t 918 (by decide +kernel) rfl) hd ha he hv kk
theorem pfX10_37 (hM : M.1.cls = RX10) {x : Nat} (hd : decode M.2.1 pc = .ok (.putfield 37, 3)) (ha : a < h.1) (he : h.2 a = .inr (10, fs)) (hl : 12 < fs.length) (hI : M.1.name = "<init>") (kk : hk_WP M d mc ms k n (pc + 3) ls st (hk_up h a (.inr (10, fs.set 12 (.ref x)))) Q) : hk_WP M d mc ms k n pc ls (.ref x :: .ref a :: st) h Q :=
  hk_putF (ci := 10) (kf := 12) (C := RX10) (T := TX10) (N := 81) tyX10 tyX10_ok nmX10 rfl hk_in10 (by decide) (by rw [hM]; exact hk_t 918 (by decide +kernel) rfl) rfl hI (by rw [hM]; rfl) (fun _ => rfl) (fun _ => rfl) hd ha he hl kk
theorem gfX10_40 (hM : M.1.cls = RX10) {v : Value} (hd : decode M.2.1 pc = .ok (.getfield 40, 3)) (ha : a < h.1) (he : h.2 a = .inr (10, fs)) (hv : fs[13]? = some v) (kk : hk_WP M d mc ms k n (pc + 3) ls (v :: st) h Q) : hk_WP M d mc ms k n pc ls (.ref a :: st) h Q :=
  hk_getf (ci := 10) (kf := 13) (C := RX10) (T := TX10) (N := 81) rfl hk_in10 (by decide) (by rw [hM]; exact hk_t 919 (by decide +kernel) rfl) hd ha he hv kk
theorem pfX10_40 (hM : M.1.cls = RX10) {x : Nat} (hd : decode M.2.1 pc = .ok (.putfield 40, 3)) (ha : a < h.1) (he : h.2 a = .inr (10, fs)) (hl : 13 < fs.length) (hI : M.1.name = "<init>") (kk : hk_WP M d mc ms k n (pc + 3) ls st (hk_up h a (.inr (10, fs.set 13 (.ref x)))) Q) : hk_WP M d mc ms k n pc ls (.ref x :: .ref a :: st) h Q :=
  hk_putF (ci := 10) (kf := 13) (C := RX10) (T := TX10) (N := 81) tyX10 tyX10_ok nmX10 rfl hk_in10 (by decide) (by rw [hM]; exact hk_t 919 (by decide +kernel) rfl) rfl hI (by rw [hM]; rfl) (fun _ => rfl) (fun _ => rfl) hd ha he hl kk
theorem gfX10_43 (hM : M.1.cls = RX10) {v : Value} (hd : decode M.2.1 pc = .ok (.getfield 43, 3)) (ha : a < h.1) (he : h.2 a = .inr (10, fs)) (hv : fs[14]? = some v) (kk : hk_WP M d mc ms k n (pc + 3) ls (v :: st) h Q) : hk_WP M d mc ms k n pc ls (.ref a :: st) h Q :=
  hk_getf (ci := 10) (kf := 14) (C := RX10) (T := TX10) (N := 81) rfl hk_in10 (by decide) (by rw [hM]; exact hk_t 920 (by decide +kernel) rfl) hd ha he hv kk
theorem pfX10_43 (hM : M.1.cls = RX10) {x : Nat} (hd : decode M.2.1 pc = .ok (.putfield 43, 3)) (ha : a < h.1) (he : h.2 a = .inr (10, fs)) (hl : 14 < fs.length) (hI : M.1.name = "<init>") (kk : hk_WP M d mc ms k n (pc + 3) ls st (hk_up h a (.inr (10, fs.set 14 (.ref x)))) Q) : hk_WP M d mc ms k n pc ls (.ref x :: .ref a :: st) h Q :=
  hk_putF (ci := 10) (kf := 14) (C := RX10) (T := TX10) (N := 81) tyX10 tyX10_ok nmX10 rfl hk_in10 (by decide) (by rw [hM]; exact hk_t 920 (by decide +kernel) rfl) rfl hI (by rw [hM]; rfl) (fun _ => rfl) (fun _ => rfl) hd ha he hl kk
theorem gfX10_46 (hM : M.1.cls = RX10) {v : Value} (hd : decode M.2.1 pc = .ok (.getfield 46, 3)) (ha : a < h.1) (he : h.2 a = .inr (10, fs)) (hv : fs[16]? = some v) (kk : hk_WP M d mc ms k n (pc + 3) ls (v :: st) h Q) : hk_WP M d mc ms k n pc ls (.ref a :: st) h Q :=
  hk_getf (ci := 10) (kf := 16) (C := RX10) (T := TX10) (N := 81) rfl hk_in10 (by decide) (by rw [hM]; exact hk_t 922 (by decide +kernel) rfl) hd ha he hv kk
theorem pfX10_46 (hM : M.1.cls = RX10) {x : Nat} (hd : decode M.2.1 pc = .ok (.putfield 46, 3)) (ha : a < h.1) (he : h.2 a = .inr (10, fs)) (hl : 16 < fs.length) (hI : M.1.name = "<init>") (kk : hk_WP M d mc ms k n (pc + 3) ls st (hk_up h a (.inr (10, fs.set 16 (.ref x)))) Q) : hk_WP M d mc ms k n pc ls (.ref x :: .ref a :: st) h Q :=
  hk_putF (ci := 10) (kf := 16) (C := RX10) (T := TX10) (N := 81) tyX10 tyX10_ok nmX10 rfl hk_in10 (by decide) (by rw [hM]; exact hk_t 922 (by decide +kernel) rfl) rfl hI (by rw [hM]; rfl) (fun _ => rfl) (fun _ => rfl) hd ha he hl kk
theorem gfX10_49 (hM : M.1.cls = RX10) {v : Value} (hd : decode M.2.1 pc = .ok (.getfield 49, 3)) (ha : a < h.1) (he : h.2 a = .inr (10, fs)) (hv : fs[18]? = some v) (kk : hk_WP M d mc ms k n (pc + 3) ls (v :: st) h Q) : hk_WP M d mc ms k n pc ls (.ref a :: st) h Q :=
  hk_getf (ci := 10) (kf := 18) (C := RX10) (T := TX10) (N := 81) rfl hk_in10 (by decide) (by rw [hM]; exact hk_t 924 (by decide +kernel) rfl) hd ha he hv kk
theorem pfX10_49 (hM : M.1.cls = RX10) {x : Nat} (hd : decode M.2.1 pc = .ok (.putfield 49, 3)) (ha : a < h.1) (he : h.2 a = .inr (10, fs)) (hl : 18 < fs.length) (hI : M.1.name = "<init>") (kk : hk_WP M d mc ms k n (pc + 3) ls st (hk_up h a (.inr (10, fs.set 18 (.ref x)))) Q) : hk_WP M d mc ms k n pc ls (.ref x :: .ref a :: st) h Q :=
  hk_putF (ci := 10) (kf := 18) (C := RX10) (T := TX10) (N := 81) tyX10 tyX10_ok nmX10 rfl hk_in10 (by decide) (by rw [hM]; exact hk_t 924 (by decide +kernel) rfl) rfl hI (by rw [hM]; rfl) (fun _ => rfl) (fun _ => rfl) hd ha he hl kk
theorem gfX10_52 (hM : M.1.cls = RX10) {v : Value} (hd : decode M.2.1 pc = .ok (.getfield 52, 3)) (ha : a < h.1) (he : h.2 a = .inr (10, fs)) (hv : fs[19]? = some v) (kk : hk_WP M d mc ms k n (pc + 3) ls (v :: st) h Q) : hk_WP M d mc ms k n pc ls (.ref a :: st) h Q :=
  hk_getf (ci := 10) (kf := 19) (C := RX10) (T := TX10) (N := 81) rfl hk_in10 (by decide) (by rw [hM]; exact hk_t 925 (by decide +kernel) rfl) hd ha he hv kk
theorem pfX10_52 (hM : M.1.cls = RX10) {x : Nat} (hd : decode M.2.1 pc = .ok (.putfield 52, 3)) (ha : a < h.1) (he : h.2 a = .inr (10, fs)) (hl : 19 < fs.length) (hI : M.1.name = "<init>") (kk : hk_WP M d mc ms k n (pc + 3) ls st (hk_up h a (.inr (10, fs.set 19 (.ref x)))) Q) : hk_WP M d mc ms k n pc ls (.ref x :: .ref a :: st) h Q :=
  hk_putF (ci := 10) (kf := 19) (C := RX10) (T := TX10) (N := 81) tyX10 tyX10_ok nmX10 rfl hk_in10 (by decide) (by rw [hM]; exact hk_t 925 (by decide +kernel) rfl) rfl hI (by rw [hM]; rfl) (fun _ => rfl) (fun _ => rfl) hd ha he hl kk
theorem gfX10_55 (hM : M.1.cls = RX10) {v : Value} (hd : decode M.2.1 pc = .ok (.getfield 55, 3)) (ha : a < h.1) (he : h.2 a = .inr (10, fs)) (hv : fs[20]? = some v) (kk : hk_WP M d mc ms k n (pc + 3) ls (v :: st) h Q) : hk_WP M d mc ms k n pc ls (.ref a :: st) h Q :=
  hk_getf (ci := 10) (kf := 20) (C := RX10) (T := TX10) (N := 81) rfl hk_in10 (by decide) (by rw [hM]; exact hk_t 926 (by decide +kernel) rfl) hd ha he hv kk
theorem pfX10_55 (hM : M.1.cls = RX10) {x : Nat} (hd : decode M.2.1 pc = .ok (.putfield 55, 3)) (ha : a < h.1) (he : h.2 a = .inr (10, fs)) (hl : 20 < fs.length) (hI : M.1.name = "<init>") (kk : hk_WP M d mc ms k n (pc + 3) ls st (hk_up h a (.inr (10, fs.set 20 (.ref x)))) Q) : hk_WP M d mc ms k n pc ls (.ref x :: .ref a :: st) h Q :=
  hk_putF (ci := 10) (kf := 20) (C := RX10) (T := TX10) (N := 81) tyX10 tyX10_ok nmX10 rfl hk_in10 (by decide) (by rw [hM]; exact hk_t 926 (by decide +kernel) rfl) rfl hI (by rw [hM]; rfl) (fun _ => rfl) (fun _ => rfl) hd ha he hl kk
theorem gfX10_58 (hM : M.1.cls = RX10) {v : Value} (hd : decode M.2.1 pc = .ok (.getfield 58, 3)) (ha : a < h.1) (he : h.2 a = .inr (10, fs)) (hv : fs[21]? = some v) (kk : hk_WP M d mc ms k n (pc + 3) ls (v :: st) h Q) : hk_WP M d mc ms k n pc ls (.ref a :: st) h Q :=
  hk_getf (ci := 10) (kf := 21) (C := RX10) (T := TX10) (N := 81) rfl hk_in10 (by decide) (by rw [hM]; exact hk_t 927 (by decide +kernel) rfl) hd ha he hv kk
theorem pfX10_58 (hM : M.1.cls = RX10) {x : Nat} (hd : decode M.2.1 pc = .ok (.putfield 58, 3)) (ha : a < h.1) (he : h.2 a = .inr (10, fs)) (hl : 21 < fs.length) (hI : M.1.name = "<init>") (kk : hk_WP M d mc ms k n (pc + 3) ls st (hk_up h a (.inr (10, fs.set 21 (.ref x)))) Q) : hk_WP M d mc ms k n pc ls (.ref x :: .ref a :: st) h Q :=
  hk_putF (ci := 10) (kf := 21) (C := RX10) (T := TX10) (N := 81) tyX10 tyX10_ok nmX10 rfl hk_in10 (by decide) (by rw [hM]; exact hk_t 927 (by decide +kernel) rfl) rfl hI (by rw [hM]; rfl) (fun _ => rfl) (fun _ => rfl) hd ha he hl kk
theorem gfX10_61 (hM : M.1.cls = RX10) {v : Value} (hd : decode M.2.1 pc = .ok (.getfield 61, 3)) (ha : a < h.1) (he : h.2 a = .inr (10, fs)) (hv : fs[22]? = some v) (kk : hk_WP M d mc ms k n (pc + 3) ls (v :: st) h Q) : hk_WP M d mc ms k n pc ls (.ref a :: st) h Q :=
  hk_getf (ci := 10) (kf := 22) (C := RX10) (T := TX10) (N := 81) rfl hk_in10 (by decide) (by rw [hM]; exact hk_t 928 (by decide +kernel) rfl) hd ha he hv kk
theorem pfX10_61 (hM : M.1.cls = RX10) {x : Nat} (hd : decode M.2.1 pc = .ok (.putfield 61, 3)) (ha : a < h.1) (he : h.2 a = .inr (10, fs)) (hl : 22 < fs.length) (hI : M.1.name = "<init>") (kk : hk_WP M d mc ms k n (pc + 3) ls st (hk_up h a (.inr (10, fs.set 22 (.ref x)))) Q) : hk_WP M d mc ms k n pc ls (.ref x :: .ref a :: st) h Q :=
  hk_putF (ci := 10) (kf := 22) (C := RX10) (T := TX10) (N := 81) tyX10 tyX10_ok nmX10 rfl hk_in10 (by decide) (by rw [hM]; exact hk_t 928 (by decide +kernel) rfl) rfl hI (by rw [hM]; rfl) (fun _ => rfl) (fun _ => rfl) hd ha he hl kk
theorem gfX10_64 (hM : M.1.cls = RX10) {v : Value} (hd : decode M.2.1 pc = .ok (.getfield 64, 3)) (ha : a < h.1) (he : h.2 a = .inr (10, fs)) (hv : fs[23]? = some v) (kk : hk_WP M d mc ms k n (pc + 3) ls (v :: st) h Q) : hk_WP M d mc ms k n pc ls (.ref a :: st) h Q :=
  hk_getf (ci := 10) (kf := 23) (C := RX10) (T := TX10) (N := 81) rfl hk_in10 (by decide) (by rw [hM]; exact hk_t 929 (by decide +kernel) rfl) hd ha he hv kk
theorem pfX10_64 (hM : M.1.cls = RX10) {x : Nat} (hd : decode M.2.1 pc = .ok (.putfield 64, 3)) (ha : a < h.1) (he : h.2 a = .inr (10, fs)) (hl : 23 < fs.length) (hI : M.1.name = "<init>") (kk : hk_WP M d mc ms k n (pc + 3) ls st (hk_up h a (.inr (10, fs.set 23 (.ref x)))) Q) : hk_WP M d mc ms k n pc ls (.ref x :: .ref a :: st) h Q :=
  hk_putF (ci := 10) (kf := 23) (C := RX10) (T := TX10) (N := 81) tyX10 tyX10_ok nmX10 rfl hk_in10 (by decide) (by rw [hM]; exact hk_t 929 (by decide +kernel) rfl) rfl hI (by rw [hM]; rfl) (fun _ => rfl) (fun _ => rfl) hd ha he hl kk
theorem gfX10_67 (hM : M.1.cls = RX10) {v : Value} (hd : decode M.2.1 pc = .ok (.getfield 67, 3)) (ha : a < h.1) (he : h.2 a = .inr (10, fs)) (hv : fs[24]? = some v) (kk : hk_WP M d mc ms k n (pc + 3) ls (v :: st) h Q) : hk_WP M d mc ms k n pc ls (.ref a :: st) h Q :=
  hk_getf (ci := 10) (kf := 24) (C := RX10) (T := TX10) (N := 81) rfl hk_in10 (by decide) (by rw [hM]; exact hk_t 930 (by decide +kernel) rfl) hd ha he hv kk
theorem pfX10_67 (hM : M.1.cls = RX10) {x : Nat} (hd : decode M.2.1 pc = .ok (.putfield 67, 3)) (ha : a < h.1) (he : h.2 a = .inr (10, fs)) (hl : 24 < fs.length) (hI : M.1.name = "<init>") (kk : hk_WP M d mc ms k n (pc + 3) ls st (hk_up h a (.inr (10, fs.set 24 (.ref x)))) Q) : hk_WP M d mc ms k n pc ls (.ref x :: .ref a :: st) h Q :=
  hk_putF (ci := 10) (kf := 24) (C := RX10) (T := TX10) (N := 81) tyX10 tyX10_ok nmX10 rfl hk_in10 (by decide) (by rw [hM]; exact hk_t 930 (by decide +kernel) rfl) rfl hI (by rw [hM]; rfl) (fun _ => rfl) (fun _ => rfl) hd ha he hl kk
theorem gfX10_70 (hM : M.1.cls = RX10) {v : Value} (hd : decode M.2.1 pc = .ok (.getfield 70, 3)) (ha : a < h.1) (he : h.2 a = .inr (10, fs)) (hv : fs[25]? = some v) (kk : hk_WP M d mc ms k n (pc + 3) ls (v :: st) h Q) : hk_WP M d mc ms k n pc ls (.ref a :: st) h Q :=
  hk_getf (ci := 10) (kf := 25) (C := RX10) (T := TX10) (N := 81) rfl hk_in10 (by decide) (by rw [hM]; exact hk_t 931 (by decide +kernel) rfl) hd ha he hv kk
theorem pfX10_70 (hM : M.1.cls = RX10) {x : Nat} (hd : decode M.2.1 pc = .ok (.putfield 70, 3)) (ha : a < h.1) (he : h.2 a = .inr (10, fs)) (hl : 25 < fs.length) (hI : M.1.name = "<init>") (kk : hk_WP M d mc ms k n (pc + 3) ls st (hk_up h a (.inr (10, fs.set 25 (.ref x)))) Q) : hk_WP M d mc ms k n pc ls (.ref x :: .ref a :: st) h Q :=
  hk_putF (ci := 10) (kf := 25) (C := RX10) (T := TX10) (N := 81) tyX10 tyX10_ok nmX10 rfl hk_in10 (by decide) (by rw [hM]; exact hk_t 931 (by decide +kernel) rfl) rfl hI (by rw [hM]; rfl) (fun _ => rfl) (fun _ => rfl) hd ha he hl kk
theorem gfX10_73 (hM : M.1.cls = RX10) {v : Value} (hd : decode M.2.1 pc = .ok (.getfield 73, 3)) (ha : a < h.1) (he : h.2 a = .inr (10, fs)) (hv : fs[27]? = some v) (kk : hk_WP M d mc ms k n (pc + 3) ls (v :: st) h Q) : hk_WP M d mc ms k n pc ls (.ref a :: st) h Q :=
  hk_getf (ci := 10) (kf := 27) (C := RX10) (T := TX10) (N := 81) rfl hk_in10 (by decide) (by rw [hM]; exact hk_t 933 (by decide +kernel) rfl) hd ha he hv kk
theorem pfX10_73 (hM : M.1.cls = RX10) {x : Nat} (hd : decode M.2.1 pc = .ok (.putfield 73, 3)) (ha : a < h.1) (he : h.2 a = .inr (10, fs)) (hl : 27 < fs.length) (hI : M.1.name = "<init>") (kk : hk_WP M d mc ms k n (pc + 3) ls st (hk_up h a (.inr (10, fs.set 27 (.ref x)))) Q) : hk_WP M d mc ms k n pc ls (.ref x :: .ref a :: st) h Q :=
  hk_putF (ci := 10) (kf := 27) (C := RX10) (T := TX10) (N := 81) tyX10 tyX10_ok nmX10 rfl hk_in10 (by decide) (by rw [hM]; exact hk_t 933 (by decide +kernel) rfl) rfl hI (by rw [hM]; rfl) (fun _ => rfl) (fun _ => rfl) hd ha he hl kk
theorem gfX10_76 (hM : M.1.cls = RX10) {v : Value} (hd : decode M.2.1 pc = .ok (.getfield 76, 3)) (ha : a < h.1) (he : h.2 a = .inr (10, fs)) (hv : fs[28]? = some v) (kk : hk_WP M d mc ms k n (pc + 3) ls (v :: st) h Q) : hk_WP M d mc ms k n pc ls (.ref a :: st) h Q :=
  hk_getf (ci := 10) (kf := 28) (C := RX10) (T := TX10) (N := 81) rfl hk_in10 (by decide) (by rw [hM]; exact hk_t 934 (by decide +kernel) rfl) hd ha he hv kk
theorem pfX10_76 (hM : M.1.cls = RX10) {x : Nat} (hd : decode M.2.1 pc = .ok (.putfield 76, 3)) (ha : a < h.1) (he : h.2 a = .inr (10, fs)) (hl : 28 < fs.length) (hI : M.1.name = "<init>") (kk : hk_WP M d mc ms k n (pc + 3) ls st (hk_up h a (.inr (10, fs.set 28 (.ref x)))) Q) : hk_WP M d mc ms k n pc ls (.ref x :: .ref a :: st) h Q :=
  hk_putF (ci := 10) (kf := 28) (C := RX10) (T := TX10) (N := 81) tyX10 tyX10_ok nmX10 rfl hk_in10 (by decide) (by rw [hM]; exact hk_t 934 (by decide +kernel) rfl) rfl hI (by rw [hM]; rfl) (fun _ => rfl) (fun _ => rfl) hd ha he hl kk
theorem gfX10_79 (hM : M.1.cls = RX10) {v : Value} (hd : decode M.2.1 pc = .ok (.getfield 79, 3)) (ha : a < h.1) (he : h.2 a = .inr (10, fs)) (hv : fs[29]? = some v) (kk : hk_WP M d mc ms k n (pc + 3) ls (v :: st) h Q) : hk_WP M d mc ms k n pc ls (.ref a :: st) h Q :=
  hk_getf (ci := 10) (kf := 29) (C := RX10) (T := TX10) (N := 81) rfl hk_in10 (by decide) (by rw [hM]; exact hk_t 935 (by decide +kernel) rfl) hd ha he hv kk
theorem pfX10_79 (hM : M.1.cls = RX10) {x : Nat} (hd : decode M.2.1 pc = .ok (.putfield 79, 3)) (ha : a < h.1) (he : h.2 a = .inr (10, fs)) (hl : 29 < fs.length) (hI : M.1.name = "<init>") (kk : hk_WP M d mc ms k n (pc + 3) ls st (hk_up h a (.inr (10, fs.set 29 (.ref x)))) Q) : hk_WP M d mc ms k n pc ls (.ref x :: .ref a :: st) h Q :=
  hk_putF (ci := 10) (kf := 29) (C := RX10) (T := TX10) (N := 81) tyX10 tyX10_ok nmX10 rfl hk_in10 (by decide) (by rw [hM]; exact hk_t 935 (by decide +kernel) rfl) rfl hI (by rw [hM]; rfl) (fun _ => rfl) (fun _ => rfl) hd ha he hl kk
theorem gfX10_82 (hM : M.1.cls = RX10) {v : Value} (hd : decode M.2.1 pc = .ok (.getfield 82, 3)) (ha : a < h.1) (he : h.2 a = .inr (10, fs)) (hv : fs[31]? = some v) (kk : hk_WP M d mc ms k n (pc + 3) ls (v :: st) h Q) : hk_WP M d mc ms k n pc ls (.ref a :: st) h Q :=
  hk_getf (ci := 10) (kf := 31) (C := RX10) (T := TX10) (N := 81) rfl hk_in10 (by decide) (by rw [hM]; exact hk_t 937 (by decide +kernel) rfl) hd ha he hv kk
theorem pfX10_82 (hM : M.1.cls = RX10) {x : Nat} (hd : decode M.2.1 pc = .ok (.putfield 82, 3)) (ha : a < h.1) (he : h.2 a = .inr (10, fs)) (hl : 31 < fs.length) (hI : M.1.name = "<init>") (kk : hk_WP M d mc ms k n (pc + 3) ls st (hk_up h a (.inr (10, fs.set 31 (.ref x)))) Q) : hk_WP M d mc ms k n pc ls (.ref x :: .ref a :: st) h Q :=
  hk_putF (ci := 10) (kf := 31) (C := RX10) (T := TX10) (N := 81) tyX10 tyX10_ok nmX10 rfl hk_in10 (by decide) (by rw [hM]; exact hk_t 937 (by decide +kernel) rfl) rfl hI (by rw [hM]; rfl) (fun _ => rfl) (fun _ => rfl) hd ha he hl kk
theorem gfX10_85 (hM : M.1.cls = RX10) {v : Value} (hd : decode M.2.1 pc = .ok (.getfield 85, 3)) (ha : a < h.1) (he : h.2 a = .inr (10, fs)) (hv : fs[32]? = some v) (kk : hk_WP M d mc ms k n (pc + 3) ls (v :: st) h Q) : hk_WP M d mc ms k n pc ls (.ref a :: st) h Q :=
  hk_getf (ci := 10) (kf := 32) (C := RX10) (T := TX10) (N := 81) rfl hk_in10 (by decide) (by rw [hM]; exact hk_t 938 (by decide +kernel) rfl) hd ha he hv kk
theorem pfX10_85 (hM : M.1.cls = RX10) {x : Nat} (hd : decode M.2.1 pc = .ok (.putfield 85, 3)) (ha : a < h.1) (he : h.2 a = .inr (10, fs)) (hl : 32 < fs.length) (hI : M.1.name = "<init>") (kk : hk_WP M d mc ms k n (pc + 3) ls st (hk_up h a (.inr (10, fs.set 32 (.ref x)))) Q) : hk_WP M d mc ms k n pc ls (.ref x :: .ref a :: st) h Q :=
  hk_putF (ci := 10) (kf := 32) (C := RX10) (T := TX10) (N := 81) tyX10 tyX10_ok nmX10 rfl hk_in10 (by decide) (by rw [hM]; exact hk_t 938 (by decide +kernel) rfl) rfl hI (by rw [hM]; rfl) (fun _ => rfl) (fun _ => rfl) hd ha he hl kk
theorem gfX10_88 (hM : M.1.cls = RX10) {v : Value} (hd : decode M.2.1 pc = .ok (.getfield 88, 3)) (ha : a < h.1) (he : h.2 a = .inr (10, fs)) (hv : fs[33]? = some v) (kk : hk_WP M d mc ms k n (pc + 3) ls (v :: st) h Q) : hk_WP M d mc ms k n pc ls (.ref a :: st) h Q :=
  hk_getf (ci := 10) (kf := 33) (C := RX10) (T := TX10) (N := 81) rfl hk_in10 (by decide) (by rw [hM]; exact hk_t 939 (by decide +kernel) rfl) hd ha he hv kk
theorem pfX10_88 (hM : M.1.cls = RX10) {x : Nat} (hd : decode M.2.1 pc = .ok (.putfield 88, 3)) (ha : a < h.1) (he : h.2 a = .inr (10, fs)) (hl : 33 < fs.length) (hI : M.1.name = "<init>") (kk : hk_WP M d mc ms k n (pc + 3) ls st (hk_up h a (.inr (10, fs.set 33 (.ref x)))) Q) : hk_WP M d mc ms k n pc ls (.ref x :: .ref a :: st) h Q :=
  hk_putF (ci := 10) (kf := 33) (C := RX10) (T := TX10) (N := 81) tyX10 tyX10_ok nmX10 rfl hk_in10 (by decide) (by rw [hM]; exact hk_t 939 (by decide +kernel) rfl) rfl hI (by rw [hM]; rfl) (fun _ => rfl) (fun _ => rfl) hd ha he hl kk
theorem gfX10_91 (hM : M.1.cls = RX10) {v : Value} (hd : decode M.2.1 pc = .ok (.getfield 91, 3)) (ha : a < h.1) (he : h.2 a = .inr (10, fs)) (hv : fs[34]? = some v) (kk : hk_WP M d mc ms k n (pc + 3) ls (v :: st) h Q) : hk_WP M d mc ms k n pc ls (.ref a :: st) h Q :=
  hk_getf (ci := 10) (kf := 34) (C := RX10) (T := TX10) (N := 81) rfl hk_in10 (by decide) (by rw [hM]; exact hk_t 940 (by decide +kernel) rfl) hd ha he hv kk
theorem pfX10_91 (hM : M.1.cls = RX10) {x : Nat} (hd : decode M.2.1 pc = .ok (.putfield 91, 3)) (ha : a < h.1) (he : h.2 a = .inr (10, fs)) (hl : 34 < fs.length) (hI : M.1.name = "<init>") (kk : hk_WP M d mc ms k n (pc + 3) ls st (hk_up h a (.inr (10, fs.set 34 (.ref x)))) Q) : hk_WP M d mc ms k n pc ls (.ref x :: .ref a :: st) h Q :=
  hk_putF (ci := 10) (kf := 34) (C := RX10) (T := TX10) (N := 81) tyX10 tyX10_ok nmX10 rfl hk_in10 (by decide) (by rw [hM]; exact hk_t 940 (by decide +kernel) rfl) rfl hI (by rw [hM]; rfl) (fun _ => rfl) (fun _ => rfl) hd ha he hl kk
theorem gfX10_94 (hM : M.1.cls = RX10) {v : Value} (hd : decode M.2.1 pc = .ok (.getfield 94, 3)) (ha : a < h.1) (he : h.2 a = .inr (10, fs)) (hv : fs[36]? = some v) (kk : hk_WP M d mc ms k n (pc + 3) ls (v :: st) h Q) : hk_WP M d mc ms k n pc ls (.ref a :: st) h Q :=
  hk_getf (ci := 10) (kf := 36) (C := RX10) (T := TX10) (N := 81) rfl hk_in10 (by decide) (by rw [hM]; exact hk_t 942 (by decide +kernel) rfl) hd ha he hv kk
theorem pfX10_94 (hM : M.1.cls = RX10) {x : Nat} (hd : decode M.2.1 pc = .ok (.putfield 94, 3)) (ha : a < h.1) (he : h.2 a = .inr (10, fs)) (hl : 36 < fs.length) (hI : M.1.name = "<init>") (kk : hk_WP M d mc ms k n (pc + 3) ls st (hk_up h a (.inr (10, fs.set 36 (.ref x)))) Q) : hk_WP M d mc ms k n pc ls (.ref x :: .ref a :: st) h Q :=
  hk_putF (ci := 10) (kf := 36) (C := RX10) (T := TX10) (N := 81) tyX10 tyX10_ok nmX10 rfl hk_in10 (by decide) (by rw [hM]; exact hk_t 942 (by decide +kernel) rfl) rfl hI (by rw [hM]; rfl) (fun _ => rfl) (fun _ => rfl) hd ha he hl kk
theorem gfX10_97 (hM : M.1.cls = RX10) {v : Value} (hd : decode M.2.1 pc = .ok (.getfield 97, 3)) (ha : a < h.1) (he : h.2 a = .inr (10, fs)) (hv : fs[38]? = some v) (kk : hk_WP M d mc ms k n (pc + 3) ls (v :: st) h Q) : hk_WP M d mc ms k n pc ls (.ref a :: st) h Q :=
  hk_getf (ci := 10) (kf := 38) (C := RX10) (T := TX10) (N := 81) rfl hk_in10 (by decide) (by rw [hM]; exact hk_t 944 (by decide +kernel) rfl) hd ha he hv kk
theorem pfX10_97 (hM : M.1.cls = RX10) {x : Nat} (hd : decode M.2.1 pc = .ok (.putfield 97, 3)) (ha : a < h.1) (he : h.2 a = .inr (10, fs)) (hl : 38 < fs.length) (hI : M.1.name = "<init>") (kk : hk_WP M d mc ms k n (pc + 3) ls st (hk_up h a (.inr (10, fs.set 38 (.ref x)))) Q) : hk_WP M d mc ms k n pc ls (.ref x :: .ref a :: st) h Q :=
  hk_putF (ci := 10) (kf := 38) (C := RX10) (T := TX10) (N := 81) tyX10 tyX10_ok nmX10 rfl hk_in10 (by decide) (by rw [hM]; exact hk_t 944 (by decide +kernel) rfl) rfl hI (by rw [hM]; rfl) (fun _ => rfl) (fun _ => rfl) hd ha he hl kk
theorem gfX10_100 (hM : M.1.cls = RX10) {v : Value} (hd : decode M.2.1 pc = .ok (.getfield 100, 3)) (ha : a < h.1) (he : h.2 a = .inr (10, fs)) (hv : fs[39]? = some v) (kk : hk_WP M d mc ms k n (pc + 3) ls (v :: st) h Q) : hk_WP M d mc ms k n pc ls (.ref a :: st) h Q :=
  hk_getf (ci := 10) (kf := 39) (C := RX10) (T := TX10) (N := 81) rfl hk_in10 (by decide) (by rw [hM]; exact hk_t 945 (by decide +kernel) rfl) hd ha he hv kk
theorem pfX10_100 (hM : M.1.cls = RX10) {x : Nat} (hd : decode M.2.1 pc = .ok (.putfield 100, 3)) (ha : a < h.1) (he : h.2 a = .inr (10, fs)) (hl : 39 < fs.length) (hI : M.1.name = "<init>") (kk : hk_WP M d mc ms k n (pc + 3) ls st (hk_up h a (.inr (10, fs.set 39 (.ref x)))) Q) : hk_WP M d mc ms k n pc ls (.ref x :: .ref a :: st) h Q :=
  hk_putF (ci := 10) (kf := 39) (C := RX10) (T := TX10) (N := 81) tyX10 tyX10_ok nmX10 rfl hk_in10 (by decide) (by rw [hM]; exact hk_t 945 (by decide +kernel) rfl) rfl hI (by rw [hM]; rfl) (fun _ => rfl) (fun _ => rfl) hd ha he hl kk
theorem gfX10_103 (hM : M.1.cls = RX10) {v : Value} (hd : decode M.2.1 pc = .ok (.getfield 103, 3)) (ha : a < h.1) (he : h.2 a = .inr (10, fs)) (hv : fs[40]? = some v) (kk : hk_WP M d mc ms k n (pc + 3) ls (v :: st) h Q) : hk_WP M d mc ms k n pc ls (.ref a :: st) h Q :=
  hk_getf (ci := 10) (kf := 40) (C := RX10) (T := TX10) (N := 81) rfl hk_in10 (by decide) (by rw [hM]; exact hk_t 946 (by decide +kernel) rfl) hd ha he hv kk
theorem pfX10_103 (hM : M.1.cls = RX10) {x : Nat} (hd : decode M.2.1 pc = .ok (.putfield 103, 3)) (ha : a < h.1) (he : h.2 a = .inr (10, fs)) (hl : 40 < fs.length) (hI : M.1.name = "<init>") (kk : hk_WP M d mc ms k n (pc + 3) ls st (hk_up h a (.inr (10, fs.set 40 (.ref x)))) Q) : hk_WP M d mc ms k n pc ls (.ref x :: .ref a :: st) h Q :=
  hk_putF (ci := 10) (kf := 40) (C := RX10) (T := TX10) (N := 81) tyX10 tyX10_ok nmX10 rfl hk_in10 (by decide) (by rw [hM]; exact hk_t 946 (by decide +kernel) rfl) rfl hI (by rw [hM]; rfl) (fun _ => rfl) (fun _ => rfl) hd ha he hl kk
theorem gfX10_106 (hM : M.1.cls = RX10) {v : Value} (hd : decode M.2.1 pc = .ok (.getfield 106, 3)) (ha : a < h.1) (he : h.2 a = .inr (10, fs)) (hv : fs[41]? = some v) (kk : hk_WP M d mc ms k n (pc + 3) ls (v :: st) h Q) : hk_WP M d mc ms k n pc ls (.ref a :: st) h Q :=
  hk_getf (ci := 10) (kf := 41) (C := RX10) (T := TX10) (N := 81) rfl hk_in10 (by decide) (by rw [hM]; exact hk_t 947 (by decide +kernel) rfl) hd ha he hv kk
theorem pfX10_106 (hM : M.1.cls = RX10) {x : Nat} (hd : decode M.2.1 pc = .ok (.putfield 106, 3)) (ha : a < h.1) (he : h.2 a = .inr (10, fs)) (hl : 41 < fs.length) (hI : M.1.name = "<init>") (kk : hk_WP M d mc ms k n (pc + 3) ls st (hk_up h a (.inr (10, fs.set 41 (.ref x)))) Q) : hk_WP M d mc ms k n pc ls (.ref x :: .ref a :: st) h Q :=
  hk_putF (ci := 10) (kf := 41) (C := RX10) (T := TX10) (N := 81) tyX10 tyX10_ok nmX10 rfl hk_in10 (by decide) (by rw [hM]; exact hk_t 947 (by decide +kernel) rfl) rfl hI (by rw [hM]; rfl) (fun _ => rfl) (fun _ => rfl) hd ha he hl kk
theorem gfX10_109 (hM : M.1.cls = RX10) {v : Value} (hd : decode M.2.1 pc = .ok (.getfield 109, 3)) (ha : a < h.1) (he : h.2 a = .inr (10, fs)) (hv : fs[42]? = some v) (kk : hk_WP M d mc ms k n (pc + 3) ls (v :: st) h Q) : hk_WP M d mc ms k n pc ls (.ref a :: st) h Q :=
  hk_getf (ci := 10) (kf := 42) (C := RX10) (T := TX10) (N := 81) rfl hk_in10 (by decide) (by rw [hM]; exact hk_t 948 (by decide +kernel) rfl) hd ha he hv kk
theorem pfX10_109 (hM : M.1.cls = RX10) {x : Nat} (hd : decode M.2.1 pc = .ok (.putfield 109, 3)) (ha : a < h.1) (he : h.2 a = .inr (10, fs)) (hl : 42 < fs.length) (hI : M.1.name = "<init>") (kk : hk_WP M d mc ms k n (pc + 3) ls st (hk_up h a (.inr (10, fs.set 42 (.ref x)))) Q) : hk_WP M d mc ms k n pc ls (.ref x :: .ref a :: st) h Q :=
  hk_putF (ci := 10) (kf := 42) (C := RX10) (T := TX10) (N := 81) tyX10 tyX10_ok nmX10 rfl hk_in10 (by decide) (by rw [hM]; exact hk_t 948 (by decide +kernel) rfl) rfl hI (by rw [hM]; rfl) (fun _ => rfl) (fun _ => rfl) hd ha he hl kk
theorem gfX10_112 (hM : M.1.cls = RX10) {v : Value} (hd : decode M.2.1 pc = .ok (.getfield 112, 3)) (ha : a < h.1) (he : h.2 a = .inr (10, fs)) (hv : fs[46]? = some v) (kk : hk_WP M d mc ms k n (pc + 3) ls (v :: st) h Q) : hk_WP M d mc ms k n pc ls (.ref a :: st) h Q :=
  hk_getf (ci := 10) (kf := 46) (C := RX10) (T := TX10) (N := 81) rfl hk_in10 (by decide) (by rw [hM]; exact hk_t 952 (by decide +kernel) rfl) hd ha he hv kk
theorem pfX10_112 (hM : M.1.cls = RX10) {x : Nat} (hd : decode M.2.1 pc = .ok (.putfield 112, 3)) (ha : a < h.1) (he : h.2 a = .inr (10, fs)) (hl : 46 < fs.length) (hI : M.1.name = "<init>") (kk : hk_WP M d mc ms k n (pc + 3) ls st (hk_up h a (.inr (10, fs.set 46 (.ref x)))) Q) : hk_WP M d mc ms k n pc ls (.ref x :: .ref a :: st) h Q :=
  hk_putF (ci := 10) (kf := 46) (C := RX10) (T := TX10) (N := 81) tyX10 tyX10_ok nmX10 rfl hk_in10 (by decide) (by rw [hM]; exact hk_t 952 (by decide +kernel) rfl) rfl hI (by rw [hM]; rfl) (fun _ => rfl) (fun _ => rfl) hd ha he hl kk
theorem gfX10_115 (hM : M.1.cls = RX10) {v : Value} (hd : decode M.2.1 pc = .ok (.getfield 115, 3)) (ha : a < h.1) (he : h.2 a = .inr (10, fs)) (hv : fs[47]? = some v) (kk : hk_WP M d mc ms k n (pc + 3) ls (v :: st) h Q) : hk_WP M d mc ms k n pc ls (.ref a :: st) h Q :=
  hk_getf (ci := 10) (kf := 47) (C := RX10) (T := TX10) (N := 81) rfl hk_in10 (by decide) (by rw [hM]; exact hk_t 953 (by decide +kernel) rfl) hd ha he hv kk
theorem pfX10_115 (hM : M.1.cls = RX10) {x : Nat} (hd : decode M.2.1 pc = .ok (.putfield 115, 3)) (ha : a < h.1) (he : h.2 a = .inr (10, fs)) (hl : 47 < fs.length) (hI : M.1.name = "<init>") (kk : hk_WP M d mc ms k n (pc + 3) ls st (hk_up h a (.inr (10, fs.set 47 (.ref x)))) Q) : hk_WP M d mc ms k n pc ls (.ref x :: .ref a :: st) h Q :=
  hk_putF (ci := 10) (kf := 47) (C := RX10) (T := TX10) (N := 81) tyX10 tyX10_ok nmX10 rfl hk_in10 (by decide) (by rw [hM]; exact hk_t 953 (by decide +kernel) rfl) rfl hI (by rw [hM]; rfl) (fun _ => rfl) (fun _ => rfl) hd ha he hl kk
theorem gfX10_118 (hM : M.1.cls = RX10) {v : Value} (hd : decode M.2.1 pc = .ok (.getfield 118, 3)) (ha : a < h.1) (he : h.2 a = .inr (10, fs)) (hv : fs[48]? = some v) (kk : hk_WP M d mc ms k n (pc + 3) ls (v :: st) h Q) : hk_WP M d mc ms k n pc ls (.ref a :: st) h Q :=
  hk_getf (ci := 10) (kf := 48) (C := RX10) (T := TX10) (N := 81) rfl hk_in10 (by decide) (by rw [hM]; exact hk_t 954 (by decide +kernel) rfl) hd ha he hv kk
theorem pfX10_118 (hM : M.1.cls = RX10) {x : Nat} (hd : decode M.2.1 pc = .ok (.putfield 118, 3)) (ha : a < h.1) (he : h.2 a = .inr (10, fs)) (hl : 48 < fs.length) (hI : M.1.name = "<init>") (kk : hk_WP M d mc ms k n (pc + 3) ls st (hk_up h a (.inr (10, fs.set 48 (.ref x)))) Q) : hk_WP M d mc ms k n pc ls (.ref x :: .ref a :: st) h Q :=
  hk_putF (ci := 10) (kf := 48) (C := RX10) (T := TX10) (N := 81) tyX10 tyX10_ok nmX10 rfl hk_in10 (by decide) (by rw [hM]; exact hk_t 954 (by decide +kernel) rfl) rfl hI (by rw [hM]; rfl) (fun _ => rfl) (fun _ => rfl) hd ha he hl kk
theorem gfX10_121 (hM : M.1.cls = RX10) {v : Value} (hd : decode M.2.1 pc = .ok (.getfield 121, 3)) (ha : a < h.1) (he : h.2 a = .inr (10, fs)) (hv : fs[49]? = some v) (kk : hk_WP M d mc ms k n (pc + 3) ls (v :: st) h Q) : hk_WP M d mc ms k n pc ls (.ref a :: st) h Q :=
  hk_getf (ci := 10) (kf := 49) (C := RX10) (T := TX10) (N := 81) rfl hk_in10 (by decide) (by rw [hM]; exact hk_t 955 (by decide +kernel) rfl) hd ha he hv kk
theorem pfX10_121 (hM : M.1.cls = RX10) {x : Nat} (hd : decode M.2.1 pc = .ok (.putfield 121, 3)) (ha : a < h.1) (he : h.2 a = .inr (10, fs)) (hl : 49 < fs.length) (hI : M.1.name = "<init>") (kk : hk_WP M d mc ms k n (pc + 3) ls st (hk_up h a (.inr (10, fs.set 49 (.ref x)))) Q) : hk_WP M d mc ms k n pc ls (.ref x :: .ref a :: st) h Q :=
  hk_putF (ci := 10) (kf := 49) (C := RX10) (T := TX10) (N := 81) tyX10 tyX10_ok nmX10 rfl hk_in10 (by decide) (by rw [hM]; exact hk_t 955 (by decide +kernel) rfl) rfl hI (by rw [hM]; rfl) (fun _ => rfl) (fun _ => rfl) hd ha he hl kk
theorem gfX10_124 (hM : M.1.cls = RX10) {v : Value} (hd : decode M.2.1 pc = .ok (.getfield 124, 3)) (ha : a < h.1) (he : h.2 a = .inr (10, fs)) (hv : fs[50]? = some v) (kk : hk_WP M d mc ms k n (pc + 3) ls (v :: st) h Q) : hk_WP M d mc ms k n pc ls (.ref a :: st) h Q :=
  hk_getf (ci := 10) (kf := 50) (C := RX10) (T := TX10) (N := 81) rfl hk_in10 (by decide) (by rw [hM]; exact hk_t 956 (by decide +kernel) rfl) hd ha he hv kk
theorem pfX10_124 (hM : M.1.cls = RX10) {x : Nat} (hd : decode M.2.1 pc = .ok (.putfield 124, 3)) (ha : a < h.1) (he : h.2 a = .inr (10, fs)) (hl : 50 < fs.length) (hI : M.1.name = "<init>") (kk : hk_WP M d mc ms k n (pc + 3) ls st (hk_up h a (.inr (10, fs.set 50 (.ref x)))) Q) : hk_WP M d mc ms k n pc ls (.ref x :: .ref a :: st) h Q :=
  hk_putF (ci := 10) (kf := 50) (C := RX10) (T := TX10) (N := 81) tyX10 tyX10_ok nmX10 rfl hk_in10 (by decide) (by rw [hM]; exact hk_t 956 (by decide +kernel) rfl) rfl hI (by rw [hM]; rfl) (fun _ => rfl) (fun _ => rfl) hd ha he hl kk
theorem gfX10_127 (hM : M.1.cls = RX10) {v : Value} (hd : decode M.2.1 pc = .ok (.getfield 127, 3)) (ha : a < h.1) (he : h.2 a = .inr (10, fs)) (hv : fs[51]? = some v) (kk : hk_WP M d mc ms k n (pc + 3) ls (v :: st) h Q) : hk_WP M d mc ms k n pc ls (.ref a :: st) h Q :=
  hk_getf (ci := 10) (kf := 51) (C := RX10) (T := TX10) (N := 81) rfl hk_in10 (by decide) (by rw [hM]; exact hk_t 957 (by decide +kernel) rfl) hd ha he hv kk
theorem pfX10_127 (hM : M.1.cls = RX10) {x : Nat} (hd : decode M.2.1 pc = .ok (.putfield 127, 3)) (ha : a < h.1) (he : h.2 a = .inr (10, fs)) (hl : 51 < fs.length) (hI : M.1.name = "<init>") (kk : hk_WP M d mc ms k n (pc + 3) ls st (hk_up h a (.inr (10, fs.set 51 (.ref x)))) Q) : hk_WP M d mc ms k n pc ls (.ref x :: .ref a :: st) h Q :=
  hk_putF (ci := 10) (kf := 51) (C := RX10) (T := TX10) (N := 81) tyX10 tyX10_ok nmX10 rfl hk_in10 (by decide) (by rw [hM]; exact hk_t 957 (by decide +kernel) rfl) rfl hI (by rw [hM]; rfl) (fun _ => rfl) (fun _ => rfl) hd ha he hl kk
theorem gfX10_130 (hM : M.1.cls = RX10) {v : Value} (hd : decode M.2.1 pc = .ok (.getfield 130, 3)) (ha : a < h.1) (he : h.2 a = .inr (10, fs)) (hv : fs[52]? = some v) (kk : hk_WP M d mc ms k n (pc + 3) ls (v :: st) h Q) : hk_WP M d mc ms k n pc ls (.ref a :: st) h Q :=
  hk_getf (ci := 10) (kf := 52) (C := RX10) (T := TX10) (N := 81) rfl hk_in10 (by decide) (by rw [hM]; exact hk_t 958 (by decide +kernel) rfl) hd ha he hv kk
theorem pfX10_130 (hM : M.1.cls = RX10) {x : Nat} (hd : decode M.2.1 pc = .ok (.putfield 130, 3)) (ha : a < h.1) (he : h.2 a = .inr (10, fs)) (hl : 52 < fs.length) (hI : M.1.name = "<init>") (kk : hk_WP M d mc ms k n (pc + 3) ls st (hk_up h a (.inr (10, fs.set 52 (.ref x)))) Q) : hk_WP M d mc ms k n pc ls (.ref x :: .ref a :: st) h Q :=
  hk_putF (ci := 10) (kf := 52) (C := RX10) (T := TX10) (N := 81) tyX10 tyX10_ok nmX10 rfl hk_in10 (by decide) (by rw [hM]; exact hk_t 958 (by decide +kernel) rfl) rfl hI (by rw [hM]; rfl) (fun _ => rfl) (fun _ => rfl) hd ha he hl kk
theorem gfX10_133 (hM : M.1.cls = RX10) {v : Value} (hd : decode M.2.1 pc = .ok (.getfield 133, 3)) (ha : a < h.1) (he : h.2 a = .inr (10, fs)) (hv : fs[53]? = some v) (kk : hk_WP M d mc ms k n (pc + 3) ls (v :: st) h Q) : hk_WP M d mc ms k n pc ls (.ref a :: st) h Q :=
  hk_getf (ci := 10) (kf := 53) (C := RX10) (T := TX10) (N := 81) rfl hk_in10 (by decide) (by rw [hM]; exact hk_t 959 (by decide +kernel) rfl) hd ha he hv kk
theorem pfX10_133 (hM : M.1.cls = RX10) {x : Nat} (hd : decode M.2.1 pc = .ok (.putfield 133, 3)) (ha : a < h.1) (he : h.2 a = .inr (10, fs)) (hl : 53 < fs.length) (hI : M.1.name = "<init>") (kk : hk_WP M d mc ms k n (pc + 3) ls st (hk_up h a (.inr (10, fs.set 53 (.ref x)))) Q) : hk_WP M d mc ms k n pc ls (.ref x :: .ref a :: st) h Q :=
  hk_putF (ci := 10) (kf := 53) (C := RX10) (T := TX10) (N := 81) tyX10 tyX10_ok nmX10 rfl hk_in10 (by decide) (by rw [hM]; exact hk_t 959 (by decide +kernel) rfl) rfl hI (by rw [hM]; rfl) (fun _ => rfl) (fun _ => rfl) hd ha he hl kk
theorem gfX10_136 (hM : M.1.cls = RX10) {v : Value} (hd : decode M.2.1 pc = .ok (.getfield 136, 3)) (ha : a < h.1) (he : h.2 a = .inr (10, fs)) (hv : fs[54]? = some v) (kk : hk_WP M d mc ms k n (pc + 3) ls (v :: st) h Q) : hk_WP M d mc ms k n pc ls (.ref a :: st) h Q :=
  hk_getf (ci := 10) (kf := 54) (C := RX10) (T := TX10) (N := 81) rfl hk_in10 (by decide) (by rw [hM]; exact hk_t 960 (by decide +kernel) rfl) hd ha he hv kk
theorem pfX10_136 (hM : M.1.cls = RX10) {x : Nat} (hd : decode M.2.1 pc = .ok (.putfield 136, 3)) (ha : a < h.1) (he : h.2 a = .inr (10, fs)) (hl : 54 < fs.length) (hI : M.1.name = "<init>") (kk : hk_WP M d mc ms k n (pc + 3) ls st (hk_up h a (.inr (10, fs.set 54 (.ref x)))) Q) : hk_WP M d mc ms k n pc ls (.ref x :: .ref a :: st) h Q :=
  hk_putF (ci := 10) (kf := 54) (C := RX10) (T := TX10) (N := 81) tyX10 tyX10_ok nmX10 rfl hk_in10 (by decide) (by rw [hM]; exact hk_t 960 (by decide +kernel) rfl) rfl hI (by rw [hM]; rfl) (fun _ => rfl) (fun _ => rfl) hd ha he hl kk
theorem gfX10_139 (hM : M.1.cls = RX10) {v : Value} (hd : decode M.2.1 pc = .ok (.getfield 139, 3)) (ha : a < h.1) (he : h.2 a = .inr (10, fs)) (hv : fs[55]? = some v) (kk : hk_WP M d mc ms k n (pc + 3) ls (v :: st) h Q) : hk_WP M d mc ms k n pc ls (.ref a :: st) h Q :=
  hk_getf (ci := 10) (kf := 55) (C := RX10) (T := TX10) (N := 81) rfl hk_in10 (by decide) (by rw [hM]; exact hk_t 961 (by decide +kernel) rfl) hd ha he hv kk
theorem pfX10_139 (hM : M.1.cls = RX10) {x : Nat} (hd : decode M.2.1 pc = .ok (.putfield 139, 3)) (ha : a < h.1) (he : h.2 a = .inr (10, fs)) (hl : 55 < fs.length) (hI : M.1.name = "<init>") (kk : hk_WP M d mc ms k n (pc + 3) ls st (hk_up h a (.inr (10, fs.set 55 (.ref x)))) Q) : hk_WP M d mc ms k n pc ls (.ref x :: .ref a :: st) h Q :=
  hk_putF (ci := 10) (kf := 55) (C := RX10) (T := TX10) (N := 81) tyX10 tyX10_ok nmX10 rfl hk_in10 (by decide) (by rw [hM]; exact hk_t 961 (by decide +kernel) rfl) rfl hI (by rw [hM]; rfl) (fun _ => rfl) (fun _ => rfl) hd ha he hl kk
theorem gfX10_142 (hM : M.1.cls = RX10) {v : Value} (hd : decode M.2.1 pc = .ok (.getfield 142, 3)) (ha : a < h.1) (he : h.2 a = .inr (10, fs)) (hv : fs[56]? = some v) (kk : hk_WP M d mc ms k n (pc + 3) ls (v :: st) h Q) : hk_WP M d mc ms k n pc ls (.ref a :: st) h Q :=
  hk_getf (ci := 10) (kf := 56) (C := RX10) (T := TX10) (N := 81) rfl hk_in10 (by decide) (by rw [hM]; exact hk_t 962 (by decide +kernel) rfl) hd ha he hv kk
theorem pfX10_142 (hM : M.1.cls = RX10) {x : Nat} (hd : decode M.2.1 pc = .ok (.putfield 142, 3)) (ha : a < h.1) (he : h.2 a = .inr (10, fs)) (hl : 56 < fs.length) (hI : M.1.name = "<init>") (kk : hk_WP M d mc ms k n (pc + 3) ls st (hk_up h a (.inr (10, fs.set 56 (.ref x)))) Q) : hk_WP M d mc ms k n pc ls (.ref x :: .ref a :: st) h Q :=
  hk_putF (ci := 10) (kf := 56) (C := RX10) (T := TX10) (N := 81) tyX10 tyX10_ok nmX10 rfl hk_in10 (by decide) (by rw [hM]; exact hk_t 962 (by decide +kernel) rfl) rfl hI (by rw [hM]; rfl) (fun _ => rfl) (fun _ => rfl) hd ha he hl kk
theorem gfX10_145 (hM : M.1.cls = RX10) {v : Value} (hd : decode M.2.1 pc = .ok (.getfield 145, 3)) (ha : a < h.1) (he : h.2 a = .inr (10, fs)) (hv : fs[57]? = some v) (kk : hk_WP M d mc ms k n (pc + 3) ls (v :: st) h Q) : hk_WP M d mc ms k n pc ls (.ref a :: st) h Q :=
  hk_getf (ci := 10) (kf := 57) (C := RX10) (T := TX10) (N := 81) rfl hk_in10 (by decide) (by rw [hM]; exact hk_t 963 (by decide +kernel) rfl) hd ha he hv kk
theorem pfX10_145 (hM : M.1.cls = RX10) {x : Nat} (hd : decode M.2.1 pc = .ok (.putfield 145, 3)) (ha : a < h.1) (he : h.2 a = .inr (10, fs)) (hl : 57 < fs.length) (hI : M.1.name = "<init>") (kk : hk_WP M d mc ms k n (pc + 3) ls st (hk_up h a (.inr (10, fs.set 57 (.ref x)))) Q) : hk_WP M d mc ms k n pc ls (.ref x :: .ref a :: st) h Q :=
  hk_putF (ci := 10) (kf := 57) (C := RX10) (T := TX10) (N := 81) tyX10 tyX10_ok nmX10 rfl hk_in10 (by decide) (by rw [hM]; exact hk_t 963 (by decide +kernel) rfl) rfl hI (by rw [hM]; rfl) (fun _ => rfl) (fun _ => rfl) hd ha he hl kk
theorem gfX10_148 (hM : M.1.cls = RX10) {v : Value} (hd : decode M.2.1 pc = .ok (.getfield 148, 3)) (ha : a < h.1) (he : h.2 a = .inr (10, fs)) (hv : fs[58]? = some v) (kk : hk_WP M d mc ms k n (pc + 3) ls (v :: st) h Q) : hk_WP M d mc ms k n pc ls (.ref a :: st) h Q :=
  hk_getf (ci := 10) (kf := 58) (C := RX10) (T := TX10) (N := 81) rfl hk_in10 (by decide) (by rw [hM]; exact hk_t 964 (by decide +kernel) rfl) hd ha he hv kk
theorem pfX10_148 (hM : M.1.cls = RX10) {x : Nat} (hd : decode M.2.1 pc = .ok (.putfield 148, 3)) (ha : a < h.1) (he : h.2 a = .inr (10, fs)) (hl : 58 < fs.length) (hI : M.1.name = "<init>") (kk : hk_WP M d mc ms k n (pc + 3) ls st (hk_up h a (.inr (10, fs.set 58 (.ref x)))) Q) : hk_WP M d mc ms k n pc ls (.ref x :: .ref a :: st) h Q :=
  hk_putF (ci := 10) (kf := 58) (C := RX10) (T := TX10) (N := 81) tyX10 tyX10_ok nmX10 rfl hk_in10 (by decide) (by rw [hM]; exact hk_t 964 (by decide +kernel) rfl) rfl hI (by rw [hM]; rfl) (fun _ => rfl) (fun _ => rfl) hd ha he hl kk
theorem gfX10_152 (hM : M.1.cls = RX10) {v : Value} (hd : decode M.2.1 pc = .ok (.getfield 152, 3)) (ha : a < h.1) (he : h.2 a = .inr (10, fs)) (hv : fs[59]? = some v) (kk : hk_WP M d mc ms k n (pc + 3) ls (v :: st) h Q) : hk_WP M d mc ms k n pc ls (.ref a :: st) h Q :=
  hk_getf (ci := 10) (kf := 59) (C := RX10) (T := TX10) (N := 81) rfl hk_in10 (by decide) (by rw [hM]; exact hk_t 965 (by decide +kernel) rfl) hd ha he hv kk
theorem pfX10_152 (hM : M.1.cls = RX10) {x : Nat} (hd : decode M.2.1 pc = .ok (.putfield 152, 3)) (ha : a < h.1) (he : h.2 a = .inr (10, fs)) (hl : 59 < fs.length) (hI : M.1.name = "<init>") (kk : hk_WP M d mc ms k n (pc + 3) ls st (hk_up h a (.inr (10, fs.set 59 (.ref x)))) Q) : hk_WP M d mc ms k n pc ls (.ref x :: .ref a :: st) h Q :=
  hk_putF (ci := 10) (kf := 59) (C := RX10) (T := TX10) (N := 81) tyX10 tyX10_ok nmX10 rfl hk_in10 (by decide) (by rw [hM]; exact hk_t 965 (by decide +kernel) rfl) rfl hI (by rw [hM]; rfl) (fun _ => rfl) (fun _ => rfl) hd ha he hl kk
theorem gfX10_155 (hM : M.1.cls = RX10) {v : Value} (hd : decode M.2.1 pc = .ok (.getfield 155, 3)) (ha : a < h.1) (he : h.2 a = .inr (10, fs)) (hv : fs[61]? = some v) (kk : hk_WP M d mc ms k n (pc + 3) ls (v :: st) h Q) : hk_WP M d mc ms k n pc ls (.ref a :: st) h Q :=
  hk_getf (ci := 10) (kf := 61) (C := RX10) (T := TX10) (N := 81) rfl hk_in10 (by decide) (by rw [hM]; exact hk_t 967 (by decide +kernel) rfl) hd ha he hv kk
theorem pfX10_155 (hM : M.1.cls = RX10) {x : Nat} (hd : decode M.2.1 pc = .ok (.putfield 155, 3)) (ha : a < h.1) (he : h.2 a = .inr (10, fs)) (hl : 61 < fs.length) (hI : M.1.name = "<init>") (kk : hk_WP M d mc ms k n (pc + 3) ls st (hk_up h a (.inr (10, fs.set 61 (.ref x)))) Q) : hk_WP M d mc ms k n pc ls (.ref x :: .ref a :: st) h Q :=
  hk_putF (ci := 10) (kf := 61) (C := RX10) (T := TX10) (N := 81) tyX10 tyX10_ok nmX10 rfl hk_in10 (by decide) (by rw [hM]; exact hk_t 967 (by decide +kernel) rfl) rfl hI (by rw [hM]; rfl) (fun _ => rfl) (fun _ => rfl) hd ha he hl kk
theorem gfX10_158 (hM : M.1.cls = RX10) {v : Value} (hd : decode M.2.1 pc = .ok (.getfield 158, 3)) (ha : a < h.1) (he : h.2 a = .inr (10, fs)) (hv : fs[62]? = some v) (kk : hk_WP M d mc ms k n (pc + 3) ls (v :: st) h Q) : hk_WP M d mc ms k n pc ls (.ref a :: st) h Q :=
  hk_getf (ci := 10) (kf := 62) (C := RX10) (T := TX10) (N := 81) rfl hk_in10 (by decide) (by rw [hM]; exact hk_t 968 (by decide +kernel) rfl) hd ha he hv kk
theorem pfX10_158 (hM : M.1.cls = RX10) {x : Nat} (hd : decode M.2.1 pc = .ok (.putfield 158, 3)) (ha : a < h.1) (he : h.2 a = .inr (10, fs)) (hl : 62 < fs.length) (hI : M.1.name = "<init>") (kk : hk_WP M d mc ms k n (pc + 3) ls st (hk_up h a (.inr (10, fs.set 62 (.ref x)))) Q) : hk_WP M d mc ms k n pc ls (.ref x :: .ref a :: st) h Q :=
  hk_putF (ci := 10) (kf := 62) (C := RX10) (T := TX10) (N := 81) tyX10 tyX10_ok nmX10 rfl hk_in10 (by decide) (by rw [hM]; exact hk_t 968 (by decide +kernel) rfl) rfl hI (by rw [hM]; rfl) (fun _ => rfl) (fun _ => rfl) hd ha he hl kk
theorem gfX10_161 (hM : M.1.cls = RX10) {v : Value} (hd : decode M.2.1 pc = .ok (.getfield 161, 3)) (ha : a < h.1) (he : h.2 a = .inr (10, fs)) (hv : fs[63]? = some v) (kk : hk_WP M d mc ms k n (pc + 3) ls (v :: st) h Q) : hk_WP M d mc ms k n pc ls (.ref a :: st) h Q :=
  hk_getf (ci := 10) (kf := 63) (C := RX10) (T := TX10) (N := 81) rfl hk_in10 (by decide) (by rw [hM]; exact hk_t 969 (by decide +kernel) rfl) hd ha he hv kk
theorem pfX10_161 (hM : M.1.cls = RX10) {x : Nat} (hd : decode M.2.1 pc = .ok (.putfield 161, 3)) (ha : a < h.1) (he : h.2 a = .inr (10, fs)) (hl : 63 < fs.length) (hI : M.1.name = "<init>") (kk : hk_WP M d mc ms k n (pc + 3) ls st (hk_up h a (.inr (10, fs.set 63 (.ref x)))) Q) : hk_WP M d mc ms k n pc ls (.ref x :: .ref a :: st) h Q :=
  hk_putF (ci := 10) (kf := 63) (C := RX10) (T := TX10) (N := 81) tyX10 tyX10_ok nmX10 rfl hk_in10 (by decide) (by rw [hM]; exact hk_t 969 (by decide +kernel) rfl) rfl hI (by rw [hM]; rfl) (fun _ => rfl) (fun _ => rfl) hd ha he hl kk
theorem gfX10_164 (hM : M.1.cls = RX10) {v : Value} (hd : decode M.2.1 pc = .ok (.getfield 164, 3)) (ha : a < h.1) (he : h.2 a = .inr (10, fs)) (hv : fs[64]? = some v) (kk : hk_WP M d mc ms k n (pc + 3) ls (v :: st) h Q) : hk_WP M d mc ms k n pc ls (.ref a :: st) h Q :=
  hk_getf (ci := 10) (kf := 64) (C := RX10) (T := TX10) (N := 81) rfl hk_in10 (by decide) (by rw [hM]; exact hk_t 970 (by decide +kernel) rfl) hd ha he hv kk
theorem pfX10_164 (hM : M.1.cls = RX10) {x : Nat} (hd : decode M.2.1 pc = .ok (.putfield 164, 3)) (ha : a < h.1) (he : h.2 a = .inr (10, fs)) (hl : 64 < fs.length) (hI : M.1.name = "<init>") (kk : hk_WP M d mc ms k n (pc + 3) ls st (hk_up h a (.inr (10, fs.set 64 (.ref x)))) Q) : hk_WP M d mc ms k n pc ls (.ref x :: .ref a :: st) h Q :=
  hk_putF (ci := 10) (kf := 64) (C := RX10) (T := TX10) (N := 81) tyX10 tyX10_ok nmX10 rfl hk_in10 (by decide) (by rw [hM]; exact hk_t 970 (by decide +kernel) rfl) rfl hI (by rw [hM]; rfl) (fun _ => rfl) (fun _ => rfl) hd ha he hl kk
theorem gfX10_167 (hM : M.1.cls = RX10) {v : Value} (hd : decode M.2.1 pc = .ok (.getfield 167, 3)) (ha : a < h.1) (he : h.2 a = .inr (10, fs)) (hv : fs[66]? = some v) (kk : hk_WP M d mc ms k n (pc + 3) ls (v :: st) h Q) : hk_WP M d mc ms k n pc ls (.ref a :: st) h Q :=
  hk_getf (ci := 10) (kf := 66) (C := RX10) (T := TX10) (N := 81) rfl hk_in10 (by decide) (by rw [hM]; exact hk_t 972 (by decide +kernel) rfl) hd ha he hv kk
theorem pfX10_167 (hM : M.1.cls = RX10) {x : Nat} (hd : decode M.2.1 pc = .ok (.putfield 167, 3)) (ha : a < h.1) (he : h.2 a = .inr (10, fs)) (hl : 66 < fs.length) (hI : M.1.name = "<init>") (kk : hk_WP M d mc ms k n (pc + 3) ls st (hk_up h a (.inr (10, fs.set 66 (.ref x)))) Q) : hk_WP M d mc ms k n pc ls (.ref x :: .ref a :: st) h Q :=
  hk_putF (ci := 10) (kf := 66) (C := RX10) (T := TX10) (N := 81) tyX10 tyX10_ok nmX10 rfl hk_in10 (by decide) (by rw [hM]; exact hk_t 972 (by decide +kernel) rfl) rfl hI (by rw [hM]; rfl) (fun _ => rfl) (fun _ => rfl) hd ha he hl kk
theorem gfX10_170 (hM : M.1.cls = RX10) {v : Value} (hd : decode M.2.1 pc = .ok (.getfield 170, 3)) (ha : a < h.1) (he : h.2 a = .inr (10, fs)) (hv : fs[67]? = some v) (kk : hk_WP M d mc ms k n (pc + 3) ls (v :: st) h Q) : hk_WP M d mc ms k n pc ls (.ref a :: st) h Q :=
  hk_getf (ci := 10) (kf := 67) (C := RX10) (T := TX10) (N := 81) rfl hk_in10 (by decide) (by rw [hM]; exact hk_t 973 (by decide +kernel) rfl) hd ha he hv kk
theorem pfX10_170 (hM : M.1.cls = RX10) {x : Nat} (hd : decode M.2.1 pc = .ok (.putfield 170, 3)) (ha : a < h.1) (he : h.2 a = .inr (10, fs)) (hl : 67 < fs.length) (hI : M.1.name = "<init>") (kk : hk_WP M d mc ms k n (pc + 3) ls st (hk_up h a (.inr (10, fs.set 67 (.ref x)))) Q) : hk_WP M d mc ms k n pc ls (.ref x :: .ref a :: st) h Q :=
  hk_putF (ci := 10) (kf := 67) (C := RX10) (T := TX10) (N := 81) tyX10 tyX10_ok nmX10 rfl hk_in10 (by decide) (by rw [hM]; exact hk_t 973 (by decide +kernel) rfl) rfl hI (by rw [hM]; rfl) (fun _ => rfl) (fun _ => rfl) hd ha he hl kk
theorem gfX10_173 (hM : M.1.cls = RX10) {v : Value} (hd : decode M.2.1 pc = .ok (.getfield 173, 3)) (ha : a < h.1) (he : h.2 a = .inr (10, fs)) (hv : fs[69]? = some v) (kk : hk_WP M d mc ms k n (pc + 3) ls (v :: st) h Q) : hk_WP M d mc ms k n pc ls (.ref a :: st) h Q :=
  hk_getf (ci := 10) (kf := 69) (C := RX10) (T := TX10) (N := 81) rfl hk_in10 (by decide) (by rw [hM]; exact hk_t 975 (by decide +kernel) rfl) hd ha he hv kk
theorem pfX10_173 (hM : M.1.cls = RX10) {x : Nat} (hd : decode M.2.1 pc = .ok (.putfield 173, 3)) (ha : a < h.1) (he : h.2 a = .inr (10, fs)) (hl : 69 < fs.length) (hI : M.1.name = "<init>") (kk : hk_WP M d mc ms k n (pc + 3) ls st (hk_up h a (.inr (10, fs.set 69 (.ref x)))) Q) : hk_WP M d mc ms k n pc ls (.ref x :: .ref a :: st) h Q :=
  hk_putF (ci := 10) (kf := 69) (C := RX10) (T := TX10) (N := 81) tyX10 tyX10_ok nmX10 rfl hk_in10 (by decide) (by rw [hM]; exact hk_t 975 (by decide +kernel) rfl) rfl hI (by rw [hM]; rfl) (fun _ => rfl) (fun _ => rfl) hd ha he hl kk
theorem gfX10_176 (hM : M.1.cls = RX10) {v : Value} (hd : decode M.2.1 pc = .ok (.getfield 176, 3)) (ha : a < h.1) (he : h.2 a = .inr (10, fs)) (hv : fs[70]? = some v) (kk : hk_WP M d mc ms k n (pc + 3) ls (v :: st) h Q) : hk_WP M d mc ms k n pc ls (.ref a :: st) h Q :=
  hk_getf (ci := 10) (kf := 70) (C := RX10) (T := TX10) (N := 81) rfl hk_in10 (by decide) (by rw [hM]; exact hk_t 976 (by decide +kernel) rfl) hd ha he hv kk
theorem pfX10_176 (hM : M.1.cls = RX10) {x : Nat} (hd : decode M.2.1 pc = .ok (.putfield 176, 3)) (ha : a < h.1) (he : h.2 a = .inr (10, fs)) (hl : 70 < fs.length) (hI : M.1.name = "<init>") (kk : hk_WP M d mc ms k n (pc + 3) ls st (hk_up h a (.inr (10, fs.set 70 (.ref x)))) Q) : hk_WP M d mc ms k n pc ls (.ref x :: .ref a :: st) h Q :=
  hk_putF (ci := 10) (kf := 70) (C := RX10) (T := TX10) (N := 81) tyX10 tyX10_ok nmX10 rfl hk_in10 (by decide) (by rw [hM]; exact hk_t 976 (by decide +kernel) rfl) rfl hI (by rw [hM]; rfl) (fun _ => rfl) (fun _ => rfl) hd ha he hl kk
theorem gfX10_179 (hM : M.1.cls = RX10) {v : Value} (hd : decode M.2.1 pc = .ok (.getfield 179, 3)) (ha : a < h.1) (he : h.2 a = .inr (10, fs)) (hv : fs[71]? = some v) (kk : hk_WP M d mc ms k n (pc + 3) ls (v :: st) h Q) : hk_WP M d mc ms k n pc ls (.ref a :: st) h Q :=
  hk_getf (ci := 10) (kf := 71) (C := RX10) (T := TX10) (N := 81) rfl hk_in10 (by decide) (by rw [hM]; exact hk_t 977 (by decide +kernel) rfl) hd ha he hv kk
theorem pfX10_179 (hM : M.1.cls = RX10) {x : Nat} (hd : decode M.2.1 pc = .ok (.putfield 179, 3)) (ha : a < h.1) (he : h.2 a = .inr (10, fs)) (hl : 71 < fs.length) (hI : M.1.name = "<init>") (kk : hk_WP M d mc ms k n (pc + 3) ls st (hk_up h a (.inr (10, fs.set 71 (.ref x)))) Q) : hk_WP M d mc ms k n pc ls (.ref x :: .ref a :: st) h Q :=
  hk_putF (ci := 10) (kf := 71) (C := RX10) (T := TX10) (N := 81) tyX10 tyX10_ok nmX10 rfl hk_in10 (by decide) (by rw [hM]; exact hk_t 977 (by decide +kernel) rfl) rfl hI (by rw [hM]; rfl) (fun _ => rfl) (fun _ => rfl) hd ha he hl kk
theorem gfX10_182 (hM : M.1.cls = RX10) {v : Value} (hd : decode M.2.1 pc = .ok (.getfield 182, 3)) (ha : a < h.1) (he : h.2 a = .inr (10, fs)) (hv : fs[72]? = some v) (kk : hk_WP M d mc ms k n (pc + 3) ls (v :: st) h Q) : hk_WP M d mc ms k n pc ls (.ref a :: st) h Q :=
  hk_getf (ci := 10) (kf := 72) (C := RX10) (T := TX10) (N := 81) rfl hk_in10 (by decide) (by rw [hM]; exact hk_t 978 (by decide +kernel) rfl) hd ha he hv kk
theorem pfX10_182 (hM : M.1.cls = RX10) {x : Nat} (hd : decode M.2.1 pc = .ok (.putfield 182, 3)) (ha : a < h.1) (he : h.2 a = .inr (10, fs)) (hl : 72 < fs.length) (hI : M.1.name = "<init>") (kk : hk_WP M d mc ms k n (pc + 3) ls st (hk_up h a (.inr (10, fs.set 72 (.ref x)))) Q) : hk_WP M d mc ms k n pc ls (.ref x :: .ref a :: st) h Q :=
  hk_putF (ci := 10) (kf := 72) (C := RX10) (T := TX10) (N := 81) tyX10 tyX10_ok nmX10 rfl hk_in10 (by decide) (by rw [hM]; exact hk_t 978 (by decide +kernel) rfl) rfl hI (by rw [hM]; rfl) (fun _ => rfl) (fun _ => rfl) hd ha he hl kk
theorem gfX10_185 (hM : M.1.cls = RX10) {v : Value} (hd : decode M.2.1 pc = .ok (.getfield 185, 3)) (ha : a < h.1) (he : h.2 a = .inr (10, fs)) (hv : fs[74]? = some v) (kk : hk_WP M d mc ms k n (pc + 3) ls (v :: st) h Q) : hk_WP M d mc ms k n pc ls (.ref a :: st) h Q :=
  hk_getf (ci := 10) (kf := 74) (C := RX10) (T := TX10) (N := 81) rfl hk_in10 (by decide) (by rw [hM]; exact hk_t 980 (by decide +kernel) rfl) hd ha he hv kk
theorem pfX10_185 (hM : M.1.cls = RX10) {x : Nat} (hd : decode M.2.1 pc = .ok (.putfield 185, 3)) (ha : a < h.1) (he : h.2 a = .inr (10, fs)) (hl : 74 < fs.length) (hI : M.1.name = "<init>") (kk : hk_WP M d mc ms k n (pc + 3) ls st (hk_up h a (.inr (10, fs.set 74 (.ref x)))) Q) : hk_WP M d mc ms k n pc ls (.ref x :: .ref a :: st) h Q :=
  hk_putF (ci := 10) (kf := 74) (C := RX10) (T := TX10) (N := 81) tyX10 tyX10_ok nmX10 rfl hk_in10 (by decide) (by rw [hM]; exact hk_t 980 (by decide +kernel) rfl) rfl hI (by rw [hM]; rfl) (fun _ => rfl) (fun _ => rfl) hd ha he hl kk
theorem gfX10_188 (hM : M.1.cls = RX10) {v : Value} (hd : decode M.2.1 pc = .ok (.getfield 188, 3)) (ha : a < h.1) (he : h.2 a = .inr (10, fs)) (hv : fs[75]? = some v) (kk : hk_WP M d mc ms k n (pc + 3) ls (v :: st) h Q) : hk_WP M d mc ms k n pc ls (.ref a :: st) h Q :=
  hk_getf (ci := 10) (kf := 75) (C := RX10) (T := TX10) (N := 81) rfl hk_in10 (by decide) (by rw [hM]; exact hk_t 981 (by decide +kernel) rfl) hd ha he hv kk
theorem pfX10_188 (hM : M.1.cls = RX10) {x : Nat} (hd : decode M.2.1 pc = .ok (.putfield 188, 3)) (ha : a < h.1) (he : h.2 a = .inr (10, fs)) (hl : 75 < fs.length) (hI : M.1.name = "<init>") (kk : hk_WP M d mc ms k n (pc + 3) ls st (hk_up h a (.inr (10, fs.set 75 (.ref x)))) Q) : hk_WP M d mc ms k n pc ls (.ref x :: .ref a :: st) h Q :=
  hk_putF (ci := 10) (kf := 75) (C := RX10) (T := TX10) (N := 81) tyX10 tyX10_ok nmX10 rfl hk_in10 (by decide) (by rw [hM]; exact hk_t 981 (by decide +kernel) rfl) rfl hI (by rw [hM]; rfl) (fun _ => rfl) (fun _ => rfl) hd ha he hl kk
theorem gfX10_191 (hM : M.1.cls = RX10) {v : Value} (hd : decode M.2.1 pc = .ok (.getfield 191, 3)) (ha : a < h.1) (he : h.2 a = .inr (10, fs)) (hv : fs[76]? = some v) (kk : hk_WP M d mc ms k n (pc + 3) ls (v :: st) h Q) : hk_WP M d mc ms k n pc ls (.ref a :: st) h Q :=
  hk_getf (ci := 10) (kf := 76) (C := RX10) (T := TX10) (N := 81) rfl hk_in10 (by decide) (by rw [hM]; exact hk_t 982 (by decide +kernel) rfl) hd ha he hv kk
theorem pfX10_191 (hM : M.1.cls = RX10) {x : Nat} (hd : decode M.2.1 pc = .ok (.putfield 191, 3)) (ha : a < h.1) (he : h.2 a = .inr (10, fs)) (hl : 76 < fs.length) (hI : M.1.name = "<init>") (kk : hk_WP M d mc ms k n (pc + 3) ls st (hk_up h a (.inr (10, fs.set 76 (.ref x)))) Q) : hk_WP M d mc ms k n pc ls (.ref x :: .ref a :: st) h Q :=
  hk_putF (ci := 10) (kf := 76) (C := RX10) (T := TX10) (N := 81) tyX10 tyX10_ok nmX10 rfl hk_in10 (by decide) (by rw [hM]; exact hk_t 982 (by decide +kernel) rfl) rfl hI (by rw [hM]; rfl) (fun _ => rfl) (fun _ => rfl) hd ha he hl kk
theorem gfX10_194 (hM : M.1.cls = RX10) {v : Value} (hd : decode M.2.1 pc = .ok (.getfield 194, 3)) (ha : a < h.1) (he : h.2 a = .inr (10, fs)) (hv : fs[0]? = some v) (kk : hk_WP M d mc ms k n (pc + 3) ls (v :: st) h Q) : hk_WP M d mc ms k n pc ls (.ref a :: st) h Q :=
  hk_getf (ci := 10) (kf := 0) (C := RX10) (T := TX10) (N := 81) rfl hk_in10 (by decide) (by rw [hM]; exact hk_t 906 (by decide +kernel) rfl) hd ha he hv kk
theorem pfX10_194 (hM : M.1.cls = RX10) {x : Int32} (hd : decode M.2.1 pc = .ok (.putfield 194, 3)) (ha : a < h.1) (he : h.2 a = .inr (10, fs)) (hl : 0 < fs.length) (kk : hk_WP M d mc ms k n (pc + 3) ls st (hk_up h a (.inr (10, fs.set 0 (.int x)))) Q) : hk_WP M d mc ms k n pc ls (.int x :: .ref a :: st) h Q :=
  hk_putf (ci := 10) (kf := 0) (C := RX10) (T := TX10) (N := 81) tyX10 tyX10_ok nmX10 rfl hk_in10 (by decide) (by rw [hM]; exact hk_t 906 (by decide +kernel) rfl) rfl (fun _ => rfl) (fun _ => rfl) hd ha he hl kk
theorem gfX10_198 (hM : M.1.cls = RX10) {v : Value} (hd : decode M.2.1 pc = .ok (.getfield 198, 3)) (ha : a < h.1) (he : h.2 a = .inr (10, fs)) (hv : fs[3]? = some v) (kk : hk_WP M d mc ms k n (pc + 3) ls (v :: st) h Q) : hk_WP M d mc ms k n pc ls (.ref a :: st) h Q :=
  hk_getf (ci := 10) (kf := 3) (C := RX10) (T := TX10) (N := 81) rfl hk_in10 (by decide) (by rw [hM]; exact hk_t 909 (by decide +kernel) rfl) hd ha he hv kk
theorem pfX10_198 (hM : M.1.cls = RX10) {x : Int32} (hd : decode M.2.1 pc = .ok (.putfield 198, 3)) (ha : a < h.1) (he : h.2 a = .inr (10, fs)) (hl : 3 < fs.length) (kk : hk_WP M d mc ms k n (pc + 3) ls st (hk_up h a (.inr (10, fs.set 3 (.int x)))) Q) : hk_WP M d mc ms k n pc ls (.int x :: .ref a :: st) h Q :=
  hk_putf (ci := 10) (kf := 3) (C := RX10) (T := TX10) (N := 81) tyX10 tyX10_ok nmX10 rfl hk_in10 (by decide) (by rw [hM]; exact hk_t 909 (by decide +kernel) rfl) rfl (fun _ => rfl) (fun _ => rfl) hd ha he hl kk
theorem gfX10_201 (hM : M.1.cls = RX10) {v : Value} (hd : decode M.2.1 pc = .ok (.getfield 201, 3)) (ha : a < h.1) (he : h.2 a = .inr (10, fs)) (hv : fs[26]? = some v) (kk : hk_WP M d mc ms k n (pc + 3) ls (v :: st) h Q) : hk_WP M d mc ms k n pc ls (.ref a :: st) h Q :=
  hk_getf (ci := 10) (kf := 26) (C := RX10) (T := TX10) (N := 81) rfl hk_in10 (by decide) (by rw [hM]; exact hk_t 932 (by decide +kernel) rfl) hd ha he hv kk
theorem pfX10_201 (hM : M.1.cls = RX10) {x : Int32} (hd : decode M.2.1 pc = .ok (.putfield 201, 3)) (ha : a < h.1) (he : h.2 a = .inr (10, fs)) (hl : 26 < fs.length) (kk : hk_WP M d mc ms k n (pc + 3) ls st (hk_up h a (.inr (10, fs.set 26 (.int x)))) Q) : hk_WP M d mc ms k n pc ls (.int x :: .ref a :: st) h Q :=
  hk_putf (ci := 10) (kf := 26) (C := RX10) (T := TX10) (N := 81) tyX10 tyX10_ok nmX10 rfl hk_in10 (by decide) (by rw [hM]; exact hk_t 932 (by decide +kernel) rfl) rfl (fun _ => rfl) (fun _ => rfl) hd ha he hl kk
theorem gfX10_204 (hM : M.1.cls = RX10) {v : Value} (hd : decode M.2.1 pc = .ok (.getfield 204, 3)) (ha : a < h.1) (he : h.2 a = .inr (10, fs)) (hv : fs[35]? = some v) (kk : hk_WP M d mc ms k n (pc + 3) ls (v :: st) h Q) : hk_WP M d mc ms k n pc ls (.ref a :: st) h Q :=
  hk_getf (ci := 10) (kf := 35) (C := RX10) (T := TX10) (N := 81) rfl hk_in10 (by decide) (by rw [hM]; exact hk_t 941 (by decide +kernel) rfl) hd ha he hv kk
theorem pfX10_204 (hM : M.1.cls = RX10) {x : Int32} (hd : decode M.2.1 pc = .ok (.putfield 204, 3)) (ha : a < h.1) (he : h.2 a = .inr (10, fs)) (hl : 35 < fs.length) (kk : hk_WP M d mc ms k n (pc + 3) ls st (hk_up h a (.inr (10, fs.set 35 (.int x)))) Q) : hk_WP M d mc ms k n pc ls (.int x :: .ref a :: st) h Q :=
  hk_putf (ci := 10) (kf := 35) (C := RX10) (T := TX10) (N := 81) tyX10 tyX10_ok nmX10 rfl hk_in10 (by decide) (by rw [hM]; exact hk_t 941 (by decide +kernel) rfl) rfl (fun _ => rfl) (fun _ => rfl) hd ha he hl kk
theorem ivX10_208 (hM : M.1.cls = RX10) (hC : hk_Ct MX10_within d' mc' ms' As h Qc) (hd : decode M.2.1 pc = .ok (.invokestatic 208, 3)) (hst : st0 = As.reverse ++ st) (hn : As.length = 3) (hdep : d' + 1 ≤ d) (hrm : k + mc' ≤ mc ∧ n + ms' ≤ ms) (hcat : (st.map fun v => v.category).sum ≤ 8) (kk : ∀ (r : Option Value) (h' : hk_H), Qc r h' → hk_WP M d mc ms (k + mc') (n + ms') (pc + 3) ls (r.toList ++ st) h' Q) : hk_WP M d mc ms k n pc ls st0 h Q :=
  hk_invS hC hk_wX10_within ⟨(by rw [hM]; exact hk_t 1163 (by decide +kernel) rfl), hk_t 1164 (by decide +kernel) rfl⟩ hd hst hn hdep hrm hcat kk
theorem ivX10_212 (hM : M.1.cls = RX10) (hC : hk_Ct MX10_isCorner d' mc' ms' (.ref a :: As) h Qc) (hd : decode M.2.1 pc = .ok (.invokevirtual 212, 3)) (ha : a < h.1) (he : h.2 a = .inr (10, fs)) (hst : st0 = As.reverse ++ .ref a :: st) (hn : As.length = 1) (hdep : d' + 1 ≤ d) (hrm : k + mc' ≤ mc ∧ n + ms' ≤ ms) (hcat : (st.map fun v => v.category).sum ≤ 8) (kk : ∀ (r : Option Value) (h' : hk_H), Qc r h' → hk_WP M d mc ms (k + mc') (n + ms') (pc + 3) ls (r.toList ++ st) h' Q) : hk_WP M d mc ms k n pc ls st0 h Q :=
  hk_invV hC hk_wX10_isCorner ⟨(by rw [hM]; exact hk_t 1159 (by decide +kernel) rfl), hk_t 1161 (by decide +kernel) rfl, hk_ts 95 (by decide +kernel) rfl⟩ hd ha he rfl hst hn hdep hrm hcat kk
theorem gfX10_216 (hM : M.1.cls = RX10) {v : Value} (hd : decode M.2.1 pc = .ok (.getfield 216, 3)) (ha : a < h.1) (he : h.2 a = .inr (10, fs)) (hv : fs[11]? = some v) (kk : hk_WP M d mc ms k n (pc + 3) ls (v :: st) h Q) : hk_WP M d mc ms k n pc ls (.ref a :: st) h Q :=
  hk_getf (ci := 10) (kf := 11) (C := RX10) (T := TX10) (N := 81) rfl hk_in10 (by decide) (by rw [hM]; exact hk_t 917 (by decide +kernel) rfl) hd ha he hv kk
theorem pfX10_216 (hM : M.1.cls = RX10) {x : Int32} (hd : decode M.2.1 pc = .ok (.putfield 216, 3)) (ha : a < h.1) (he : h.2 a = .inr (10, fs)) (hl : 11 < fs.length) (kk : hk_WP M d mc ms k n (pc + 3) ls st (hk_up h a (.inr (10, fs.set 11 (.int x)))) Q) : hk_WP M d mc ms k n pc ls (.int x :: .ref a :: st) h Q :=
  hk_putf (ci := 10) (kf := 11) (C := RX10) (T := TX10) (N := 81) tyX10 tyX10_ok nmX10 rfl hk_in10 (by decide) (by rw [hM]; exact hk_t 917 (by decide +kernel) rfl) rfl (fun _ => rfl) (fun _ => rfl) hd ha he hl kk
theorem ivX10_220 (hM : M.1.cls = RX10) (hC : hk_Ct MX10_isMinute d' mc' ms' As h Qc) (hd : decode M.2.1 pc = .ok (.invokestatic 220, 3)) (hst : st0 = As.reverse ++ st) (hn : As.length = 1) (hdep : d' + 1 ≤ d) (hrm : k + mc' ≤ mc ∧ n + ms' ≤ ms) (hcat : (st.map fun v => v.category).sum ≤ 8) (kk : ∀ (r : Option Value) (h' : hk_H), Qc r h' → hk_WP M d mc ms (k + mc') (n + ms') (pc + 3) ls (r.toList ++ st) h' Q) : hk_WP M d mc ms k n pc ls st0 h Q :=
  hk_invS hC hk_wX10_isMinute ⟨(by rw [hM]; exact hk_t 1179 (by decide +kernel) rfl), hk_t 1180 (by decide +kernel) rfl⟩ hd hst hn hdep hrm hcat kk
theorem ivX10_223 (hM : M.1.cls = RX10) (hC : hk_Ct MX10_isNight d' mc' ms' (.ref a :: As) h Qc) (hd : decode M.2.1 pc = .ok (.invokevirtual 223, 3)) (ha : a < h.1) (he : h.2 a = .inr (10, fs)) (hst : st0 = As.reverse ++ .ref a :: st) (hn : As.length = 1) (hdep : d' + 1 ≤ d) (hrm : k + mc' ≤ mc ∧ n + ms' ≤ ms) (hcat : (st.map fun v => v.category).sum ≤ 8) (kk : ∀ (r : Option Value) (h' : hk_H), Qc r h' → hk_WP M d mc ms (k + mc') (n + ms') (pc + 3) ls (r.toList ++ st) h' Q) : hk_WP M d mc ms k n pc ls st0 h Q :=
  hk_invV hC hk_wX10_isNight ⟨(by rw [hM]; exact hk_t 1183 (by decide +kernel) rfl), hk_t 1185 (by decide +kernel) rfl, hk_ts 96 (by decide +kernel) rfl⟩ hd ha he rfl hst hn hdep hrm hcat kk
theorem ivX10_227 (hM : M.1.cls = RX10) (hC : hk_Ct MX10_isShut d' mc' ms' (.ref a :: As) h Qc) (hd : decode M.2.1 pc = .ok (.invokevirtual 227, 3)) (ha : a < h.1) (he : h.2 a = .inr (10, fs)) (hst : st0 = As.reverse ++ .ref a :: st) (hn : As.length = 2) (hdep : d' + 1 ≤ d) (hrm : k + mc' ≤ mc ∧ n + ms' ≤ ms) (hcat : (st.map fun v => v.category).sum ≤ 8) (kk : ∀ (r : Option Value) (h' : hk_H), Qc r h' → hk_WP M d mc ms (k + mc') (n + ms') (pc + 3) ls (r.toList ++ st) h' Q) : hk_WP M d mc ms k n pc ls st0 h Q :=
  hk_invV hC hk_wX10_isShut ⟨(by rw [hM]; exact hk_t 1200 (by decide +kernel) rfl), hk_t 1202 (by decide +kernel) rfl, hk_ts 99 (by decide +kernel) rfl⟩ hd ha he rfl hst hn hdep hrm hcat kk
theorem ivX10_231 (hM : M.1.cls = RX10) (hC : hk_Ct MX10_come d' mc' ms' (.ref a :: As) h Qc) (hd : decode M.2.1 pc = .ok (.invokevirtual 231, 3)) (ha : a < h.1) (he : h.2 a = .inr (10, fs)) (hst : st0 = As.reverse ++ .ref a :: st) (hn : As.length = 3) (hdep : d' + 1 ≤ d) (hrm : k + mc' ≤ mc ∧ n + ms' ≤ ms) (hcat : (st.map fun v => v.category).sum ≤ 8) (kk : ∀ (r : Option Value) (h' : hk_H), Qc r h' → hk_WP M d mc ms (k + mc') (n + ms') (pc + 3) ls (r.toList ++ st) h' Q) : hk_WP M d mc ms k n pc ls st0 h Q :=
  hk_invV hC hk_wX10_come ⟨(by rw [hM]; exact hk_t 1204 (by decide +kernel) rfl), hk_t 1206 (by decide +kernel) rfl, hk_ts 100 (by decide +kernel) rfl⟩ hd ha he rfl hst hn hdep hrm hcat kk
theorem ivX10_234 (hM : M.1.cls = RX10) (hC : hk_Ct MX10_findFar d' mc' ms' (.ref a :: As) h Qc) (hd : decode M.2.1 pc = .ok (.invokevirtual 234, 3)) (ha : a < h.1) (he : h.2 a = .inr (10, fs)) (hst : st0 = As.reverse ++ .ref a :: st) (hn : As.length = 2) (hdep : d' + 1 ≤ d) (hrm : k + mc' ≤ mc ∧ n + ms' ≤ ms) (hcat : (st.map fun v => v.category).sum ≤ 8) (kk : ∀ (r : Option Value) (h' : hk_H), Qc r h' → hk_WP M d mc ms (k + mc') (n + ms') (pc + 3) ls (r.toList ++ st) h' Q) : hk_WP M d mc ms k n pc ls st0 h Q :=
  hk_invV hC hk_wX10_findFar ⟨(by rw [hM]; exact hk_t 1195 (by decide +kernel) rfl), hk_t 1197 (by decide +kernel) rfl, hk_ts 98 (by decide +kernel) rfl⟩ hd ha he rfl hst hn hdep hrm hcat kk
theorem gfX10_238 (hM : M.1.cls = RX10) {v : Value} (hd : decode M.2.1 pc = .ok (.getfield 238, 3)) (ha : a < h.1) (he : h.2 a = .inr (10, fs)) (hv : fs[15]? = some v) (kk : hk_WP M d mc ms k n (pc + 3) ls (v :: st) h Q) : hk_WP M d mc ms k n pc ls (.ref a :: st) h Q :=
  hk_getf (ci := 10) (kf := 15) (C := RX10) (T := TX10) (N := 81) rfl hk_in10 (by decide) (by rw [hM]; exact hk_t 921 (by decide +kernel) rfl) hd ha he hv kk
theorem pfX10_238 (hM : M.1.cls = RX10) {x : Int32} (hd : decode M.2.1 pc = .ok (.putfield 238, 3)) (ha : a < h.1) (he : h.2 a = .inr (10, fs)) (hl : 15 < fs.length) (kk : hk_WP M d mc ms k n (pc + 3) ls st (hk_up h a (.inr (10, fs.set 15 (.int x)))) Q) : hk_WP M d mc ms k n pc ls (.int x :: .ref a :: st) h Q :=
  hk_putf (ci := 10) (kf := 15) (C := RX10) (T := TX10) (N := 81) tyX10 tyX10_ok nmX10 rfl hk_in10 (by decide) (by rw [hM]; exact hk_t 921 (by decide +kernel) rfl) rfl (fun _ => rfl) (fun _ => rfl) hd ha he hl kk
theorem ivX10_241 (hM : M.1.cls = RX10) (hC : hk_Ct MX10_yardsOf d' mc' ms' (.ref a :: As) h Qc) (hd : decode M.2.1 pc = .ok (.invokevirtual 241, 3)) (ha : a < h.1) (he : h.2 a = .inr (10, fs)) (hst : st0 = As.reverse ++ .ref a :: st) (hn : As.length = 3) (hdep : d' + 1 ≤ d) (hrm : k + mc' ≤ mc ∧ n + ms' ≤ ms) (hcat : (st.map fun v => v.category).sum ≤ 8) (kk : ∀ (r : Option Value) (h' : hk_H), Qc r h' → hk_WP M d mc ms (k + mc') (n + ms') (pc + 3) ls (r.toList ++ st) h' Q) : hk_WP M d mc ms k n pc ls st0 h Q :=
  hk_invV hC hk_wX10_yardsOf ⟨(by rw [hM]; exact hk_t 1191 (by decide +kernel) rfl), hk_t 1193 (by decide +kernel) rfl, hk_ts 97 (by decide +kernel) rfl⟩ hd ha he rfl hst hn hdep hrm hcat kk
theorem ivX10_245 (hM : M.1.cls = RX10) (hC : hk_Ct MX10_findWay d' mc' ms' (.ref a :: As) h Qc) (hd : decode M.2.1 pc = .ok (.invokevirtual 245, 3)) (ha : a < h.1) (he : h.2 a = .inr (10, fs)) (hst : st0 = As.reverse ++ .ref a :: st) (hn : As.length = 3) (hdep : d' + 1 ≤ d) (hrm : k + mc' ≤ mc ∧ n + ms' ≤ ms) (hcat : (st.map fun v => v.category).sum ≤ 8) (kk : ∀ (r : Option Value) (h' : hk_H), Qc r h' → hk_WP M d mc ms (k + mc') (n + ms') (pc + 3) ls (r.toList ++ st) h' Q) : hk_WP M d mc ms k n pc ls st0 h Q :=
  hk_invV hC hk_wX10_findWay ⟨(by rw [hM]; exact hk_t 1208 (by decide +kernel) rfl), hk_t 1210 (by decide +kernel) rfl, hk_ts 101 (by decide +kernel) rfl⟩ hd ha he rfl hst hn hdep hrm hcat kk
theorem gfX10_249 (hM : M.1.cls = RX10) {v : Value} (hd : decode M.2.1 pc = .ok (.getfield 249, 3)) (ha : a < h.1) (he : h.2 a = .inr (10, fs)) (hv : fs[17]? = some v) (kk : hk_WP M d mc ms k n (pc + 3) ls (v :: st) h Q) : hk_WP M d mc ms k n pc ls (.ref a :: st) h Q :=
  hk_getf (ci := 10) (kf := 17) (C := RX10) (T := TX10) (N := 81) rfl hk_in10 (by decide) (by rw [hM]; exact hk_t 923 (by decide +kernel) rfl) hd ha he hv kk
theorem pfX10_249 (hM : M.1.cls = RX10) {x : Int32} (hd : decode M.2.1 pc = .ok (.putfield 249, 3)) (ha : a < h.1) (he : h.2 a = .inr (10, fs)) (hl : 17 < fs.length) (kk : hk_WP M d mc ms k n (pc + 3) ls st (hk_up h a (.inr (10, fs.set 17 (.int x)))) Q) : hk_WP M d mc ms k n pc ls (.int x :: .ref a :: st) h Q :=
  hk_putf (ci := 10) (kf := 17) (C := RX10) (T := TX10) (N := 81) tyX10 tyX10_ok nmX10 rfl hk_in10 (by decide) (by rw [hM]; exact hk_t 923 (by decide +kernel) rfl) rfl (fun _ => rfl) (fun _ => rfl) hd ha he hl kk
theorem gfX10_252 (hM : M.1.cls = RX10) {v : Value} (hd : decode M.2.1 pc = .ok (.getfield 252, 3)) (ha : a < h.1) (he : h.2 a = .inr (10, fs)) (hv : fs[30]? = some v) (kk : hk_WP M d mc ms k n (pc + 3) ls (v :: st) h Q) : hk_WP M d mc ms k n pc ls (.ref a :: st) h Q :=
  hk_getf (ci := 10) (kf := 30) (C := RX10) (T := TX10) (N := 81) rfl hk_in10 (by decide) (by rw [hM]; exact hk_t 936 (by decide +kernel) rfl) hd ha he hv kk
theorem pfX10_252 (hM : M.1.cls = RX10) {x : Int32} (hd : decode M.2.1 pc = .ok (.putfield 252, 3)) (ha : a < h.1) (he : h.2 a = .inr (10, fs)) (hl : 30 < fs.length) (kk : hk_WP M d mc ms k n (pc + 3) ls st (hk_up h a (.inr (10, fs.set 30 (.int x)))) Q) : hk_WP M d mc ms k n pc ls (.int x :: .ref a :: st) h Q :=
  hk_putf (ci := 10) (kf := 30) (C := RX10) (T := TX10) (N := 81) tyX10 tyX10_ok nmX10 rfl hk_in10 (by decide) (by rw [hM]; exact hk_t 936 (by decide +kernel) rfl) rfl (fun _ => rfl) (fun _ => rfl) hd ha he hl kk
theorem ivX10_255 (hM : M.1.cls = RX10) (hC : hk_Ct MX10_isCoach d' mc' ms' (.ref a :: As) h Qc) (hd : decode M.2.1 pc = .ok (.invokevirtual 255, 3)) (ha : a < h.1) (he : h.2 a = .inr (10, fs)) (hst : st0 = As.reverse ++ .ref a :: st) (hn : As.length = 1) (hdep : d' + 1 ≤ d) (hrm : k + mc' ≤ mc ∧ n + ms' ≤ ms) (hcat : (st.map fun v => v.category).sum ≤ 8) (kk : ∀ (r : Option Value) (h' : hk_H), Qc r h' → hk_WP M d mc ms (k + mc') (n + ms') (pc + 3) ls (r.toList ++ st) h' Q) : hk_WP M d mc ms k n pc ls st0 h Q :=
  hk_invV hC hk_wX10_isCoach ⟨(by rw [hM]; exact hk_t 1224 (by decide +kernel) rfl), hk_t 1226 (by decide +kernel) rfl, hk_ts 102 (by decide +kernel) rfl⟩ hd ha he rfl hst hn hdep hrm hcat kk
theorem ivX10_258 (hM : M.1.cls = RX10) (hC : hk_Ct MX10_holder d' mc' ms' (.ref a :: As) h Qc) (hd : decode M.2.1 pc = .ok (.invokevirtual 258, 3)) (ha : a < h.1) (he : h.2 a = .inr (10, fs)) (hst : st0 = As.reverse ++ .ref a :: st) (hn : As.length = 2) (hdep : d' + 1 ≤ d) (hrm : k + mc' ≤ mc ∧ n + ms' ≤ ms) (hcat : (st.map fun v => v.category).sum ≤ 8) (kk : ∀ (r : Option Value) (h' : hk_H), Qc r h' → hk_WP M d mc ms (k + mc') (n + ms') (pc + 3) ls (r.toList ++ st) h' Q) : hk_WP M d mc ms k n pc ls st0 h Q :=
  hk_invV hC hk_wX10_holder ⟨(by rw [hM]; exact hk_t 1228 (by decide +kernel) rfl), hk_t 1230 (by decide +kernel) rfl, hk_ts 103 (by decide +kernel) rfl⟩ hd ha he rfl hst hn hdep hrm hcat kk
theorem ivX10_262 (hM : M.1.cls = RX10) (hC : hk_Ct MX10_today d' mc' ms' (.ref a :: As) h Qc) (hd : decode M.2.1 pc = .ok (.invokevirtual 262, 3)) (ha : a < h.1) (he : h.2 a = .inr (10, fs)) (hst : st0 = As.reverse ++ .ref a :: st) (hn : As.length = 0) (hdep : d' + 1 ≤ d) (hrm : k + mc' ≤ mc ∧ n + ms' ≤ ms) (hcat : (st.map fun v => v.category).sum ≤ 8) (kk : ∀ (r : Option Value) (h' : hk_H), Qc r h' → hk_WP M d mc ms (k + mc') (n + ms') (pc + 3) ls (r.toList ++ st) h' Q) : hk_WP M d mc ms k n pc ls st0 h Q :=
  hk_invV hC hk_wX10_today ⟨(by rw [hM]; exact hk_t 1236 (by decide +kernel) rfl), hk_t 1238 (by decide +kernel) rfl, hk_ts 104 (by decide +kernel) rfl⟩ hd ha he rfl hst hn hdep hrm hcat kk
theorem ivX10_266 (hM : M.1.cls = RX10) (hC : hk_Ct MX10_standOf d' mc' ms' (.ref a :: As) h Qc) (hd : decode M.2.1 pc = .ok (.invokevirtual 266, 3)) (ha : a < h.1) (he : h.2 a = .inr (10, fs)) (hst : st0 = As.reverse ++ .ref a :: st) (hn : As.length = 1) (hdep : d' + 1 ≤ d) (hrm : k + mc' ≤ mc ∧ n + ms' ≤ ms) (hcat : (st.map fun v => v.category).sum ≤ 8) (kk : ∀ (r : Option Value) (h' : hk_H), Qc r h' → hk_WP M d mc ms (k + mc') (n + ms') (pc + 3) ls (r.toList ++ st) h' Q) : hk_WP M d mc ms k n pc ls st0 h Q :=
  hk_invV hC hk_wX10_standOf ⟨(by rw [hM]; exact hk_t 1252 (by decide +kernel) rfl), hk_t 1254 (by decide +kernel) rfl, hk_ts 106 (by decide +kernel) rfl⟩ hd ha he rfl hst hn hdep hrm hcat kk
theorem ivX10_270 (hM : M.1.cls = RX10) (hC : hk_Ct MX10_isStand d' mc' ms' (.ref a :: As) h Qc) (hd : decode M.2.1 pc = .ok (.invokevirtual 270, 3)) (ha : a < h.1) (he : h.2 a = .inr (10, fs)) (hst : st0 = As.reverse ++ .ref a :: st) (hn : As.length = 1) (hdep : d' + 1 ≤ d) (hrm : k + mc' ≤ mc ∧ n + ms' ≤ ms) (hcat : (st.map fun v => v.category).sum ≤ 8) (kk : ∀ (r : Option Value) (h' : hk_H), Qc r h' → hk_WP M d mc ms (k + mc') (n + ms') (pc + 3) ls (r.toList ++ st) h' Q) : hk_WP M d mc ms k n pc ls st0 h Q :=
  hk_invV hC hk_wX10_isStand ⟨(by rw [hM]; exact hk_t 1248 (by decide +kernel) rfl), hk_t 1250 (by decide +kernel) rfl, hk_ts 105 (by decide +kernel) rfl⟩ hd ha he rfl hst hn hdep hrm hcat kk
theorem ivX10_273 (hM : M.1.cls = RX10) (hC : hk_Ct MX10_leaveRow d' mc' ms' (.ref a :: As) h Qc) (hd : decode M.2.1 pc = .ok (.invokevirtual 273, 3)) (ha : a < h.1) (he : h.2 a = .inr (10, fs)) (hst : st0 = As.reverse ++ .ref a :: st) (hn : As.length = 1) (hdep : d' + 1 ≤ d) (hrm : k + mc' ≤ mc ∧ n + ms' ≤ ms) (hcat : (st.map fun v => v.category).sum ≤ 8) (kk : ∀ (r : Option Value) (h' : hk_H), Qc r h' → hk_WP M d mc ms (k + mc') (n + ms') (pc + 3) ls (r.toList ++ st) h' Q) : hk_WP M d mc ms k n pc ls st0 h Q :=
  hk_invV hC hk_wX10_leaveRow ⟨(by rw [hM]; exact hk_t 1256 (by decide +kernel) rfl), hk_t 1258 (by decide +kernel) rfl, hk_ts 107 (by decide +kernel) rfl⟩ hd ha he rfl hst hn hdep hrm hcat kk
theorem ivX10_277 (hM : M.1.cls = RX10) (hC : hk_Ct MX10_minutesOf d' mc' ms' As h Qc) (hd : decode M.2.1 pc = .ok (.invokestatic 277, 3)) (hst : st0 = As.reverse ++ st) (hn : As.length = 1) (hdep : d' + 1 ≤ d) (hrm : k + mc' ≤ mc ∧ n + ms' ≤ ms) (hcat : (st.map fun v => v.category).sum ≤ 8) (kk : ∀ (r : Option Value) (h' : hk_H), Qc r h' → hk_WP M d mc ms (k + mc') (n + ms') (pc + 3) ls (r.toList ++ st) h' Q) : hk_WP M d mc ms k n pc ls st0 h Q :=
  hk_invS hC hk_wX10_minutesOf ⟨(by rw [hM]; exact hk_t 1260 (by decide +kernel) rfl), hk_t 1261 (by decide +kernel) rfl⟩ hd hst hn hdep hrm hcat kk
theorem ivX10_280 (hM : M.1.cls = RX10) (hC : hk_Ct MX10_arrive d' mc' ms' (.ref a :: As) h Qc) (hd : decode M.2.1 pc = .ok (.invokevirtual 280, 3)) (ha : a < h.1) (he : h.2 a = .inr (10, fs)) (hst : st0 = As.reverse ++ .ref a :: st) (hn : As.length = 1) (hdep : d' + 1 ≤ d) (hrm : k + mc' ≤ mc ∧ n + ms' ≤ ms) (hcat : (st.map fun v => v.category).sum ≤ 8) (kk : ∀ (r : Option Value) (h' : hk_H), Qc r h' → hk_WP M d mc ms (k + mc') (n + ms') (pc + 3) ls (r.toList ++ st) h' Q) : hk_WP M d mc ms k n pc ls st0 h Q :=
  hk_invV hC hk_wX10_arrive ⟨(by rw [hM]; exact hk_t 1263 (by decide +kernel) rfl), hk_t 1265 (by decide +kernel) rfl, hk_ts 108 (by decide +kernel) rfl⟩ hd ha he rfl hst hn hdep hrm hcat kk
theorem ivX10_283 (hM : M.1.cls = RX10) (hC : hk_Ct MX10_tripsOf d' mc' ms' (.ref a :: As) h Qc) (hd : decode M.2.1 pc = .ok (.invokevirtual 283, 3)) (ha : a < h.1) (he : h.2 a = .inr (10, fs)) (hst : st0 = As.reverse ++ .ref a :: st) (hn : As.length = 2) (hdep : d' + 1 ≤ d) (hrm : k + mc' ≤ mc ∧ n + ms' ≤ ms) (hcat : (st.map fun v => v.category).sum ≤ 8) (kk : ∀ (r : Option Value) (h' : hk_H), Qc r h' → hk_WP M d mc ms (k + mc') (n + ms') (pc + 3) ls (r.toList ++ st) h' Q) : hk_WP M d mc ms k n pc ls st0 h Q :=
  hk_invV hC hk_wX10_tripsOf ⟨(by rw [hM]; exact hk_t 1271 (by decide +kernel) rfl), hk_t 1273 (by decide +kernel) rfl, hk_ts 109 (by decide +kernel) rfl⟩ hd ha he rfl hst hn hdep hrm hcat kk
theorem gfX10_287 (hM : M.1.cls = RX10) {v : Value} (hd : decode M.2.1 pc = .ok (.getfield 287, 3)) (ha : a < h.1) (he : h.2 a = .inr (10, fs)) (hv : fs[60]? = some v) (kk : hk_WP M d mc ms k n (pc + 3) ls (v :: st) h Q) : hk_WP M d mc ms k n pc ls (.ref a :: st) h Q :=
  hk_getf (ci := 10) (kf := 60) (C := RX10) (T := TX10) (N := 81) rfl hk_in10 (by decide) (by rw [hM]; exact hk_t 966 (by decide +kernel) rfl) hd ha he hv kk
theorem pfX10_287 (hM : M.1.cls = RX10) {x : Int32} (hd : decode M.2.1 pc = .ok (.putfield 287, 3)) (ha : a < h.1) (he : h.2 a = .inr (10, fs)) (hl : 60 < fs.length) (kk : hk_WP M d mc ms k n (pc + 3) ls st (hk_up h a (.inr (10, fs.set 60 (.int x)))) Q) : hk_WP M d mc ms k n pc ls (.int x :: .ref a :: st) h Q :=
  hk_putf (ci := 10) (kf := 60) (C := RX10) (T := TX10) (N := 81) tyX10 tyX10_ok nmX10 rfl hk_in10 (by decide) (by rw [hM]; exact hk_t 966 (by decide +kernel) rfl) rfl (fun _ => rfl) (fun _ => rfl) hd ha he hl kk
theorem ivX10_290 (hM : M.1.cls = RX10) (hC : hk_Ct MX10_dueOf d' mc' ms' (.ref a :: As) h Qc) (hd : decode M.2.1 pc = .ok (.invokevirtual 290, 3)) (ha : a < h.1) (he : h.2 a = .inr (10, fs)) (hst : st0 = As.reverse ++ .ref a :: st) (hn : As.length = 2) (hdep : d' + 1 ≤ d) (hrm : k + mc' ≤ mc ∧ n + ms' ≤ ms) (hcat : (st.map fun v => v.category).sum ≤ 8) (kk : ∀ (r : Option Value) (h' : hk_H), Qc r h' → hk_WP M d mc ms (k + mc') (n + ms') (pc + 3) ls (r.toList ++ st) h' Q) : hk_WP M d mc ms k n pc ls st0 h Q :=
  hk_invV hC hk_wX10_dueOf ⟨(by rw [hM]; exact hk_t 1275 (by decide +kernel) rfl), hk_t 1277 (by decide +kernel) rfl, hk_ts 110 (by decide +kernel) rfl⟩ hd ha he rfl hst hn hdep hrm hcat kk
theorem gfX10_293 (hM : M.1.cls = RX10) {v : Value} (hd : decode M.2.1 pc = .ok (.getfield 293, 3)) (ha : a < h.1) (he : h.2 a = .inr (10, fs)) (hv : fs[37]? = some v) (kk : hk_WP M d mc ms k n (pc + 3) ls (v :: st) h Q) : hk_WP M d mc ms k n pc ls (.ref a :: st) h Q :=
  hk_getf (ci := 10) (kf := 37) (C := RX10) (T := TX10) (N := 81) rfl hk_in10 (by decide) (by rw [hM]; exact hk_t 943 (by decide +kernel) rfl) hd ha he hv kk
theorem pfX10_293 (hM : M.1.cls = RX10) {x : Int32} (hd : decode M.2.1 pc = .ok (.putfield 293, 3)) (ha : a < h.1) (he : h.2 a = .inr (10, fs)) (hl : 37 < fs.length) (kk : hk_WP M d mc ms k n (pc + 3) ls st (hk_up h a (.inr (10, fs.set 37 (.int x)))) Q) : hk_WP M d mc ms k n pc ls (.int x :: .ref a :: st) h Q :=
  hk_putf (ci := 10) (kf := 37) (C := RX10) (T := TX10) (N := 81) tyX10 tyX10_ok nmX10 rfl hk_in10 (by decide) (by rw [hM]; exact hk_t 943 (by decide +kernel) rfl) rfl (fun _ => rfl) (fun _ => rfl) hd ha he hl kk
theorem gfX10_296 (hM : M.1.cls = RX10) {v : Value} (hd : decode M.2.1 pc = .ok (.getfield 296, 3)) (ha : a < h.1) (he : h.2 a = .inr (10, fs)) (hv : fs[44]? = some v) (kk : hk_WP M d mc ms k n (pc + 3) ls (v :: st) h Q) : hk_WP M d mc ms k n pc ls (.ref a :: st) h Q :=
  hk_getf (ci := 10) (kf := 44) (C := RX10) (T := TX10) (N := 81) rfl hk_in10 (by decide) (by rw [hM]; exact hk_t 950 (by decide +kernel) rfl) hd ha he hv kk
theorem pfX10_296 (hM : M.1.cls = RX10) {x : Int32} (hd : decode M.2.1 pc = .ok (.putfield 296, 3)) (ha : a < h.1) (he : h.2 a = .inr (10, fs)) (hl : 44 < fs.length) (kk : hk_WP M d mc ms k n (pc + 3) ls st (hk_up h a (.inr (10, fs.set 44 (.int x)))) Q) : hk_WP M d mc ms k n pc ls (.int x :: .ref a :: st) h Q :=
  hk_putf (ci := 10) (kf := 44) (C := RX10) (T := TX10) (N := 81) tyX10 tyX10_ok nmX10 rfl hk_in10 (by decide) (by rw [hM]; exact hk_t 950 (by decide +kernel) rfl) rfl (fun _ => rfl) (fun _ => rfl) hd ha he hl kk
theorem gfX10_299 (hM : M.1.cls = RX10) {v : Value} (hd : decode M.2.1 pc = .ok (.getfield 299, 3)) (ha : a < h.1) (he : h.2 a = .inr (10, fs)) (hv : fs[45]? = some v) (kk : hk_WP M d mc ms k n (pc + 3) ls (v :: st) h Q) : hk_WP M d mc ms k n pc ls (.ref a :: st) h Q :=
  hk_getf (ci := 10) (kf := 45) (C := RX10) (T := TX10) (N := 81) rfl hk_in10 (by decide) (by rw [hM]; exact hk_t 951 (by decide +kernel) rfl) hd ha he hv kk
theorem pfX10_299 (hM : M.1.cls = RX10) {x : Int32} (hd : decode M.2.1 pc = .ok (.putfield 299, 3)) (ha : a < h.1) (he : h.2 a = .inr (10, fs)) (hl : 45 < fs.length) (kk : hk_WP M d mc ms k n (pc + 3) ls st (hk_up h a (.inr (10, fs.set 45 (.int x)))) Q) : hk_WP M d mc ms k n pc ls (.int x :: .ref a :: st) h Q :=
  hk_putf (ci := 10) (kf := 45) (C := RX10) (T := TX10) (N := 81) tyX10 tyX10_ok nmX10 rfl hk_in10 (by decide) (by rw [hM]; exact hk_t 951 (by decide +kernel) rfl) rfl (fun _ => rfl) (fun _ => rfl) hd ha he hl kk
theorem gfX10_302 (hM : M.1.cls = RX10) {v : Value} (hd : decode M.2.1 pc = .ok (.getfield 302, 3)) (ha : a < h.1) (he : h.2 a = .inr (10, fs)) (hv : fs[78]? = some v) (kk : hk_WP M d mc ms k n (pc + 3) ls (v :: st) h Q) : hk_WP M d mc ms k n pc ls (.ref a :: st) h Q :=
  hk_getf (ci := 10) (kf := 78) (C := RX10) (T := TX10) (N := 81) rfl hk_in10 (by decide) (by rw [hM]; exact hk_t 984 (by decide +kernel) rfl) hd ha he hv kk
theorem pfX10_302 (hM : M.1.cls = RX10) {x : Int32} (hd : decode M.2.1 pc = .ok (.putfield 302, 3)) (ha : a < h.1) (he : h.2 a = .inr (10, fs)) (hl : 78 < fs.length) (kk : hk_WP M d mc ms k n (pc + 3) ls st (hk_up h a (.inr (10, fs.set 78 (.int x)))) Q) : hk_WP M d mc ms k n pc ls (.int x :: .ref a :: st) h Q :=
  hk_putf (ci := 10) (kf := 78) (C := RX10) (T := TX10) (N := 81) tyX10 tyX10_ok nmX10 rfl hk_in10 (by decide) (by rw [hM]; exact hk_t 984 (by decide +kernel) rfl) rfl (fun _ => rfl) (fun _ => rfl) hd ha he hl kk
theorem gfX10_305 (hM : M.1.cls = RX10) {v : Value} (hd : decode M.2.1 pc = .ok (.getfield 305, 3)) (ha : a < h.1) (he : h.2 a = .inr (10, fs)) (hv : fs[79]? = some v) (kk : hk_WP M d mc ms k n (pc + 3) ls (v :: st) h Q) : hk_WP M d mc ms k n pc ls (.ref a :: st) h Q :=
  hk_getf (ci := 10) (kf := 79) (C := RX10) (T := TX10) (N := 81) rfl hk_in10 (by decide) (by rw [hM]; exact hk_t 985 (by decide +kernel) rfl) hd ha he hv kk
theorem pfX10_305 (hM : M.1.cls = RX10) {x : Int32} (hd : decode M.2.1 pc = .ok (.putfield 305, 3)) (ha : a < h.1) (he : h.2 a = .inr (10, fs)) (hl : 79 < fs.length) (kk : hk_WP M d mc ms k n (pc + 3) ls st (hk_up h a (.inr (10, fs.set 79 (.int x)))) Q) : hk_WP M d mc ms k n pc ls (.int x :: .ref a :: st) h Q :=
  hk_putf (ci := 10) (kf := 79) (C := RX10) (T := TX10) (N := 81) tyX10 tyX10_ok nmX10 rfl hk_in10 (by decide) (by rw [hM]; exact hk_t 985 (by decide +kernel) rfl) rfl (fun _ => rfl) (fun _ => rfl) hd ha he hl kk
theorem ivX10_308 (hM : M.1.cls = RX10) (hC : hk_Ct MX10_wrong d' mc' ms' (.ref a :: As) h Qc) (hd : decode M.2.1 pc = .ok (.invokevirtual 308, 3)) (ha : a < h.1) (he : h.2 a = .inr (10, fs)) (hst : st0 = As.reverse ++ .ref a :: st) (hn : As.length = 0) (hdep : d' + 1 ≤ d) (hrm : k + mc' ≤ mc ∧ n + ms' ≤ ms) (hcat : (st.map fun v => v.category).sum ≤ 8) (kk : ∀ (r : Option Value) (h' : hk_H), Qc r h' → hk_WP M d mc ms (k + mc') (n + ms') (pc + 3) ls (r.toList ++ st) h' Q) : hk_WP M d mc ms k n pc ls st0 h Q :=
  hk_invV hC hk_wX10_wrong ⟨(by rw [hM]; exact hk_t 1331 (by decide +kernel) rfl), hk_t 1333 (by decide +kernel) rfl, hk_ts 124 (by decide +kernel) rfl⟩ hd ha he rfl hst hn hdep hrm hcat kk
theorem ivX10_311 (hM : M.1.cls = RX10) (hC : hk_Ct MX10_compared d' mc' ms' (.ref a :: As) h Qc) (hd : decode M.2.1 pc = .ok (.invokevirtual 311, 3)) (ha : a < h.1) (he : h.2 a = .inr (10, fs)) (hst : st0 = As.reverse ++ .ref a :: st) (hn : As.length = 1) (hdep : d' + 1 ≤ d) (hrm : k + mc' ≤ mc ∧ n + ms' ≤ ms) (hcat : (st.map fun v => v.category).sum ≤ 8) (kk : ∀ (r : Option Value) (h' : hk_H), Qc r h' → hk_WP M d mc ms (k + mc') (n + ms') (pc + 3) ls (r.toList ++ st) h' Q) : hk_WP M d mc ms k n pc ls st0 h Q :=
  hk_invV hC hk_wX10_compared ⟨(by rw [hM]; exact hk_t 1307 (by decide +kernel) rfl), hk_t 1309 (by decide +kernel) rfl, hk_ts 118 (by decide +kernel) rfl⟩ hd ha he rfl hst hn hdep hrm hcat kk
theorem ivX10_314 (hM : M.1.cls = RX10) (hC : hk_Ct MX10_byteAt d' mc' ms' (.ref a :: As) h Qc) (hd : decode M.2.1 pc = .ok (.invokevirtual 314, 3)) (ha : a < h.1) (he : h.2 a = .inr (10, fs)) (hst : st0 = As.reverse ++ .ref a :: st) (hn : As.length = 1) (hdep : d' + 1 ≤ d) (hrm : k + mc' ≤ mc ∧ n + ms' ≤ ms) (hcat : (st.map fun v => v.category).sum ≤ 8) (kk : ∀ (r : Option Value) (h' : hk_H), Qc r h' → hk_WP M d mc ms (k + mc') (n + ms') (pc + 3) ls (r.toList ++ st) h' Q) : hk_WP M d mc ms k n pc ls st0 h Q :=
  hk_invV hC hk_wX10_byteAt ⟨(by rw [hM]; exact hk_t 1323 (by decide +kernel) rfl), hk_t 1325 (by decide +kernel) rfl, hk_ts 122 (by decide +kernel) rfl⟩ hd ha he rfl hst hn hdep hrm hcat kk
theorem ivX10_317 (hM : M.1.cls = RX10) (hC : hk_Ct MX10_opens d' mc' ms' (.ref a :: As) h Qc) (hd : decode M.2.1 pc = .ok (.invokevirtual 317, 3)) (ha : a < h.1) (he : h.2 a = .inr (10, fs)) (hst : st0 = As.reverse ++ .ref a :: st) (hn : As.length = 0) (hdep : d' + 1 ≤ d) (hrm : k + mc' ≤ mc ∧ n + ms' ≤ ms) (hcat : (st.map fun v => v.category).sum ≤ 8) (kk : ∀ (r : Option Value) (h' : hk_H), Qc r h' → hk_WP M d mc ms (k + mc') (n + ms') (pc + 3) ls (r.toList ++ st) h' Q) : hk_WP M d mc ms k n pc ls st0 h Q :=
  hk_invV hC hk_wX10_opens ⟨(by rw [hM]; exact hk_t 1327 (by decide +kernel) rfl), hk_t 1329 (by decide +kernel) rfl, hk_ts 123 (by decide +kernel) rfl⟩ hd ha he rfl hst hn hdep hrm hcat kk
theorem ivX10_321 (hM : M.1.cls = RX10) (hC : hk_Ct MX10_chosen d' mc' ms' (.ref a :: As) h Qc) (hd : decode M.2.1 pc = .ok (.invokevirtual 321, 3)) (ha : a < h.1) (he : h.2 a = .inr (10, fs)) (hst : st0 = As.reverse ++ .ref a :: st) (hn : As.length = 1) (hdep : d' + 1 ≤ d) (hrm : k + mc' ≤ mc ∧ n + ms' ≤ ms) (hcat : (st.map fun v => v.category).sum ≤ 8) (kk : ∀ (r : Option Value) (h' : hk_H), Qc r h' → hk_WP M d mc ms (k + mc') (n + ms') (pc + 3) ls (r.toList ++ st) h' Q) : hk_WP M d mc ms k n pc ls st0 h Q :=
  hk_invV hC hk_wX10_chosen ⟨(by rw [hM]; exact hk_t 1303 (by decide +kernel) rfl), hk_t 1305 (by decide +kernel) rfl, hk_ts 117 (by decide +kernel) rfl⟩ hd ha he rfl hst hn hdep hrm hcat kk
theorem ivX10_324 (hM : M.1.cls = RX10) (hC : hk_Ct MX10_sum d' mc' ms' (.ref a :: As) h Qc) (hd : decode M.2.1 pc = .ok (.invokevirtual 324, 3)) (ha : a < h.1) (he : h.2 a = .inr (10, fs)) (hst : st0 = As.reverse ++ .ref a :: st) (hn : As.length = 1) (hdep : d' + 1 ≤ d) (hrm : k + mc' ≤ mc ∧ n + ms' ≤ ms) (hcat : (st.map fun v => v.category).sum ≤ 8) (kk : ∀ (r : Option Value) (h' : hk_H), Qc r h' → hk_WP M d mc ms (k + mc') (n + ms') (pc + 3) ls (r.toList ++ st) h' Q) : hk_WP M d mc ms k n pc ls st0 h Q :=
  hk_invV hC hk_wX10_sum ⟨(by rw [hM]; exact hk_t 1311 (by decide +kernel) rfl), hk_t 1313 (by decide +kernel) rfl, hk_ts 119 (by decide +kernel) rfl⟩ hd ha he rfl hst hn hdep hrm hcat kk
theorem ivX10_327 (hM : M.1.cls = RX10) (hC : hk_Ct MX10_product d' mc' ms' (.ref a :: As) h Qc) (hd : decode M.2.1 pc = .ok (.invokevirtual 327, 3)) (ha : a < h.1) (he : h.2 a = .inr (10, fs)) (hst : st0 = As.reverse ++ .ref a :: st) (hn : As.length = 1) (hdep : d' + 1 ≤ d) (hrm : k + mc' ≤ mc ∧ n + ms' ≤ ms) (hcat : (st.map fun v => v.category).sum ≤ 8) (kk : ∀ (r : Option Value) (h' : hk_H), Qc r h' → hk_WP M d mc ms (k + mc') (n + ms') (pc + 3) ls (r.toList ++ st) h' Q) : hk_WP M d mc ms k n pc ls st0 h Q :=
  hk_invV hC hk_wX10_product ⟨(by rw [hM]; exact hk_t 1315 (by decide +kernel) rfl), hk_t 1317 (by decide +kernel) rfl, hk_ts 120 (by decide +kernel) rfl⟩ hd ha he rfl hst hn hdep hrm hcat kk
theorem ivX10_330 (hM : M.1.cls = RX10) (hC : hk_Ct MX10_one d' mc' ms' (.ref a :: As) h Qc) (hd : decode M.2.1 pc = .ok (.invokevirtual 330, 3)) (ha : a < h.1) (he : h.2 a = .inr (10, fs)) (hst : st0 = As.reverse ++ .ref a :: st) (hn : As.length = 1) (hdep : d' + 1 ≤ d) (hrm : k + mc' ≤ mc ∧ n + ms' ≤ ms) (hcat : (st.map fun v => v.category).sum ≤ 8) (kk : ∀ (r : Option Value) (h' : hk_H), Qc r h' → hk_WP M d mc ms (k + mc') (n + ms') (pc + 3) ls (r.toList ++ st) h' Q) : hk_WP M d mc ms k n pc ls st0 h Q :=
  hk_invV hC hk_wX10_one ⟨(by rw [hM]; exact hk_t 1319 (by decide +kernel) rfl), hk_t 1321 (by decide +kernel) rfl, hk_ts 121 (by decide +kernel) rfl⟩ hd ha he rfl hst hn hdep hrm hcat kk
theorem ivX10_333 (hM : M.1.cls = RX10) (hC : hk_Ct MX10_nameOf d' mc' ms' As h Qc) (hd : decode M.2.1 pc = .ok (.invokestatic 333, 3)) (hst : st0 = As.reverse ++ st) (hn : As.length = 1) (hdep : d' + 1 ≤ d) (hrm : k + mc' ≤ mc ∧ n + ms' ≤ ms) (hcat : (st.map fun v => v.category).sum ≤ 8) (kk : ∀ (r : Option Value) (h' : hk_H), Qc r h' → hk_WP M d mc ms (k + mc') (n + ms') (pc + 3) ls (r.toList ++ st) h' Q) : hk_WP M d mc ms k n pc ls st0 h Q :=
  hk_invS hC hk_wX10_nameOf ⟨(by rw [hM]; exact hk_t 1335 (by decide +kernel) rfl), hk_t 1336 (by decide +kernel) rfl⟩ hd hst hn hdep hrm hcat kk
theorem ivX10_336 (hM : M.1.cls = RX10) (hC : hk_Ct MX10_isDay d' mc' ms' As h Qc) (hd : decode M.2.1 pc = .ok (.invokestatic 336, 3)) (hst : st0 = As.reverse ++ st) (hn : As.length = 1) (hdep : d' + 1 ≤ d) (hrm : k + mc' ≤ mc ∧ n + ms' ≤ ms) (hcat : (st.map fun v => v.category).sum ≤ 8) (kk : ∀ (r : Option Value) (h' : hk_H), Qc r h' → hk_WP M d mc ms (k + mc') (n + ms') (pc + 3) ls (r.toList ++ st) h' Q) : hk_WP M d mc ms k n pc ls st0 h Q :=
  hk_invS hC hk_wX10_isDay ⟨(by rw [hM]; exact hk_t 1351 (by decide +kernel) rfl), hk_t 1352 (by decide +kernel) rfl⟩ hd hst hn hdep hrm hcat kk
theorem gfX10_339 (hM : M.1.cls = RX10) {v : Value} (hd : decode M.2.1 pc = .ok (.getfield 339, 3)) (ha : a < h.1) (he : h.2 a = .inr (10, fs)) (hv : fs[43]? = some v) (kk : hk_WP M d mc ms k n (pc + 3) ls (v :: st) h Q) : hk_WP M d mc ms k n pc ls (.ref a :: st) h Q :=
  hk_getf (ci := 10) (kf := 43) (C := RX10) (T := TX10) (N := 81) rfl hk_in10 (by decide) (by rw [hM]; exact hk_t 949 (by decide +kernel) rfl) hd ha he hv kk
theorem pfX10_339 (hM : M.1.cls = RX10) {x : Int32} (hd : decode M.2.1 pc = .ok (.putfield 339, 3)) (ha : a < h.1) (he : h.2 a = .inr (10, fs)) (hl : 43 < fs.length) (kk : hk_WP M d mc ms k n (pc + 3) ls st (hk_up h a (.inr (10, fs.set 43 (.int x)))) Q) : hk_WP M d mc ms k n pc ls (.int x :: .ref a :: st) h Q :=
  hk_putf (ci := 10) (kf := 43) (C := RX10) (T := TX10) (N := 81) tyX10 tyX10_ok nmX10 rfl hk_in10 (by decide) (by rw [hM]; exact hk_t 949 (by decide +kernel) rfl) rfl (fun _ => rfl) (fun _ => rfl) hd ha he hl kk
theorem ivX10_342 (hM : M.1.cls = RX10) (hC : hk_Ct MX10_workOut d' mc' ms' (.ref a :: As) h Qc) (hd : decode M.2.1 pc = .ok (.invokevirtual 342, 3)) (ha : a < h.1) (he : h.2 a = .inr (10, fs)) (hst : st0 = As.reverse ++ .ref a :: st) (hn : As.length = 2) (hdep : d' + 1 ≤ d) (hrm : k + mc' ≤ mc ∧ n + ms' ≤ ms) (hcat : (st.map fun v => v.category).sum ≤ 8) (kk : ∀ (r : Option Value) (h' : hk_H), Qc r h' → hk_WP M d mc ms (k + mc') (n + ms') (pc + 3) ls (r.toList ++ st) h' Q) : hk_WP M d mc ms k n pc ls st0 h Q :=
  hk_invV hC hk_wX10_workOut ⟨(by rw [hM]; exact hk_t 1299 (by decide +kernel) rfl), hk_t 1301 (by decide +kernel) rfl, hk_ts 116 (by decide +kernel) rfl⟩ hd ha he rfl hst hn hdep hrm hcat kk
theorem ivX10_345 (hM : M.1.cls = RX10) (hC : hk_Ct MX10_force d' mc' ms' (.ref a :: As) h Qc) (hd : decode M.2.1 pc = .ok (.invokevirtual 345, 3)) (ha : a < h.1) (he : h.2 a = .inr (10, fs)) (hst : st0 = As.reverse ++ .ref a :: st) (hn : As.length = 3) (hdep : d' + 1 ≤ d) (hrm : k + mc' ≤ mc ∧ n + ms' ≤ ms) (hcat : (st.map fun v => v.category).sum ≤ 8) (kk : ∀ (r : Option Value) (h' : hk_H), Qc r h' → hk_WP M d mc ms (k + mc') (n + ms') (pc + 3) ls (r.toList ++ st) h' Q) : hk_WP M d mc ms k n pc ls st0 h Q :=
  hk_invV hC hk_wX10_force ⟨(by rw [hM]; exact hk_t 1287 (by decide +kernel) rfl), hk_t 1289 (by decide +kernel) rfl, hk_ts 113 (by decide +kernel) rfl⟩ hd ha he rfl hst hn hdep hrm hcat kk
theorem ivX10_350 (hM : M.1.cls = RX10) (hC : hk_Ct MX10_name d' mc' ms' (.ref a :: As) h Qc) (hd : decode M.2.1 pc = .ok (.invokevirtual 350, 3)) (ha : a < h.1) (he : h.2 a = .inr (10, fs)) (hst : st0 = As.reverse ++ .ref a :: st) (hn : As.length = 8) (hdep : d' + 1 ≤ d) (hrm : k + mc' ≤ mc ∧ n + ms' ≤ ms) (hcat : (st.map fun v => v.category).sum ≤ 8) (kk : ∀ (r : Option Value) (h' : hk_H), Qc r h' → hk_WP M d mc ms (k + mc') (n + ms') (pc + 3) ls (r.toList ++ st) h' Q) : hk_WP M d mc ms k n pc ls st0 h Q :=
  hk_invV hC hk_wX10_name ⟨(by rw [hM]; exact hk_t 1283 (by decide +kernel) rfl), hk_t 1285 (by decide +kernel) rfl, hk_ts 112 (by decide +kernel) rfl⟩ hd ha he rfl hst hn hdep hrm hcat kk
theorem gfX10_355 (hM : M.1.cls = RX10) {v : Value} (hd : decode M.2.1 pc = .ok (.getfield 355, 3)) (ha : a < h.1) (he : h.2 a = .inr (10, fs)) (hv : fs[80]? = some v) (kk : hk_WP M d mc ms k n (pc + 3) ls (v :: st) h Q) : hk_WP M d mc ms k n pc ls (.ref a :: st) h Q :=
  hk_getf (ci := 10) (kf := 80) (C := RX10) (T := TX10) (N := 81) rfl hk_in10 (by decide) (by rw [hM]; exact hk_t 986 (by decide +kernel) rfl) hd ha he hv kk
theorem pfX10_355 (hM : M.1.cls = RX10) {x : Int32} (hd : decode M.2.1 pc = .ok (.putfield 355, 3)) (ha : a < h.1) (he : h.2 a = .inr (10, fs)) (hl : 80 < fs.length) (kk : hk_WP M d mc ms k n (pc + 3) ls st (hk_up h a (.inr (10, fs.set 80 (.int x)))) Q) : hk_WP M d mc ms k n pc ls (.int x :: .ref a :: st) h Q :=
  hk_putf (ci := 10) (kf := 80) (C := RX10) (T := TX10) (N := 81) tyX10 tyX10_ok nmX10 rfl hk_in10 (by decide) (by rw [hM]; exact hk_t 986 (by decide +kernel) rfl) rfl (fun _ => rfl) (fun _ => rfl) hd ha he hl kk
theorem ivX10_358 (hM : M.1.cls = RX10) (hC : hk_Ct MX10_fareBy d' mc' ms' (.ref a :: As) h Qc) (hd : decode M.2.1 pc = .ok (.invokevirtual 358, 3)) (ha : a < h.1) (he : h.2 a = .inr (10, fs)) (hst : st0 = As.reverse ++ .ref a :: st) (hn : As.length = 1) (hdep : d' + 1 ≤ d) (hrm : k + mc' ≤ mc ∧ n + ms' ≤ ms) (hcat : (st.map fun v => v.category).sum ≤ 8) (kk : ∀ (r : Option Value) (h' : hk_H), Qc r h' → hk_WP M d mc ms (k + mc') (n + ms') (pc + 3) ls (r.toList ++ st) h' Q) : hk_WP M d mc ms k n pc ls st0 h Q :=
  hk_invV hC hk_wX10_fareBy ⟨(by rw [hM]; exact hk_t 1295 (by decide +kernel) rfl), hk_t 1297 (by decide +kernel) rfl, hk_ts 115 (by decide +kernel) rfl⟩ hd ha he rfl hst hn hdep hrm hcat kk
theorem ivX10_361 (hM : M.1.cls = RX10) (hC : hk_Ct MX10_nameTrip d' mc' ms' (.ref a :: As) h Qc) (hd : decode M.2.1 pc = .ok (.invokevirtual 361, 3)) (ha : a < h.1) (he : h.2 a = .inr (10, fs)) (hst : st0 = As.reverse ++ .ref a :: st) (hn : As.length = 1) (hdep : d' + 1 ≤ d) (hrm : k + mc' ≤ mc ∧ n + ms' ≤ ms) (hcat : (st.map fun v => v.category).sum ≤ 8) (kk : ∀ (r : Option Value) (h' : hk_H), Qc r h' → hk_WP M d mc ms (k + mc') (n + ms') (pc + 3) ls (r.toList ++ st) h' Q) : hk_WP M d mc ms k n pc ls st0 h Q :=
  hk_invV hC hk_wX10_nameTrip ⟨(by rw [hM]; exact hk_t 1279 (by decide +kernel) rfl), hk_t 1281 (by decide +kernel) rfl, hk_ts 111 (by decide +kernel) rfl⟩ hd ha he rfl hst hn hdep hrm hcat kk
theorem ivX10_364 (hM : M.1.cls = RX10) (hC : hk_Ct MX10_fare d' mc' ms' (.ref a :: As) h Qc) (hd : decode M.2.1 pc = .ok (.invokevirtual 364, 3)) (ha : a < h.1) (he : h.2 a = .inr (10, fs)) (hst : st0 = As.reverse ++ .ref a :: st) (hn : As.length = 2) (hdep : d' + 1 ≤ d) (hrm : k + mc' ≤ mc ∧ n + ms' ≤ ms) (hcat : (st.map fun v => v.category).sum ≤ 8) (kk : ∀ (r : Option Value) (h' : hk_H), Qc r h' → hk_WP M d mc ms (k + mc') (n + ms') (pc + 3) ls (r.toList ++ st) h' Q) : hk_WP M d mc ms k n pc ls st0 h Q :=
  hk_invV hC hk_wX10_fare ⟨(by rw [hM]; exact hk_t 1291 (by decide +kernel) rfl), hk_t 1293 (by decide +kernel) rfl, hk_ts 114 (by decide +kernel) rfl⟩ hd ha he rfl hst hn hdep hrm hcat kk
theorem ivX10_367 (hM : M.1.cls = RX10) (hC : hk_Ct MX10_isCall d' mc' ms' As h Qc) (hd : decode M.2.1 pc = .ok (.invokestatic 367, 3)) (hst : st0 = As.reverse ++ st) (hn : As.length = 1) (hdep : d' + 1 ≤ d) (hrm : k + mc' ≤ mc ∧ n + ms' ≤ ms) (hcat : (st.map fun v => v.category).sum ≤ 8) (kk : ∀ (r : Option Value) (h' : hk_H), Qc r h' → hk_WP M d mc ms (k + mc') (n + ms') (pc + 3) ls (r.toList ++ st) h' Q) : hk_WP M d mc ms k n pc ls st0 h Q :=
  hk_invS hC hk_wX10_isCall ⟨(by rw [hM]; exact hk_t 1372 (by decide +kernel) rfl), hk_t 1373 (by decide +kernel) rfl⟩ hd hst hn hdep hrm hcat kk
theorem gfX10_370 (hM : M.1.cls = RX10) {v : Value} (hd : decode M.2.1 pc = .ok (.getfield 370, 3)) (ha : a < h.1) (he : h.2 a = .inr (10, fs)) (hv : fs[65]? = some v) (kk : hk_WP M d mc ms k n (pc + 3) ls (v :: st) h Q) : hk_WP M d mc ms k n pc ls (.ref a :: st) h Q :=
  hk_getf (ci := 10) (kf := 65) (C := RX10) (T := TX10) (N := 81) rfl hk_in10 (by decide) (by rw [hM]; exact hk_t 971 (by decide +kernel) rfl) hd ha he hv kk
theorem pfX10_370 (hM : M.1.cls = RX10) {x : Int32} (hd : decode M.2.1 pc = .ok (.putfield 370, 3)) (ha : a < h.1) (he : h.2 a = .inr (10, fs)) (hl : 65 < fs.length) (kk : hk_WP M d mc ms k n (pc + 3) ls st (hk_up h a (.inr (10, fs.set 65 (.int x)))) Q) : hk_WP M d mc ms k n pc ls (.int x :: .ref a :: st) h Q :=
  hk_putf (ci := 10) (kf := 65) (C := RX10) (T := TX10) (N := 81) tyX10 tyX10_ok nmX10 rfl hk_in10 (by decide) (by rw [hM]; exact hk_t 971 (by decide +kernel) rfl) rfl (fun _ => rfl) (fun _ => rfl) hd ha he hl kk
theorem ivX10_373 (hM : M.1.cls = RX10) (hC : hk_Ct MX10_mayBeCalled d' mc' ms' (.ref a :: As) h Qc) (hd : decode M.2.1 pc = .ok (.invokevirtual 373, 3)) (ha : a < h.1) (he : h.2 a = .inr (10, fs)) (hst : st0 = As.reverse ++ .ref a :: st) (hn : As.length = 3) (hdep : d' + 1 ≤ d) (hrm : k + mc' ≤ mc ∧ n + ms' ≤ ms) (hcat : (st.map fun v => v.category).sum ≤ 8) (kk : ∀ (r : Option Value) (h' : hk_H), Qc r h' → hk_WP M d mc ms (k + mc') (n + ms') (pc + 3) ls (r.toList ++ st) h' Q) : hk_WP M d mc ms k n pc ls st0 h Q :=
  hk_invV hC hk_wX10_mayBeCalled ⟨(by rw [hM]; exact hk_t 1368 (by decide +kernel) rfl), hk_t 1370 (by decide +kernel) rfl, hk_ts 125 (by decide +kernel) rfl⟩ hd ha he rfl hst hn hdep hrm hcat kk
theorem ivX10_376 (hM : M.1.cls = RX10) (hC : hk_Ct MX10_whyNot d' mc' ms' (.ref a :: As) h Qc) (hd : decode M.2.1 pc = .ok (.invokevirtual 376, 3)) (ha : a < h.1) (he : h.2 a = .inr (10, fs)) (hst : st0 = As.reverse ++ .ref a :: st) (hn : As.length = 7) (hdep : d' + 1 ≤ d) (hrm : k + mc' ≤ mc ∧ n + ms' ≤ ms) (hcat : (st.map fun v => v.category).sum ≤ 8) (kk : ∀ (r : Option Value) (h' : hk_H), Qc r h' → hk_WP M d mc ms (k + mc') (n + ms') (pc + 3) ls (r.toList ++ st) h' Q) : hk_WP M d mc ms k n pc ls st0 h Q :=
  hk_invV hC hk_wX10_whyNot ⟨(by rw [hM]; exact hk_t 1375 (by decide +kernel) rfl), hk_t 1377 (by decide +kernel) rfl, hk_ts 126 (by decide +kernel) rfl⟩ hd ha he rfl hst hn hdep hrm hcat kk
theorem ivX10_380 (hM : M.1.cls = RX10) (hC : hk_Ct MX10_drive d' mc' ms' (.ref a :: As) h Qc) (hd : decode M.2.1 pc = .ok (.invokevirtual 380, 3)) (ha : a < h.1) (he : h.2 a = .inr (10, fs)) (hst : st0 = As.reverse ++ .ref a :: st) (hn : As.length = 8) (hdep : d' + 1 ≤ d) (hrm : k + mc' ≤ mc ∧ n + ms' ≤ ms) (hcat : (st.map fun v => v.category).sum ≤ 8) (kk : ∀ (r : Option Value) (h' : hk_H), Qc r h' → hk_WP M d mc ms (k + mc') (n + ms') (pc + 3) ls (r.toList ++ st) h' Q) : hk_WP M d mc ms k n pc ls st0 h Q :=
  hk_invV hC hk_wX10_drive ⟨(by rw [hM]; exact hk_t 1379 (by decide +kernel) rfl), hk_t 1381 (by decide +kernel) rfl, hk_ts 127 (by decide +kernel) rfl⟩ hd ha he rfl hst hn hdep hrm hcat kk
theorem ivX10_383 (hM : M.1.cls = RX10) (hC : hk_Ct MX10_note d' mc' ms' (.ref a :: As) h Qc) (hd : decode M.2.1 pc = .ok (.invokevirtual 383, 3)) (ha : a < h.1) (he : h.2 a = .inr (10, fs)) (hst : st0 = As.reverse ++ .ref a :: st) (hn : As.length = 3) (hdep : d' + 1 ≤ d) (hrm : k + mc' ≤ mc ∧ n + ms' ≤ ms) (hcat : (st.map fun v => v.category).sum ≤ 8) (kk : ∀ (r : Option Value) (h' : hk_H), Qc r h' → hk_WP M d mc ms (k + mc') (n + ms') (pc + 3) ls (r.toList ++ st) h' Q) : hk_WP M d mc ms k n pc ls st0 h Q :=
  hk_invV hC hk_wX10_note ⟨(by rw [hM]; exact hk_t 1383 (by decide +kernel) rfl), hk_t 1385 (by decide +kernel) rfl, hk_ts 128 (by decide +kernel) rfl⟩ hd ha he rfl hst hn hdep hrm hcat kk
theorem ivX10_386 (hM : M.1.cls = RX10) (hC : hk_Ct MX10_oneMinute d' mc' ms' (.ref a :: As) h Qc) (hd : decode M.2.1 pc = .ok (.invokevirtual 386, 3)) (ha : a < h.1) (he : h.2 a = .inr (10, fs)) (hst : st0 = As.reverse ++ .ref a :: st) (hn : As.length = 0) (hdep : d' + 1 ≤ d) (hrm : k + mc' ≤ mc ∧ n + ms' ≤ ms) (hcat : (st.map fun v => v.category).sum ≤ 8) (kk : ∀ (r : Option Value) (h' : hk_H), Qc r h' → hk_WP M d mc ms (k + mc') (n + ms') (pc + 3) ls (r.toList ++ st) h' Q) : hk_WP M d mc ms k n pc ls st0 h Q :=
  hk_invV hC hk_wX10_oneMinute ⟨(by rw [hM]; exact hk_t 1395 (by decide +kernel) rfl), hk_t 1397 (by decide +kernel) rfl, hk_ts 129 (by decide +kernel) rfl⟩ hd ha he rfl hst hn hdep hrm hcat kk
theorem ivX10_389 (hM : M.1.cls = RX10) (hC : hk_Ct MX10_isTrip d' mc' ms' (.ref a :: As) h Qc) (hd : decode M.2.1 pc = .ok (.invokevirtual 389, 3)) (ha : a < h.1) (he : h.2 a = .inr (10, fs)) (hst : st0 = As.reverse ++ .ref a :: st) (hn : As.length = 1) (hdep : d' + 1 ≤ d) (hrm : k + mc' ≤ mc ∧ n + ms' ≤ ms) (hcat : (st.map fun v => v.category).sum ≤ 8) (kk : ∀ (r : Option Value) (h' : hk_H), Qc r h' → hk_WP M d mc ms (k + mc') (n + ms') (pc + 3) ls (r.toList ++ st) h' Q) : hk_WP M d mc ms k n pc ls st0 h Q :=
  hk_invV hC hk_wX10_isTrip ⟨(by rw [hM]; exact hk_t 1403 (by decide +kernel) rfl), hk_t 1405 (by decide +kernel) rfl, hk_ts 130 (by decide +kernel) rfl⟩ hd ha he rfl hst hn hdep hrm hcat kk
theorem gfX10_392 (hM : M.1.cls = RX10) {v : Value} (hd : decode M.2.1 pc = .ok (.getfield 392, 3)) (ha : a < h.1) (he : h.2 a = .inr (10, fs)) (hv : fs[68]? = some v) (kk : hk_WP M d mc ms k n (pc + 3) ls (v :: st) h Q) : hk_WP M d mc ms k n pc ls (.ref a :: st) h Q :=
  hk_getf (ci := 10) (kf := 68) (C := RX10) (T := TX10) (N := 81) rfl hk_in10 (by decide) (by rw [hM]; exact hk_t 974 (by decide +kernel) rfl) hd ha he hv kk
theorem pfX10_392 (hM : M.1.cls = RX10) {x : Int32} (hd : decode M.2.1 pc = .ok (.putfield 392, 3)) (ha : a < h.1) (he : h.2 a = .inr (10, fs)) (hl : 68 < fs.length) (kk : hk_WP M d mc ms k n (pc + 3) ls st (hk_up h a (.inr (10, fs.set 68 (.int x)))) Q) : hk_WP M d mc ms k n pc ls (.int x :: .ref a :: st) h Q :=
  hk_putf (ci := 10) (kf := 68) (C := RX10) (T := TX10) (N := 81) tyX10 tyX10_ok nmX10 rfl hk_in10 (by decide) (by rw [hM]; exact hk_t 974 (by decide +kernel) rfl) rfl (fun _ => rfl) (fun _ => rfl) hd ha he hl kk
theorem ivX10_395 (hM : M.1.cls = RX10) (hC : hk_Ct MX10_areLike d' mc' ms' (.ref a :: As) h Qc) (hd : decode M.2.1 pc = .ok (.invokevirtual 395, 3)) (ha : a < h.1) (he : h.2 a = .inr (10, fs)) (hst : st0 = As.reverse ++ .ref a :: st) (hn : As.length = 2) (hdep : d' + 1 ≤ d) (hrm : k + mc' ≤ mc ∧ n + ms' ≤ ms) (hcat : (st.map fun v => v.category).sum ≤ 8) (kk : ∀ (r : Option Value) (h' : hk_H), Qc r h' → hk_WP M d mc ms (k + mc') (n + ms') (pc + 3) ls (r.toList ++ st) h' Q) : hk_WP M d mc ms k n pc ls st0 h Q :=
  hk_invV hC hk_wX10_areLike ⟨(by rw [hM]; exact hk_t 1423 (by decide +kernel) rfl), hk_t 1425 (by decide +kernel) rfl, hk_ts 131 (by decide +kernel) rfl⟩ hd ha he rfl hst hn hdep hrm hcat kk
theorem ivX10_398 (hM : M.1.cls = RX10) (hC : hk_Ct MX10_over d' mc' ms' (.ref a :: As) h Qc) (hd : decode M.2.1 pc = .ok (.invokevirtual 398, 3)) (ha : a < h.1) (he : h.2 a = .inr (10, fs)) (hst : st0 = As.reverse ++ .ref a :: st) (hn : As.length = 1) (hdep : d' + 1 ≤ d) (hrm : k + mc' ≤ mc ∧ n + ms' ≤ ms) (hcat : (st.map fun v => v.category).sum ≤ 8) (kk : ∀ (r : Option Value) (h' : hk_H), Qc r h' → hk_WP M d mc ms (k + mc') (n + ms') (pc + 3) ls (r.toList ++ st) h' Q) : hk_WP M d mc ms k n pc ls st0 h Q :=
  hk_invV hC hk_wX10_over ⟨(by rw [hM]; exact hk_t 1427 (by decide +kernel) rfl), hk_t 1429 (by decide +kernel) rfl, hk_ts 132 (by decide +kernel) rfl⟩ hd ha he rfl hst hn hdep hrm hcat kk
theorem gfX10_401 (hM : M.1.cls = RX10) {v : Value} (hd : decode M.2.1 pc = .ok (.getfield 401, 3)) (ha : a < h.1) (he : h.2 a = .inr (10, fs)) (hv : fs[73]? = some v) (kk : hk_WP M d mc ms k n (pc + 3) ls (v :: st) h Q) : hk_WP M d mc ms k n pc ls (.ref a :: st) h Q :=
  hk_getf (ci := 10) (kf := 73) (C := RX10) (T := TX10) (N := 81) rfl hk_in10 (by decide) (by rw [hM]; exact hk_t 979 (by decide +kernel) rfl) hd ha he hv kk
theorem pfX10_401 (hM : M.1.cls = RX10) {x : Int32} (hd : decode M.2.1 pc = .ok (.putfield 401, 3)) (ha : a < h.1) (he : h.2 a = .inr (10, fs)) (hl : 73 < fs.length) (kk : hk_WP M d mc ms k n (pc + 3) ls st (hk_up h a (.inr (10, fs.set 73 (.int x)))) Q) : hk_WP M d mc ms k n pc ls (.int x :: .ref a :: st) h Q :=
  hk_putf (ci := 10) (kf := 73) (C := RX10) (T := TX10) (N := 81) tyX10 tyX10_ok nmX10 rfl hk_in10 (by decide) (by rw [hM]; exact hk_t 979 (by decide +kernel) rfl) rfl (fun _ => rfl) (fun _ => rfl) hd ha he hl kk
theorem gfX10_404 (hM : M.1.cls = RX10) {v : Value} (hd : decode M.2.1 pc = .ok (.getfield 404, 3)) (ha : a < h.1) (he : h.2 a = .inr (10, fs)) (hv : fs[77]? = some v) (kk : hk_WP M d mc ms k n (pc + 3) ls (v :: st) h Q) : hk_WP M d mc ms k n pc ls (.ref a :: st) h Q :=
  hk_getf (ci := 10) (kf := 77) (C := RX10) (T := TX10) (N := 81) rfl hk_in10 (by decide) (by rw [hM]; exact hk_t 983 (by decide +kernel) rfl) hd ha he hv kk
theorem pfX10_404 (hM : M.1.cls = RX10) {x : Int32} (hd : decode M.2.1 pc = .ok (.putfield 404, 3)) (ha : a < h.1) (he : h.2 a = .inr (10, fs)) (hl : 77 < fs.length) (kk : hk_WP M d mc ms k n (pc + 3) ls st (hk_up h a (.inr (10, fs.set 77 (.int x)))) Q) : hk_WP M d mc ms k n pc ls (.int x :: .ref a :: st) h Q :=
  hk_putf (ci := 10) (kf := 77) (C := RX10) (T := TX10) (N := 81) tyX10 tyX10_ok nmX10 rfl hk_in10 (by decide) (by rw [hM]; exact hk_t 983 (by decide +kernel) rfl) rfl (fun _ => rfl) (fun _ => rfl) hd ha he hl kk
theorem ivX10_407 (hM : M.1.cls = RX10) (hC : hk_Ct MX10_fitsPlate d' mc' ms' (.ref a :: As) h Qc) (hd : decode M.2.1 pc = .ok (.invokevirtual 407, 3)) (ha : a < h.1) (he : h.2 a = .inr (10, fs)) (hst : st0 = As.reverse ++ .ref a :: st) (hn : As.length = 2) (hdep : d' + 1 ≤ d) (hrm : k + mc' ≤ mc ∧ n + ms' ≤ ms) (hcat : (st.map fun v => v.category).sum ≤ 8) (kk : ∀ (r : Option Value) (h' : hk_H), Qc r h' → hk_WP M d mc ms (k + mc') (n + ms') (pc + 3) ls (r.toList ++ st) h' Q) : hk_WP M d mc ms k n pc ls st0 h Q :=
  hk_invV hC hk_wX10_fitsPlate ⟨(by rw [hM]; exact hk_t 1447 (by decide +kernel) rfl), hk_t 1449 (by decide +kernel) rfl, hk_ts 134 (by decide +kernel) rfl⟩ hd ha he rfl hst hn hdep hrm hcat kk
theorem ivX10_410 (hM : M.1.cls = RX10) (hC : hk_Ct MX10_fit d' mc' ms' (.ref a :: As) h Qc) (hd : decode M.2.1 pc = .ok (.invokevirtual 410, 3)) (ha : a < h.1) (he : h.2 a = .inr (10, fs)) (hst : st0 = As.reverse ++ .ref a :: st) (hn : As.length = 2) (hdep : d' + 1 ≤ d) (hrm : k + mc' ≤ mc ∧ n + ms' ≤ ms) (hcat : (st.map fun v => v.category).sum ≤ 8) (kk : ∀ (r : Option Value) (h' : hk_H), Qc r h' → hk_WP M d mc ms (k + mc') (n + ms') (pc + 3) ls (r.toList ++ st) h' Q) : hk_WP M d mc ms k n pc ls st0 h Q :=
  hk_invV hC hk_wX10_fit ⟨(by rw [hM]; exact hk_t 1443 (by decide +kernel) rfl), hk_t 1445 (by decide +kernel) rfl, hk_ts 133 (by decide +kernel) rfl⟩ hd ha he rfl hst hn hdep hrm hcat kk
theorem ivX10_413 (hM : M.1.cls = RX10) (hC : hk_Ct MX10_fits d' mc' ms' (.ref a :: As) h Qc) (hd : decode M.2.1 pc = .ok (.invokevirtual 413, 3)) (ha : a < h.1) (he : h.2 a = .inr (10, fs)) (hst : st0 = As.reverse ++ .ref a :: st) (hn : As.length = 1) (hdep : d' + 1 ≤ d) (hrm : k + mc' ≤ mc ∧ n + ms' ≤ ms) (hcat : (st.map fun v => v.category).sum ≤ 8) (kk : ∀ (r : Option Value) (h' : hk_H), Qc r h' → hk_WP M d mc ms (k + mc') (n + ms') (pc + 3) ls (r.toList ++ st) h' Q) : hk_WP M d mc ms k n pc ls st0 h Q :=
  hk_invV hC hk_wX10_fits ⟨(by rw [hM]; exact hk_t 1455 (by decide +kernel) rfl), hk_t 1440 (by decide +kernel) rfl, hk_t 1441 (by decide +kernel) rfl⟩ hd ha he rfl hst hn hdep hrm hcat kk
theorem ivX10_416 (hM : M.1.cls = RX10) (hC : hk_Ct MX10_isFareLaw d' mc' ms' (.ref a :: As) h Qc) (hd : decode M.2.1 pc = .ok (.invokevirtual 416, 3)) (ha : a < h.1) (he : h.2 a = .inr (10, fs)) (hst : st0 = As.reverse ++ .ref a :: st) (hn : As.length = 2) (hdep : d' + 1 ≤ d) (hrm : k + mc' ≤ mc ∧ n + ms' ≤ ms) (hcat : (st.map fun v => v.category).sum ≤ 8) (kk : ∀ (r : Option Value) (h' : hk_H), Qc r h' → hk_WP M d mc ms (k + mc') (n + ms') (pc + 3) ls (r.toList ++ st) h' Q) : hk_WP M d mc ms k n pc ls st0 h Q :=
  hk_invV hC hk_wX10_isFareLaw ⟨(by rw [hM]; exact hk_t 1460 (by decide +kernel) rfl), hk_t 1462 (by decide +kernel) rfl, hk_ts 135 (by decide +kernel) rfl⟩ hd ha he rfl hst hn hdep hrm hcat kk
end HLk
theorem hk_k9_76 : Cond.constant RX9 76 (720000) ∈ hk_T := hk_t 274 (by decide +kernel) rfl
theorem hk_k0_60 : Cond.constant RX0 60 (1000000000) ∈ hk_T := hk_t 303 (by decide +kernel) rfl
theorem hk_k4_88 : Cond.constant RX4 88 (1000000) ∈ hk_T := hk_t 493 (by decide +kernel) rfl
theorem hk_k9_194 : Cond.constant RX9 194 (99999) ∈ hk_T := hk_t 683 (by decide +kernel) rfl
theorem hk_k9_195 : Cond.constant RX9 195 (-2000000000) ∈ hk_T := hk_t 684 (by decide +kernel) rfl
theorem hk_k9_258 : Cond.constant RX9 258 (1000000) ∈ hk_T := hk_t 803 (by decide +kernel) rfl
theorem hk_k9_320 : Cond.constantLong RX9 320 (2000000000) ∈ hk_T := hk_t 892 (by decide +kernel) rfl
theorem hk_k10_219 : Cond.constant RX10 219 (720000) ∈ hk_T := hk_t 1170 (by decide +kernel) rfl
theorem hk_k10_207 : Cond.constant RX10 207 (719999) ∈ hk_T := hk_t 1182 (by decide +kernel) rfl
theorem hk_k10_226 : Cond.constant RX10 226 (1000000000) ∈ hk_T := hk_t 1199 (by decide +kernel) rfl
theorem hk_k10_354 : Cond.constant RX10 354 (1000000) ∈ hk_T := hk_t 1338 (by decide +kernel) rfl
theorem hk_k10_348 : Cond.constant RX10 348 (99999) ∈ hk_T := hk_t 1362 (by decide +kernel) rfl
theorem hk_k10_349 : Cond.constant RX10 349 (-2000000000) ∈ hk_T := hk_t 1363 (by decide +kernel) rfl
end
