section
-- ===== PART A: goes FIRST, ahead of the names: the tables' words, and 'selects' of the private methods out of them =====
/-- a private method of a class that the tables say can be made, by its rows of tables_1 -/
def lw_okq (q : MethodName × Nat) : Prop := (q.1.cls ≠ "java/lang/invoke/MethodHandle" ∧ q.1.cls ≠ "java/lang/invoke/VarHandle") ∧ Cond.instantiable q.1.cls q.2 ∈ tables_1 ∧ Cond.privateMethod q.1 ∈ tables_1 ∧ Cond.instanceMethod q.1 ∈ tables_1
theorem lw_p0 : lw_okq (⟨"HackneyStands$City", "tellSun", "(III)V"⟩, 7) := ⟨⟨by decide +kernel, by decide +kernel⟩, List.mem_of_getElem? (i := 28) (by decide +kernel), List.mem_of_getElem? (i := 59) (by decide +kernel), List.mem_of_getElem? (i := 60) (by decide +kernel)⟩
theorem lw_p1 : lw_okq (⟨"HackneyStands$Table", "add", "()I"⟩, 4) := ⟨⟨by decide +kernel, by decide +kernel⟩, List.mem_of_getElem? (i := 34) (by decide +kernel), List.mem_of_getElem? (i := 169) (by decide +kernel), List.mem_of_getElem? (i := 170) (by decide +kernel)⟩
theorem lw_p2 : lw_okq (⟨"HackneyStands$Table", "isFull", "()Z"⟩, 4) := ⟨⟨by decide +kernel, by decide +kernel⟩, List.mem_of_getElem? (i := 34) (by decide +kernel), List.mem_of_getElem? (i := 173) (by decide +kernel), List.mem_of_getElem? (i := 174) (by decide +kernel)⟩
theorem lw_p3 : lw_okq (⟨"HackneyStands$City", "addCorner", "()I"⟩, 7) := ⟨⟨by decide +kernel, by decide +kernel⟩, List.mem_of_getElem? (i := 28) (by decide +kernel), List.mem_of_getElem? (i := 246) (by decide +kernel), List.mem_of_getElem? (i := 247) (by decide +kernel)⟩
theorem lw_p4 : lw_okq (⟨"HackneyStands$City", "isCorner", "(I)Z"⟩, 7) := ⟨⟨by decide +kernel, by decide +kernel⟩, List.mem_of_getElem? (i := 28) (by decide +kernel), List.mem_of_getElem? (i := 254) (by decide +kernel), List.mem_of_getElem? (i := 255) (by decide +kernel)⟩
theorem lw_p5 : lw_okq (⟨"HackneyStands$City", "addStreet", "(IIII)I"⟩, 7) := ⟨⟨by decide +kernel, by decide +kernel⟩, List.mem_of_getElem? (i := 28) (by decide +kernel), List.mem_of_getElem? (i := 258) (by decide +kernel), List.mem_of_getElem? (i := 259) (by decide +kernel)⟩
theorem lw_p6 : lw_okq (⟨"HackneyStands$Table", "set", "(III)V"⟩, 4) := ⟨⟨by decide +kernel, by decide +kernel⟩, List.mem_of_getElem? (i := 34) (by decide +kernel), List.mem_of_getElem? (i := 263) (by decide +kernel), List.mem_of_getElem? (i := 264) (by decide +kernel)⟩
theorem lw_p7 : lw_okq (⟨"HackneyStands$Table", "has", "(I)Z"⟩, 4) := ⟨⟨by decide +kernel, by decide +kernel⟩, List.mem_of_getElem? (i := 34) (by decide +kernel), List.mem_of_getElem? (i := 271) (by decide +kernel), List.mem_of_getElem? (i := 272) (by decide +kernel)⟩
theorem lw_p8 : lw_okq (⟨"HackneyStands$City", "addSpan", "(III)I"⟩, 7) := ⟨⟨by decide +kernel, by decide +kernel⟩, List.mem_of_getElem? (i := 28) (by decide +kernel), List.mem_of_getElem? (i := 276) (by decide +kernel), List.mem_of_getElem? (i := 277) (by decide +kernel)⟩
theorem lw_p9 : lw_okq (⟨"HackneyStands$Table", "get", "(II)I"⟩, 4) := ⟨⟨by decide +kernel, by decide +kernel⟩, List.mem_of_getElem? (i := 34) (by decide +kernel), List.mem_of_getElem? (i := 280) (by decide +kernel), List.mem_of_getElem? (i := 281) (by decide +kernel)⟩
theorem lw_p10 : lw_okq (⟨"HackneyStands$City", "measure", "(II)V"⟩, 7) := ⟨⟨by decide +kernel, by decide +kernel⟩, List.mem_of_getElem? (i := 28) (by decide +kernel), List.mem_of_getElem? (i := 296) (by decide +kernel), List.mem_of_getElem? (i := 297) (by decide +kernel)⟩
theorem lw_p11 : lw_okq (⟨"HackneyStands$City", "isShut", "(II)Z"⟩, 7) := ⟨⟨by decide +kernel, by decide +kernel⟩, List.mem_of_getElem? (i := 28) (by decide +kernel), List.mem_of_getElem? (i := 300) (by decide +kernel), List.mem_of_getElem? (i := 301) (by decide +kernel)⟩
theorem lw_p12 : lw_okq (⟨"HackneyStands$City", "lowerAll", "()Z"⟩, 7) := ⟨⟨by decide +kernel, by decide +kernel⟩, List.mem_of_getElem? (i := 28) (by decide +kernel), List.mem_of_getElem? (i := 305) (by decide +kernel), List.mem_of_getElem? (i := 306) (by decide +kernel)⟩
theorem lw_p13 : lw_okq (⟨"HackneyStands$City", "isOpen", "(I)Z"⟩, 7) := ⟨⟨by decide +kernel, by decide +kernel⟩, List.mem_of_getElem? (i := 28) (by decide +kernel), List.mem_of_getElem? (i := 309) (by decide +kernel), List.mem_of_getElem? (i := 310) (by decide +kernel)⟩
theorem lw_p14 : lw_okq (⟨"HackneyStands$City", "costFrom", "(I)I"⟩, 7) := ⟨⟨by decide +kernel, by decide +kernel⟩, List.mem_of_getElem? (i := 28) (by decide +kernel), List.mem_of_getElem? (i := 313) (by decide +kernel), List.mem_of_getElem? (i := 314) (by decide +kernel)⟩
theorem lw_p15 : lw_okq (⟨"HackneyStands$City", "lower", "(II)Z"⟩, 7) := ⟨⟨by decide +kernel, by decide +kernel⟩, List.mem_of_getElem? (i := 28) (by decide +kernel), List.mem_of_getElem? (i := 318) (by decide +kernel), List.mem_of_getElem? (i := 319) (by decide +kernel)⟩
def lw_privs_1 : List (MethodName × Nat) := [(⟨"HackneyStands$City", "tellSun", "(III)V"⟩, 7), (⟨"HackneyStands$Table", "add", "()I"⟩, 4), (⟨"HackneyStands$Table", "isFull", "()Z"⟩, 4), (⟨"HackneyStands$City", "addCorner", "()I"⟩, 7), (⟨"HackneyStands$City", "isCorner", "(I)Z"⟩, 7), (⟨"HackneyStands$City", "addStreet", "(IIII)I"⟩, 7), (⟨"HackneyStands$Table", "set", "(III)V"⟩, 4), (⟨"HackneyStands$Table", "has", "(I)Z"⟩, 4), (⟨"HackneyStands$City", "addSpan", "(III)I"⟩, 7), (⟨"HackneyStands$Table", "get", "(II)I"⟩, 4), (⟨"HackneyStands$City", "measure", "(II)V"⟩, 7), (⟨"HackneyStands$City", "isShut", "(II)Z"⟩, 7), (⟨"HackneyStands$City", "lowerAll", "()Z"⟩, 7), (⟨"HackneyStands$City", "isOpen", "(I)Z"⟩, 7), (⟨"HackneyStands$City", "costFrom", "(I)I"⟩, 7), (⟨"HackneyStands$City", "lower", "(II)Z"⟩, 7)]
theorem lw_r1 : ∀ q ∈ lw_privs_1, lw_okq q := List.forall_mem_cons.mpr ⟨lw_p0, List.forall_mem_cons.mpr ⟨lw_p1, List.forall_mem_cons.mpr ⟨lw_p2, List.forall_mem_cons.mpr ⟨lw_p3, List.forall_mem_cons.mpr ⟨lw_p4, List.forall_mem_cons.mpr ⟨lw_p5, List.forall_mem_cons.mpr ⟨lw_p6, List.forall_mem_cons.mpr ⟨lw_p7, List.forall_mem_cons.mpr ⟨lw_p8, List.forall_mem_cons.mpr ⟨lw_p9, List.forall_mem_cons.mpr ⟨lw_p10, List.forall_mem_cons.mpr ⟨lw_p11, List.forall_mem_cons.mpr ⟨lw_p12, List.forall_mem_cons.mpr ⟨lw_p13, List.forall_mem_cons.mpr ⟨lw_p14, List.forall_mem_cons.mpr ⟨lw_p15, fun _ h => absurd h List.not_mem_nil⟩⟩⟩⟩⟩⟩⟩⟩⟩⟩⟩⟩⟩⟩⟩⟩
theorem lw_p16 : lw_okq (⟨"HackneyStands$City", "yardsFrom", "(I)I"⟩, 7) := ⟨⟨by decide +kernel, by decide +kernel⟩, List.mem_of_getElem? (i := 28) (by decide +kernel), List.mem_of_getElem? (i := 322) (by decide +kernel), List.mem_of_getElem? (i := 323) (by decide +kernel)⟩
theorem lw_p17 : lw_okq (⟨"HackneyStands$City", "keepSteps", "(II)V"⟩, 7) := ⟨⟨by decide +kernel, by decide +kernel⟩, List.mem_of_getElem? (i := 28) (by decide +kernel), List.mem_of_getElem? (i := 326) (by decide +kernel), List.mem_of_getElem? (i := 327) (by decide +kernel)⟩
theorem lw_p18 : lw_okq (⟨"HackneyStands$City", "leastNext", "(I)I"⟩, 7) := ⟨⟨by decide +kernel, by decide +kernel⟩, List.mem_of_getElem? (i := 28) (by decide +kernel), List.mem_of_getElem? (i := 330) (by decide +kernel), List.mem_of_getElem? (i := 331) (by decide +kernel)⟩
theorem lw_p19 : lw_okq (⟨"HackneyStands$City", "stepAt", "(I)I"⟩, 7) := ⟨⟨by decide +kernel, by decide +kernel⟩, List.mem_of_getElem? (i := 28) (by decide +kernel), List.mem_of_getElem? (i := 338) (by decide +kernel), List.mem_of_getElem? (i := 339) (by decide +kernel)⟩
theorem lw_p20 : lw_okq (⟨"HackneyStands$City", "nightIn", "(I)I"⟩, 7) := ⟨⟨by decide +kernel, by decide +kernel⟩, List.mem_of_getElem? (i := 28) (by decide +kernel), List.mem_of_getElem? (i := 346) (by decide +kernel), List.mem_of_getElem? (i := 347) (by decide +kernel)⟩
theorem lw_p21 : lw_okq (⟨"HackneyStands$Fleet", "hasPlate", "(I)Z"⟩, 3) := ⟨⟨by decide +kernel, by decide +kernel⟩, List.mem_of_getElem? (i := 87) (by decide +kernel), List.mem_of_getElem? (i := 357) (by decide +kernel), List.mem_of_getElem? (i := 358) (by decide +kernel)⟩
theorem lw_p22 : lw_okq (⟨"HackneyStands$Fleet", "addCoach", "(II)I"⟩, 3) := ⟨⟨by decide +kernel, by decide +kernel⟩, List.mem_of_getElem? (i := 87) (by decide +kernel), List.mem_of_getElem? (i := 362) (by decide +kernel), List.mem_of_getElem? (i := 363) (by decide +kernel)⟩
theorem lw_p23 : lw_okq (⟨"HackneyStands$Fleet", "settle", "(III)V"⟩, 3) := ⟨⟨by decide +kernel, by decide +kernel⟩, List.mem_of_getElem? (i := 87) (by decide +kernel), List.mem_of_getElem? (i := 368) (by decide +kernel), List.mem_of_getElem? (i := 369) (by decide +kernel)⟩
theorem lw_p24 : lw_okq (⟨"HackneyStands$Fleet", "holderOf", "(II)I"⟩, 3) := ⟨⟨by decide +kernel, by decide +kernel⟩, List.mem_of_getElem? (i := 87) (by decide +kernel), List.mem_of_getElem? (i := 376) (by decide +kernel), List.mem_of_getElem? (i := 377) (by decide +kernel)⟩
theorem lw_p25 : lw_okq (⟨"HackneyStands$Fleet", "addLicence", "(III)I"⟩, 3) := ⟨⟨by decide +kernel, by decide +kernel⟩, List.mem_of_getElem? (i := 87) (by decide +kernel), List.mem_of_getElem? (i := 380) (by decide +kernel), List.mem_of_getElem? (i := 381) (by decide +kernel)⟩
theorem lw_p26 : lw_okq (⟨"HackneyStands", "today", "()I"⟩, 7) := ⟨⟨by decide +kernel, by decide +kernel⟩, List.mem_of_getElem? (i := 20) (by decide +kernel), List.mem_of_getElem? (i := 388) (by decide +kernel), List.mem_of_getElem? (i := 389) (by decide +kernel)⟩
theorem lw_p27 : lw_okq (⟨"HackneyStands$Fleet", "addStand", "(II)I"⟩, 3) := ⟨⟨by decide +kernel, by decide +kernel⟩, List.mem_of_getElem? (i := 87) (by decide +kernel), List.mem_of_getElem? (i := 398) (by decide +kernel), List.mem_of_getElem? (i := 399) (by decide +kernel)⟩
theorem lw_p28 : lw_okq (⟨"HackneyStands$Fleet", "isMoving", "(I)Z"⟩, 3) := ⟨⟨by decide +kernel, by decide +kernel⟩, List.mem_of_getElem? (i := 87) (by decide +kernel), List.mem_of_getElem? (i := 406) (by decide +kernel), List.mem_of_getElem? (i := 407) (by decide +kernel)⟩
theorem lw_p29 : lw_okq (⟨"HackneyStands$Fleet", "isStandingAt", "(II)Z"⟩, 3) := ⟨⟨by decide +kernel, by decide +kernel⟩, List.mem_of_getElem? (i := 87) (by decide +kernel), List.mem_of_getElem? (i := 410) (by decide +kernel), List.mem_of_getElem? (i := 411) (by decide +kernel)⟩
theorem lw_p30 : lw_okq (⟨"HackneyStands$Fleet", "isStanding", "(I)Z"⟩, 3) := ⟨⟨by decide +kernel, by decide +kernel⟩, List.mem_of_getElem? (i := 87) (by decide +kernel), List.mem_of_getElem? (i := 414) (by decide +kernel), List.mem_of_getElem? (i := 415) (by decide +kernel)⟩
theorem lw_p31 : lw_okq (⟨"HackneyStands$Fleet", "leaveRow", "(I)V"⟩, 3) := ⟨⟨by decide +kernel, by decide +kernel⟩, List.mem_of_getElem? (i := 87) (by decide +kernel), List.mem_of_getElem? (i := 421) (by decide +kernel), List.mem_of_getElem? (i := 422) (by decide +kernel)⟩
def lw_privs_2 : List (MethodName × Nat) := [(⟨"HackneyStands$City", "yardsFrom", "(I)I"⟩, 7), (⟨"HackneyStands$City", "keepSteps", "(II)V"⟩, 7), (⟨"HackneyStands$City", "leastNext", "(I)I"⟩, 7), (⟨"HackneyStands$City", "stepAt", "(I)I"⟩, 7), (⟨"HackneyStands$City", "nightIn", "(I)I"⟩, 7), (⟨"HackneyStands$Fleet", "hasPlate", "(I)Z"⟩, 3), (⟨"HackneyStands$Fleet", "addCoach", "(II)I"⟩, 3), (⟨"HackneyStands$Fleet", "settle", "(III)V"⟩, 3), (⟨"HackneyStands$Fleet", "holderOf", "(II)I"⟩, 3), (⟨"HackneyStands$Fleet", "addLicence", "(III)I"⟩, 3), (⟨"HackneyStands", "today", "()I"⟩, 7), (⟨"HackneyStands$Fleet", "addStand", "(II)I"⟩, 3), (⟨"HackneyStands$Fleet", "isMoving", "(I)Z"⟩, 3), (⟨"HackneyStands$Fleet", "isStandingAt", "(II)Z"⟩, 3), (⟨"HackneyStands$Fleet", "isStanding", "(I)Z"⟩, 3), (⟨"HackneyStands$Fleet", "leaveRow", "(I)V"⟩, 3)]
theorem lw_r2 : ∀ q ∈ lw_privs_2, lw_okq q := List.forall_mem_cons.mpr ⟨lw_p16, List.forall_mem_cons.mpr ⟨lw_p17, List.forall_mem_cons.mpr ⟨lw_p18, List.forall_mem_cons.mpr ⟨lw_p19, List.forall_mem_cons.mpr ⟨lw_p20, List.forall_mem_cons.mpr ⟨lw_p21, List.forall_mem_cons.mpr ⟨lw_p22, List.forall_mem_cons.mpr ⟨lw_p23, List.forall_mem_cons.mpr ⟨lw_p24, List.forall_mem_cons.mpr ⟨lw_p25, List.forall_mem_cons.mpr ⟨lw_p26, List.forall_mem_cons.mpr ⟨lw_p27, List.forall_mem_cons.mpr ⟨lw_p28, List.forall_mem_cons.mpr ⟨lw_p29, List.forall_mem_cons.mpr ⟨lw_p30, List.forall_mem_cons.mpr ⟨lw_p31, fun _ h => absurd h List.not_mem_nil⟩⟩⟩⟩⟩⟩⟩⟩⟩⟩⟩⟩⟩⟩⟩⟩
theorem lw_p32 : lw_okq (⟨"HackneyStands$Fleet", "rowLength", "(I)I"⟩, 3) := ⟨⟨by decide +kernel, by decide +kernel⟩, List.mem_of_getElem? (i := 87) (by decide +kernel), List.mem_of_getElem? (i := 425) (by decide +kernel), List.mem_of_getElem? (i := 426) (by decide +kernel)⟩
theorem lw_p33 : lw_okq (⟨"HackneyStands$Fleet", "coachInRow", "(II)I"⟩, 3) := ⟨⟨by decide +kernel, by decide +kernel⟩, List.mem_of_getElem? (i := 87) (by decide +kernel), List.mem_of_getElem? (i := 429) (by decide +kernel), List.mem_of_getElem? (i := 430) (by decide +kernel)⟩
theorem lw_p34 : lw_okq (⟨"HackneyStands$Fleet", "setOut", "(IIIII)V"⟩, 3) := ⟨⟨by decide +kernel, by decide +kernel⟩, List.mem_of_getElem? (i := 87) (by decide +kernel), List.mem_of_getElem? (i := 433) (by decide +kernel), List.mem_of_getElem? (i := 434) (by decide +kernel)⟩
theorem lw_p35 : lw_okq (⟨"HackneyStands$Fleet", "arrive", "(I)V"⟩, 3) := ⟨⟨by decide +kernel, by decide +kernel⟩, List.mem_of_getElem? (i := 87) (by decide +kernel), List.mem_of_getElem? (i := 437) (by decide +kernel), List.mem_of_getElem? (i := 438) (by decide +kernel)⟩
theorem lw_p36 : lw_okq (⟨"HackneyStands", "thisYear", "()I"⟩, 7) := ⟨⟨by decide +kernel, by decide +kernel⟩, List.mem_of_getElem? (i := 20) (by decide +kernel), List.mem_of_getElem? (i := 445) (by decide +kernel), List.mem_of_getElem? (i := 446) (by decide +kernel)⟩
theorem lw_p37 : lw_okq (⟨"HackneyStands$Trips", "tripsOf", "(I)I"⟩, 3) := ⟨⟨by decide +kernel, by decide +kernel⟩, List.mem_of_getElem? (i := 161) (by decide +kernel), List.mem_of_getElem? (i := 449) (by decide +kernel), List.mem_of_getElem? (i := 450) (by decide +kernel)⟩
theorem lw_p38 : lw_okq (⟨"HackneyStands", "earned", "(I)I"⟩, 7) := ⟨⟨by decide +kernel, by decide +kernel⟩, List.mem_of_getElem? (i := 20) (by decide +kernel), List.mem_of_getElem? (i := 454) (by decide +kernel), List.mem_of_getElem? (i := 455) (by decide +kernel)⟩
theorem lw_p39 : lw_okq (⟨"HackneyStands", "fareDue", "(II)I"⟩, 7) := ⟨⟨by decide +kernel, by decide +kernel⟩, List.mem_of_getElem? (i := 20) (by decide +kernel), List.mem_of_getElem? (i := 458) (by decide +kernel), List.mem_of_getElem? (i := 459) (by decide +kernel)⟩
theorem lw_p40 : lw_okq (⟨"HackneyStands", "tellTrip", "(LHackneyStands$Table;I)V"⟩, 7) := ⟨⟨by decide +kernel, by decide +kernel⟩, List.mem_of_getElem? (i := 20) (by decide +kernel), List.mem_of_getElem? (i := 462) (by decide +kernel), List.mem_of_getElem? (i := 463) (by decide +kernel)⟩
theorem lw_p41 : lw_okq (⟨"HackneyStands$LawBook", "tellRide", "(III)V"⟩, 5) := ⟨⟨by decide +kernel, by decide +kernel⟩, List.mem_of_getElem? (i := 108) (by decide +kernel), List.mem_of_getElem? (i := 466) (by decide +kernel), List.mem_of_getElem? (i := 467) (by decide +kernel)⟩
theorem lw_p42 : lw_okq (⟨"HackneyStands$LawBook", "tellTime", "(III)V"⟩, 5) := ⟨⟨by decide +kernel, by decide +kernel⟩, List.mem_of_getElem? (i := 108) (by decide +kernel), List.mem_of_getElem? (i := 470) (by decide +kernel), List.mem_of_getElem? (i := 471) (by decide +kernel)⟩
theorem lw_p43 : lw_okq (⟨"HackneyStands$LawBook", "tellLoad", "(III)V"⟩, 5) := ⟨⟨by decide +kernel, by decide +kernel⟩, List.mem_of_getElem? (i := 108) (by decide +kernel), List.mem_of_getElem? (i := 474) (by decide +kernel), List.mem_of_getElem? (i := 475) (by decide +kernel)⟩
theorem lw_p44 : lw_okq (⟨"HackneyStands", "dayOf", "(I)I"⟩, 7) := ⟨⟨by decide +kernel, by decide +kernel⟩, List.mem_of_getElem? (i := 20) (by decide +kernel), List.mem_of_getElem? (i := 478) (by decide +kernel), List.mem_of_getElem? (i := 479) (by decide +kernel)⟩
theorem lw_p45 : lw_okq (⟨"HackneyStands$LawBook", "lawInForce", "(III)I"⟩, 5) := ⟨⟨by decide +kernel, by decide +kernel⟩, List.mem_of_getElem? (i := 108) (by decide +kernel), List.mem_of_getElem? (i := 482) (by decide +kernel), List.mem_of_getElem? (i := 483) (by decide +kernel)⟩
theorem lw_p46 : lw_okq (⟨"HackneyStands$LawBook", "lawAt", "(I)LHackneyStands$Law;"⟩, 5) := ⟨⟨by decide +kernel, by decide +kernel⟩, List.mem_of_getElem? (i := 108) (by decide +kernel), List.mem_of_getElem? (i := 486) (by decide +kernel), List.mem_of_getElem? (i := 487) (by decide +kernel)⟩
theorem lw_p47 : lw_okq (⟨"HackneyStands$LawBook", "fareBy", "(I)I"⟩, 5) := ⟨⟨by decide +kernel, by decide +kernel⟩, List.mem_of_getElem? (i := 108) (by decide +kernel), List.mem_of_getElem? (i := 490) (by decide +kernel), List.mem_of_getElem? (i := 491) (by decide +kernel)⟩
def lw_privs_3 : List (MethodName × Nat) := [(⟨"HackneyStands$Fleet", "rowLength", "(I)I"⟩, 3), (⟨"HackneyStands$Fleet", "coachInRow", "(II)I"⟩, 3), (⟨"HackneyStands$Fleet", "setOut", "(IIIII)V"⟩, 3), (⟨"HackneyStands$Fleet", "arrive", "(I)V"⟩, 3), (⟨"HackneyStands", "thisYear", "()I"⟩, 7), (⟨"HackneyStands$Trips", "tripsOf", "(I)I"⟩, 3), (⟨"HackneyStands", "earned", "(I)I"⟩, 7), (⟨"HackneyStands", "fareDue", "(II)I"⟩, 7), (⟨"HackneyStands", "tellTrip", "(LHackneyStands$Table;I)V"⟩, 7), (⟨"HackneyStands$LawBook", "tellRide", "(III)V"⟩, 5), (⟨"HackneyStands$LawBook", "tellTime", "(III)V"⟩, 5), (⟨"HackneyStands$LawBook", "tellLoad", "(III)V"⟩, 5), (⟨"HackneyStands", "dayOf", "(I)I"⟩, 7), (⟨"HackneyStands$LawBook", "lawInForce", "(III)I"⟩, 5), (⟨"HackneyStands$LawBook", "lawAt", "(I)LHackneyStands$Law;"⟩, 5), (⟨"HackneyStands$LawBook", "fareBy", "(I)I"⟩, 5)]
theorem lw_r3 : ∀ q ∈ lw_privs_3, lw_okq q := List.forall_mem_cons.mpr ⟨lw_p32, List.forall_mem_cons.mpr ⟨lw_p33, List.forall_mem_cons.mpr ⟨lw_p34, List.forall_mem_cons.mpr ⟨lw_p35, List.forall_mem_cons.mpr ⟨lw_p36, List.forall_mem_cons.mpr ⟨lw_p37, List.forall_mem_cons.mpr ⟨lw_p38, List.forall_mem_cons.mpr ⟨lw_p39, List.forall_mem_cons.mpr ⟨lw_p40, List.forall_mem_cons.mpr ⟨lw_p41, List.forall_mem_cons.mpr ⟨lw_p42, List.forall_mem_cons.mpr ⟨lw_p43, List.forall_mem_cons.mpr ⟨lw_p44, List.forall_mem_cons.mpr ⟨lw_p45, List.forall_mem_cons.mpr ⟨lw_p46, List.forall_mem_cons.mpr ⟨lw_p47, fun _ h => absurd h List.not_mem_nil⟩⟩⟩⟩⟩⟩⟩⟩⟩⟩⟩⟩⟩⟩⟩⟩
theorem lw_p48 : lw_okq (⟨"HackneyStands$Law", "worth", "([I[I)I"⟩, 4) := ⟨⟨by decide +kernel, by decide +kernel⟩, List.mem_of_getElem? (i := 497) (by decide +kernel), List.mem_of_getElem? (i := 495) (by decide +kernel), List.mem_of_getElem? (i := 496) (by decide +kernel)⟩
theorem lw_p49 : lw_okq (⟨"HackneyStands$LawReader", "addBytes", "(II)I"⟩, 5) := ⟨⟨by decide +kernel, by decide +kernel⟩, List.mem_of_getElem? (i := 114) (by decide +kernel), List.mem_of_getElem? (i := 526) (by decide +kernel), List.mem_of_getElem? (i := 527) (by decide +kernel)⟩
theorem lw_p50 : lw_okq (⟨"HackneyStands$LawBook", "makeLaw", "(III)I"⟩, 5) := ⟨⟨by decide +kernel, by decide +kernel⟩, List.mem_of_getElem? (i := 108) (by decide +kernel), List.mem_of_getElem? (i := 534) (by decide +kernel), List.mem_of_getElem? (i := 535) (by decide +kernel)⟩
theorem lw_p51 : lw_okq (⟨"HackneyStands$LawReader", "isLaw", "()Z"⟩, 5) := ⟨⟨by decide +kernel, by decide +kernel⟩, List.mem_of_getElem? (i := 114) (by decide +kernel), List.mem_of_getElem? (i := 538) (by decide +kernel), List.mem_of_getElem? (i := 539) (by decide +kernel)⟩
theorem lw_p52 : lw_okq (⟨"HackneyStands$LawReader", "readE", "(I)Z"⟩, 5) := ⟨⟨by decide +kernel, by decide +kernel⟩, List.mem_of_getElem? (i := 114) (by decide +kernel), List.mem_of_getElem? (i := 542) (by decide +kernel), List.mem_of_getElem? (i := 543) (by decide +kernel)⟩
theorem lw_p53 : lw_okq (⟨"HackneyStands$LawReader", "readC", "(I)Z"⟩, 5) := ⟨⟨by decide +kernel, by decide +kernel⟩, List.mem_of_getElem? (i := 114) (by decide +kernel), List.mem_of_getElem? (i := 546) (by decide +kernel), List.mem_of_getElem? (i := 547) (by decide +kernel)⟩
theorem lw_p54 : lw_okq (⟨"HackneyStands$LawReader", "readS", "(I)Z"⟩, 5) := ⟨⟨by decide +kernel, by decide +kernel⟩, List.mem_of_getElem? (i := 114) (by decide +kernel), List.mem_of_getElem? (i := 550) (by decide +kernel), List.mem_of_getElem? (i := 551) (by decide +kernel)⟩
theorem lw_p55 : lw_okq (⟨"HackneyStands$LawReader", "readP", "(I)Z"⟩, 5) := ⟨⟨by decide +kernel, by decide +kernel⟩, List.mem_of_getElem? (i := 114) (by decide +kernel), List.mem_of_getElem? (i := 554) (by decide +kernel), List.mem_of_getElem? (i := 555) (by decide +kernel)⟩
theorem lw_p56 : lw_okq (⟨"HackneyStands$LawReader", "readO", "(I)Z"⟩, 5) := ⟨⟨by decide +kernel, by decide +kernel⟩, List.mem_of_getElem? (i := 114) (by decide +kernel), List.mem_of_getElem? (i := 558) (by decide +kernel), List.mem_of_getElem? (i := 559) (by decide +kernel)⟩
theorem lw_p57 : lw_okq (⟨"HackneyStands$LawReader", "sign", "()I"⟩, 5) := ⟨⟨by decide +kernel, by decide +kernel⟩, List.mem_of_getElem? (i := 114) (by decide +kernel), List.mem_of_getElem? (i := 562) (by decide +kernel), List.mem_of_getElem? (i := 563) (by decide +kernel)⟩
theorem lw_p58 : lw_okq (⟨"HackneyStands$LawReader", "readNumber", "()Z"⟩, 5) := ⟨⟨by decide +kernel, by decide +kernel⟩, List.mem_of_getElem? (i := 114) (by decide +kernel), List.mem_of_getElem? (i := 569) (by decide +kernel), List.mem_of_getElem? (i := 570) (by decide +kernel)⟩
theorem lw_p59 : lw_okq (⟨"HackneyStands$LawReader", "put", "(II)I"⟩, 5) := ⟨⟨by decide +kernel, by decide +kernel⟩, List.mem_of_getElem? (i := 114) (by decide +kernel), List.mem_of_getElem? (i := 573) (by decide +kernel), List.mem_of_getElem? (i := 574) (by decide +kernel)⟩
theorem lw_p60 : lw_okq (⟨"HackneyStands$LawReader", "readBraced", "(I)Z"⟩, 5) := ⟨⟨by decide +kernel, by decide +kernel⟩, List.mem_of_getElem? (i := 114) (by decide +kernel), List.mem_of_getElem? (i := 577) (by decide +kernel), List.mem_of_getElem? (i := 578) (by decide +kernel)⟩
theorem lw_p61 : lw_okq (⟨"HackneyStands$LawReader", "aimHere", "(I)V"⟩, 5) := ⟨⟨by decide +kernel, by decide +kernel⟩, List.mem_of_getElem? (i := 114) (by decide +kernel), List.mem_of_getElem? (i := 633) (by decide +kernel), List.mem_of_getElem? (i := 634) (by decide +kernel)⟩
theorem lw_p62 : lw_okq (⟨"HackneyStands$LawBook", "worthOf", "(I)I"⟩, 5) := ⟨⟨by decide +kernel, by decide +kernel⟩, List.mem_of_getElem? (i := 108) (by decide +kernel), List.mem_of_getElem? (i := 686) (by decide +kernel), List.mem_of_getElem? (i := 687) (by decide +kernel)⟩
theorem lw_p63 : lw_okq (⟨"HackneyStands", "isOrder", "(III)Z"⟩, 7) := ⟨⟨by decide +kernel, by decide +kernel⟩, List.mem_of_getElem? (i := 20) (by decide +kernel), List.mem_of_getElem? (i := 694) (by decide +kernel), List.mem_of_getElem? (i := 695) (by decide +kernel)⟩
def lw_privs_4 : List (MethodName × Nat) := [(⟨"HackneyStands$Law", "worth", "([I[I)I"⟩, 4), (⟨"HackneyStands$LawReader", "addBytes", "(II)I"⟩, 5), (⟨"HackneyStands$LawBook", "makeLaw", "(III)I"⟩, 5), (⟨"HackneyStands$LawReader", "isLaw", "()Z"⟩, 5), (⟨"HackneyStands$LawReader", "readE", "(I)Z"⟩, 5), (⟨"HackneyStands$LawReader", "readC", "(I)Z"⟩, 5), (⟨"HackneyStands$LawReader", "readS", "(I)Z"⟩, 5), (⟨"HackneyStands$LawReader", "readP", "(I)Z"⟩, 5), (⟨"HackneyStands$LawReader", "readO", "(I)Z"⟩, 5), (⟨"HackneyStands$LawReader", "sign", "()I"⟩, 5), (⟨"HackneyStands$LawReader", "readNumber", "()Z"⟩, 5), (⟨"HackneyStands$LawReader", "put", "(II)I"⟩, 5), (⟨"HackneyStands$LawReader", "readBraced", "(I)Z"⟩, 5), (⟨"HackneyStands$LawReader", "aimHere", "(I)V"⟩, 5), (⟨"HackneyStands$LawBook", "worthOf", "(I)I"⟩, 5), (⟨"HackneyStands", "isOrder", "(III)Z"⟩, 7)]
theorem lw_r4 : ∀ q ∈ lw_privs_4, lw_okq q := List.forall_mem_cons.mpr ⟨lw_p48, List.forall_mem_cons.mpr ⟨lw_p49, List.forall_mem_cons.mpr ⟨lw_p50, List.forall_mem_cons.mpr ⟨lw_p51, List.forall_mem_cons.mpr ⟨lw_p52, List.forall_mem_cons.mpr ⟨lw_p53, List.forall_mem_cons.mpr ⟨lw_p54, List.forall_mem_cons.mpr ⟨lw_p55, List.forall_mem_cons.mpr ⟨lw_p56, List.forall_mem_cons.mpr ⟨lw_p57, List.forall_mem_cons.mpr ⟨lw_p58, List.forall_mem_cons.mpr ⟨lw_p59, List.forall_mem_cons.mpr ⟨lw_p60, List.forall_mem_cons.mpr ⟨lw_p61, List.forall_mem_cons.mpr ⟨lw_p62, List.forall_mem_cons.mpr ⟨lw_p63, fun _ h => absurd h List.not_mem_nil⟩⟩⟩⟩⟩⟩⟩⟩⟩⟩⟩⟩⟩⟩⟩⟩
theorem lw_p64 : lw_okq (⟨"HackneyStands", "draftTrip", "(III)Z"⟩, 7) := ⟨⟨by decide +kernel, by decide +kernel⟩, List.mem_of_getElem? (i := 20) (by decide +kernel), List.mem_of_getElem? (i := 701) (by decide +kernel), List.mem_of_getElem? (i := 702) (by decide +kernel)⟩
theorem lw_p65 : lw_okq (⟨"HackneyStands$City", "badFrom", "(I)I"⟩, 7) := ⟨⟨by decide +kernel, by decide +kernel⟩, List.mem_of_getElem? (i := 28) (by decide +kernel), List.mem_of_getElem? (i := 705) (by decide +kernel), List.mem_of_getElem? (i := 706) (by decide +kernel)⟩
theorem lw_p66 : lw_okq (⟨"HackneyStands", "standAskedAfter", "(I)I"⟩, 7) := ⟨⟨by decide +kernel, by decide +kernel⟩, List.mem_of_getElem? (i := 20) (by decide +kernel), List.mem_of_getElem? (i := 710) (by decide +kernel), List.mem_of_getElem? (i := 711) (by decide +kernel)⟩
theorem lw_p67 : lw_okq (⟨"HackneyStands", "yardsToCaller", "(I)I"⟩, 7) := ⟨⟨by decide +kernel, by decide +kernel⟩, List.mem_of_getElem? (i := 20) (by decide +kernel), List.mem_of_getElem? (i := 714) (by decide +kernel), List.mem_of_getElem? (i := 715) (by decide +kernel)⟩
theorem lw_p68 : lw_okq (⟨"HackneyStands", "isAskedAfter", "(II)Z"⟩, 7) := ⟨⟨by decide +kernel, by decide +kernel⟩, List.mem_of_getElem? (i := 20) (by decide +kernel), List.mem_of_getElem? (i := 718) (by decide +kernel), List.mem_of_getElem? (i := 719) (by decide +kernel)⟩
theorem lw_p69 : lw_okq (⟨"HackneyStands", "firstToCome", "(I)I"⟩, 7) := ⟨⟨by decide +kernel, by decide +kernel⟩, List.mem_of_getElem? (i := 20) (by decide +kernel), List.mem_of_getElem? (i := 722) (by decide +kernel), List.mem_of_getElem? (i := 723) (by decide +kernel)⟩
theorem lw_p70 : lw_okq (⟨"HackneyStands", "whyNot", "(II)I"⟩, 7) := ⟨⟨by decide +kernel, by decide +kernel⟩, List.mem_of_getElem? (i := 20) (by decide +kernel), List.mem_of_getElem? (i := 727) (by decide +kernel), List.mem_of_getElem? (i := 728) (by decide +kernel)⟩
theorem lw_p71 : lw_okq (⟨"HackneyStands$Trips", "draftCoach", "(III)V"⟩, 3) := ⟨⟨by decide +kernel, by decide +kernel⟩, List.mem_of_getElem? (i := 161) (by decide +kernel), List.mem_of_getElem? (i := 731) (by decide +kernel), List.mem_of_getElem? (i := 732) (by decide +kernel)⟩
theorem lw_p72 : lw_okq (⟨"HackneyStands$Trips", "draftTimes", "(II)I"⟩, 3) := ⟨⟨by decide +kernel, by decide +kernel⟩, List.mem_of_getElem? (i := 161) (by decide +kernel), List.mem_of_getElem? (i := 736) (by decide +kernel), List.mem_of_getElem? (i := 737) (by decide +kernel)⟩
theorem lw_p73 : lw_okq (⟨"HackneyStands$Trips", "noteRefusal", "()V"⟩, 3) := ⟨⟨by decide +kernel, by decide +kernel⟩, List.mem_of_getElem? (i := 161) (by decide +kernel), List.mem_of_getElem? (i := 740) (by decide +kernel), List.mem_of_getElem? (i := 741) (by decide +kernel)⟩
theorem lw_p74 : lw_okq (⟨"HackneyStands", "sendToCaller", "(I)I"⟩, 7) := ⟨⟨by decide +kernel, by decide +kernel⟩, List.mem_of_getElem? (i := 20) (by decide +kernel), List.mem_of_getElem? (i := 744) (by decide +kernel), List.mem_of_getElem? (i := 745) (by decide +kernel)⟩
theorem lw_p75 : lw_okq (⟨"HackneyStands$Trips", "keepDraft", "()I"⟩, 3) := ⟨⟨by decide +kernel, by decide +kernel⟩, List.mem_of_getElem? (i := 161) (by decide +kernel), List.mem_of_getElem? (i := 748) (by decide +kernel), List.mem_of_getElem? (i := 749) (by decide +kernel)⟩
theorem lw_p76 : lw_okq (⟨"HackneyStands$Fleet", "nextToArrive", "(I)I"⟩, 3) := ⟨⟨by decide +kernel, by decide +kernel⟩, List.mem_of_getElem? (i := 87) (by decide +kernel), List.mem_of_getElem? (i := 761) (by decide +kernel), List.mem_of_getElem? (i := 762) (by decide +kernel)⟩
theorem lw_p77 : lw_okq (⟨"HackneyStands", "passTo", "(I)V"⟩, 7) := ⟨⟨by decide +kernel, by decide +kernel⟩, List.mem_of_getElem? (i := 20) (by decide +kernel), List.mem_of_getElem? (i := 766) (by decide +kernel), List.mem_of_getElem? (i := 767) (by decide +kernel)⟩
theorem lw_p78 : lw_okq (⟨"HackneyStands$Fleet", "spend", "(I)V"⟩, 3) := ⟨⟨by decide +kernel, by decide +kernel⟩, List.mem_of_getElem? (i := 87) (by decide +kernel), List.mem_of_getElem? (i := 770) (by decide +kernel), List.mem_of_getElem? (i := 771) (by decide +kernel)⟩
theorem lw_p79 : lw_okq (⟨"HackneyStands$Table", "isCell", "(II)Z"⟩, 4) := ⟨⟨by decide +kernel, by decide +kernel⟩, List.mem_of_getElem? (i := 34) (by decide +kernel), List.mem_of_getElem? (i := 783) (by decide +kernel), List.mem_of_getElem? (i := 784) (by decide +kernel)⟩
def lw_privs_5 : List (MethodName × Nat) := [(⟨"HackneyStands", "draftTrip", "(III)Z"⟩, 7), (⟨"HackneyStands$City", "badFrom", "(I)I"⟩, 7), (⟨"HackneyStands", "standAskedAfter", "(I)I"⟩, 7), (⟨"HackneyStands", "yardsToCaller", "(I)I"⟩, 7), (⟨"HackneyStands", "isAskedAfter", "(II)Z"⟩, 7), (⟨"HackneyStands", "firstToCome", "(I)I"⟩, 7), (⟨"HackneyStands", "whyNot", "(II)I"⟩, 7), (⟨"HackneyStands$Trips", "draftCoach", "(III)V"⟩, 3), (⟨"HackneyStands$Trips", "draftTimes", "(II)I"⟩, 3), (⟨"HackneyStands$Trips", "noteRefusal", "()V"⟩, 3), (⟨"HackneyStands", "sendToCaller", "(I)I"⟩, 7), (⟨"HackneyStands$Trips", "keepDraft", "()I"⟩, 3), (⟨"HackneyStands$Fleet", "nextToArrive", "(I)I"⟩, 3), (⟨"HackneyStands", "passTo", "(I)V"⟩, 7), (⟨"HackneyStands$Fleet", "spend", "(I)V"⟩, 3), (⟨"HackneyStands$Table", "isCell", "(II)Z"⟩, 4)]
theorem lw_r5 : ∀ q ∈ lw_privs_5, lw_okq q := List.forall_mem_cons.mpr ⟨lw_p64, List.forall_mem_cons.mpr ⟨lw_p65, List.forall_mem_cons.mpr ⟨lw_p66, List.forall_mem_cons.mpr ⟨lw_p67, List.forall_mem_cons.mpr ⟨lw_p68, List.forall_mem_cons.mpr ⟨lw_p69, List.forall_mem_cons.mpr ⟨lw_p70, List.forall_mem_cons.mpr ⟨lw_p71, List.forall_mem_cons.mpr ⟨lw_p72, List.forall_mem_cons.mpr ⟨lw_p73, List.forall_mem_cons.mpr ⟨lw_p74, List.forall_mem_cons.mpr ⟨lw_p75, List.forall_mem_cons.mpr ⟨lw_p76, List.forall_mem_cons.mpr ⟨lw_p77, List.forall_mem_cons.mpr ⟨lw_p78, List.forall_mem_cons.mpr ⟨lw_p79, fun _ h => absurd h List.not_mem_nil⟩⟩⟩⟩⟩⟩⟩⟩⟩⟩⟩⟩⟩⟩⟩⟩
theorem lw_p80 : lw_okq (⟨"HackneyStands", "kindDue", "(II)I"⟩, 7) := ⟨⟨by decide +kernel, by decide +kernel⟩, List.mem_of_getElem? (i := 20) (by decide +kernel), List.mem_of_getElem? (i := 792) (by decide +kernel), List.mem_of_getElem? (i := 793) (by decide +kernel)⟩
theorem lw_p81 : lw_okq (⟨"HackneyStands$Complaints", "isOf", "(I)Z"⟩, 1) := ⟨⟨by decide +kernel, by decide +kernel⟩, List.mem_of_getElem? (i := 190) (by decide +kernel), List.mem_of_getElem? (i := 805) (by decide +kernel), List.mem_of_getElem? (i := 806) (by decide +kernel)⟩
theorem lw_p82 : lw_okq (⟨"HackneyStands$Complaints", "addComplaint", "(II)I"⟩, 1) := ⟨⟨by decide +kernel, by decide +kernel⟩, List.mem_of_getElem? (i := 190) (by decide +kernel), List.mem_of_getElem? (i := 810) (by decide +kernel), List.mem_of_getElem? (i := 811) (by decide +kernel)⟩
theorem lw_p83 : lw_okq (⟨"HackneyStands", "overpaid", "(I)I"⟩, 7) := ⟨⟨by decide +kernel, by decide +kernel⟩, List.mem_of_getElem? (i := 20) (by decide +kernel), List.mem_of_getElem? (i := 820) (by decide +kernel), List.mem_of_getElem? (i := 821) (by decide +kernel)⟩
theorem lw_p84 : lw_okq (⟨"HackneyStands", "likeCases", "(IZ)I"⟩, 7) := ⟨⟨by decide +kernel, by decide +kernel⟩, List.mem_of_getElem? (i := 20) (by decide +kernel), List.mem_of_getElem? (i := 824) (by decide +kernel), List.mem_of_getElem? (i := 825) (by decide +kernel)⟩
theorem lw_p85 : lw_okq (⟨"HackneyStands", "isLike", "(II)Z"⟩, 7) := ⟨⟨by decide +kernel, by decide +kernel⟩, List.mem_of_getElem? (i := 20) (by decide +kernel), List.mem_of_getElem? (i := 828) (by decide +kernel), List.mem_of_getElem? (i := 829) (by decide +kernel)⟩
theorem lw_p86 : lw_okq (⟨"HackneyStands$Trips", "isSame", "(III)Z"⟩, 3) := ⟨⟨by decide +kernel, by decide +kernel⟩, List.mem_of_getElem? (i := 161) (by decide +kernel), List.mem_of_getElem? (i := 832) (by decide +kernel), List.mem_of_getElem? (i := 833) (by decide +kernel)⟩
theorem lw_p87 : lw_okq (⟨"HackneyStands", "latestLikeCase", "(I)I"⟩, 7) := ⟨⟨by decide +kernel, by decide +kernel⟩, List.mem_of_getElem? (i := 20) (by decide +kernel), List.mem_of_getElem? (i := 836) (by decide +kernel), List.mem_of_getElem? (i := 837) (by decide +kernel)⟩
theorem lw_p88 : lw_okq (⟨"HackneyStands$Things", "addLost", "(IIII)I"⟩, 2) := ⟨⟨by decide +kernel, by decide +kernel⟩, List.mem_of_getElem? (i := 203) (by decide +kernel), List.mem_of_getElem? (i := 844) (by decide +kernel), List.mem_of_getElem? (i := 845) (by decide +kernel)⟩
theorem lw_p89 : lw_okq (⟨"HackneyStands$Things", "addFound", "(III)I"⟩, 2) := ⟨⟨by decide +kernel, by decide +kernel⟩, List.mem_of_getElem? (i := 203) (by decide +kernel), List.mem_of_getElem? (i := 854) (by decide +kernel), List.mem_of_getElem? (i := 855) (by decide +kernel)⟩
theorem lw_p90 : lw_okq (⟨"HackneyStands", "onlyFoundFor", "(I)I"⟩, 7) := ⟨⟨by decide +kernel, by decide +kernel⟩, List.mem_of_getElem? (i := 20) (by decide +kernel), List.mem_of_getElem? (i := 862) (by decide +kernel), List.mem_of_getElem? (i := 863) (by decide +kernel)⟩
theorem lw_p91 : lw_okq (⟨"HackneyStands", "isFitting", "(II)Z"⟩, 7) := ⟨⟨by decide +kernel, by decide +kernel⟩, List.mem_of_getElem? (i := 20) (by decide +kernel), List.mem_of_getElem? (i := 866) (by decide +kernel), List.mem_of_getElem? (i := 867) (by decide +kernel)⟩
theorem lw_p92 : lw_okq (⟨"HackneyStands$Trips", "wasOnTrip", "(III)Z"⟩, 3) := ⟨⟨by decide +kernel, by decide +kernel⟩, List.mem_of_getElem? (i := 161) (by decide +kernel), List.mem_of_getElem? (i := 873) (by decide +kernel), List.mem_of_getElem? (i := 874) (by decide +kernel)⟩
theorem lw_p93 : lw_okq (⟨"HackneyStands", "lossesFitting", "(I)I"⟩, 7) := ⟨⟨by decide +kernel, by decide +kernel⟩, List.mem_of_getElem? (i := 20) (by decide +kernel), List.mem_of_getElem? (i := 877) (by decide +kernel), List.mem_of_getElem? (i := 878) (by decide +kernel)⟩
theorem lw_p94 : lw_okq (⟨"HackneyStands$LawBook", "isOfKind", "(II)Z"⟩, 5) := ⟨⟨by decide +kernel, by decide +kernel⟩, List.mem_of_getElem? (i := 108) (by decide +kernel), List.mem_of_getElem? (i := 889) (by decide +kernel), List.mem_of_getElem? (i := 890) (by decide +kernel)⟩
theorem lw_p95 : lw_okq (⟨"HackneyStandsModel", "isCorner", "(I)Z"⟩, 81) := ⟨⟨by decide +kernel, by decide +kernel⟩, List.mem_of_getElem? (i := 901) (by decide +kernel), List.mem_of_getElem? (i := 1160) (by decide +kernel), List.mem_of_getElem? (i := 1161) (by decide +kernel)⟩
def lw_privs_6 : List (MethodName × Nat) := [(⟨"HackneyStands", "kindDue", "(II)I"⟩, 7), (⟨"HackneyStands$Complaints", "isOf", "(I)Z"⟩, 1), (⟨"HackneyStands$Complaints", "addComplaint", "(II)I"⟩, 1), (⟨"HackneyStands", "overpaid", "(I)I"⟩, 7), (⟨"HackneyStands", "likeCases", "(IZ)I"⟩, 7), (⟨"HackneyStands", "isLike", "(II)Z"⟩, 7), (⟨"HackneyStands$Trips", "isSame", "(III)Z"⟩, 3), (⟨"HackneyStands", "latestLikeCase", "(I)I"⟩, 7), (⟨"HackneyStands$Things", "addLost", "(IIII)I"⟩, 2), (⟨"HackneyStands$Things", "addFound", "(III)I"⟩, 2), (⟨"HackneyStands", "onlyFoundFor", "(I)I"⟩, 7), (⟨"HackneyStands", "isFitting", "(II)Z"⟩, 7), (⟨"HackneyStands$Trips", "wasOnTrip", "(III)Z"⟩, 3), (⟨"HackneyStands", "lossesFitting", "(I)I"⟩, 7), (⟨"HackneyStands$LawBook", "isOfKind", "(II)Z"⟩, 5), (⟨"HackneyStandsModel", "isCorner", "(I)Z"⟩, 81)]
theorem lw_r6 : ∀ q ∈ lw_privs_6, lw_okq q := List.forall_mem_cons.mpr ⟨lw_p80, List.forall_mem_cons.mpr ⟨lw_p81, List.forall_mem_cons.mpr ⟨lw_p82, List.forall_mem_cons.mpr ⟨lw_p83, List.forall_mem_cons.mpr ⟨lw_p84, List.forall_mem_cons.mpr ⟨lw_p85, List.forall_mem_cons.mpr ⟨lw_p86, List.forall_mem_cons.mpr ⟨lw_p87, List.forall_mem_cons.mpr ⟨lw_p88, List.forall_mem_cons.mpr ⟨lw_p89, List.forall_mem_cons.mpr ⟨lw_p90, List.forall_mem_cons.mpr ⟨lw_p91, List.forall_mem_cons.mpr ⟨lw_p92, List.forall_mem_cons.mpr ⟨lw_p93, List.forall_mem_cons.mpr ⟨lw_p94, List.forall_mem_cons.mpr ⟨lw_p95, fun _ h => absurd h List.not_mem_nil⟩⟩⟩⟩⟩⟩⟩⟩⟩⟩⟩⟩⟩⟩⟩⟩
theorem lw_p96 : lw_okq (⟨"HackneyStandsModel", "isNight", "(I)Z"⟩, 81) := ⟨⟨by decide +kernel, by decide +kernel⟩, List.mem_of_getElem? (i := 901) (by decide +kernel), List.mem_of_getElem? (i := 1184) (by decide +kernel), List.mem_of_getElem? (i := 1185) (by decide +kernel)⟩
theorem lw_p97 : lw_okq (⟨"HackneyStandsModel", "yardsOf", "(III)I"⟩, 81) := ⟨⟨by decide +kernel, by decide +kernel⟩, List.mem_of_getElem? (i := 901) (by decide +kernel), List.mem_of_getElem? (i := 1192) (by decide +kernel), List.mem_of_getElem? (i := 1193) (by decide +kernel)⟩
theorem lw_p98 : lw_okq (⟨"HackneyStandsModel", "findFar", "(II)V"⟩, 81) := ⟨⟨by decide +kernel, by decide +kernel⟩, List.mem_of_getElem? (i := 901) (by decide +kernel), List.mem_of_getElem? (i := 1196) (by decide +kernel), List.mem_of_getElem? (i := 1197) (by decide +kernel)⟩
theorem lw_p99 : lw_okq (⟨"HackneyStandsModel", "isShut", "(II)Z"⟩, 81) := ⟨⟨by decide +kernel, by decide +kernel⟩, List.mem_of_getElem? (i := 901) (by decide +kernel), List.mem_of_getElem? (i := 1201) (by decide +kernel), List.mem_of_getElem? (i := 1202) (by decide +kernel)⟩
theorem lw_p100 : lw_okq (⟨"HackneyStandsModel", "come", "(III)Z"⟩, 81) := ⟨⟨by decide +kernel, by decide +kernel⟩, List.mem_of_getElem? (i := 901) (by decide +kernel), List.mem_of_getElem? (i := 1205) (by decide +kernel), List.mem_of_getElem? (i := 1206) (by decide +kernel)⟩
theorem lw_p101 : lw_okq (⟨"HackneyStandsModel", "findWay", "(III)V"⟩, 81) := ⟨⟨by decide +kernel, by decide +kernel⟩, List.mem_of_getElem? (i := 901) (by decide +kernel), List.mem_of_getElem? (i := 1209) (by decide +kernel), List.mem_of_getElem? (i := 1210) (by decide +kernel)⟩
theorem lw_p102 : lw_okq (⟨"HackneyStandsModel", "isCoach", "(I)Z"⟩, 81) := ⟨⟨by decide +kernel, by decide +kernel⟩, List.mem_of_getElem? (i := 901) (by decide +kernel), List.mem_of_getElem? (i := 1225) (by decide +kernel), List.mem_of_getElem? (i := 1226) (by decide +kernel)⟩
theorem lw_p103 : lw_okq (⟨"HackneyStandsModel", "holder", "(II)I"⟩, 81) := ⟨⟨by decide +kernel, by decide +kernel⟩, List.mem_of_getElem? (i := 901) (by decide +kernel), List.mem_of_getElem? (i := 1229) (by decide +kernel), List.mem_of_getElem? (i := 1230) (by decide +kernel)⟩
theorem lw_p104 : lw_okq (⟨"HackneyStandsModel", "today", "()I"⟩, 81) := ⟨⟨by decide +kernel, by decide +kernel⟩, List.mem_of_getElem? (i := 901) (by decide +kernel), List.mem_of_getElem? (i := 1237) (by decide +kernel), List.mem_of_getElem? (i := 1238) (by decide +kernel)⟩
theorem lw_p105 : lw_okq (⟨"HackneyStandsModel", "isStand", "(I)Z"⟩, 81) := ⟨⟨by decide +kernel, by decide +kernel⟩, List.mem_of_getElem? (i := 901) (by decide +kernel), List.mem_of_getElem? (i := 1249) (by decide +kernel), List.mem_of_getElem? (i := 1250) (by decide +kernel)⟩
theorem lw_p106 : lw_okq (⟨"HackneyStandsModel", "standOf", "(I)I"⟩, 81) := ⟨⟨by decide +kernel, by decide +kernel⟩, List.mem_of_getElem? (i := 901) (by decide +kernel), List.mem_of_getElem? (i := 1253) (by decide +kernel), List.mem_of_getElem? (i := 1254) (by decide +kernel)⟩
theorem lw_p107 : lw_okq (⟨"HackneyStandsModel", "leaveRow", "(I)V"⟩, 81) := ⟨⟨by decide +kernel, by decide +kernel⟩, List.mem_of_getElem? (i := 901) (by decide +kernel), List.mem_of_getElem? (i := 1257) (by decide +kernel), List.mem_of_getElem? (i := 1258) (by decide +kernel)⟩
theorem lw_p108 : lw_okq (⟨"HackneyStandsModel", "arrive", "(I)V"⟩, 81) := ⟨⟨by decide +kernel, by decide +kernel⟩, List.mem_of_getElem? (i := 901) (by decide +kernel), List.mem_of_getElem? (i := 1264) (by decide +kernel), List.mem_of_getElem? (i := 1265) (by decide +kernel)⟩
theorem lw_p109 : lw_okq (⟨"HackneyStandsModel", "tripsOf", "(IZ)I"⟩, 81) := ⟨⟨by decide +kernel, by decide +kernel⟩, List.mem_of_getElem? (i := 901) (by decide +kernel), List.mem_of_getElem? (i := 1272) (by decide +kernel), List.mem_of_getElem? (i := 1273) (by decide +kernel)⟩
theorem lw_p110 : lw_okq (⟨"HackneyStandsModel", "dueOf", "(II)I"⟩, 81) := ⟨⟨by decide +kernel, by decide +kernel⟩, List.mem_of_getElem? (i := 901) (by decide +kernel), List.mem_of_getElem? (i := 1276) (by decide +kernel), List.mem_of_getElem? (i := 1277) (by decide +kernel)⟩
theorem lw_p111 : lw_okq (⟨"HackneyStandsModel", "nameTrip", "(I)V"⟩, 81) := ⟨⟨by decide +kernel, by decide +kernel⟩, List.mem_of_getElem? (i := 901) (by decide +kernel), List.mem_of_getElem? (i := 1280) (by decide +kernel), List.mem_of_getElem? (i := 1281) (by decide +kernel)⟩
def lw_privs_7 : List (MethodName × Nat) := [(⟨"HackneyStandsModel", "isNight", "(I)Z"⟩, 81), (⟨"HackneyStandsModel", "yardsOf", "(III)I"⟩, 81), (⟨"HackneyStandsModel", "findFar", "(II)V"⟩, 81), (⟨"HackneyStandsModel", "isShut", "(II)Z"⟩, 81), (⟨"HackneyStandsModel", "come", "(III)Z"⟩, 81), (⟨"HackneyStandsModel", "findWay", "(III)V"⟩, 81), (⟨"HackneyStandsModel", "isCoach", "(I)Z"⟩, 81), (⟨"HackneyStandsModel", "holder", "(II)I"⟩, 81), (⟨"HackneyStandsModel", "today", "()I"⟩, 81), (⟨"HackneyStandsModel", "isStand", "(I)Z"⟩, 81), (⟨"HackneyStandsModel", "standOf", "(I)I"⟩, 81), (⟨"HackneyStandsModel", "leaveRow", "(I)V"⟩, 81), (⟨"HackneyStandsModel", "arrive", "(I)V"⟩, 81), (⟨"HackneyStandsModel", "tripsOf", "(IZ)I"⟩, 81), (⟨"HackneyStandsModel", "dueOf", "(II)I"⟩, 81), (⟨"HackneyStandsModel", "nameTrip", "(I)V"⟩, 81)]
theorem lw_r7 : ∀ q ∈ lw_privs_7, lw_okq q := List.forall_mem_cons.mpr ⟨lw_p96, List.forall_mem_cons.mpr ⟨lw_p97, List.forall_mem_cons.mpr ⟨lw_p98, List.forall_mem_cons.mpr ⟨lw_p99, List.forall_mem_cons.mpr ⟨lw_p100, List.forall_mem_cons.mpr ⟨lw_p101, List.forall_mem_cons.mpr ⟨lw_p102, List.forall_mem_cons.mpr ⟨lw_p103, List.forall_mem_cons.mpr ⟨lw_p104, List.forall_mem_cons.mpr ⟨lw_p105, List.forall_mem_cons.mpr ⟨lw_p106, List.forall_mem_cons.mpr ⟨lw_p107, List.forall_mem_cons.mpr ⟨lw_p108, List.forall_mem_cons.mpr ⟨lw_p109, List.forall_mem_cons.mpr ⟨lw_p110, List.forall_mem_cons.mpr ⟨lw_p111, fun _ h => absurd h List.not_mem_nil⟩⟩⟩⟩⟩⟩⟩⟩⟩⟩⟩⟩⟩⟩⟩⟩
theorem lw_p112 : lw_okq (⟨"HackneyStandsModel", "name", "(IIIIIIII)V"⟩, 81) := ⟨⟨by decide +kernel, by decide +kernel⟩, List.mem_of_getElem? (i := 901) (by decide +kernel), List.mem_of_getElem? (i := 1284) (by decide +kernel), List.mem_of_getElem? (i := 1285) (by decide +kernel)⟩
theorem lw_p113 : lw_okq (⟨"HackneyStandsModel", "force", "(III)I"⟩, 81) := ⟨⟨by decide +kernel, by decide +kernel⟩, List.mem_of_getElem? (i := 901) (by decide +kernel), List.mem_of_getElem? (i := 1288) (by decide +kernel), List.mem_of_getElem? (i := 1289) (by decide +kernel)⟩
theorem lw_p114 : lw_okq (⟨"HackneyStandsModel", "fare", "(II)I"⟩, 81) := ⟨⟨by decide +kernel, by decide +kernel⟩, List.mem_of_getElem? (i := 901) (by decide +kernel), List.mem_of_getElem? (i := 1292) (by decide +kernel), List.mem_of_getElem? (i := 1293) (by decide +kernel)⟩
theorem lw_p115 : lw_okq (⟨"HackneyStandsModel", "fareBy", "(I)I"⟩, 81) := ⟨⟨by decide +kernel, by decide +kernel⟩, List.mem_of_getElem? (i := 901) (by decide +kernel), List.mem_of_getElem? (i := 1296) (by decide +kernel), List.mem_of_getElem? (i := 1297) (by decide +kernel)⟩
theorem lw_p116 : lw_okq (⟨"HackneyStandsModel", "workOut", "(II)I"⟩, 81) := ⟨⟨by decide +kernel, by decide +kernel⟩, List.mem_of_getElem? (i := 901) (by decide +kernel), List.mem_of_getElem? (i := 1300) (by decide +kernel), List.mem_of_getElem? (i := 1301) (by decide +kernel)⟩
theorem lw_p117 : lw_okq (⟨"HackneyStandsModel", "chosen", "(I)I"⟩, 81) := ⟨⟨by decide +kernel, by decide +kernel⟩, List.mem_of_getElem? (i := 901) (by decide +kernel), List.mem_of_getElem? (i := 1304) (by decide +kernel), List.mem_of_getElem? (i := 1305) (by decide +kernel)⟩
theorem lw_p118 : lw_okq (⟨"HackneyStandsModel", "compared", "(I)I"⟩, 81) := ⟨⟨by decide +kernel, by decide +kernel⟩, List.mem_of_getElem? (i := 901) (by decide +kernel), List.mem_of_getElem? (i := 1308) (by decide +kernel), List.mem_of_getElem? (i := 1309) (by decide +kernel)⟩
theorem lw_p119 : lw_okq (⟨"HackneyStandsModel", "sum", "(I)I"⟩, 81) := ⟨⟨by decide +kernel, by decide +kernel⟩, List.mem_of_getElem? (i := 901) (by decide +kernel), List.mem_of_getElem? (i := 1312) (by decide +kernel), List.mem_of_getElem? (i := 1313) (by decide +kernel)⟩
theorem lw_p120 : lw_okq (⟨"HackneyStandsModel", "product", "(I)I"⟩, 81) := ⟨⟨by decide +kernel, by decide +kernel⟩, List.mem_of_getElem? (i := 901) (by decide +kernel), List.mem_of_getElem? (i := 1316) (by decide +kernel), List.mem_of_getElem? (i := 1317) (by decide +kernel)⟩
theorem lw_p121 : lw_okq (⟨"HackneyStandsModel", "one", "(I)I"⟩, 81) := ⟨⟨by decide +kernel, by decide +kernel⟩, List.mem_of_getElem? (i := 901) (by decide +kernel), List.mem_of_getElem? (i := 1320) (by decide +kernel), List.mem_of_getElem? (i := 1321) (by decide +kernel)⟩
theorem lw_p122 : lw_okq (⟨"HackneyStandsModel", "byteAt", "(I)I"⟩, 81) := ⟨⟨by decide +kernel, by decide +kernel⟩, List.mem_of_getElem? (i := 901) (by decide +kernel), List.mem_of_getElem? (i := 1324) (by decide +kernel), List.mem_of_getElem? (i := 1325) (by decide +kernel)⟩
theorem lw_p123 : lw_okq (⟨"HackneyStandsModel", "opens", "()Z"⟩, 81) := ⟨⟨by decide +kernel, by decide +kernel⟩, List.mem_of_getElem? (i := 901) (by decide +kernel), List.mem_of_getElem? (i := 1328) (by decide +kernel), List.mem_of_getElem? (i := 1329) (by decide +kernel)⟩
theorem lw_p124 : lw_okq (⟨"HackneyStandsModel", "wrong", "()I"⟩, 81) := ⟨⟨by decide +kernel, by decide +kernel⟩, List.mem_of_getElem? (i := 901) (by decide +kernel), List.mem_of_getElem? (i := 1332) (by decide +kernel), List.mem_of_getElem? (i := 1333) (by decide +kernel)⟩
theorem lw_p125 : lw_okq (⟨"HackneyStandsModel", "mayBeCalled", "(III)Z"⟩, 81) := ⟨⟨by decide +kernel, by decide +kernel⟩, List.mem_of_getElem? (i := 901) (by decide +kernel), List.mem_of_getElem? (i := 1369) (by decide +kernel), List.mem_of_getElem? (i := 1370) (by decide +kernel)⟩
theorem lw_p126 : lw_okq (⟨"HackneyStandsModel", "whyNot", "(IIIIIII)I"⟩, 81) := ⟨⟨by decide +kernel, by decide +kernel⟩, List.mem_of_getElem? (i := 901) (by decide +kernel), List.mem_of_getElem? (i := 1376) (by decide +kernel), List.mem_of_getElem? (i := 1377) (by decide +kernel)⟩
theorem lw_p127 : lw_okq (⟨"HackneyStandsModel", "drive", "(IIIIIIII)V"⟩, 81) := ⟨⟨by decide +kernel, by decide +kernel⟩, List.mem_of_getElem? (i := 901) (by decide +kernel), List.mem_of_getElem? (i := 1380) (by decide +kernel), List.mem_of_getElem? (i := 1381) (by decide +kernel)⟩
def lw_privs_8 : List (MethodName × Nat) := [(⟨"HackneyStandsModel", "name", "(IIIIIIII)V"⟩, 81), (⟨"HackneyStandsModel", "force", "(III)I"⟩, 81), (⟨"HackneyStandsModel", "fare", "(II)I"⟩, 81), (⟨"HackneyStandsModel", "fareBy", "(I)I"⟩, 81), (⟨"HackneyStandsModel", "workOut", "(II)I"⟩, 81), (⟨"HackneyStandsModel", "chosen", "(I)I"⟩, 81), (⟨"HackneyStandsModel", "compared", "(I)I"⟩, 81), (⟨"HackneyStandsModel", "sum", "(I)I"⟩, 81), (⟨"HackneyStandsModel", "product", "(I)I"⟩, 81), (⟨"HackneyStandsModel", "one", "(I)I"⟩, 81), (⟨"HackneyStandsModel", "byteAt", "(I)I"⟩, 81), (⟨"HackneyStandsModel", "opens", "()Z"⟩, 81), (⟨"HackneyStandsModel", "wrong", "()I"⟩, 81), (⟨"HackneyStandsModel", "mayBeCalled", "(III)Z"⟩, 81), (⟨"HackneyStandsModel", "whyNot", "(IIIIIII)I"⟩, 81), (⟨"HackneyStandsModel", "drive", "(IIIIIIII)V"⟩, 81)]
theorem lw_r8 : ∀ q ∈ lw_privs_8, lw_okq q := List.forall_mem_cons.mpr ⟨lw_p112, List.forall_mem_cons.mpr ⟨lw_p113, List.forall_mem_cons.mpr ⟨lw_p114, List.forall_mem_cons.mpr ⟨lw_p115, List.forall_mem_cons.mpr ⟨lw_p116, List.forall_mem_cons.mpr ⟨lw_p117, List.forall_mem_cons.mpr ⟨lw_p118, List.forall_mem_cons.mpr ⟨lw_p119, List.forall_mem_cons.mpr ⟨lw_p120, List.forall_mem_cons.mpr ⟨lw_p121, List.forall_mem_cons.mpr ⟨lw_p122, List.forall_mem_cons.mpr ⟨lw_p123, List.forall_mem_cons.mpr ⟨lw_p124, List.forall_mem_cons.mpr ⟨lw_p125, List.forall_mem_cons.mpr ⟨lw_p126, List.forall_mem_cons.mpr ⟨lw_p127, fun _ h => absurd h List.not_mem_nil⟩⟩⟩⟩⟩⟩⟩⟩⟩⟩⟩⟩⟩⟩⟩⟩
theorem lw_p128 : lw_okq (⟨"HackneyStandsModel", "note", "(III)V"⟩, 81) := ⟨⟨by decide +kernel, by decide +kernel⟩, List.mem_of_getElem? (i := 901) (by decide +kernel), List.mem_of_getElem? (i := 1384) (by decide +kernel), List.mem_of_getElem? (i := 1385) (by decide +kernel)⟩
theorem lw_p129 : lw_okq (⟨"HackneyStandsModel", "oneMinute", "()V"⟩, 81) := ⟨⟨by decide +kernel, by decide +kernel⟩, List.mem_of_getElem? (i := 901) (by decide +kernel), List.mem_of_getElem? (i := 1396) (by decide +kernel), List.mem_of_getElem? (i := 1397) (by decide +kernel)⟩
theorem lw_p130 : lw_okq (⟨"HackneyStandsModel", "isTrip", "(I)Z"⟩, 81) := ⟨⟨by decide +kernel, by decide +kernel⟩, List.mem_of_getElem? (i := 901) (by decide +kernel), List.mem_of_getElem? (i := 1404) (by decide +kernel), List.mem_of_getElem? (i := 1405) (by decide +kernel)⟩
theorem lw_p131 : lw_okq (⟨"HackneyStandsModel", "areLike", "(II)Z"⟩, 81) := ⟨⟨by decide +kernel, by decide +kernel⟩, List.mem_of_getElem? (i := 901) (by decide +kernel), List.mem_of_getElem? (i := 1424) (by decide +kernel), List.mem_of_getElem? (i := 1425) (by decide +kernel)⟩
theorem lw_p132 : lw_okq (⟨"HackneyStandsModel", "over", "(I)I"⟩, 81) := ⟨⟨by decide +kernel, by decide +kernel⟩, List.mem_of_getElem? (i := 901) (by decide +kernel), List.mem_of_getElem? (i := 1428) (by decide +kernel), List.mem_of_getElem? (i := 1429) (by decide +kernel)⟩
theorem lw_p133 : lw_okq (⟨"HackneyStandsModel", "fit", "(II)Z"⟩, 81) := ⟨⟨by decide +kernel, by decide +kernel⟩, List.mem_of_getElem? (i := 901) (by decide +kernel), List.mem_of_getElem? (i := 1444) (by decide +kernel), List.mem_of_getElem? (i := 1445) (by decide +kernel)⟩
theorem lw_p134 : lw_okq (⟨"HackneyStandsModel", "fitsPlate", "(II)Z"⟩, 81) := ⟨⟨by decide +kernel, by decide +kernel⟩, List.mem_of_getElem? (i := 901) (by decide +kernel), List.mem_of_getElem? (i := 1448) (by decide +kernel), List.mem_of_getElem? (i := 1449) (by decide +kernel)⟩
theorem lw_p135 : lw_okq (⟨"HackneyStandsModel", "isFareLaw", "(II)Z"⟩, 81) := ⟨⟨by decide +kernel, by decide +kernel⟩, List.mem_of_getElem? (i := 901) (by decide +kernel), List.mem_of_getElem? (i := 1461) (by decide +kernel), List.mem_of_getElem? (i := 1462) (by decide +kernel)⟩
def lw_privs_9 : List (MethodName × Nat) := [(⟨"HackneyStandsModel", "note", "(III)V"⟩, 81), (⟨"HackneyStandsModel", "oneMinute", "()V"⟩, 81), (⟨"HackneyStandsModel", "isTrip", "(I)Z"⟩, 81), (⟨"HackneyStandsModel", "areLike", "(II)Z"⟩, 81), (⟨"HackneyStandsModel", "over", "(I)I"⟩, 81), (⟨"HackneyStandsModel", "fit", "(II)Z"⟩, 81), (⟨"HackneyStandsModel", "fitsPlate", "(II)Z"⟩, 81), (⟨"HackneyStandsModel", "isFareLaw", "(II)Z"⟩, 81)]
theorem lw_r9 : ∀ q ∈ lw_privs_9, lw_okq q := List.forall_mem_cons.mpr ⟨lw_p128, List.forall_mem_cons.mpr ⟨lw_p129, List.forall_mem_cons.mpr ⟨lw_p130, List.forall_mem_cons.mpr ⟨lw_p131, List.forall_mem_cons.mpr ⟨lw_p132, List.forall_mem_cons.mpr ⟨lw_p133, List.forall_mem_cons.mpr ⟨lw_p134, List.forall_mem_cons.mpr ⟨lw_p135, fun _ h => absurd h List.not_mem_nil⟩⟩⟩⟩⟩⟩⟩⟩
def lw_privs : List (MethodName × Nat) := lw_privs_1 ++ (lw_privs_2 ++ (lw_privs_3 ++ (lw_privs_4 ++ (lw_privs_5 ++ (lw_privs_6 ++ (lw_privs_7 ++ (lw_privs_8 ++ (lw_privs_9))))))))
def lw_tbl : List Cond := k2_sels lw_privs ++ tables_1
theorem lw_privs_ok : ∀ q ∈ lw_privs, lw_okq q := by
  show ∀ q ∈ lw_privs_1 ++ (lw_privs_2 ++ (lw_privs_3 ++ (lw_privs_4 ++ (lw_privs_5 ++ (lw_privs_6 ++ (lw_privs_7 ++ (lw_privs_8 ++ (lw_privs_9)))))))), lw_okq q
  exact List.forall_mem_append.mpr ⟨lw_r1, List.forall_mem_append.mpr ⟨lw_r2, List.forall_mem_append.mpr ⟨lw_r3, List.forall_mem_append.mpr ⟨lw_r4, List.forall_mem_append.mpr ⟨lw_r5, List.forall_mem_append.mpr ⟨lw_r6, List.forall_mem_append.mpr ⟨lw_r7, List.forall_mem_append.mpr ⟨lw_r8, lw_r9⟩⟩⟩⟩⟩⟩⟩⟩

def RX0 : String := "HackneyStands$City"
def TX0 : u_T := fun k => match k with
  | 0 => ("HackneyStands$City", "corners", "I", false)
  | 1 => ("HackneyStands$City", "streets", "LHackneyStands$Table;", true)
  | 2 => ("HackneyStands$City", "rise", "[I", true)
  | 3 => ("HackneyStands$City", "set", "[I", true)
  | 4 => ("HackneyStands$City", "costs", "[I", true)
  | 5 => ("HackneyStands$City", "steps", "[I", true)
  | _ => ("HackneyStands$City", "stepCount", "I", false)
def tyX0 : Nat → FieldType := fun k => match k with
  | 0 => .int
  | 1 => .object "HackneyStands$Table"
  | 2 => .array .int
  | 3 => .array .int
  | 4 => .array .int
  | 5 => .array .int
  | _ => .int
abbrev wsX00 : List Cond := u_ws RX0 TX0 7
theorem nmX0 : ∀ a, a < 7 → ∀ b, b < 7 → a ≠ b → (TX0 a).2.1 ≠ (TX0 b).2.1 := by decide +kernel
theorem tyX0_ok : ∀ k, k < 7 → parseFieldDescriptor (TX0 k).2.2.1 = some (tyX0 k) := by decide +kernel
abbrev cX0_init : ByteArray := prog_2_method_1_code
def yX0_init : MethodName := ⟨RX0, "<init>", "()V"⟩
abbrev cX0_isCorner : ByteArray := prog_2_method_2_code
def yX0_isCorner : MethodName := ⟨RX0, "isCorner", "(I)Z"⟩
abbrev cX0_addCorner : ByteArray := prog_2_method_3_code
def yX0_addCorner : MethodName := ⟨RX0, "addCorner", "()I"⟩
abbrev cX0_addStreet : ByteArray := prog_2_method_4_code
def yX0_addStreet : MethodName := ⟨RX0, "addStreet", "(IIII)I"⟩
abbrev cX0_addSpan : ByteArray := prog_2_method_5_code
def yX0_addSpan : MethodName := ⟨RX0, "addSpan", "(III)I"⟩
abbrev cX0_tellSun : ByteArray := prog_2_method_6_code
def yX0_tellSun : MethodName := ⟨RX0, "tellSun", "(III)V"⟩
abbrev cX0_nightIn : ByteArray := prog_2_method_7_code
def yX0_nightIn : MethodName := ⟨RX0, "nightIn", "(I)I"⟩
abbrev cX0_isShut : ByteArray := prog_2_method_8_code
def yX0_isShut : MethodName := ⟨RX0, "isShut", "(II)Z"⟩
abbrev cX0_isOpen : ByteArray := prog_2_method_9_code
def yX0_isOpen : MethodName := ⟨RX0, "isOpen", "(I)Z"⟩
abbrev cX0_costFrom : ByteArray := prog_2_method_10_code
def yX0_costFrom : MethodName := ⟨RX0, "costFrom", "(I)I"⟩
abbrev cX0_measure : ByteArray := prog_2_method_11_code
def yX0_measure : MethodName := ⟨RX0, "measure", "(II)V"⟩
abbrev cX0_lowerAll : ByteArray := prog_2_method_12_code
def yX0_lowerAll : MethodName := ⟨RX0, "lowerAll", "()Z"⟩
abbrev cX0_lower : ByteArray := prog_2_method_13_code
def yX0_lower : MethodName := ⟨RX0, "lower", "(II)Z"⟩
abbrev cX0_yardsFrom : ByteArray := prog_2_method_14_code
def yX0_yardsFrom : MethodName := ⟨RX0, "yardsFrom", "(I)I"⟩
abbrev cX0_badFrom : ByteArray := prog_2_method_15_code
def yX0_badFrom : MethodName := ⟨RX0, "badFrom", "(I)I"⟩
abbrev cX0_keepSteps : ByteArray := prog_2_method_16_code
def yX0_keepSteps : MethodName := ⟨RX0, "keepSteps", "(II)V"⟩
abbrev cX0_leastNext : ByteArray := prog_2_method_17_code
def yX0_leastNext : MethodName := ⟨RX0, "leastNext", "(I)I"⟩
abbrev cX0_stepAt : ByteArray := prog_2_method_18_code
def yX0_stepAt : MethodName := ⟨RX0, "stepAt", "(I)I"⟩
def RX1 : String := "HackneyStands$Complaints"
def TX1 : u_T := fun k => match k with
  | _ => ("HackneyStands$Complaints", "made", "LHackneyStands$Table;", true)
def tyX1 : Nat → FieldType := fun k => match k with
  | _ => .object "HackneyStands$Table"
abbrev wsX10 : List Cond := u_ws RX1 TX1 1
theorem nmX1 : ∀ a, a < 1 → ∀ b, b < 1 → a ≠ b → (TX1 a).2.1 ≠ (TX1 b).2.1 := by decide +kernel
theorem tyX1_ok : ∀ k, k < 1 → parseFieldDescriptor (TX1 k).2.2.1 = some (tyX1 k) := by decide +kernel
abbrev cX1_init : ByteArray := prog_3_method_1_code
def yX1_init : MethodName := ⟨RX1, "<init>", "()V"⟩
abbrev cX1_isOf : ByteArray := prog_3_method_2_code
def yX1_isOf : MethodName := ⟨RX1, "isOf", "(I)Z"⟩
abbrev cX1_addComplaint : ByteArray := prog_3_method_3_code
def yX1_addComplaint : MethodName := ⟨RX1, "addComplaint", "(II)I"⟩
def RX2 : String := "HackneyStands$Fleet"
def TX2 : u_T := fun k => match k with
  | 0 => ("HackneyStands$Fleet", "coaches", "LHackneyStands$Table;", true)
  | 1 => ("HackneyStands$Fleet", "licences", "LHackneyStands$Table;", true)
  | _ => ("HackneyStands$Fleet", "stands", "LHackneyStands$Table;", true)
def tyX2 : Nat → FieldType := fun k => match k with
  | 0 => .object "HackneyStands$Table"
  | 1 => .object "HackneyStands$Table"
  | _ => .object "HackneyStands$Table"
abbrev wsX20 : List Cond := u_ws RX2 TX2 3
theorem nmX2 : ∀ a, a < 3 → ∀ b, b < 3 → a ≠ b → (TX2 a).2.1 ≠ (TX2 b).2.1 := by decide +kernel
theorem tyX2_ok : ∀ k, k < 3 → parseFieldDescriptor (TX2 k).2.2.1 = some (tyX2 k) := by decide +kernel
abbrev cX2_init : ByteArray := prog_4_method_1_code
def yX2_init : MethodName := ⟨RX2, "<init>", "()V"⟩
abbrev cX2_hasPlate : ByteArray := prog_4_method_2_code
def yX2_hasPlate : MethodName := ⟨RX2, "hasPlate", "(I)Z"⟩
abbrev cX2_addCoach : ByteArray := prog_4_method_3_code
def yX2_addCoach : MethodName := ⟨RX2, "addCoach", "(II)I"⟩
abbrev cX2_holderOf : ByteArray := prog_4_method_4_code
def yX2_holderOf : MethodName := ⟨RX2, "holderOf", "(II)I"⟩
abbrev cX2_addLicence : ByteArray := prog_4_method_5_code
def yX2_addLicence : MethodName := ⟨RX2, "addLicence", "(III)I"⟩
abbrev cX2_addStand : ByteArray := prog_4_method_6_code
def yX2_addStand : MethodName := ⟨RX2, "addStand", "(II)I"⟩
abbrev cX2_isMoving : ByteArray := prog_4_method_7_code
def yX2_isMoving : MethodName := ⟨RX2, "isMoving", "(I)Z"⟩
abbrev cX2_isStanding : ByteArray := prog_4_method_8_code
def yX2_isStanding : MethodName := ⟨RX2, "isStanding", "(I)Z"⟩
abbrev cX2_isStandingAt : ByteArray := prog_4_method_9_code
def yX2_isStandingAt : MethodName := ⟨RX2, "isStandingAt", "(II)Z"⟩
abbrev cX2_rowLength : ByteArray := prog_4_method_10_code
def yX2_rowLength : MethodName := ⟨RX2, "rowLength", "(I)I"⟩
abbrev cX2_coachInRow : ByteArray := prog_4_method_11_code
def yX2_coachInRow : MethodName := ⟨RX2, "coachInRow", "(II)I"⟩
abbrev cX2_leaveRow : ByteArray := prog_4_method_12_code
def yX2_leaveRow : MethodName := ⟨RX2, "leaveRow", "(I)V"⟩
abbrev cX2_setOut : ByteArray := prog_4_method_13_code
def yX2_setOut : MethodName := ⟨RX2, "setOut", "(IIIII)V"⟩
abbrev cX2_settle : ByteArray := prog_4_method_14_code
def yX2_settle : MethodName := ⟨RX2, "settle", "(III)V"⟩
abbrev cX2_arrive : ByteArray := prog_4_method_15_code
def yX2_arrive : MethodName := ⟨RX2, "arrive", "(I)V"⟩
abbrev cX2_nextToArrive : ByteArray := prog_4_method_16_code
def yX2_nextToArrive : MethodName := ⟨RX2, "nextToArrive", "(I)I"⟩
abbrev cX2_spend : ByteArray := prog_4_method_17_code
def yX2_spend : MethodName := ⟨RX2, "spend", "(I)V"⟩
abbrev cX2_gainOf : ByteArray := prog_4_method_18_code
def yX2_gainOf : MethodName := ⟨RX2, "gainOf", "(I)I"⟩
def RX3 : String := "HackneyStands$Law"
def TX3 : u_T := fun k => match k with
  | 0 => ("HackneyStands$Law", "kind", "I", true)
  | 1 => ("HackneyStands$Law", "from", "I", true)
  | 2 => ("HackneyStands$Law", "made", "I", true)
  | _ => ("HackneyStands$Law", "commands", "[I", true)
def tyX3 : Nat → FieldType := fun k => match k with
  | 0 => .int
  | 1 => .int
  | 2 => .int
  | _ => .array .int
abbrev wsX30 : List Cond := u_ws RX3 TX3 4
theorem nmX3 : ∀ a, a < 4 → ∀ b, b < 4 → a ≠ b → (TX3 a).2.1 ≠ (TX3 b).2.1 := by decide +kernel
theorem tyX3_ok : ∀ k, k < 4 → parseFieldDescriptor (TX3 k).2.2.1 = some (tyX3 k) := by decide +kernel
abbrev cX3_init : ByteArray := prog_5_method_1_code
def yX3_init : MethodName := ⟨RX3, "<init>", "(III[I)V"⟩
abbrev cX3_worth : ByteArray := prog_5_method_2_code
def yX3_worth : MethodName := ⟨RX3, "worth", "([I[I)I"⟩
abbrev cX3_nameAt : ByteArray := prog_5_method_3_code
def yX3_nameAt : MethodName := ⟨RX3, "nameAt", "([II)I"⟩
abbrev cX3_reckoned : ByteArray := prog_5_method_4_code
def yX3_reckoned : MethodName := ⟨RX3, "reckoned", "(III)I"⟩
def RX4 : String := "HackneyStands$LawBook"
def TX4 : u_T := fun k => match k with
  | 0 => ("HackneyStands$LawBook", "reader", "LHackneyStands$LawReader;", true)
  | 1 => ("HackneyStands$LawBook", "laws", "[LHackneyStands$Law;", true)
  | 2 => ("HackneyStands$LawBook", "lawCount", "I", false)
  | 3 => ("HackneyStands$LawBook", "names", "[I", true)
  | _ => ("HackneyStands$LawBook", "stack", "[I", true)
def tyX4 : Nat → FieldType := fun k => match k with
  | 0 => .object "HackneyStands$LawReader"
  | 1 => .array (.object "HackneyStands$Law")
  | 2 => .int
  | 3 => .array .int
  | _ => .array .int
abbrev wsX40 : List Cond := u_ws RX4 TX4 5
theorem nmX4 : ∀ a, a < 5 → ∀ b, b < 5 → a ≠ b → (TX4 a).2.1 ≠ (TX4 b).2.1 := by decide +kernel
theorem tyX4_ok : ∀ k, k < 5 → parseFieldDescriptor (TX4 k).2.2.1 = some (tyX4 k) := by decide +kernel
abbrev cX4_init : ByteArray := prog_6_method_1_code
def yX4_init : MethodName := ⟨RX4, "<init>", "()V"⟩
abbrev cX4_nameOf : ByteArray := prog_6_method_2_code
def yX4_nameOf : MethodName := ⟨RX4, "nameOf", "(I)I"⟩
abbrev cX4_makeLaw : ByteArray := prog_6_method_3_code
def yX4_makeLaw : MethodName := ⟨RX4, "makeLaw", "(III)I"⟩
abbrev cX4_lawAt : ByteArray := prog_6_method_4_code
def yX4_lawAt : MethodName := ⟨RX4, "lawAt", "(I)LHackneyStands$Law;"⟩
abbrev cX4_isOfKind : ByteArray := prog_6_method_5_code
def yX4_isOfKind : MethodName := ⟨RX4, "isOfKind", "(II)Z"⟩
abbrev cX4_lawInForce : ByteArray := prog_6_method_6_code
def yX4_lawInForce : MethodName := ⟨RX4, "lawInForce", "(III)I"⟩
abbrev cX4_tellRide : ByteArray := prog_6_method_7_code
def yX4_tellRide : MethodName := ⟨RX4, "tellRide", "(III)V"⟩
abbrev cX4_tellTime : ByteArray := prog_6_method_8_code
def yX4_tellTime : MethodName := ⟨RX4, "tellTime", "(III)V"⟩
abbrev cX4_tellLoad : ByteArray := prog_6_method_9_code
def yX4_tellLoad : MethodName := ⟨RX4, "tellLoad", "(III)V"⟩
abbrev cX4_worthOf : ByteArray := prog_6_method_10_code
def yX4_worthOf : MethodName := ⟨RX4, "worthOf", "(I)I"⟩
abbrev cX4_fareBy : ByteArray := prog_6_method_11_code
def yX4_fareBy : MethodName := ⟨RX4, "fareBy", "(I)I"⟩
abbrev cX4_lesserFare : ByteArray := prog_6_method_12_code
def yX4_lesserFare : MethodName := ⟨RX4, "lesserFare", "(II)I"⟩
def RX5 : String := "HackneyStands$LawReader"
def TX5 : u_T := fun k => match k with
  | 0 => ("HackneyStands$LawReader", "tape", "[I", true)
  | 1 => ("HackneyStands$LawReader", "commands", "[I", true)
  | 2 => ("HackneyStands$LawReader", "length", "I", false)
  | 3 => ("HackneyStands$LawReader", "place", "I", false)
  | _ => ("HackneyStands$LawReader", "commandCount", "I", false)
def tyX5 : Nat → FieldType := fun k => match k with
  | 0 => .array .int
  | 1 => .array .int
  | 2 => .int
  | 3 => .int
  | _ => .int
abbrev wsX50 : List Cond := u_ws RX5 TX5 5
theorem nmX5 : ∀ a, a < 5 → ∀ b, b < 5 → a ≠ b → (TX5 a).2.1 ≠ (TX5 b).2.1 := by decide +kernel
theorem tyX5_ok : ∀ k, k < 5 → parseFieldDescriptor (TX5 k).2.2.1 = some (tyX5 k) := by decide +kernel
abbrev cX5_init : ByteArray := prog_7_method_1_code
def yX5_init : MethodName := ⟨RX5, "<init>", "()V"⟩
abbrev cX5_addBytes : ByteArray := prog_7_method_2_code
def yX5_addBytes : MethodName := ⟨RX5, "addBytes", "(II)I"⟩
abbrev cX5_isLaw : ByteArray := prog_7_method_3_code
def yX5_isLaw : MethodName := ⟨RX5, "isLaw", "()Z"⟩
abbrev cX5_sign : ByteArray := prog_7_method_4_code
def yX5_sign : MethodName := ⟨RX5, "sign", "()I"⟩
abbrev cX5_put : ByteArray := prog_7_method_5_code
def yX5_put : MethodName := ⟨RX5, "put", "(II)I"⟩
abbrev cX5_aimHere : ByteArray := prog_7_method_6_code
def yX5_aimHere : MethodName := ⟨RX5, "aimHere", "(I)V"⟩
abbrev cX5_readE : ByteArray := prog_7_method_7_code
def yX5_readE : MethodName := ⟨RX5, "readE", "(I)Z"⟩
abbrev cX5_readC : ByteArray := prog_7_method_8_code
def yX5_readC : MethodName := ⟨RX5, "readC", "(I)Z"⟩
abbrev cX5_readS : ByteArray := prog_7_method_9_code
def yX5_readS : MethodName := ⟨RX5, "readS", "(I)Z"⟩
abbrev cX5_readP : ByteArray := prog_7_method_10_code
def yX5_readP : MethodName := ⟨RX5, "readP", "(I)Z"⟩
abbrev cX5_readO : ByteArray := prog_7_method_11_code
def yX5_readO : MethodName := ⟨RX5, "readO", "(I)Z"⟩
abbrev cX5_readBraced : ByteArray := prog_7_method_12_code
def yX5_readBraced : MethodName := ⟨RX5, "readBraced", "(I)Z"⟩
abbrev cX5_isDigit : ByteArray := prog_7_method_13_code
def yX5_isDigit : MethodName := ⟨RX5, "isDigit", "(I)Z"⟩
abbrev cX5_readNumber : ByteArray := prog_7_method_14_code
def yX5_readNumber : MethodName := ⟨RX5, "readNumber", "()Z"⟩
def RX6 : String := "HackneyStands$Table"
def TX6 : u_T := fun k => match k with
  | 0 => ("HackneyStands$Table", "limit", "I", true)
  | 1 => ("HackneyStands$Table", "width", "I", true)
  | 2 => ("HackneyStands$Table", "cells", "[I", true)
  | _ => ("HackneyStands$Table", "rows", "I", false)
def tyX6 : Nat → FieldType := fun k => match k with
  | 0 => .int
  | 1 => .int
  | 2 => .array .int
  | _ => .int
abbrev wsX60 : List Cond := u_ws RX6 TX6 4
theorem nmX6 : ∀ a, a < 4 → ∀ b, b < 4 → a ≠ b → (TX6 a).2.1 ≠ (TX6 b).2.1 := by decide +kernel
theorem tyX6_ok : ∀ k, k < 4 → parseFieldDescriptor (TX6 k).2.2.1 = some (tyX6 k) := by decide +kernel
abbrev cX6_init : ByteArray := prog_8_method_1_code
def yX6_init : MethodName := ⟨RX6, "<init>", "(II)V"⟩
abbrev cX6_has : ByteArray := prog_8_method_2_code
def yX6_has : MethodName := ⟨RX6, "has", "(I)Z"⟩
abbrev cX6_isFull : ByteArray := prog_8_method_3_code
def yX6_isFull : MethodName := ⟨RX6, "isFull", "()Z"⟩
abbrev cX6_isCell : ByteArray := prog_8_method_4_code
def yX6_isCell : MethodName := ⟨RX6, "isCell", "(II)Z"⟩
abbrev cX6_add : ByteArray := prog_8_method_5_code
def yX6_add : MethodName := ⟨RX6, "add", "()I"⟩
abbrev cX6_get : ByteArray := prog_8_method_6_code
def yX6_get : MethodName := ⟨RX6, "get", "(II)I"⟩
abbrev cX6_set : ByteArray := prog_8_method_7_code
def yX6_set : MethodName := ⟨RX6, "set", "(III)V"⟩
def RX7 : String := "HackneyStands$Things"
def TX7 : u_T := fun k => match k with
  | 0 => ("HackneyStands$Things", "losses", "LHackneyStands$Table;", true)
  | _ => ("HackneyStands$Things", "finds", "LHackneyStands$Table;", true)
def tyX7 : Nat → FieldType := fun k => match k with
  | 0 => .object "HackneyStands$Table"
  | _ => .object "HackneyStands$Table"
abbrev wsX70 : List Cond := u_ws RX7 TX7 2
theorem nmX7 : ∀ a, a < 2 → ∀ b, b < 2 → a ≠ b → (TX7 a).2.1 ≠ (TX7 b).2.1 := by decide +kernel
theorem tyX7_ok : ∀ k, k < 2 → parseFieldDescriptor (TX7 k).2.2.1 = some (tyX7 k) := by decide +kernel
abbrev cX7_init : ByteArray := prog_9_method_1_code
def yX7_init : MethodName := ⟨RX7, "<init>", "()V"⟩
abbrev cX7_addLost : ByteArray := prog_9_method_2_code
def yX7_addLost : MethodName := ⟨RX7, "addLost", "(IIII)I"⟩
abbrev cX7_addFound : ByteArray := prog_9_method_3_code
def yX7_addFound : MethodName := ⟨RX7, "addFound", "(III)I"⟩
abbrev cX7_isPlate : ByteArray := prog_9_method_4_code
def yX7_isPlate : MethodName := ⟨RX7, "isPlate", "(II)Z"⟩
def RX8 : String := "HackneyStands$Trips"
def TX8 : u_T := fun k => match k with
  | 0 => ("HackneyStands$Trips", "kept", "LHackneyStands$Table;", true)
  | 1 => ("HackneyStands$Trips", "draft", "LHackneyStands$Table;", true)
  | _ => ("HackneyStands$Trips", "refusals", "LHackneyStands$Table;", true)
def tyX8 : Nat → FieldType := fun k => match k with
  | 0 => .object "HackneyStands$Table"
  | 1 => .object "HackneyStands$Table"
  | _ => .object "HackneyStands$Table"
abbrev wsX80 : List Cond := u_ws RX8 TX8 3
theorem nmX8 : ∀ a, a < 3 → ∀ b, b < 3 → a ≠ b → (TX8 a).2.1 ≠ (TX8 b).2.1 := by decide +kernel
theorem tyX8_ok : ∀ k, k < 3 → parseFieldDescriptor (TX8 k).2.2.1 = some (tyX8 k) := by decide +kernel
abbrev cX8_init : ByteArray := prog_10_method_1_code
def yX8_init : MethodName := ⟨RX8, "<init>", "()V"⟩
abbrev cX8_draftCoach : ByteArray := prog_10_method_2_code
def yX8_draftCoach : MethodName := ⟨RX8, "draftCoach", "(III)V"⟩
abbrev cX8_draftTimes : ByteArray := prog_10_method_3_code
def yX8_draftTimes : MethodName := ⟨RX8, "draftTimes", "(II)I"⟩
abbrev cX8_keepDraft : ByteArray := prog_10_method_4_code
def yX8_keepDraft : MethodName := ⟨RX8, "keepDraft", "()I"⟩
abbrev cX8_noteRefusal : ByteArray := prog_10_method_5_code
def yX8_noteRefusal : MethodName := ⟨RX8, "noteRefusal", "()V"⟩
abbrev cX8_tripsOf : ByteArray := prog_10_method_6_code
def yX8_tripsOf : MethodName := ⟨RX8, "tripsOf", "(I)I"⟩
abbrev cX8_isSame : ByteArray := prog_10_method_7_code
def yX8_isSame : MethodName := ⟨RX8, "isSame", "(III)Z"⟩
abbrev cX8_wasOnTrip : ByteArray := prog_10_method_8_code
def yX8_wasOnTrip : MethodName := ⟨RX8, "wasOnTrip", "(III)Z"⟩
def RX9 : String := "HackneyStands"
def TX9 : u_T := fun k => match k with
  | 0 => ("HackneyStands", "now", "I", false)
  | 1 => ("HackneyStands", "city", "LHackneyStands$City;", true)
  | 2 => ("HackneyStands", "fleet", "LHackneyStands$Fleet;", true)
  | 3 => ("HackneyStands", "book", "LHackneyStands$LawBook;", true)
  | 4 => ("HackneyStands", "trips", "LHackneyStands$Trips;", true)
  | 5 => ("HackneyStands", "complaints", "LHackneyStands$Complaints;", true)
  | _ => ("HackneyStands", "things", "LHackneyStands$Things;", true)
def tyX9 : Nat → FieldType := fun k => match k with
  | 0 => .int
  | 1 => .object "HackneyStands$City"
  | 2 => .object "HackneyStands$Fleet"
  | 3 => .object "HackneyStands$LawBook"
  | 4 => .object "HackneyStands$Trips"
  | 5 => .object "HackneyStands$Complaints"
  | _ => .object "HackneyStands$Things"
abbrev wsX90 : List Cond := u_ws RX9 TX9 7
theorem nmX9 : ∀ a, a < 7 → ∀ b, b < 7 → a ≠ b → (TX9 a).2.1 ≠ (TX9 b).2.1 := by decide +kernel
theorem tyX9_ok : ∀ k, k < 7 → parseFieldDescriptor (TX9 k).2.2.1 = some (tyX9 k) := by decide +kernel
abbrev cX9_init : ByteArray := prog_1_method_1_code
def yX9_init : MethodName := ⟨RX9, "<init>", "()V"⟩
abbrev cX9_corner : ByteArray := prog_1_method_2_code
def yX9_corner : MethodName := ⟨RX9, "corner", "()I"⟩
abbrev cX9_street : ByteArray := prog_1_method_3_code
def yX9_street : MethodName := ⟨RX9, "street", "(III)I"⟩
abbrev cX9_shut : ByteArray := prog_1_method_4_code
def yX9_shut : MethodName := ⟨RX9, "shut", "(III)I"⟩
abbrev cX9_sun : ByteArray := prog_1_method_5_code
def yX9_sun : MethodName := ⟨RX9, "sun", "(III)I"⟩
abbrev cX9_way : ByteArray := prog_1_method_6_code
def yX9_way : MethodName := ⟨RX9, "way", "(III)I"⟩
abbrev cX9_step : ByteArray := prog_1_method_7_code
def yX9_step : MethodName := ⟨RX9, "step", "(I)I"⟩
abbrev cX9_night : ByteArray := prog_1_method_8_code
def yX9_night : MethodName := ⟨RX9, "night", "(I)I"⟩
abbrev cX9_coach : ByteArray := prog_1_method_9_code
def yX9_coach : MethodName := ⟨RX9, "coach", "(II)I"⟩
abbrev cX9_licence : ByteArray := prog_1_method_10_code
def yX9_licence : MethodName := ⟨RX9, "licence", "(III)I"⟩
abbrev cX9_look : ByteArray := prog_1_method_11_code
def yX9_look : MethodName := ⟨RX9, "look", "(II)I"⟩
abbrev cX9_stand : ByteArray := prog_1_method_12_code
def yX9_stand : MethodName := ⟨RX9, "stand", "(II)I"⟩
abbrev cX9_go : ByteArray := prog_1_method_13_code
def yX9_go : MethodName := ⟨RX9, "go", "(II)I"⟩
abbrev cX9_about : ByteArray := prog_1_method_14_code
def yX9_about : MethodName := ⟨RX9, "about", "(II)I"⟩
abbrev cX9_turn : ByteArray := prog_1_method_15_code
def yX9_turn : MethodName := ⟨RX9, "turn", "(II)I"⟩
abbrev cX9_feed : ByteArray := prog_1_method_16_code
def yX9_feed : MethodName := ⟨RX9, "feed", "(II)I"⟩
abbrev cX9_law : ByteArray := prog_1_method_17_code
def yX9_law : MethodName := ⟨RX9, "law", "(II)I"⟩
abbrev cX9_inForce : ByteArray := prog_1_method_18_code
def yX9_inForce : MethodName := ⟨RX9, "inForce", "(III)I"⟩
abbrev cX9_says : ByteArray := prog_1_method_19_code
def yX9_says : MethodName := ⟨RX9, "says", "(IIIII)I"⟩
abbrev cX9_call : ByteArray := prog_1_method_20_code
def yX9_call : MethodName := ⟨RX9, "call", "(III)I"⟩
abbrev cX9_why : ByteArray := prog_1_method_21_code
def yX9_why : MethodName := ⟨RX9, "why", "(IIII)I"⟩
abbrev cX9_minutes : ByteArray := prog_1_method_22_code
def yX9_minutes : MethodName := ⟨RX9, "minutes", "(I)I"⟩
abbrev cX9_trip : ByteArray := prog_1_method_23_code
def yX9_trip : MethodName := ⟨RX9, "trip", "(II)I"⟩
abbrev cX9_due : ByteArray := prog_1_method_24_code
def yX9_due : MethodName := ⟨RX9, "due", "(III)I"⟩
abbrev cX9_refusal : ByteArray := prog_1_method_25_code
def yX9_refusal : MethodName := ⟨RX9, "refusal", "(II)I"⟩
abbrev cX9_complain : ByteArray := prog_1_method_26_code
def yX9_complain : MethodName := ⟨RX9, "complain", "(II)I"⟩
abbrev cX9_judged : ByteArray := prog_1_method_27_code
def yX9_judged : MethodName := ⟨RX9, "judged", "(II)I"⟩
abbrev cX9_lost : ByteArray := prog_1_method_28_code
def yX9_lost : MethodName := ⟨RX9, "lost", "(IIII)I"⟩
abbrev cX9_found : ByteArray := prog_1_method_29_code
def yX9_found : MethodName := ⟨RX9, "found", "(II)I"⟩
abbrev cX9_joined : ByteArray := prog_1_method_30_code
def yX9_joined : MethodName := ⟨RX9, "joined", "(I)I"⟩
abbrev cX9_fits : ByteArray := prog_1_method_31_code
def yX9_fits : MethodName := ⟨RX9, "fits", "(I)I"⟩
abbrev cX9_tried : ByteArray := prog_1_method_32_code
def yX9_tried : MethodName := ⟨RX9, "tried", "(III)I"⟩
abbrev cX9_count : ByteArray := prog_1_method_33_code
def yX9_count : MethodName := ⟨RX9, "count", "(I)I"⟩
abbrev cX9_isMinute : ByteArray := prog_1_method_34_code
def yX9_isMinute : MethodName := ⟨RX9, "isMinute", "(I)Z"⟩
abbrev cX9_isDay : ByteArray := prog_1_method_35_code
def yX9_isDay : MethodName := ⟨RX9, "isDay", "(I)Z"⟩
abbrev cX9_timeOf : ByteArray := prog_1_method_36_code
def yX9_timeOf : MethodName := ⟨RX9, "timeOf", "(I)I"⟩
abbrev cX9_today : ByteArray := prog_1_method_37_code
def yX9_today : MethodName := ⟨RX9, "today", "()I"⟩
abbrev cX9_thisYear : ByteArray := prog_1_method_38_code
def yX9_thisYear : MethodName := ⟨RX9, "thisYear", "()I"⟩
abbrev cX9_dayOf : ByteArray := prog_1_method_39_code
def yX9_dayOf : MethodName := ⟨RX9, "dayOf", "(I)I"⟩
abbrev cX9_passTo : ByteArray := prog_1_method_40_code
def yX9_passTo : MethodName := ⟨RX9, "passTo", "(I)V"⟩
abbrev cX9_isLoad : ByteArray := prog_1_method_41_code
def yX9_isLoad : MethodName := ⟨RX9, "isLoad", "(II)Z"⟩
abbrev cX9_isOrder : ByteArray := prog_1_method_42_code
def yX9_isOrder : MethodName := ⟨RX9, "isOrder", "(III)Z"⟩
abbrev cX9_draftTrip : ByteArray := prog_1_method_43_code
def yX9_draftTrip : MethodName := ⟨RX9, "draftTrip", "(III)Z"⟩
abbrev cX9_yardsToCaller : ByteArray := prog_1_method_44_code
def yX9_yardsToCaller : MethodName := ⟨RX9, "yardsToCaller", "(I)I"⟩
abbrev cX9_standAskedAfter : ByteArray := prog_1_method_45_code
def yX9_standAskedAfter : MethodName := ⟨RX9, "standAskedAfter", "(I)I"⟩
abbrev cX9_isAskedAfter : ByteArray := prog_1_method_46_code
def yX9_isAskedAfter : MethodName := ⟨RX9, "isAskedAfter", "(II)Z"⟩
abbrev cX9_firstToCome : ByteArray := prog_1_method_47_code
def yX9_firstToCome : MethodName := ⟨RX9, "firstToCome", "(I)I"⟩
abbrev cX9_whyNot : ByteArray := prog_1_method_48_code
def yX9_whyNot : MethodName := ⟨RX9, "whyNot", "(II)I"⟩
abbrev cX9_sendToCaller : ByteArray := prog_1_method_49_code
def yX9_sendToCaller : MethodName := ⟨RX9, "sendToCaller", "(I)I"⟩
abbrev cX9_tellTrip : ByteArray := prog_1_method_50_code
def yX9_tellTrip : MethodName := ⟨RX9, "tellTrip", "(LHackneyStands$Table;I)V"⟩
abbrev cX9_fareDue : ByteArray := prog_1_method_51_code
def yX9_fareDue : MethodName := ⟨RX9, "fareDue", "(II)I"⟩
abbrev cX9_kindDue : ByteArray := prog_1_method_52_code
def yX9_kindDue : MethodName := ⟨RX9, "kindDue", "(II)I"⟩
abbrev cX9_earned : ByteArray := prog_1_method_53_code
def yX9_earned : MethodName := ⟨RX9, "earned", "(I)I"⟩
abbrev cX9_overpaid : ByteArray := prog_1_method_54_code
def yX9_overpaid : MethodName := ⟨RX9, "overpaid", "(I)I"⟩
abbrev cX9_isLike : ByteArray := prog_1_method_55_code
def yX9_isLike : MethodName := ⟨RX9, "isLike", "(II)Z"⟩
abbrev cX9_likeCases : ByteArray := prog_1_method_56_code
def yX9_likeCases : MethodName := ⟨RX9, "likeCases", "(IZ)I"⟩
abbrev cX9_latestLikeCase : ByteArray := prog_1_method_57_code
def yX9_latestLikeCase : MethodName := ⟨RX9, "latestLikeCase", "(I)I"⟩
abbrev cX9_isFitting : ByteArray := prog_1_method_58_code
def yX9_isFitting : MethodName := ⟨RX9, "isFitting", "(II)Z"⟩
abbrev cX9_onlyFoundFor : ByteArray := prog_1_method_59_code
def yX9_onlyFoundFor : MethodName := ⟨RX9, "onlyFoundFor", "(I)I"⟩
abbrev cX9_lossesFitting : ByteArray := prog_1_method_60_code
def yX9_lossesFitting : MethodName := ⟨RX9, "lossesFitting", "(I)I"⟩
def RX10 : String := "HackneyStandsModel"
def TX10 : u_T := fun k => match k with
  | 0 => ("HackneyStandsModel", "minute", "I", false)
  | 1 => ("HackneyStandsModel", "rise", "[I", true)
  | 2 => ("HackneyStandsModel", "set", "[I", true)
  | 3 => ("HackneyStandsModel", "corners", "I", false)
  | 4 => ("HackneyStandsModel", "from", "[I", true)
  | 5 => ("HackneyStandsModel", "to", "[I", true)
  | 6 => ("HackneyStandsModel", "yards", "[I", true)
  | 7 => ("HackneyStandsModel", "bad", "[I", true)
  | 8 => ("HackneyStandsModel", "shutFrom", "[I", true)
  | 9 => ("HackneyStandsModel", "shutTo", "[I", true)
  | 10 => ("HackneyStandsModel", "shuts", "[I", true)
  | 11 => ("HackneyStandsModel", "streets", "I", false)
  | 12 => ("HackneyStandsModel", "far", "[I", true)
  | 13 => ("HackneyStandsModel", "farBad", "[I", true)
  | 14 => ("HackneyStandsModel", "way", "[I", true)
  | 15 => ("HackneyStandsModel", "wayMany", "I", false)
  | 16 => ("HackneyStandsModel", "told", "[I", true)
  | 17 => ("HackneyStandsModel", "toldMany", "I", false)
  | 18 => ("HackneyStandsModel", "plate", "[I", true)
  | 19 => ("HackneyStandsModel", "home", "[I", true)
  | 20 => ("HackneyStandsModel", "strength", "[I", true)
  | 21 => ("HackneyStandsModel", "lookedAt", "[I", true)
  | 22 => ("HackneyStandsModel", "state", "[I", true)
  | 23 => ("HackneyStandsModel", "corner", "[I", true)
  | 24 => ("HackneyStandsModel", "thereAt", "[I", true)
  | 25 => ("HackneyStandsModel", "goesTo", "[I", true)
  | 26 => ("HackneyStandsModel", "coaches", "I", false)
  | 27 => ("HackneyStandsModel", "licenceCoach", "[I", true)
  | 28 => ("HackneyStandsModel", "licenceYear", "[I", true)
  | 29 => ("HackneyStandsModel", "licenceHolder", "[I", true)
  | 30 => ("HackneyStandsModel", "licences", "I", false)
  | 31 => ("HackneyStandsModel", "standCorner", "[I", true)
  | 32 => ("HackneyStandsModel", "places", "[I", true)
  | 33 => ("HackneyStandsModel", "row", "[I", true)
  | 34 => ("HackneyStandsModel", "rowMany", "[I", true)
  | 35 => ("HackneyStandsModel", "stands", "I", false)
  | 36 => ("HackneyStandsModel", "tape", "[I", true)
  | 37 => ("HackneyStandsModel", "tapeMany", "I", false)
  | 38 => ("HackneyStandsModel", "text", "[I", true)
  | 39 => ("HackneyStandsModel", "textMany", "[I", true)
  | 40 => ("HackneyStandsModel", "lawKind", "[I", true)
  | 41 => ("HackneyStandsModel", "lawFrom", "[I", true)
  | 42 => ("HackneyStandsModel", "lawMade", "[I", true)
  | 43 => ("HackneyStandsModel", "laws", "I", false)
  | 44 => ("HackneyStandsModel", "at", "I", false)
  | 45 => ("HackneyStandsModel", "ends", "I", false)
  | 46 => ("HackneyStandsModel", "names", "[I", true)
  | 47 => ("HackneyStandsModel", "tripCoach", "[I", true)
  | 48 => ("HackneyStandsModel", "tripFrom", "[I", true)
  | 49 => ("HackneyStandsModel", "tripTo", "[I", true)
  | 50 => ("HackneyStandsModel", "called", "[I", true)
  | 51 => ("HackneyStandsModel", "getsIn", "[I", true)
  | 52 => ("HackneyStandsModel", "ended", "[I", true)
  | 53 => ("HackneyStandsModel", "tripYards", "[I", true)
  | 54 => ("HackneyStandsModel", "tripBad", "[I", true)
  | 55 => ("HackneyStandsModel", "persons", "[I", true)
  | 56 => ("HackneyStandsModel", "waiting", "[I", true)
  | 57 => ("HackneyStandsModel", "tripStrength", "[I", true)
  | 58 => ("HackneyStandsModel", "tripNight", "[Z", true)
  | 59 => ("HackneyStandsModel", "tripStand", "[I", true)
  | 60 => ("HackneyStandsModel", "trips", "I", false)
  | 61 => ("HackneyStandsModel", "refusedBy", "[I", true)
  | 62 => ("HackneyStandsModel", "refusedAt", "[I", true)
  | 63 => ("HackneyStandsModel", "refusedFrom", "[I", true)
  | 64 => ("HackneyStandsModel", "refusedTo", "[I", true)
  | 65 => ("HackneyStandsModel", "refusals", "I", false)
  | 66 => ("HackneyStandsModel", "complaintTrip", "[I", true)
  | 67 => ("HackneyStandsModel", "complaintPaid", "[I", true)
  | 68 => ("HackneyStandsModel", "complaints", "I", false)
  | 69 => ("HackneyStandsModel", "lostSort", "[I", true)
  | 70 => ("HackneyStandsModel", "lostPlate", "[I", true)
  | 71 => ("HackneyStandsModel", "lostFrom", "[I", true)
  | 72 => ("HackneyStandsModel", "lostTo", "[I", true)
  | 73 => ("HackneyStandsModel", "losts", "I", false)
  | 74 => ("HackneyStandsModel", "foundSort", "[I", true)
  | 75 => ("HackneyStandsModel", "foundCoach", "[I", true)
  | 76 => ("HackneyStandsModel", "foundAt", "[I", true)
  | 77 => ("HackneyStandsModel", "founds", "I", false)
  | 78 => ("HackneyStandsModel", "fault", "I", false)
  | 79 => ("HackneyStandsModel", "open", "I", false)
  | _ => ("HackneyStandsModel", "fareKind", "I", false)
def tyX10 : Nat → FieldType := fun k => match k with
  | 0 => .int
  | 1 => .array .int
  | 2 => .array .int
  | 3 => .int
  | 4 => .array .int
  | 5 => .array .int
  | 6 => .array .int
  | 7 => .array .int
  | 8 => .array .int
  | 9 => .array .int
  | 10 => .array .int
  | 11 => .int
  | 12 => .array .int
  | 13 => .array .int
  | 14 => .array .int
  | 15 => .int
  | 16 => .array .int
  | 17 => .int
  | 18 => .array .int
  | 19 => .array .int
  | 20 => .array .int
  | 21 => .array .int
  | 22 => .array .int
  | 23 => .array .int
  | 24 => .array .int
  | 25 => .array .int
  | 26 => .int
  | 27 => .array .int
  | 28 => .array .int
  | 29 => .array .int
  | 30 => .int
  | 31 => .array .int
  | 32 => .array .int
  | 33 => .array .int
  | 34 => .array .int
  | 35 => .int
  | 36 => .array .int
  | 37 => .int
  | 38 => .array .int
  | 39 => .array .int
  | 40 => .array .int
  | 41 => .array .int
  | 42 => .array .int
  | 43 => .int
  | 44 => .int
  | 45 => .int
  | 46 => .array .int
  | 47 => .array .int
  | 48 => .array .int
  | 49 => .array .int
  | 50 => .array .int
  | 51 => .array .int
  | 52 => .array .int
  | 53 => .array .int
  | 54 => .array .int
  | 55 => .array .int
  | 56 => .array .int
  | 57 => .array .int
  | 58 => .array .boolean
  | 59 => .array .int
  | 60 => .int
  | 61 => .array .int
  | 62 => .array .int
  | 63 => .array .int
  | 64 => .array .int
  | 65 => .int
  | 66 => .array .int
  | 67 => .array .int
  | 68 => .int
  | 69 => .array .int
  | 70 => .array .int
  | 71 => .array .int
  | 72 => .array .int
  | 73 => .int
  | 74 => .array .int
  | 75 => .array .int
  | 76 => .array .int
  | 77 => .int
  | 78 => .int
  | 79 => .int
  | _ => .int
abbrev wsX100 : List Cond := u_ws RX10 TX10 81
theorem nmX10 : ∀ a, a < 81 → ∀ b, b < 81 → a ≠ b → (TX10 a).2.1 ≠ (TX10 b).2.1 := by decide +kernel
theorem tyX10_ok : ∀ k, k < 81 → parseFieldDescriptor (TX10 k).2.2.1 = some (tyX10 k) := by decide +kernel
abbrev cX10_init : ByteArray := prog_12_method_1_code
def yX10_init : MethodName := ⟨RX10, "<init>", "()V"⟩
abbrev cX10_within : ByteArray := prog_12_method_2_code
def yX10_within : MethodName := ⟨RX10, "within", "(III)Z"⟩
abbrev cX10_today : ByteArray := prog_12_method_3_code
def yX10_today : MethodName := ⟨RX10, "today", "()I"⟩
abbrev cX10_isCorner : ByteArray := prog_12_method_4_code
def yX10_isCorner : MethodName := ⟨RX10, "isCorner", "(I)Z"⟩
abbrev cX10_isCoach : ByteArray := prog_12_method_5_code
def yX10_isCoach : MethodName := ⟨RX10, "isCoach", "(I)Z"⟩
abbrev cX10_isStand : ByteArray := prog_12_method_6_code
def yX10_isStand : MethodName := ⟨RX10, "isStand", "(I)Z"⟩
abbrev cX10_isMinute : ByteArray := prog_12_method_7_code
def yX10_isMinute : MethodName := ⟨RX10, "isMinute", "(I)Z"⟩
abbrev cX10_isDay : ByteArray := prog_12_method_8_code
def yX10_isDay : MethodName := ⟨RX10, "isDay", "(I)Z"⟩
abbrev cX10_corner : ByteArray := prog_12_method_9_code
def yX10_corner : MethodName := ⟨RX10, "corner", "()I"⟩
abbrev cX10_street : ByteArray := prog_12_method_10_code
def yX10_street : MethodName := ⟨RX10, "street", "(III)I"⟩
abbrev cX10_shut : ByteArray := prog_12_method_11_code
def yX10_shut : MethodName := ⟨RX10, "shut", "(III)I"⟩
abbrev cX10_isShut : ByteArray := prog_12_method_12_code
def yX10_isShut : MethodName := ⟨RX10, "isShut", "(II)Z"⟩
abbrev cX10_sun : ByteArray := prog_12_method_13_code
def yX10_sun : MethodName := ⟨RX10, "sun", "(III)I"⟩
abbrev cX10_isNight : ByteArray := prog_12_method_14_code
def yX10_isNight : MethodName := ⟨RX10, "isNight", "(I)Z"⟩
abbrev cX10_night : ByteArray := prog_12_method_15_code
def yX10_night : MethodName := ⟨RX10, "night", "(I)I"⟩
abbrev cX10_come : ByteArray := prog_12_method_16_code
def yX10_come : MethodName := ⟨RX10, "come", "(III)Z"⟩
abbrev cX10_findFar : ByteArray := prog_12_method_17_code
def yX10_findFar : MethodName := ⟨RX10, "findFar", "(II)V"⟩
abbrev cX10_yardsOf : ByteArray := prog_12_method_18_code
def yX10_yardsOf : MethodName := ⟨RX10, "yardsOf", "(III)I"⟩
abbrev cX10_findWay : ByteArray := prog_12_method_19_code
def yX10_findWay : MethodName := ⟨RX10, "findWay", "(III)V"⟩
abbrev cX10_way : ByteArray := prog_12_method_20_code
def yX10_way : MethodName := ⟨RX10, "way", "(III)I"⟩
abbrev cX10_step : ByteArray := prog_12_method_21_code
def yX10_step : MethodName := ⟨RX10, "step", "(I)I"⟩
abbrev cX10_minutesOf : ByteArray := prog_12_method_22_code
def yX10_minutesOf : MethodName := ⟨RX10, "minutesOf", "(I)I"⟩
abbrev cX10_coach : ByteArray := prog_12_method_23_code
def yX10_coach : MethodName := ⟨RX10, "coach", "(II)I"⟩
abbrev cX10_holder : ByteArray := prog_12_method_24_code
def yX10_holder : MethodName := ⟨RX10, "holder", "(II)I"⟩
abbrev cX10_licence : ByteArray := prog_12_method_25_code
def yX10_licence : MethodName := ⟨RX10, "licence", "(III)I"⟩
abbrev cX10_look : ByteArray := prog_12_method_26_code
def yX10_look : MethodName := ⟨RX10, "look", "(II)I"⟩
abbrev cX10_stand : ByteArray := prog_12_method_27_code
def yX10_stand : MethodName := ⟨RX10, "stand", "(II)I"⟩
abbrev cX10_standOf : ByteArray := prog_12_method_28_code
def yX10_standOf : MethodName := ⟨RX10, "standOf", "(I)I"⟩
abbrev cX10_leaveRow : ByteArray := prog_12_method_29_code
def yX10_leaveRow : MethodName := ⟨RX10, "leaveRow", "(I)V"⟩
abbrev cX10_arrive : ByteArray := prog_12_method_30_code
def yX10_arrive : MethodName := ⟨RX10, "arrive", "(I)V"⟩
abbrev cX10_go : ByteArray := prog_12_method_31_code
def yX10_go : MethodName := ⟨RX10, "go", "(II)I"⟩
abbrev cX10_about : ByteArray := prog_12_method_32_code
def yX10_about : MethodName := ⟨RX10, "about", "(II)I"⟩
abbrev cX10_tripsOf : ByteArray := prog_12_method_33_code
def yX10_tripsOf : MethodName := ⟨RX10, "tripsOf", "(IZ)I"⟩
abbrev cX10_turn : ByteArray := prog_12_method_34_code
def yX10_turn : MethodName := ⟨RX10, "turn", "(II)I"⟩
abbrev cX10_feed : ByteArray := prog_12_method_35_code
def yX10_feed : MethodName := ⟨RX10, "feed", "(II)I"⟩
abbrev cX10_byteAt : ByteArray := prog_12_method_36_code
def yX10_byteAt : MethodName := ⟨RX10, "byteAt", "(I)I"⟩
abbrev cX10_wrong : ByteArray := prog_12_method_37_code
def yX10_wrong : MethodName := ⟨RX10, "wrong", "()I"⟩
abbrev cX10_nameOf : ByteArray := prog_12_method_38_code
def yX10_nameOf : MethodName := ⟨RX10, "nameOf", "(I)I"⟩
abbrev cX10_opens : ByteArray := prog_12_method_39_code
def yX10_opens : MethodName := ⟨RX10, "opens", "()Z"⟩
abbrev cX10_chosen : ByteArray := prog_12_method_40_code
def yX10_chosen : MethodName := ⟨RX10, "chosen", "(I)I"⟩
abbrev cX10_compared : ByteArray := prog_12_method_41_code
def yX10_compared : MethodName := ⟨RX10, "compared", "(I)I"⟩
abbrev cX10_sum : ByteArray := prog_12_method_42_code
def yX10_sum : MethodName := ⟨RX10, "sum", "(I)I"⟩
abbrev cX10_product : ByteArray := prog_12_method_43_code
def yX10_product : MethodName := ⟨RX10, "product", "(I)I"⟩
abbrev cX10_one : ByteArray := prog_12_method_44_code
def yX10_one : MethodName := ⟨RX10, "one", "(I)I"⟩
abbrev cX10_workOut : ByteArray := prog_12_method_45_code
def yX10_workOut : MethodName := ⟨RX10, "workOut", "(II)I"⟩
abbrev cX10_law : ByteArray := prog_12_method_46_code
def yX10_law : MethodName := ⟨RX10, "law", "(II)I"⟩
abbrev cX10_force : ByteArray := prog_12_method_47_code
def yX10_force : MethodName := ⟨RX10, "force", "(III)I"⟩
abbrev cX10_inForce : ByteArray := prog_12_method_48_code
def yX10_inForce : MethodName := ⟨RX10, "inForce", "(III)I"⟩
abbrev cX10_name : ByteArray := prog_12_method_49_code
def yX10_name : MethodName := ⟨RX10, "name", "(IIIIIIII)V"⟩
abbrev cX10_says : ByteArray := prog_12_method_50_code
def yX10_says : MethodName := ⟨RX10, "says", "(IIIII)I"⟩
abbrev cX10_fareBy : ByteArray := prog_12_method_51_code
def yX10_fareBy : MethodName := ⟨RX10, "fareBy", "(I)I"⟩
abbrev cX10_fare : ByteArray := prog_12_method_52_code
def yX10_fare : MethodName := ⟨RX10, "fare", "(II)I"⟩
abbrev cX10_nameTrip : ByteArray := prog_12_method_53_code
def yX10_nameTrip : MethodName := ⟨RX10, "nameTrip", "(I)V"⟩
abbrev cX10_dueOf : ByteArray := prog_12_method_54_code
def yX10_dueOf : MethodName := ⟨RX10, "dueOf", "(II)I"⟩
abbrev cX10_isCall : ByteArray := prog_12_method_55_code
def yX10_isCall : MethodName := ⟨RX10, "isCall", "(I)Z"⟩
abbrev cX10_mayBeCalled : ByteArray := prog_12_method_56_code
def yX10_mayBeCalled : MethodName := ⟨RX10, "mayBeCalled", "(III)Z"⟩
abbrev cX10_whyNot : ByteArray := prog_12_method_57_code
def yX10_whyNot : MethodName := ⟨RX10, "whyNot", "(IIIIIII)I"⟩
abbrev cX10_note : ByteArray := prog_12_method_58_code
def yX10_note : MethodName := ⟨RX10, "note", "(III)V"⟩
abbrev cX10_drive : ByteArray := prog_12_method_59_code
def yX10_drive : MethodName := ⟨RX10, "drive", "(IIIIIIII)V"⟩
abbrev cX10_call : ByteArray := prog_12_method_60_code
def yX10_call : MethodName := ⟨RX10, "call", "(III)I"⟩
abbrev cX10_why : ByteArray := prog_12_method_61_code
def yX10_why : MethodName := ⟨RX10, "why", "(IIII)I"⟩
abbrev cX10_oneMinute : ByteArray := prog_12_method_62_code
def yX10_oneMinute : MethodName := ⟨RX10, "oneMinute", "()V"⟩
abbrev cX10_minutes : ByteArray := prog_12_method_63_code
def yX10_minutes : MethodName := ⟨RX10, "minutes", "(I)I"⟩
abbrev cX10_isTrip : ByteArray := prog_12_method_64_code
def yX10_isTrip : MethodName := ⟨RX10, "isTrip", "(I)Z"⟩
abbrev cX10_trip : ByteArray := prog_12_method_65_code
def yX10_trip : MethodName := ⟨RX10, "trip", "(II)I"⟩
abbrev cX10_due : ByteArray := prog_12_method_66_code
def yX10_due : MethodName := ⟨RX10, "due", "(III)I"⟩
abbrev cX10_refusal : ByteArray := prog_12_method_67_code
def yX10_refusal : MethodName := ⟨RX10, "refusal", "(II)I"⟩
abbrev cX10_complain : ByteArray := prog_12_method_68_code
def yX10_complain : MethodName := ⟨RX10, "complain", "(II)I"⟩
abbrev cX10_over : ByteArray := prog_12_method_69_code
def yX10_over : MethodName := ⟨RX10, "over", "(I)I"⟩
abbrev cX10_areLike : ByteArray := prog_12_method_70_code
def yX10_areLike : MethodName := ⟨RX10, "areLike", "(II)Z"⟩
abbrev cX10_judged : ByteArray := prog_12_method_71_code
def yX10_judged : MethodName := ⟨RX10, "judged", "(II)I"⟩
abbrev cX10_lost : ByteArray := prog_12_method_72_code
def yX10_lost : MethodName := ⟨RX10, "lost", "(IIII)I"⟩
abbrev cX10_found : ByteArray := prog_12_method_73_code
def yX10_found : MethodName := ⟨RX10, "found", "(II)I"⟩
abbrev cX10_fitsPlate : ByteArray := prog_12_method_74_code
def yX10_fitsPlate : MethodName := ⟨RX10, "fitsPlate", "(II)Z"⟩
abbrev cX10_fit : ByteArray := prog_12_method_75_code
def yX10_fit : MethodName := ⟨RX10, "fit", "(II)Z"⟩
abbrev cX10_fits : ByteArray := prog_12_method_76_code
def yX10_fits : MethodName := ⟨RX10, "fits", "(I)I"⟩
abbrev cX10_joined : ByteArray := prog_12_method_77_code
def yX10_joined : MethodName := ⟨RX10, "joined", "(I)I"⟩
abbrev cX10_isFareLaw : ByteArray := prog_12_method_78_code
def yX10_isFareLaw : MethodName := ⟨RX10, "isFareLaw", "(II)Z"⟩
abbrev cX10_tried : ByteArray := prog_12_method_79_code
def yX10_tried : MethodName := ⟨RX10, "tried", "(III)I"⟩
abbrev cX10_count : ByteArray := prog_12_method_80_code
def yX10_count : MethodName := ⟨RX10, "count", "(I)I"⟩
def RJx145de : String := "java/io/Serializable"
def TJx145de : u_T := fun k => match k with
  | _ => ("", "", "", false)
def tyJx145de : Nat → FieldType := fun k => match k with
  | _ => .int
abbrev wsJx145de0 : List Cond := u_ws RJx145de TJx145de 0
def RJx9f9b0 : String := "java/lang/CharSequence"
def TJx9f9b0 : u_T := fun k => match k with
  | _ => ("", "", "", false)
def tyJx9f9b0 : Nat → FieldType := fun k => match k with
  | _ => .int
abbrev wsJx9f9b00 : List Cond := u_ws RJx9f9b0 TJx9f9b0 0
def RJx8e188 : String := "java/lang/Cloneable"
def TJx8e188 : u_T := fun k => match k with
  | _ => ("", "", "", false)
def tyJx8e188 : Nat → FieldType := fun k => match k with
  | _ => .int
abbrev wsJx8e1880 : List Cond := u_ws RJx8e188 TJx8e188 0
def RJxb160c : String := "java/lang/Comparable"
def TJxb160c : u_T := fun k => match k with
  | _ => ("", "", "", false)
def tyJxb160c : Nat → FieldType := fun k => match k with
  | _ => .int
abbrev wsJxb160c0 : List Cond := u_ws RJxb160c TJxb160c 0
def RJ9 : String := "java/lang/Math"
def TJ9 : u_T := fun k => match k with
  | _ => ("", "", "", false)
def tyJ9 : Nat → FieldType := fun k => match k with
  | _ => .int
abbrev wsJ90 : List Cond := u_ws RJ9 TJ9 0
abbrev cJ9_floorMod_7cf53 : ByteArray := prog_14_method_50_code
def yJ9_floorMod_7cf53 : MethodName := ⟨RJ9, "floorMod", "(II)I"⟩
abbrev cJ9_max_7cf53 : ByteArray := prog_14_method_65_code
def yJ9_max_7cf53 : MethodName := ⟨RJ9, "max", "(II)I"⟩
abbrev cJ9_min_7cf53 : ByteArray := prog_14_method_69_code
def yJ9_min_7cf53 : MethodName := ⟨RJ9, "min", "(II)I"⟩
abbrev cJ9_min_f86c9 : ByteArray := prog_14_method_70_code
def yJ9_min_f86c9 : MethodName := ⟨RJ9, "min", "(JJ)J"⟩
def RJ0 : String := "java/lang/String"
def TJ0 : u_T := fun k => match k with
  | _ => ("", "", "", false)
def tyJ0 : Nat → FieldType := fun k => match k with
  | _ => .int
abbrev wsJ00 : List Cond := u_ws RJ0 TJ0 0
abbrev cJ0_length_8abf5 : ByteArray := prog_15_method_54_code
def yJ0_length_8abf5 : MethodName := ⟨RJ0, "length", "()I"⟩
abbrev cJ0_charAt_5068e : ByteArray := prog_15_method_56_code
def yJ0_charAt_5068e : MethodName := ⟨RJ0, "charAt", "(I)C"⟩
abbrev cJ0_coder_7d493 : ByteArray := prog_15_method_152_code
def yJ0_coder_7d493 : MethodName := ⟨RJ0, "coder", "()B"⟩
abbrev cJ0_isLatin1_aae02 : ByteArray := prog_15_method_154_code
def yJ0_isLatin1_aae02 : MethodName := ⟨RJ0, "isLatin1", "()Z"⟩
abbrev cJ0_checkIndex_df160 : ByteArray := prog_15_method_155_code
def yJ0_checkIndex_df160 : MethodName := ⟨RJ0, "checkIndex", "(II)V"⟩
def RJ1 : String := "java/lang/StringLatin1"
def TJ1 : u_T := fun k => match k with
  | _ => ("", "", "", false)
def tyJ1 : Nat → FieldType := fun k => match k with
  | _ => .int
abbrev wsJ10 : List Cond := u_ws RJ1 TJ1 0
abbrev cJ1_charAt_3b067 : ByteArray := prog_16_method_2_code
def yJ1_charAt_3b067 : MethodName := ⟨RJ1, "charAt", "([BI)C"⟩
def RJ2 : String := "java/lang/StringUTF16"
def TJ2 : u_T := fun k => match k with
  | _ => ("", "", "", false)
def tyJ2 : Nat → FieldType := fun k => match k with
  | _ => .int
abbrev wsJ20 : List Cond := u_ws RJ2 TJ2 0
abbrev cJ2_getChar_3b067 : ByteArray := prog_17_method_5_code
def yJ2_getChar_3b067 : MethodName := ⟨RJ2, "getChar", "([BI)C"⟩
abbrev cJ2_length_9d52b : ByteArray := prog_17_method_6_code
def yJ2_length_9d52b : MethodName := ⟨RJ2, "length", "([B)I"⟩
abbrev cJ2_charAt_3b067 : ByteArray := prog_17_method_83_code
def yJ2_charAt_3b067 : MethodName := ⟨RJ2, "charAt", "([BI)C"⟩
abbrev cJ2_checkIndex_2214a : ByteArray := prog_17_method_91_code
def yJ2_checkIndex_2214a : MethodName := ⟨RJ2, "checkIndex", "(I[B)V"⟩
def RJ10 : String := "java/lang/System"
def TJ10 : u_T := fun k => match k with
  | _ => ("", "", "", false)
def tyJ10 : Nat → FieldType := fun k => match k with
  | _ => .int
abbrev wsJ100 : List Cond := u_ws RJ10 TJ10 0
def RJxfd54e : String := "java/lang/constant/Constable"
def TJxfd54e : u_T := fun k => match k with
  | _ => ("", "", "", false)
def tyJxfd54e : Nat → FieldType := fun k => match k with
  | _ => .int
abbrev wsJxfd54e0 : List Cond := u_ws RJxfd54e TJxfd54e 0
def RJx3cf43 : String := "java/lang/constant/ConstantDesc"
def TJx3cf43 : u_T := fun k => match k with
  | _ => ("", "", "", false)
def tyJx3cf43 : Nat → FieldType := fun k => match k with
  | _ => .int
abbrev wsJx3cf430 : List Cond := u_ws RJx3cf43 TJx3cf43 0
def RJ7 : String := "java/util/Arrays"
def TJ7 : u_T := fun k => match k with
  | _ => ("", "", "", false)
def tyJ7 : Nat → FieldType := fun k => match k with
  | _ => .int
abbrev wsJ70 : List Cond := u_ws RJ7 TJ7 0
abbrev cJ7_copyOf_59c91 : ByteArray := prog_19_method_123_code
def yJ7_copyOf_59c91 : MethodName := ⟨RJ7, "copyOf", "([II)[I"⟩
def RJ3 : String := "jdk/internal/util/Preconditions"
def TJ3 : u_T := fun k => match k with
  | _ => ("", "", "", false)
def tyJ3 : Nat → FieldType := fun k => match k with
  | _ => .int
abbrev wsJ30 : List Cond := u_ws RJ3 TJ3 0
abbrev cJ3_checkIndex_8e157 : ByteArray := prog_20_method_11_code
def yJ3_checkIndex_8e157 : MethodName := ⟨RJ3, "checkIndex", "(IILjava/util/function/BiFunction;)I"⟩
def RL : String := "HackneyStandsLaw"
abbrev cL_law : ByteArray := code
def yL_law : MethodName := ⟨RL, "law", "([I)Z"⟩
abbrev vwCl : List vw_C := [(RX0, TX0, 7), (RX1, TX1, 1), (RX2, TX2, 3), (RX3, TX3, 4), (RX4, TX4, 5), (RX5, TX5, 5), (RX6, TX6, 4), (RX7, TX7, 2), (RX8, TX8, 3), (RX9, TX9, 7), (RX10, TX10, 81)]
end
section
/-! THE hk_ LAYER: an abstract heap whose object number k lies at base + k; contracts and walks over it -/
abbrev hk_G : Type := va_G × (ClassId × ClassId × ClassId) × Nat × (Nat → Nat) × (Nat → Nat)
abbrev hk_b (G : hk_G) : Nat := G.2.2.1
abbrev hk_tys (G : hk_G) : List (ClassId × FieldType) := [(G.2.1.1, .int), (G.2.1.2.1, .boolean), (G.2.1.2.2, .object RX3)]
def hk_cid (G : hk_G) (t : Nat) : ClassId := match t with | 0 => G.2.1.1 | 1 => G.2.1.2.1 | _ => G.2.1.2.2
abbrev hk_E : Type := (Nat × Nat × ((Nat → Int32) ⊕ (Nat → Option Nat))) ⊕ (Nat × List Value)
abbrev hk_H : Type := Nat × (Nat → hk_E)
def hk_v (b : Nat) (v : Value) : Value := match v with | .ref a => .ref (b + a) | v => v
theorem hk_v_cat (b : Nat) (v : Value) : (hk_v b v).category = v.category := by cases v <;> rfl
def hk_ce (G : hk_G) (x : hk_E) : va_E := match x with
  | .inl (t, n, .inl f) => .inl (hk_cid G t, n, .inl f)
  | .inl (t, n, .inr f) => .inl (hk_cid G t, n, .inr (.inr (.inr (.inr (fun j => (f j).map (fun a => hk_b G + a))))))
  | .inr (ci, fs) => .inr (ci, fs.map (hk_v (hk_b G)))
def hk_wl (G : hk_G) (h : hk_H) : va_W := (List.range h.1).map fun k => (hk_b G + k, hk_ce G (h.2 k))
def hk_A (G : hk_G) : Nat → Prop := fun q => hk_b G ≤ q
theorem hk_wl_get {G : hk_G} {h : hk_H} {k : Nat} (hk : k < h.1) : (hk_wl G h)[k]? = some (hk_b G + k, hk_ce G (h.2 k)) := by
  unfold hk_wl
  rw [List.getElem?_map, List.getElem?_range hk]
  rfl
theorem hk_wl_inv {G : hk_G} {h : hk_H} {k : Nat} {q : Nat × va_E} (hq : (hk_wl G h)[k]? = some q) : k < h.1 ∧ q = (hk_b G + k, hk_ce G (h.2 k)) := by
  have hk : k < h.1 := by
    have := (List.getElem?_eq_some_iff.mp hq).1
    simpa [hk_wl] using this
  rw [hk_wl_get hk] at hq
  exact ⟨hk, (Option.some.inj hq).symm⟩
theorem hk_D (G : hk_G) (h : hk_H) : va_D (hk_A G) (hk_wl G h) := by
  refine ⟨fun i j p q hi hj hpq => ?_, fun k q hq => ?_⟩
  · obtain ⟨_, rfl⟩ := hk_wl_inv hi
    obtain ⟨_, rfl⟩ := hk_wl_inv hj
    simpa using hpq
  · obtain ⟨_, rfl⟩ := hk_wl_inv hq
    exact Nat.le_add_right _ _
def hk_up (h : hk_H) (a : Nat) (x : hk_E) : hk_H := (h.1, fun q => if q = a then x else h.2 q)
def hk_push (h : hk_H) (x : hk_E) : hk_H := (h.1 + 1, fun q => if q = h.1 then x else h.2 q)
theorem hk_wl_set {G : hk_G} {h : hk_H} {a : Nat} (x : hk_E) : (hk_wl G h).set a (hk_b G + a, hk_ce G x) = hk_wl G (hk_up h a x) := by
  apply List.ext_getElem?
  intro i
  by_cases hi : i < h.1
  · rw [hk_wl_get (h := hk_up h a x) hi, List.getElem?_set]
    by_cases ha : a = i
    · subst ha
      simp [hk_up, hk_wl, hi]
    · rw [if_neg ha, hk_wl_get hi]
      simp only [hk_up]
      rw [if_neg (fun e => ha e.symm)]
  · rw [List.getElem?_eq_none (by simp [hk_wl]; omega), List.getElem?_eq_none (by simp [hk_wl, hk_up]; omega)]
theorem hk_wl_push {G : hk_G} {h : hk_H} (x : hk_E) : hk_wl G h ++ [(hk_b G + h.1, hk_ce G x)] = hk_wl G (hk_push h x) := by
  apply List.ext_getElem?
  intro i
  by_cases hi : i < h.1
  · rw [hk_wl_get (h := hk_push h x) (Nat.lt_succ_of_lt hi), List.getElem?_append_left (by simp [hk_wl]; exact hi), hk_wl_get hi]
    simp only [hk_push]
    rw [if_neg (Nat.ne_of_lt hi)]
  · by_cases he : i = h.1
    · subst he
      rw [hk_wl_get (h := hk_push h x) (Nat.lt_succ_self _), List.getElem?_append_right (by simp [hk_wl])]
      simp [hk_wl, hk_push]
    · rw [List.getElem?_eq_none (by simp [hk_wl]; omega), List.getElem?_eq_none (by simp [hk_wl, hk_push]; omega)]
/-- the words that every contract carries -/
def hk_T : List Cond := lw_tbl.filter goodWord
def hk_isN (c : Cond) : Bool := match c with | .methodLinkNest .. => true | .fieldLinkNest .. => true | _ => false
def hk_N : List Cond := tables_1.filter hk_isN
def hk_Nw (U : State) : Prop := ∀ w ∈ hk_N, va_Nw w U
theorem hk_isN_of {w : Cond} (h : w ∈ hk_N) : hk_isN w = true := (List.mem_filter.mp h).2
theorem hk_Nw.warm {s U : State} (hW : s.WarmedH U.vm) (h : hk_Nw s) : hk_Nw U := by
  intro w hw
  have h1 := h w hw
  have h2 := hk_isN_of hw
  cases w <;> first | exact h1.warmF hW | exact h1.warmM hW | (cases h2)
theorem hk_Nw.same {u U : State} (hv : u.vm = U.vm) (h : hk_Nw u) : hk_Nw U := by
  intro w hw
  have h1 := h w hw
  have h2 := hk_isN_of hw
  exact h1.same (by cases w <;> first | rfl | (cases h2)) hv
theorem hk_T_good {w : Cond} (h : w ∈ lw_tbl) (hg : goodWord w = true) : w ∈ hk_T := List.mem_filter.mpr ⟨h, hg⟩
theorem hk_goodIn (ws : List Cond) (h : ∀ w ∈ ws, w ∈ hk_T) : GoodIn hk_T ws := fun w hw => ⟨h w hw, good_of_word (List.mem_filter.mp (h w hw)).2⟩
/-- the String constant of LawBook, and the statics that its methods read: below the base, never written -/
def hk_X (G : hk_G) (U : State) (H : Heap) : Prop :=
  vk_S 1 [9] [[121, 116, 119, 110, 100, 104, 112, 98, 115]] G.2.2.2.1 G.2.2.2.2 (hk_A G) U H ∧ vk_R RX4 31 "ytwndhpbs" (G.2.2.2.1 0) U ∧
  va_Z "java/lang/String" "COMPACT_STRINGS" "Z" (.int 1) (hk_A G) U H ∧ va_Zq "jdk/internal/util/Preconditions" "SIOOBE_FORMATTER" "Ljava/util/function/BiFunction;" (hk_A G) U H
theorem hk_X.kept {G : hk_G} {U : State} {H H1 : Heap} (h : hk_X G U H) (hq : ∀ a : Nat, a < H.size → ¬ hk_A G a → H1[a]? = H[a]?) : hk_X G U H1 := ⟨h.1.kept hq, h.2.1, h.2.2.1.kept hq, h.2.2.2.kept hq⟩
theorem hk_X.warm {G : hk_G} {s U : State} {H : Heap} (hW : s.WarmedH U.vm) (h : hk_X G s H) : hk_X G U H := ⟨h.1.moved hW.alike, h.2.1.warm hW, h.2.2.1.moved hW.alike, h.2.2.2.moved hW.alike⟩
theorem hk_X.same {G : hk_G} {u U : State} {H : Heap} (hv : U.vm = u.vm) (h : hk_X G u H) : hk_X G U H := by
  have ha : u.vm.Alike U.vm := hv ▸ Vm.Alike.refl u.vm
  exact ⟨h.1.moved ha, h.2.1.same hv, h.2.2.1.moved ha, h.2.2.2.moved ha⟩
def hk_S (G : hk_G) (h : hk_H) (U : State) (H : Heap) : Prop := va_K G.1 vwCl (hk_tys G) U ∧ va_P G.1 vwCl (hk_wl G h) H ∧ H.size = hk_b G + h.1
def hk_Pre (G : hk_G) (av : List Value) (h : hk_H) : Array Value → State → Prop := va_Pc (av.map (hk_v (hk_b G))) (fun U => hk_S G h U U.heap ∧ hk_Nw U ∧ hk_X G U U.heap)
def hk_Q (G : hk_G) (Q : Option Value → hk_H → Prop) : Array Value → State → Outcome → State → Prop := fun _ st oc t =>
  (∃ (r : Option Value) (h : hk_H), oc = .returned (r.map (hk_v (hk_b G))) ∧ Q r h ∧ hk_S G h t t.heap) ∧ va_F (hk_A G) st t
abbrev hk_M : Type := MethodName × ByteArray × Nat × Option FieldType
def hk_rm (d mc ms : Nat) : Room := { frames := d, cells := mc, slots := ms, locals := 64 * d }
/-- the contract of a method -/
def hk_Ct (M : hk_M) (d mc ms : Nat) (av : List Value) (h : hk_H) (Q : Option Value → hk_H → Prop) : Prop :=
  ∀ (l : Launch) (G : hk_G), Met l M.1 (.code M.1 M.2.1 M.2.2.1 M.2.2.2 :: hk_T) (hk_rm d mc ms) (hk_Pre G av h) (hk_Q G Q) mc ms (hk_A G)
def hk_Cx (M : hk_M) (d mc ms : Nat) (G : hk_G) (p : Program) (R : Room) (s : State) (m : MethodId) (args : Array Value) (meth : Method) (c : Code) : Prop :=
  p.tables.exec = Jvm.exec ∧ c.code = M.2.1 ∧ c.maxLocals = M.2.2.1 ∧ s.vm.findClass M.1.cls = some m.cls ∧ (∀ w ∈ hk_T, w.before args s = true) ∧ meth.sig.returnType = M.2.2.2 ∧
  meth.locks = false ∧ meth.name = M.1.name ∧ (d ≤ R.frames ∧ 64 * d ≤ R.locals) ∧ (mc ≤ R.cells ∧ ms ≤ R.slots) ∧ hk_Nw s ∧ hk_b G ≤ s.heap.size ∧ hk_X G s s.heap
def hk_as (b : Nat) (ls : List (Option Value)) : List (Nat × Value) := (List.range ls.length).filterMap fun i => ((ls[i]?).join).map fun v => (i, hk_v b v)
def hk_L (b nL : Nat) (ls : List (Option Value)) (lsA : Array Slot) : Prop := lv_has lsA nL (hk_as b ls)
/-- from this place of the method its end is reached, with Q -/
def hk_WP (M : hk_M) (d mc ms k n pc : Nat) (ls : List (Option Value)) (st : List Value) (h : hk_H) (Q : Option Value → hk_H → Prop) : Prop :=
  ∀ (G : hk_G) (p : Program) (l : Launch) (e : Env) (R : Room) (s : State) (m : MethodId) (args : Array Value) (below : List Frame) (meth : Method) (c : Code) (H : Heap) (locs : List Loc) (lsA : Array Slot),
    hk_Cx M d mc ms G p R s m args meth c → hk_S G h s H → va_S (hk_A G) s.heap H locs → hk_L (hk_b G) M.2.2.1 ls lsA →
    W p l e R s m args below meth c H locs k n (MQ below (hk_Q G Q) args s mc ms (hk_A G)) (F0 m pc lsA (st.map (hk_v (hk_b G))))
theorem hk_as_mem {b : Nat} {ls : List (Option Value)} {q : Nat × Value} : q ∈ hk_as b ls ↔ ∃ v, ls[q.1]? = some (some v) ∧ q.2 = hk_v b v := by
  unfold hk_as
  rw [List.mem_filterMap]
  constructor
  · rintro ⟨i, hi, h⟩
    rw [Option.map_eq_some_iff] at h
    obtain ⟨v, h1, rfl⟩ := h
    exact ⟨v, Option.join_eq_some_iff.mp h1, rfl⟩
  · rintro ⟨v, h1, h2⟩
    refine ⟨q.1, List.mem_range.mpr (List.getElem?_eq_some_iff.mp h1).1, ?_⟩
    rw [h1, Option.join_some, Option.map_some, ← h2]
theorem hk_L_at {b nL : Nat} {ls : List (Option Value)} {lsA : Array Slot} (h : hk_L b nL ls lsA) {i : Nat} {v : Value} (hv : ls[i]? = some (some v)) : lsA[i]? = some (.val (hk_v b v)) := by
  have := h.2.2 (i, hk_v b v) (hk_as_mem.mpr ⟨v, hv, rfl⟩)
  exact this
def hk_ok (ls : List (Option Value)) (i : Nat) : Bool := match i with
  | 0 => true
  | j + 1 => match ls[j]? with
    | some (some v) => v.category != 2
    | _ => true
theorem hk_L_set {b nL : Nat} {ls : List (Option Value)} {lsA : Array Slot} {i : Nat} {v : Value} (hok : hk_ok ls i = true)
    (h : lv_has lsA nL ((i, hk_v b v) :: (hk_as b ls).filter (fun q => !(q.1 == i) && !(q.1 + 1 == i && q.2.category == 2)))) : hk_L b nL (ls.set i (some v)) lsA := by
  refine ⟨h.1, h.2.1, fun q hq => h.2.2 q ?_⟩
  obtain ⟨w, h1, h2⟩ := hk_as_mem.mp hq
  rw [List.getElem?_set] at h1
  by_cases hi : i = q.1
  · rw [if_pos hi] at h1
    split at h1
    · have := Option.some.inj (Option.some.inj h1)
      subst this
      rw [List.mem_cons]
      left
      exact Prod.ext hi.symm h2
    · cases h1
  · rw [if_neg hi] at h1
    rw [List.mem_cons]
    right
    rw [List.mem_filter]
    refine ⟨hk_as_mem.mpr ⟨w, h1, h2⟩, ?_⟩
    have e1 : (q.1 == i) = false := by simp; exact fun e => hi e.symm
    rw [e1]
    simp only [Bool.not_false, Bool.true_and, Bool.not_eq_true', Bool.and_eq_false_iff]
    by_cases h3 : q.1 + 1 = i
    · right
      subst h3
      rw [h2, hk_v_cat]
      simpa [hk_ok, h1] using hok
    · left
      simp [h3]
theorem hk_L_set2 {b nL : Nat} {ls : List (Option Value)} {lsA : Array Slot} {i : Nat} {v : Value} (hok : hk_ok ls i = true)
    (h : lv_has lsA nL ((i, hk_v b v) :: (hk_as b ls).filter (fun q => !(q.1 == i) && (!(q.1 == i + 1) && !(q.1 + 1 == i && q.2.category == 2))))) : hk_L b nL ((ls.set i (some v)).set (i + 1) none) lsA := by
  refine ⟨h.1, h.2.1, fun q hq => h.2.2 q ?_⟩
  obtain ⟨w, h1, h2⟩ := hk_as_mem.mp hq
  rw [List.getElem?_set] at h1
  by_cases hi1 : i + 1 = q.1
  · rw [if_pos hi1] at h1
    split at h1 <;> cases h1
  rw [if_neg hi1, List.getElem?_set] at h1
  by_cases hi : i = q.1
  · rw [if_pos hi] at h1
    split at h1
    · have := Option.some.inj (Option.some.inj h1)
      subst this
      rw [List.mem_cons]
      left
      exact Prod.ext hi.symm h2
    · cases h1
  · rw [if_neg hi] at h1
    rw [List.mem_cons]
    right
    rw [List.mem_filter]
    refine ⟨hk_as_mem.mpr ⟨w, h1, h2⟩, ?_⟩
    have e1 : (q.1 == i) = false := by simp; exact fun e => hi e.symm
    have e2 : (q.1 == i + 1) = false := by simp; exact fun e => hi1 e.symm
    rw [e1, e2]
    simp only [Bool.not_false, Bool.true_and, Bool.not_eq_true', Bool.and_eq_false_iff]
    by_cases h3 : q.1 + 1 = i
    · right
      subst h3
      rw [h2, hk_v_cat]
      simpa [hk_ok, h1] using hok
    · left
      simp [h3]
theorem hk_S.warm {G : hk_G} {h : hk_H} {s U : State} {H : Heap} (hW : s.WarmedH U.vm) (hS : hk_S G h s H) : hk_S G h U H := ⟨va_K.moved hW.alike hS.1, hS.2⟩
end
section
/-! rows of the hk_ layer, one an instruction (written by wip/whole/rows.py) -/
section HR
variable {M : hk_M} {d mc ms k n pc : Nat} {ls : List (Option Value)} {st : List Value} {h : hk_H} {Q : Option Value → hk_H → Prop}
theorem hk_iconst {i : Int} {v : Int32} (hd : decode M.2.1 pc = .ok (.iconst i, 1)) (hv : Int32.ofInt i = v) (kk : hk_WP M d mc ms k n (pc + 1) ls (.int v :: st) h Q) : hk_WP M d mc ms k n pc ls (st) h Q := by
  intro G p l e R s m args below meth c H locs lsA C hS hV hL
  exact lv_iconst C.1 C.2.1 hd hv (kk G p l e R s m args below meth c H locs lsA C hS hV hL)
theorem hk_bipush {i : Int} {v : Int32} (hd : decode M.2.1 pc = .ok (.bipush i, 2)) (hv : (Int8.ofInt i).toInt32 = v) (kk : hk_WP M d mc ms k n (pc + 2) ls (.int v :: st) h Q) : hk_WP M d mc ms k n pc ls (st) h Q := by
  intro G p l e R s m args below meth c H locs lsA C hS hV hL
  exact lv_bipush C.1 C.2.1 hd hv (kk G p l e R s m args below meth c H locs lsA C hS hV hL)
theorem hk_sipush {i : Int} {v : Int32} (hd : decode M.2.1 pc = .ok (.sipush i, 3)) (hv : (Int16.ofInt i).toInt32 = v) (kk : hk_WP M d mc ms k n (pc + 3) ls (.int v :: st) h Q) : hk_WP M d mc ms k n pc ls (st) h Q := by
  intro G p l e R s m args below meth c H locs lsA C hS hV hL
  exact lv_sipush C.1 C.2.1 hd hv (kk G p l e R s m args below meth c H locs lsA C hS hV hL)
theorem hk_lconst {i : Fin 2} {v : Int64} (hd : decode M.2.1 pc = .ok (.lconst i, 1)) (hv : Int64.ofNat (i : Nat) = v) (kk : hk_WP M d mc ms k n (pc + 1) ls (.long v :: st) h Q) : hk_WP M d mc ms k n pc ls (st) h Q := by
  intro G p l e R s m args below meth c H locs lsA C hS hV hL
  exact lv_lconst C.1 C.2.1 hd hv (kk G p l e R s m args below meth c H locs lsA C hS hV hL)
theorem hk_ldc {i : Nat} {v : Int32} (hd : decode M.2.1 pc = .ok (.ldc i, 2)) (hv : Cond.constant M.1.cls i v ∈ hk_T) (kk : hk_WP M d mc ms k n (pc + 2) ls (.int v :: st) h Q) : hk_WP M d mc ms k n pc ls (st) h Q := by
  intro G p l e R s m args below meth c H locs lsA C hS hV hL
  exact lv_ldc C.1 C.2.1 C.2.2.2.1 (C.2.2.2.2.1 _ hv) hd (kk G p l e R s m args below meth c H locs lsA C hS hV hL)
theorem hk_ldcw {i : Nat} {v : Int32} (hd : decode M.2.1 pc = .ok (.ldc_w i, 3)) (hv : Cond.constant M.1.cls i v ∈ hk_T) (kk : hk_WP M d mc ms k n (pc + 3) ls (.int v :: st) h Q) : hk_WP M d mc ms k n pc ls (st) h Q := by
  intro G p l e R s m args below meth c H locs lsA C hS hV hL
  exact lv_ldcw C.1 C.2.1 C.2.2.2.1 (C.2.2.2.2.1 _ hv) hd (kk G p l e R s m args below meth c H locs lsA C hS hV hL)
theorem hk_ldc2 {i : Nat} {v : Int64} (hd : decode M.2.1 pc = .ok (.ldc2_w i, 3)) (hv : Cond.constantLong M.1.cls i v ∈ hk_T) (kk : hk_WP M d mc ms k n (pc + 3) ls (.long v :: st) h Q) : hk_WP M d mc ms k n pc ls (st) h Q := by
  intro G p l e R s m args below meth c H locs lsA C hS hV hL
  exact lv_ldc2 C.1 C.2.1 C.2.2.2.1 (C.2.2.2.2.1 _ hv) hd (kk G p l e R s m args below meth c H locs lsA C hS hV hL)
theorem hk_iload_n {f : Fin 4} {i : Nat} {x : Int32} (hd : decode M.2.1 pc = .ok (.iload_n f, 1)) (hi : (f : Nat) = i) (hl : ls[i]? = some (some (.int x))) (kk : hk_WP M d mc ms k n (pc + 1) ls (.int x :: st) h Q) : hk_WP M d mc ms k n pc ls (st) h Q := by
  intro G p l e R s m args below meth c H locs lsA C hS hV hL
  exact lv_iload_n C.1 C.2.1 hd hi (hk_L_at hL hl) (kk G p l e R s m args below meth c H locs lsA C hS hV hL)
theorem hk_iload {i : Nat} {x : Int32} (hd : decode M.2.1 pc = .ok (.iload i, 2)) (hl : ls[i]? = some (some (.int x))) (kk : hk_WP M d mc ms k n (pc + 2) ls (.int x :: st) h Q) : hk_WP M d mc ms k n pc ls (st) h Q := by
  intro G p l e R s m args below meth c H locs lsA C hS hV hL
  exact lv_iload C.1 C.2.1 hd (hk_L_at hL hl) (kk G p l e R s m args below meth c H locs lsA C hS hV hL)
theorem hk_lload_n {f : Fin 4} {i : Nat} {x : Int64} (hd : decode M.2.1 pc = .ok (.lload_n f, 1)) (hi : (f : Nat) = i) (hl : ls[i]? = some (some (.long x))) (kk : hk_WP M d mc ms k n (pc + 1) ls (.long x :: st) h Q) : hk_WP M d mc ms k n pc ls (st) h Q := by
  intro G p l e R s m args below meth c H locs lsA C hS hV hL
  exact lv_lload_n C.1 C.2.1 hd hi (hk_L_at hL hl) (kk G p l e R s m args below meth c H locs lsA C hS hV hL)
theorem hk_lload {i : Nat} {x : Int64} (hd : decode M.2.1 pc = .ok (.lload i, 2)) (hl : ls[i]? = some (some (.long x))) (kk : hk_WP M d mc ms k n (pc + 2) ls (.long x :: st) h Q) : hk_WP M d mc ms k n pc ls (st) h Q := by
  intro G p l e R s m args below meth c H locs lsA C hS hV hL
  exact lv_lload C.1 C.2.1 hd (hk_L_at hL hl) (kk G p l e R s m args below meth c H locs lsA C hS hV hL)
theorem hk_aload_n {f : Fin 4} {i : Nat} {x : Nat} (hd : decode M.2.1 pc = .ok (.aload_n f, 1)) (hi : (f : Nat) = i) (hl : ls[i]? = some (some (.ref x))) (kk : hk_WP M d mc ms k n (pc + 1) ls (.ref x :: st) h Q) : hk_WP M d mc ms k n pc ls (st) h Q := by
  intro G p l e R s m args below meth c H locs lsA C hS hV hL
  exact lv_aload_n C.1 C.2.1 hd hi (hk_L_at hL hl) (kk G p l e R s m args below meth c H locs lsA C hS hV hL)
theorem hk_aload {i : Nat} {x : Nat} (hd : decode M.2.1 pc = .ok (.aload i, 2)) (hl : ls[i]? = some (some (.ref x))) (kk : hk_WP M d mc ms k n (pc + 2) ls (.ref x :: st) h Q) : hk_WP M d mc ms k n pc ls (st) h Q := by
  intro G p l e R s m args below meth c H locs lsA C hS hV hL
  exact lv_aload C.1 C.2.1 hd (hk_L_at hL hl) (kk G p l e R s m args below meth c H locs lsA C hS hV hL)
theorem hk_aload_nN {f : Fin 4} {i : Nat} (hd : decode M.2.1 pc = .ok (.aload_n f, 1)) (hi : (f : Nat) = i) (hl : ls[i]? = some (some .null)) (kk : hk_WP M d mc ms k n (pc + 1) ls (.null :: st) h Q) : hk_WP M d mc ms k n pc ls (st) h Q := by
  intro G p l e R s m args below meth c H locs lsA C hS hV hL
  exact lv_aload_nN C.1 C.2.1 hd hi (hk_L_at hL hl) (kk G p l e R s m args below meth c H locs lsA C hS hV hL)
theorem hk_aloadN {i : Nat} (hd : decode M.2.1 pc = .ok (.aload i, 2)) (hl : ls[i]? = some (some .null)) (kk : hk_WP M d mc ms k n (pc + 2) ls (.null :: st) h Q) : hk_WP M d mc ms k n pc ls (st) h Q := by
  intro G p l e R s m args below meth c H locs lsA C hS hV hL
  exact lv_aloadN C.1 C.2.1 hd (hk_L_at hL hl) (kk G p l e R s m args below meth c H locs lsA C hS hV hL)
theorem hk_istore_n {f : Fin 4} {i : Nat} {x : Int32} (hd : decode M.2.1 pc = .ok (.istore_n f, 1)) (hi : (f : Nat) = i) (hn : i < M.2.2.1) (hok : hk_ok ls i = true) (kk : hk_WP M d mc ms k n (pc + 1) (ls.set i (some (.int x))) (st) h Q) : hk_WP M d mc ms k n pc ls (.int x :: st) h Q := by
  intro G p l e R s m args below meth c H locs lsA C hS hV hL
  exact lv_istore_n C.1 C.2.1 hd hi hL hn rfl (fun ls' hl' => kk G p l e R s m args below meth c H locs ls' C hS hV (hk_L_set hok hl'))
theorem hk_istore {i : Nat} {x : Int32} (hd : decode M.2.1 pc = .ok (.istore i, 2)) (hn : i < M.2.2.1) (hok : hk_ok ls i = true) (kk : hk_WP M d mc ms k n (pc + 2) (ls.set i (some (.int x))) (st) h Q) : hk_WP M d mc ms k n pc ls (.int x :: st) h Q := by
  intro G p l e R s m args below meth c H locs lsA C hS hV hL
  exact lv_istore C.1 C.2.1 hd hL hn rfl (fun ls' hl' => kk G p l e R s m args below meth c H locs ls' C hS hV (hk_L_set hok hl'))
theorem hk_astore_n {f : Fin 4} {i : Nat} {x : Nat} (hd : decode M.2.1 pc = .ok (.astore_n f, 1)) (hi : (f : Nat) = i) (hn : i < M.2.2.1) (hok : hk_ok ls i = true) (kk : hk_WP M d mc ms k n (pc + 1) (ls.set i (some (.ref x))) (st) h Q) : hk_WP M d mc ms k n pc ls (.ref x :: st) h Q := by
  intro G p l e R s m args below meth c H locs lsA C hS hV hL
  exact lv_astore_n C.1 C.2.1 hd hi hL hn rfl (fun ls' hl' => kk G p l e R s m args below meth c H locs ls' C hS hV (hk_L_set hok hl'))
theorem hk_astore {i : Nat} {x : Nat} (hd : decode M.2.1 pc = .ok (.astore i, 2)) (hn : i < M.2.2.1) (hok : hk_ok ls i = true) (kk : hk_WP M d mc ms k n (pc + 2) (ls.set i (some (.ref x))) (st) h Q) : hk_WP M d mc ms k n pc ls (.ref x :: st) h Q := by
  intro G p l e R s m args below meth c H locs lsA C hS hV hL
  exact lv_astore C.1 C.2.1 hd hL hn rfl (fun ls' hl' => kk G p l e R s m args below meth c H locs ls' C hS hV (hk_L_set hok hl'))
theorem hk_astore_nN {f : Fin 4} {i : Nat} (hd : decode M.2.1 pc = .ok (.astore_n f, 1)) (hi : (f : Nat) = i) (hn : i < M.2.2.1) (hok : hk_ok ls i = true) (kk : hk_WP M d mc ms k n (pc + 1) (ls.set i (some .null)) (st) h Q) : hk_WP M d mc ms k n pc ls (.null :: st) h Q := by
  intro G p l e R s m args below meth c H locs lsA C hS hV hL
  exact lv_astore_nN C.1 C.2.1 hd hi hL hn rfl (fun ls' hl' => kk G p l e R s m args below meth c H locs ls' C hS hV (hk_L_set hok hl'))
theorem hk_astoreN {i : Nat} (hd : decode M.2.1 pc = .ok (.astore i, 2)) (hn : i < M.2.2.1) (hok : hk_ok ls i = true) (kk : hk_WP M d mc ms k n (pc + 2) (ls.set i (some .null)) (st) h Q) : hk_WP M d mc ms k n pc ls (.null :: st) h Q := by
  intro G p l e R s m args below meth c H locs lsA C hS hV hL
  exact lv_astoreN C.1 C.2.1 hd hL hn rfl (fun ls' hl' => kk G p l e R s m args below meth c H locs ls' C hS hV (hk_L_set hok hl'))
theorem hk_lstore_n {f : Fin 4} {i : Nat} {x : Int64} (hd : decode M.2.1 pc = .ok (.lstore_n f, 1)) (hi : (f : Nat) = i) (hn : i + 1 < M.2.2.1) (hok : hk_ok ls i = true) (kk : hk_WP M d mc ms k n (pc + 1) ((ls.set i (some (.long x))).set (i + 1) none) (st) h Q) : hk_WP M d mc ms k n pc ls (.long x :: st) h Q := by
  intro G p l e R s m args below meth c H locs lsA C hS hV hL
  exact lv_lstore_n C.1 C.2.1 hd hi hL hn rfl (fun ls' hl' => kk G p l e R s m args below meth c H locs ls' C hS hV (hk_L_set2 hok hl'))
theorem hk_lstore {i : Nat} {x : Int64} (hd : decode M.2.1 pc = .ok (.lstore i, 2)) (hn : i + 1 < M.2.2.1) (hok : hk_ok ls i = true) (kk : hk_WP M d mc ms k n (pc + 2) ((ls.set i (some (.long x))).set (i + 1) none) (st) h Q) : hk_WP M d mc ms k n pc ls (.long x :: st) h Q := by
  intro G p l e R s m args below meth c H locs lsA C hS hV hL
  exact lv_lstore C.1 C.2.1 hd hL hn rfl (fun ls' hl' => kk G p l e R s m args below meth c H locs ls' C hS hV (hk_L_set2 hok hl'))
theorem hk_iinc {i : Nat} {z : Int} {x v : Int32} (hd : decode M.2.1 pc = .ok (.iinc i z, 3)) (hl : ls[i]? = some (some (.int x))) (hv : x + Int32.ofInt z = v) (hn : i < M.2.2.1) (hok : hk_ok ls i = true) (kk : hk_WP M d mc ms k n (pc + 3) (ls.set i (some (.int v))) (st) h Q) : hk_WP M d mc ms k n pc ls (st) h Q := by
  intro G p l e R s m args below meth c H locs lsA C hS hV hL
  obtain ⟨j, hj⟩ := List.getElem?_of_mem (hk_as_mem (b := hk_b G) (q := (i, .int x)) |>.mpr ⟨.int x, hl, rfl⟩)
  exact lv_iinc C.1 C.2.1 hd hL hj hv hn rfl (fun ls' hl' => kk G p l e R s m args below meth c H locs ls' C hS hV (hk_L_set hok hl'))
theorem hk_iadd {x y : Int32} (hd : decode M.2.1 pc = .ok (.iadd, 1)) (kk : hk_WP M d mc ms k n (pc + 1) ls (.int (x + y) :: st) h Q) : hk_WP M d mc ms k n pc ls (.int y :: .int x :: st) h Q := by
  intro G p l e R s m args below meth c H locs lsA C hS hV hL
  exact lv_iadd C.1 C.2.1 hd (kk G p l e R s m args below meth c H locs lsA C hS hV hL)
theorem hk_isub {x y : Int32} (hd : decode M.2.1 pc = .ok (.isub, 1)) (kk : hk_WP M d mc ms k n (pc + 1) ls (.int (x - y) :: st) h Q) : hk_WP M d mc ms k n pc ls (.int y :: .int x :: st) h Q := by
  intro G p l e R s m args below meth c H locs lsA C hS hV hL
  exact lv_isub C.1 C.2.1 hd (kk G p l e R s m args below meth c H locs lsA C hS hV hL)
theorem hk_imul {x y : Int32} (hd : decode M.2.1 pc = .ok (.imul, 1)) (kk : hk_WP M d mc ms k n (pc + 1) ls (.int (x * y) :: st) h Q) : hk_WP M d mc ms k n pc ls (.int y :: .int x :: st) h Q := by
  intro G p l e R s m args below meth c H locs lsA C hS hV hL
  exact lv_imul C.1 C.2.1 hd (kk G p l e R s m args below meth c H locs lsA C hS hV hL)
theorem hk_iand {x y : Int32} (hd : decode M.2.1 pc = .ok (.iand, 1)) (kk : hk_WP M d mc ms k n (pc + 1) ls (.int (x &&& y) :: st) h Q) : hk_WP M d mc ms k n pc ls (.int y :: .int x :: st) h Q := by
  intro G p l e R s m args below meth c H locs lsA C hS hV hL
  exact lv_iand C.1 C.2.1 hd (kk G p l e R s m args below meth c H locs lsA C hS hV hL)
theorem hk_ior {x y : Int32} (hd : decode M.2.1 pc = .ok (.ior, 1)) (kk : hk_WP M d mc ms k n (pc + 1) ls (.int (x ||| y) :: st) h Q) : hk_WP M d mc ms k n pc ls (.int y :: .int x :: st) h Q := by
  intro G p l e R s m args below meth c H locs lsA C hS hV hL
  exact lv_ior C.1 C.2.1 hd (kk G p l e R s m args below meth c H locs lsA C hS hV hL)
theorem hk_ishl {x y : Int32} (hd : decode M.2.1 pc = .ok (.ishl, 1)) (kk : hk_WP M d mc ms k n (pc + 1) ls (.int (x <<< (y &&& 31)) :: st) h Q) : hk_WP M d mc ms k n pc ls (.int y :: .int x :: st) h Q := by
  intro G p l e R s m args below meth c H locs lsA C hS hV hL
  exact lv_ishl C.1 C.2.1 hd (kk G p l e R s m args below meth c H locs lsA C hS hV hL)
theorem hk_ishr {x y : Int32} (hd : decode M.2.1 pc = .ok (.ishr, 1)) (kk : hk_WP M d mc ms k n (pc + 1) ls (.int (x >>> (y &&& 31)) :: st) h Q) : hk_WP M d mc ms k n pc ls (.int y :: .int x :: st) h Q := by
  intro G p l e R s m args below meth c H locs lsA C hS hV hL
  exact lv_ishr C.1 C.2.1 hd (kk G p l e R s m args below meth c H locs lsA C hS hV hL)
theorem hk_idiv {x y : Int32} (hd : decode M.2.1 pc = .ok (.idiv, 1)) (hne : ¬ y = 0) (kk : hk_WP M d mc ms k n (pc + 1) ls (.int (x / y) :: st) h Q) : hk_WP M d mc ms k n pc ls (.int y :: .int x :: st) h Q := by
  intro G p l e R s m args below meth c H locs lsA C hS hV hL
  exact lv_idiv C.1 C.2.1 hd hne (kk G p l e R s m args below meth c H locs lsA C hS hV hL)
theorem hk_irem {x y : Int32} (hd : decode M.2.1 pc = .ok (.irem, 1)) (hne : ¬ y = 0) (kk : hk_WP M d mc ms k n (pc + 1) ls (.int (x - x / y * y) :: st) h Q) : hk_WP M d mc ms k n pc ls (.int y :: .int x :: st) h Q := by
  intro G p l e R s m args below meth c H locs lsA C hS hV hL
  exact lv_irem C.1 C.2.1 hd hne (kk G p l e R s m args below meth c H locs lsA C hS hV hL)
theorem hk_ladd {x y : Int64} (hd : decode M.2.1 pc = .ok (.ladd, 1)) (kk : hk_WP M d mc ms k n (pc + 1) ls (.long (x + y) :: st) h Q) : hk_WP M d mc ms k n pc ls (.long y :: .long x :: st) h Q := by
  intro G p l e R s m args below meth c H locs lsA C hS hV hL
  exact lv_ladd C.1 C.2.1 hd (kk G p l e R s m args below meth c H locs lsA C hS hV hL)
theorem hk_i2l {x : Int32} {v : Int64} (hd : decode M.2.1 pc = .ok (.i2l, 1)) (hv : x.toInt64 = v) (kk : hk_WP M d mc ms k n (pc + 1) ls (.long v :: st) h Q) : hk_WP M d mc ms k n pc ls (.int x :: st) h Q := by
  intro G p l e R s m args below meth c H locs lsA C hS hV hL
  exact lv_i2l C.1 C.2.1 hd hv (kk G p l e R s m args below meth c H locs lsA C hS hV hL)
theorem hk_l2i {x : Int64} {v : Int32} (hd : decode M.2.1 pc = .ok (.l2i, 1)) (hv : x.toInt32 = v) (kk : hk_WP M d mc ms k n (pc + 1) ls (.int v :: st) h Q) : hk_WP M d mc ms k n pc ls (.long x :: st) h Q := by
  intro G p l e R s m args below meth c H locs lsA C hS hV hL
  exact lv_l2i C.1 C.2.1 hd hv (kk G p l e R s m args below meth c H locs lsA C hS hV hL)
theorem hk_dup {v : Value} (hd : decode M.2.1 pc = .ok (.dup, 1)) (hc : v.category = 1) (kk : hk_WP M d mc ms k n (pc + 1) ls (v :: v :: st) h Q) : hk_WP M d mc ms k n pc ls (v :: st) h Q := by
  intro G p l e R s m args below meth c H locs lsA C hS hV hL
  exact lv_dup C.1 C.2.1 hd ((hk_v_cat _ v).trans hc) (kk G p l e R s m args below meth c H locs lsA C hS hV hL)
theorem hk_pop {v : Value} (hd : decode M.2.1 pc = .ok (.pop, 1)) (hc : v.category = 1) (kk : hk_WP M d mc ms k n (pc + 1) ls (st) h Q) : hk_WP M d mc ms k n pc ls (v :: st) h Q := by
  intro G p l e R s m args below meth c H locs lsA C hS hV hL
  exact lv_pop C.1 C.2.1 hd ((hk_v_cat _ v).trans hc) (kk G p l e R s m args below meth c H locs lsA C hS hV hL)
theorem hk_dup2 {v w : Value} (hd : decode M.2.1 pc = .ok (.dup2, 1)) (hc : v.category = 1) (hc2 : w.category = 1) (kk : hk_WP M d mc ms k n (pc + 1) ls (v :: w :: v :: w :: st) h Q) : hk_WP M d mc ms k n pc ls (v :: w :: st) h Q := by
  intro G p l e R s m args below meth c H locs lsA C hS hV hL
  exact lv_dup2_11 C.1 C.2.1 hd ((hk_v_cat _ v).trans hc) ((hk_v_cat _ w).trans hc2) (kk G p l e R s m args below meth c H locs lsA C hS hV hL)
theorem hk_dup_x1 {v w : Value} (hd : decode M.2.1 pc = .ok (.dup_x1, 1)) (hc : v.category = 1) (hc2 : w.category = 1) (kk : hk_WP M d mc ms k n (pc + 1) ls (v :: w :: v :: st) h Q) : hk_WP M d mc ms k n pc ls (v :: w :: st) h Q := by
  intro G p l e R s m args below meth c H locs lsA C hS hV hL
  exact lv_dup_x1 C.1 C.2.1 hd ((hk_v_cat _ v).trans hc) ((hk_v_cat _ w).trans hc2) (kk G p l e R s m args below meth c H locs lsA C hS hV hL)
theorem hk_if_eq {x : Int32} {off : Int} {tgt : Nat} (hd : decode M.2.1 pc = .ok (.ifCond .eq off, 3)) (ht : (pc : Int) + off = (tgt : Int)) (kt : x = 0 → hk_WP M d mc ms k n (tgt) ls (st) h Q) (kf : ¬ x = 0 → hk_WP M d mc ms k n (pc + 3) ls (st) h Q) : hk_WP M d mc ms k n pc ls (.int x :: st) h Q := by
  intro G p l e R s m args below meth c H locs lsA C hS hV hL
  exact lv_if_eq C.1 C.2.1 hd ht (fun q => kt q G p l e R s m args below meth c H locs lsA C hS hV hL) (fun q => kf q G p l e R s m args below meth c H locs lsA C hS hV hL)
theorem hk_icmp_eq {x y : Int32} {off : Int} {tgt : Nat} (hd : decode M.2.1 pc = .ok (.if_icmp .eq off, 3)) (ht : (pc : Int) + off = (tgt : Int)) (kt : x = y → hk_WP M d mc ms k n (tgt) ls (st) h Q) (kf : ¬ x = y → hk_WP M d mc ms k n (pc + 3) ls (st) h Q) : hk_WP M d mc ms k n pc ls (.int y :: .int x :: st) h Q := by
  intro G p l e R s m args below meth c H locs lsA C hS hV hL
  exact lv_icmp_eq C.1 C.2.1 hd ht (fun q => kt q G p l e R s m args below meth c H locs lsA C hS hV hL) (fun q => kf q G p l e R s m args below meth c H locs lsA C hS hV hL)
theorem hk_if_ne {x : Int32} {off : Int} {tgt : Nat} (hd : decode M.2.1 pc = .ok (.ifCond .ne off, 3)) (ht : (pc : Int) + off = (tgt : Int)) (kt : ¬ x = 0 → hk_WP M d mc ms k n (tgt) ls (st) h Q) (kf : x = 0 → hk_WP M d mc ms k n (pc + 3) ls (st) h Q) : hk_WP M d mc ms k n pc ls (.int x :: st) h Q := by
  intro G p l e R s m args below meth c H locs lsA C hS hV hL
  exact lv_if_ne C.1 C.2.1 hd ht (fun q => kt q G p l e R s m args below meth c H locs lsA C hS hV hL) (fun q => kf q G p l e R s m args below meth c H locs lsA C hS hV hL)
theorem hk_icmp_ne {x y : Int32} {off : Int} {tgt : Nat} (hd : decode M.2.1 pc = .ok (.if_icmp .ne off, 3)) (ht : (pc : Int) + off = (tgt : Int)) (kt : ¬ x = y → hk_WP M d mc ms k n (tgt) ls (st) h Q) (kf : x = y → hk_WP M d mc ms k n (pc + 3) ls (st) h Q) : hk_WP M d mc ms k n pc ls (.int y :: .int x :: st) h Q := by
  intro G p l e R s m args below meth c H locs lsA C hS hV hL
  exact lv_icmp_ne C.1 C.2.1 hd ht (fun q => kt q G p l e R s m args below meth c H locs lsA C hS hV hL) (fun q => kf q G p l e R s m args below meth c H locs lsA C hS hV hL)
theorem hk_if_lt {x : Int32} {off : Int} {tgt : Nat} (hd : decode M.2.1 pc = .ok (.ifCond .lt off, 3)) (ht : (pc : Int) + off = (tgt : Int)) (kt : x < 0 → hk_WP M d mc ms k n (tgt) ls (st) h Q) (kf : ¬ x < 0 → hk_WP M d mc ms k n (pc + 3) ls (st) h Q) : hk_WP M d mc ms k n pc ls (.int x :: st) h Q := by
  intro G p l e R s m args below meth c H locs lsA C hS hV hL
  exact lv_if_lt C.1 C.2.1 hd ht (fun q => kt q G p l e R s m args below meth c H locs lsA C hS hV hL) (fun q => kf q G p l e R s m args below meth c H locs lsA C hS hV hL)
theorem hk_icmp_lt {x y : Int32} {off : Int} {tgt : Nat} (hd : decode M.2.1 pc = .ok (.if_icmp .lt off, 3)) (ht : (pc : Int) + off = (tgt : Int)) (kt : x < y → hk_WP M d mc ms k n (tgt) ls (st) h Q) (kf : ¬ x < y → hk_WP M d mc ms k n (pc + 3) ls (st) h Q) : hk_WP M d mc ms k n pc ls (.int y :: .int x :: st) h Q := by
  intro G p l e R s m args below meth c H locs lsA C hS hV hL
  exact lv_icmp_lt C.1 C.2.1 hd ht (fun q => kt q G p l e R s m args below meth c H locs lsA C hS hV hL) (fun q => kf q G p l e R s m args below meth c H locs lsA C hS hV hL)
theorem hk_if_ge {x : Int32} {off : Int} {tgt : Nat} (hd : decode M.2.1 pc = .ok (.ifCond .ge off, 3)) (ht : (pc : Int) + off = (tgt : Int)) (kt : 0 ≤ x → hk_WP M d mc ms k n (tgt) ls (st) h Q) (kf : ¬ 0 ≤ x → hk_WP M d mc ms k n (pc + 3) ls (st) h Q) : hk_WP M d mc ms k n pc ls (.int x :: st) h Q := by
  intro G p l e R s m args below meth c H locs lsA C hS hV hL
  exact lv_if_ge C.1 C.2.1 hd ht (fun q => kt q G p l e R s m args below meth c H locs lsA C hS hV hL) (fun q => kf q G p l e R s m args below meth c H locs lsA C hS hV hL)
theorem hk_icmp_ge {x y : Int32} {off : Int} {tgt : Nat} (hd : decode M.2.1 pc = .ok (.if_icmp .ge off, 3)) (ht : (pc : Int) + off = (tgt : Int)) (kt : y ≤ x → hk_WP M d mc ms k n (tgt) ls (st) h Q) (kf : ¬ y ≤ x → hk_WP M d mc ms k n (pc + 3) ls (st) h Q) : hk_WP M d mc ms k n pc ls (.int y :: .int x :: st) h Q := by
  intro G p l e R s m args below meth c H locs lsA C hS hV hL
  exact lv_icmp_ge C.1 C.2.1 hd ht (fun q => kt q G p l e R s m args below meth c H locs lsA C hS hV hL) (fun q => kf q G p l e R s m args below meth c H locs lsA C hS hV hL)
theorem hk_if_gt {x : Int32} {off : Int} {tgt : Nat} (hd : decode M.2.1 pc = .ok (.ifCond .gt off, 3)) (ht : (pc : Int) + off = (tgt : Int)) (kt : 0 < x → hk_WP M d mc ms k n (tgt) ls (st) h Q) (kf : ¬ 0 < x → hk_WP M d mc ms k n (pc + 3) ls (st) h Q) : hk_WP M d mc ms k n pc ls (.int x :: st) h Q := by
  intro G p l e R s m args below meth c H locs lsA C hS hV hL
  exact lv_if_gt C.1 C.2.1 hd ht (fun q => kt q G p l e R s m args below meth c H locs lsA C hS hV hL) (fun q => kf q G p l e R s m args below meth c H locs lsA C hS hV hL)
theorem hk_icmp_gt {x y : Int32} {off : Int} {tgt : Nat} (hd : decode M.2.1 pc = .ok (.if_icmp .gt off, 3)) (ht : (pc : Int) + off = (tgt : Int)) (kt : y < x → hk_WP M d mc ms k n (tgt) ls (st) h Q) (kf : ¬ y < x → hk_WP M d mc ms k n (pc + 3) ls (st) h Q) : hk_WP M d mc ms k n pc ls (.int y :: .int x :: st) h Q := by
  intro G p l e R s m args below meth c H locs lsA C hS hV hL
  exact lv_icmp_gt C.1 C.2.1 hd ht (fun q => kt q G p l e R s m args below meth c H locs lsA C hS hV hL) (fun q => kf q G p l e R s m args below meth c H locs lsA C hS hV hL)
theorem hk_if_le {x : Int32} {off : Int} {tgt : Nat} (hd : decode M.2.1 pc = .ok (.ifCond .le off, 3)) (ht : (pc : Int) + off = (tgt : Int)) (kt : x ≤ 0 → hk_WP M d mc ms k n (tgt) ls (st) h Q) (kf : ¬ x ≤ 0 → hk_WP M d mc ms k n (pc + 3) ls (st) h Q) : hk_WP M d mc ms k n pc ls (.int x :: st) h Q := by
  intro G p l e R s m args below meth c H locs lsA C hS hV hL
  exact lv_if_le C.1 C.2.1 hd ht (fun q => kt q G p l e R s m args below meth c H locs lsA C hS hV hL) (fun q => kf q G p l e R s m args below meth c H locs lsA C hS hV hL)
theorem hk_icmp_le {x y : Int32} {off : Int} {tgt : Nat} (hd : decode M.2.1 pc = .ok (.if_icmp .le off, 3)) (ht : (pc : Int) + off = (tgt : Int)) (kt : x ≤ y → hk_WP M d mc ms k n (tgt) ls (st) h Q) (kf : ¬ x ≤ y → hk_WP M d mc ms k n (pc + 3) ls (st) h Q) : hk_WP M d mc ms k n pc ls (.int y :: .int x :: st) h Q := by
  intro G p l e R s m args below meth c H locs lsA C hS hV hL
  exact lv_icmp_le C.1 C.2.1 hd ht (fun q => kt q G p l e R s m args below meth c H locs lsA C hS hV hL) (fun q => kf q G p l e R s m args below meth c H locs lsA C hS hV hL)
theorem hk_goto {off : Int} {tgt : Nat} (hd : decode M.2.1 pc = .ok (.goto off, 3)) (ht : (pc : Int) + off = (tgt : Int)) (kk : hk_WP M d mc ms k n (tgt) ls (st) h Q) : hk_WP M d mc ms k n pc ls (st) h Q := by
  intro G p l e R s m args below meth c H locs lsA C hS hV hL
  exact lv_goto C.1 C.2.1 hd ht (kk G p l e R s m args below meth c H locs lsA C hS hV hL)
theorem hk_ifnull {x : Nat} {off : Int} (hd : decode M.2.1 pc = .ok (.ifnull off, 3)) (kk : hk_WP M d mc ms k n (pc + 3) ls (st) h Q) : hk_WP M d mc ms k n pc ls (.ref x :: st) h Q := by
  intro G p l e R s m args below meth c H locs lsA C hS hV hL
  exact lv_ifnull C.1 C.2.1 hd (kk G p l e R s m args below meth c H locs lsA C hS hV hL)
theorem hk_ifnullN {off : Int} {tgt : Nat} (hd : decode M.2.1 pc = .ok (.ifnull off, 3)) (ht : (pc : Int) + off = (tgt : Int)) (kk : hk_WP M d mc ms k n (tgt) ls (st) h Q) : hk_WP M d mc ms k n pc ls (.null :: st) h Q := by
  intro G p l e R s m args below meth c H locs lsA C hS hV hL
  exact lv_ifnullN C.1 C.2.1 hd ht (kk G p l e R s m args below meth c H locs lsA C hS hV hL)
theorem hk_ifnonnull {x : Nat} {off : Int} {tgt : Nat} (hd : decode M.2.1 pc = .ok (.ifnonnull off, 3)) (ht : (pc : Int) + off = (tgt : Int)) (kk : hk_WP M d mc ms k n (tgt) ls (st) h Q) : hk_WP M d mc ms k n pc ls (.ref x :: st) h Q := by
  intro G p l e R s m args below meth c H locs lsA C hS hV hL
  exact lv_ifnonnull C.1 C.2.1 hd ht (kk G p l e R s m args below meth c H locs lsA C hS hV hL)
theorem hk_ifnonnullN {off : Int} (hd : decode M.2.1 pc = .ok (.ifnonnull off, 3)) (kk : hk_WP M d mc ms k n (pc + 3) ls (st) h Q) : hk_WP M d mc ms k n pc ls (.null :: st) h Q := by
  intro G p l e R s m args below meth c H locs lsA C hS hV hL
  exact lv_ifnonnullN C.1 C.2.1 hd (kk G p l e R s m args below meth c H locs lsA C hS hV hL)
theorem hk_null (hd : decode M.2.1 pc = .ok (.aconst_null, 1)) (kk : hk_WP M d mc ms k n (pc + 1) ls (.null :: st) h Q) : hk_WP M d mc ms k n pc ls (st) h Q := by
  intro G p l e R s m args below meth c H locs lsA C hS hV hL
  exact lv_null C.1 C.2.1 hd (kk G p l e R s m args below meth c H locs lsA C hS hV hL)
theorem hk_tableIn {dflt lo hi : Int} {offs : Array Int} {len : Nat} {x : Int32} {off : Int} {tgt : Nat} (hd : decode M.2.1 pc = .ok (.tableswitch dflt lo hi offs, len)) (h1 : ¬ x.toInt < lo) (h2 : ¬ hi < x.toInt) (ho : offs[(x.toInt - lo).toNat]? = some off) (ht : (pc : Int) + off = (tgt : Int)) (kk : hk_WP M d mc ms k n (tgt) ls (st) h Q) : hk_WP M d mc ms k n pc ls (.int x :: st) h Q := by
  intro G p l e R s m args below meth c H locs lsA C hS hV hL
  exact lv_tableIn C.1 C.2.1 hd h1 h2 ho ht (kk G p l e R s m args below meth c H locs lsA C hS hV hL)
theorem hk_tableOut {dflt lo hi : Int} {offs : Array Int} {len : Nat} {x : Int32} {tgt : Nat} (hd : decode M.2.1 pc = .ok (.tableswitch dflt lo hi offs, len)) (h1 : x.toInt < lo ∨ hi < x.toInt) (ht : (pc : Int) + dflt = (tgt : Int)) (kk : hk_WP M d mc ms k n (tgt) ls (st) h Q) : hk_WP M d mc ms k n pc ls (.int x :: st) h Q := by
  intro G p l e R s m args below meth c H locs lsA C hS hV hL
  exact lv_tableOut C.1 C.2.1 hd h1 ht (kk G p l e R s m args below meth c H locs lsA C hS hV hL)
theorem hk_lookup {dflt : Int} {ps : Array (Int × Int)} {len : Nat} {x : Int32} {off : Int} {tgt : Nat} (hd : decode M.2.1 pc = .ok (.lookupswitch dflt ps, len)) (hp : (ps.toList.zip (ps.toList.drop 1)).all (fun (a, next) => a.1 < next.1) = true) (ho : Op.lookupswitch.offset ps.toList dflt x.toInt = off) (ht : (pc : Int) + off = (tgt : Int)) (kk : hk_WP M d mc ms k n (tgt) ls (st) h Q) : hk_WP M d mc ms k n pc ls (.int x :: st) h Q := by
  intro G p l e R s m args below meth c H locs lsA C hS hV hL
  exact lv_lookup C.1 C.2.1 hd hp ho ht (kk G p l e R s m args below meth c H locs lsA C hS hV hL)
theorem hk_ireturn {v : Int32} {ty : FieldType} (hd : decode M.2.1 pc = .ok (.ireturn, 1)) (hr : M.2.2.2 = some ty) (hn : narrow ty (.int v) = .int v) (hk : k ≤ mc ∧ n ≤ ms) (hQ : Q (some (.int v)) h) : hk_WP M d mc ms k n pc ls [.int v] h Q := by
  intro G p l e R s m args below meth c H locs lsA C hS hV hL
  refine W.widen hk.1 hk.2 ?_
  exact W.zret C.1 C.2.1 (C.2.2.2.2.2.1.trans hr) hn (fun t ht hW => ⟨⟨some (.int v), h, rfl, hQ, by rw [ht]; exact hS.warm hW⟩, hV.F ht⟩) hV.2.2 hd C.2.2.2.2.2.2.1
theorem hk_return (hd : decode M.2.1 pc = .ok (.return_, 1)) (hr : M.2.2.2 = none) (hk : k ≤ mc ∧ n ≤ ms) (hQ : Q none h) : hk_WP M d mc ms k n pc ls [] h Q := by
  intro G p l e R s m args below meth c H locs lsA C hS hV hL
  refine W.widen hk.1 hk.2 ?_
  exact W.vret C.1 C.2.1 (C.2.2.2.2.2.1.trans hr) (fun t ht hW => ⟨⟨none, h, rfl, hQ, by rw [ht]; exact hS.warm hW⟩, hV.F ht⟩) hV.2.2 hd C.2.2.2.2.2.2.1
theorem hk_areturn {v : Value} {rt : FieldType} (hd : decode M.2.1 pc = .ok (.areturn, 1)) (hr : M.2.2.2 = some rt) (hrt : (∃ n, rt = .object n) ∨ ∃ t, rt = .array t) (hv : v = .null ∨ ∃ a, v = .ref a) (hk : k ≤ mc ∧ n ≤ ms) (hQ : Q (some v) h) : hk_WP M d mc ms k n pc ls [v] h Q := by
  intro G p l e R s m args below meth c H locs lsA C hS hV hL
  refine W.widen hk.1 hk.2 ?_
  exact W.aret C.1 C.2.1 (C.2.2.2.2.2.1.trans hr) hrt (by rcases hv with rfl | ⟨a, rfl⟩; exact Or.inl rfl; exact Or.inr ⟨_, rfl⟩) (fun t ht hW => ⟨⟨some v, h, rfl, hQ, by rw [ht]; exact hS.warm hW⟩, hV.F ht⟩) hV.2.2 hd C.2.2.2.2.2.2.1
end HR
end
section
/-! rows of the hk_ layer: fields, arrays, making, calls -/
theorem hk_t {w : Cond} (i : Nat) (hi : tables_1[i]? = some w) (hg : goodWord w = true) : w ∈ hk_T := hk_T_good (List.mem_append_right _ (List.mem_of_getElem? hi)) hg
theorem hk_ts {w : Cond} (i : Nat) (hi : (k2_sels lw_privs)[i]? = some w) (hg : goodWord w = true) : w ∈ hk_T := hk_T_good (List.mem_append_left _ (List.mem_of_getElem? hi)) hg
theorem hk_n {w : Cond} (i : Nat) (hi : tables_1[i]? = some w) (hg : hk_isN w = true) : w ∈ hk_N := List.mem_filter.mpr ⟨List.mem_of_getElem? hi, hg⟩
section HM
variable {M : hk_M} {d mc ms k n pc : Nat} {ls : List (Option Value)} {st : List Value} {h : hk_H} {Q : Option Value → hk_H → Prop}
theorem hk_wl_obj {G : hk_G} {a ci : Nat} {fs : List Value} (ha : a < h.1) (he : h.2 a = .inr (ci, fs)) : (hk_wl G h)[a]? = some (hk_b G + a, .inr (ci, fs.map (hk_v (hk_b G)))) := by
  rw [hk_wl_get ha, he]; rfl
theorem hk_wl_int {G : hk_G} {a t N : Nat} {f : Nat → Int32} (ha : a < h.1) (he : h.2 a = .inl (t, N, .inl f)) : (hk_wl G h)[a]? = some (hk_b G + a, .inl (hk_cid G t, N, .inl f)) := by
  rw [hk_wl_get ha, he]; rfl
theorem hk_wl_ref {G : hk_G} {a t N : Nat} {f : Nat → Option Nat} (ha : a < h.1) (he : h.2 a = .inl (t, N, .inr f)) : (hk_wl G h)[a]? = some (hk_b G + a, .inl (hk_cid G t, N, .inr (.inr (.inr (.inr (fun j => (f j).map (fun a => hk_b G + a))))))) := by
  rw [hk_wl_get ha, he]; rfl
theorem hk_getf {C : String} {T : u_T} {N ci idx kf a : Nat} {fs : List Value} {v : Value} (hc : vwCl[ci]? = some (C, T, N)) (hin : ∀ w ∈ u_ws C T N, w ∈ hk_T) (hkN : kf < N) (hlink : Cond.fieldLink M.1.cls idx (T kf).1 (T kf).2.1 (T kf).2.2.1 ∈ hk_T)
    (hd : decode M.2.1 pc = .ok (.getfield idx, 3)) (ha : a < h.1) (he : h.2 a = .inr (ci, fs)) (hv : fs[kf]? = some v) (kk : hk_WP M d mc ms k n (pc + 3) ls (v :: st) h Q) : hk_WP M d mc ms k n pc ls (.ref a :: st) h Q := by
  intro G p l e R s m args below meth c H locs lsA C0 hS hV hL
  exact va_get C0.1 C0.2.1 C0.2.2.2.2.1 hin C0.2.2.2.1 hS.1 hS.2.1 a (hk_wl_obj ha he) hc kf hkN (C0.2.2.2.2.1 _ hlink) (fun _ h => h) (by rw [List.getElem?_map, hv]; rfl) hd (kk G p l e R s m args below meth c H locs lsA C0 hS hV hL)
theorem hk_getfN {C host : String} {T : u_T} {N ci idx kf a : Nat} {fs : List Value} {v : Value} (hc : vwCl[ci]? = some (C, T, N)) (hin : ∀ w ∈ u_ws C T N, w ∈ hk_T) (hkN : kf < N) (hlink : Cond.fieldLinkNest M.1.cls idx (T kf).1 (T kf).2.1 (T kf).2.2.1 host ∈ hk_N)
    (hd : decode M.2.1 pc = .ok (.getfield idx, 3)) (ha : a < h.1) (he : h.2 a = .inr (ci, fs)) (hv : fs[kf]? = some v) (kk : hk_WP M d mc ms k n (pc + 3) ls (v :: st) h Q) : hk_WP M d mc ms k n pc ls (.ref a :: st) h Q := by
  intro G p l e R s m args below meth c H locs lsA C0 hS hV hL
  exact va_getN C0.1 C0.2.1 C0.2.2.2.2.1 hin C0.2.2.2.1 hS.1 hS.2.1 a (hk_wl_obj ha he) hc kf hkN (va_Nw.use rfl (C0.2.2.2.2.2.2.2.2.2.2.1 _ hlink)) (fun _ h => h) (by rw [List.getElem?_map, hv]; rfl) hd (kk G p l e R s m args below meth c H locs lsA C0 hS hV hL)
theorem hk_set_map {G : hk_G} {fs : List Value} {kf : Nat} {v : Value} : (fs.map (hk_v (hk_b G))).set kf (hk_v (hk_b G) v) = (fs.set kf v).map (hk_v (hk_b G)) := List.map_set.symm
theorem hk_S_set {G : hk_G} {a : Nat} {x : hk_E} {s : State} {H H1 : Heap} (hS : hk_S G h s H) (hP : va_P G.1 vwCl ((hk_wl G h).set a (hk_b G + a, hk_ce G x)) H1) (hz : H1.size = H.size) : hk_S G (hk_up h a x) s H1 :=
  ⟨hS.1, hk_wl_set x ▸ hP, hz.trans hS.2.2⟩
theorem hk_putf {C : String} {T : u_T} {N ci idx kf a : Nat} {fs : List Value} {v : Value} (ty0 : Nat → FieldType) (hty : ∀ k, k < N → parseFieldDescriptor (T k).2.2.1 = some (ty0 k)) (hnm : ∀ a, a < N → ∀ b, b < N → a ≠ b → (T a).2.1 ≠ (T b).2.1)
    (hc : vwCl[ci]? = some (C, T, N)) (hin : ∀ w ∈ u_ws C T N, w ∈ hk_T) (hkN : kf < N)
    (hlink : ∀ (s : State) (args : Array Value), (∀ w ∈ hk_T, w.before args s = true) → hk_Nw s → (Cond.fieldLink M.1.cls idx (T kf).1 (T kf).2.1 (T kf).2.2.1).before args s = true) (hfin : (T kf).2.2.2 = false)
    (hn : ∀ b, narrow (ty0 kf) (hk_v b v) = hk_v b v) (hfit : ∀ b, fits (ty0 kf) (hk_v b v) = true)
    (hd : decode M.2.1 pc = .ok (.putfield idx, 3)) (ha : a < h.1) (he : h.2 a = .inr (ci, fs)) (hl : kf < fs.length) (kk : hk_WP M d mc ms k n (pc + 3) ls st (hk_up h a (.inr (ci, fs.set kf v))) Q) : hk_WP M d mc ms k n pc ls (v :: .ref a :: st) h Q := by
  intro G p l e R s m args below meth c H locs lsA C0 hS hV hL
  have hap := va_apart (own := M.1.cls) C0.2.2.2.2.1 hin ty0 hty hnm hS.1 hc
  have he' := hk_wl_obj (G := G) ha he
  obtain ⟨r, h1, cell, q1, q2, q3, q4⟩ := hS.2.1 a _ he'
  obtain rfl : r = (C, T, N) := Option.some.inj (h1.symm.trans hc)
  obtain ⟨hSl, hfc, kC, hkC, hkind⟩ := hS.1.1 ci _ hc
  obtain ⟨cf, kf', fi, f, hi, hsl⟩ := hSl kf hkN
  have hlay := C0.2.2.2.2.1 _ (hin _ (u_in_lay hkN))
  simp only [u_lay, hfin, Bool.false_eq_true, if_false] at hlay
  have hst := (u_facts hfc hkC (u_lays C0.2.2.2.2.1 hin hkN) hi).1
  have h6 := u_store hfc hkC hkind hlay hi (hty kf hkN) (hn (hk_b G)) (hfit (hk_b G))
  refine W.putK C0.1 C0.2.1 (f := f) ⟨C0.2.2.2.1, hlink s args C0.2.2.2.2.1 C0.2.2.2.2.2.2.2.2.2.2.1, ⟨_, _, _, hi⟩, hst⟩ (by rw [q2]; exact h6) q1 q3 (by rw [hsl]; exact k2_hasslot (q4 kf hkN)) rfl rfl hd fun H1 e1 e2 e3 => ?_
  rw [hsl] at e1 ⊢
  have hP1 := hS.2.1.set (hk_D G h) he' (e := .inr (ci, (fs.map (hk_v (hk_b G))).set kf (hk_v (hk_b G) v))) (H1 := H1) ⟨_, hc, t_OB.to (V := updV (vp_V (fs.map (hk_v (hk_b G)))) kf (hk_v (hk_b G) v)) ⟨_, e1, q2, q3, t_set q4 hap hkN _⟩ (fun j _ => vp_updV_set (by rw [List.length_map]; exact hl) _ j)⟩ e3
  rw [hk_set_map] at hP1
  exact kk G p l e R s m args below meth c H1 _ lsA C0 (hk_S_set (x := .inr (ci, fs.set kf v)) hS hP1 e2) (hV.put e2 e3 (Nat.le_add_right _ _)) hL
theorem hk_putF {C : String} {T : u_T} {N ci idx kf a : Nat} {fs : List Value} {v : Value} (ty0 : Nat → FieldType) (hty : ∀ k, k < N → parseFieldDescriptor (T k).2.2.1 = some (ty0 k)) (hnm : ∀ a, a < N → ∀ b, b < N → a ≠ b → (T a).2.1 ≠ (T b).2.1)
    (hc : vwCl[ci]? = some (C, T, N)) (hin : ∀ w ∈ u_ws C T N, w ∈ hk_T) (hkN : kf < N)
    (hlink : Cond.fieldLink M.1.cls idx (T kf).1 (T kf).2.1 (T kf).2.2.1 ∈ hk_T) (hfin : (T kf).2.2.2 = true) (hinit : M.1.name = "<init>") (hdecl : (T kf).1 = M.1.cls)
    (hn : ∀ b, narrow (ty0 kf) (hk_v b v) = hk_v b v) (hfit : ∀ b, fits (ty0 kf) (hk_v b v) = true)
    (hd : decode M.2.1 pc = .ok (.putfield idx, 3)) (ha : a < h.1) (he : h.2 a = .inr (ci, fs)) (hl : kf < fs.length) (kk : hk_WP M d mc ms k n (pc + 3) ls st (hk_up h a (.inr (ci, fs.set kf v))) Q) : hk_WP M d mc ms k n pc ls (v :: .ref a :: st) h Q := by
  intro G p l e R s m args below meth c H locs lsA C0 hS hV hL
  have hap := va_apart (own := M.1.cls) C0.2.2.2.2.1 hin ty0 hty hnm hS.1 hc
  have he' := hk_wl_obj (G := G) ha he
  obtain ⟨r, h1, cell, q1, q2, q3, q4⟩ := hS.2.1 a _ he'
  obtain rfl : r = (C, T, N) := Option.some.inj (h1.symm.trans hc)
  obtain ⟨hSl, hfc, kC, hkC, hkind⟩ := hS.1.1 ci _ hc
  obtain ⟨cf, kf', fi, f, hi, hsl⟩ := hSl kf hkN
  have hlay := C0.2.2.2.2.1 _ (hin _ (u_in_lay hkN))
  simp only [u_lay, hfin, if_true] at hlay
  have hst := (u_facts hfc hkC (u_lays C0.2.2.2.2.1 hin hkN) hi).1
  have hcf : m.cls = cf := by
    obtain ⟨_, _, c', _, _, _, -, -, hf', -, -, -, hown2, -⟩ := Cond.laysFinal_spec hlay
    have e1 : c' = cf := by have := hi.symm.trans hf'; simp at this; exact this.1.symm
    rw [hdecl] at hown2
    rw [← e1]; exact Option.some.inj (C0.2.2.2.1.symm.trans hown2)
  have h6 := u_fits hfc hkC hkind (Or.inr hlay) hi (hty kf hkN) (hn (hk_b G)) (hfit (hk_b G))
  refine W.putFinK C0.1 C0.2.1 C0.2.2.2.1 (C0.2.2.2.2.1 _ hlink) hi hst hcf (C0.2.2.2.2.2.2.2.1.trans hinit) (by rw [q2]; exact h6) q1 q3 (by rw [hsl]; exact k2_hasslot (q4 kf hkN)) rfl rfl hd fun H1 e1 e2 e3 => ?_
  rw [hsl] at e1 ⊢
  have hP1 := hS.2.1.set (hk_D G h) he' (e := .inr (ci, (fs.map (hk_v (hk_b G))).set kf (hk_v (hk_b G) v))) (H1 := H1) ⟨_, hc, t_OB.to (V := updV (vp_V (fs.map (hk_v (hk_b G)))) kf (hk_v (hk_b G) v)) ⟨_, e1, q2, q3, t_set q4 hap hkN _⟩ (fun j _ => vp_updV_set (by rw [List.length_map]; exact hl) _ j)⟩ e3
  rw [hk_set_map] at hP1
  exact kk G p l e R s m args below meth c H1 _ lsA C0 (hk_S_set (x := .inr (ci, fs.set kf v)) hS hP1 e2) (hV.put e2 e3 (Nat.le_add_right _ _)) hL
theorem hk_iaload {a N : Nat} {f : Nat → Int32} {i : Int32} (hd : decode M.2.1 pc = .ok (.iaload, 1)) (ha : a < h.1) (he : h.2 a = .inl (0, N, .inl f)) (hin : vp_in i N) (kk : hk_WP M d mc ms k n (pc + 1) ls (.int (f i.toNatClampNeg) :: st) h Q) : hk_WP M d mc ms k n pc ls (.int i :: .ref a :: st) h Q := by
  intro G p l e R s m args below meth c H locs lsA C0 hS hV hL
  exact va_iald C0.1 C0.2.1 hS.1 hS.2.1 a 0 (hk_wl_int ha he) rfl hin hd (kk G p l e R s m args below meth c H locs lsA C0 hS hV hL)
theorem hk_zaload {a N : Nat} {f : Nat → Int32} {i : Int32} (hd : decode M.2.1 pc = .ok (.baload, 1)) (ha : a < h.1) (he : h.2 a = .inl (1, N, .inl f)) (hin : vp_in i N) (kk : hk_WP M d mc ms k n (pc + 1) ls (.int (f i.toNatClampNeg) :: st) h Q) : hk_WP M d mc ms k n pc ls (.int i :: .ref a :: st) h Q := by
  intro G p l e R s m args below meth c H locs lsA C0 hS hV hL
  exact va_zald C0.1 C0.2.1 hS.1 hS.2.1 a 1 (hk_wl_int ha he) rfl hin hd (kk G p l e R s m args below meth c H locs lsA C0 hS hV hL)
theorem hk_aaload {a N : Nat} {f : Nat → Option Nat} {i : Int32} (hd : decode M.2.1 pc = .ok (.aaload, 1)) (ha : a < h.1) (he : h.2 a = .inl (2, N, .inr f)) (hin : vp_in i N) (kk : hk_WP M d mc ms k n (pc + 1) ls (va_rf (f i.toNatClampNeg) :: st) h Q) : hk_WP M d mc ms k n pc ls (.int i :: .ref a :: st) h Q := by
  intro G p l e R s m args below meth c H locs lsA C0 hS hV hL
  refine va_aldq C0.1 C0.2.1 hS.1 hS.2.1 a 2 (hk_wl_ref ha he) rfl hin hd ?_
  have := kk G p l e R s m args below meth c H locs lsA C0 hS hV hL
  have e9 : va_rf ((f i.toNatClampNeg).map (fun a => hk_b G + a)) = hk_v (hk_b G) (va_rf (f i.toNatClampNeg)) := by cases f i.toNatClampNeg <;> rfl
  simp only [e9]
  exact this
theorem hk_alen {a t N : Nat} {x : (Nat → Int32) ⊕ (Nat → Option Nat)} {v : Int32} (hd : decode M.2.1 pc = .ok (.arraylength, 1)) (ha : a < h.1) (he : h.2 a = .inl (t, N, x)) (hv : Int32.ofNat N = v) (kk : hk_WP M d mc ms k n (pc + 1) ls (.int v :: st) h Q) : hk_WP M d mc ms k n pc ls (.ref a :: st) h Q := by
  intro G p l e R s m args below meth c H locs lsA C0 hS hV hL
  have K := kk G p l e R s m args below meth c H locs lsA C0 hS hV hL
  have ht : ∃ (i : Nat) (ty : FieldType), (hk_tys G)[i]? = some (hk_cid G t, ty) := by
    match t with
    | 0 => exact ⟨0, _, rfl⟩
    | 1 => exact ⟨1, _, rfl⟩
    | t + 2 => exact ⟨2, _, rfl⟩
  obtain ⟨i, ty, ht⟩ := ht
  match x, he with
  | .inl f, he => exact va_alen C0.1 C0.2.1 hS.1 hS.2.1 a i (hk_wl_int ha he) ht hv hd K
  | .inr f, he => exact va_alen C0.1 C0.2.1 hS.1 hS.2.1 a i (hk_wl_ref ha he) ht hv hd K
theorem hk_arr_st {cA : ClassId} {N i : Nat} {f : Nat → Int32} {x : Int32} : (arrV cA N (fun j => .int (f j))).setSlot i (.int x) = vp_cell cA (N, .inl (upd f i x)) := by
  rw [vp_cell_i, arrV_store]
  congr 1
  funext q
  by_cases hq : q = i
  · subst hq; simp [updV, upd]
  · simp [updV, upd, hq]
theorem hk_iastore {a N : Nat} {f : Nat → Int32} {i x : Int32} (hd : decode M.2.1 pc = .ok (.iastore, 1)) (ha : a < h.1) (he : h.2 a = .inl (0, N, .inl f)) (hin : vp_in i N) (kk : hk_WP M d mc ms k n (pc + 1) ls st (hk_up h a (.inl (0, N, .inl (upd f i.toNatClampNeg x)))) Q) : hk_WP M d mc ms k n pc ls (.int x :: .int i :: .ref a :: st) h Q := by
  intro G p l e R s m args below meth c H locs lsA C0 hS hV hL
  have he' := hk_wl_int (G := G) ha he
  have hP := hS.2.1 a _ he'
  refine W.iast C0.1 C0.2.1 hP ((hS.1.2 0 _ rfl).1 N (fun j => .int (f j))) (fun q => by cases q) (by show ¬ (i < 0 ∨ (arrV _ _ _).slots.size ≤ _); rw [arrV_size]; exact hin) rfl rfl hd fun H1 e7 z oq => ?_
  have hP1 := hS.2.1.set (hk_D G h) he' (e := .inl (hk_cid G 0, N, .inl (upd f i.toNatClampNeg x))) (H1 := H1) (by show H1[_]? = some (vp_cell _ _); rw [← hk_arr_st]; exact e7) oq
  exact kk G p l e R s m args below meth c H1 _ lsA C0 (hk_S_set (x := .inl (0, N, .inl (upd f i.toNatClampNeg x))) hS hP1 z) (hV.put z oq (Nat.le_add_right _ _)) hL
theorem hk_zastore {a N : Nat} {f : Nat → Int32} {i x : Int32} (hx : narrow .boolean (.int x) = .int x) (hd : decode M.2.1 pc = .ok (.bastore, 1)) (ha : a < h.1) (he : h.2 a = .inl (1, N, .inl f)) (hin : vp_in i N) (kk : hk_WP M d mc ms k n (pc + 1) ls st (hk_up h a (.inl (1, N, .inl (upd f i.toNatClampNeg x)))) Q) : hk_WP M d mc ms k n pc ls (.int x :: .int i :: .ref a :: st) h Q := by
  intro G p l e R s m args below meth c H locs lsA C0 hS hV hL
  have he' := hk_wl_int (G := G) ha he
  have hP := hS.2.1 a _ he'
  refine W.zast C0.1 C0.2.1 hP ((hS.1.2 1 _ rfl).1 N (fun j => .int (f j))) (fun q => by cases q) (by show ¬ (i < 0 ∨ (arrV _ _ _).slots.size ≤ _); rw [arrV_size]; exact hin) rfl rfl hd fun H1 e7 z oq => ?_
  rw [hx] at e7
  have hP1 := hS.2.1.set (hk_D G h) he' (e := .inl (hk_cid G 1, N, .inl (upd f i.toNatClampNeg x))) (H1 := H1) (by show H1[_]? = some (vp_cell _ _); rw [← hk_arr_st]; exact e7) oq
  exact kk G p l e R s m args below meth c H1 _ lsA C0 (hk_S_set (x := .inl (1, N, .inl (upd f i.toNatClampNeg x))) hS hP1 z) (hV.put z oq (Nat.le_add_right _ _)) hL
/-- making: the new object is number h.1 -/
theorem hk_S_push {G : hk_G} {x : hk_E} {s : State} {H H1 : Heap} (hS : hk_S G h s H) (hx : va_at G.1 vwCl (hk_b G + h.1, hk_ce G x) H1) (hz : H1.size = H.size + 1) (ho : ∀ q : Nat, q < H.size → H1[q]? = H[q]?) : hk_S G (hk_push h x) s H1 := by
  refine ⟨hS.1, hk_wl_push x ▸ (hS.2.1.kept (fun k q hq => ho _ ((hS.2.1 k q hq).lt))).app (fun k q hq => ?_), by rw [hz, hS.2.2]; rfl⟩
  have hk0 : k = 0 := by
    have := (List.getElem?_eq_some_iff.mp hq).1
    simpa using this
  subst hk0
  cases hq
  exact hx
theorem hk_new {C : String} {T : u_T} {N ci idx : Nat} {fs : List Value} (ty : Nat → FieldType) (hty : ∀ k, k < N → parseFieldDescriptor (T k).2.2.1 = some (ty k)) (hc : vwCl[ci]? = some (C, T, N)) (hin : ∀ w ∈ u_ws C T N, w ∈ hk_T)
    (hw : Cond.classLink M.1.cls idx C ∈ hk_T ∧ Cond.instantiable C N ∈ hk_T ∧ Cond.initialized C ∈ hk_T) (hfs : ∀ b j, j < N → defaultValue (ty j) = vp_V (fs.map (hk_v b)) j) (hr : k + 1 ≤ mc ∧ n + N ≤ ms)
    (hd : decode M.2.1 pc = .ok (.new idx, 3)) (kk : hk_WP M d mc ms (k + 1) (n + N) (pc + 3) ls (.ref h.1 :: st) (hk_push h (.inr (ci, fs))) Q) : hk_WP M d mc ms k n pc ls st h Q := by
  intro G p l e R s m args below meth c H locs lsA C0 hS hV hL
  have hts := C0.2.2.2.2.1
  have hKn := hS.1.1 ci _ hc
  have hR := C0.2.2.2.2.2.2.2.2.2.1
  refine W.newcK C0.1 C0.2.1 C0.2.2.2.1 (hts _ hw.1) (hts _ hw.2.1) (hts _ hw.2.2) rfl hd (Nat.le_trans hr.1 hR.1) (Nat.le_trans hr.2 hR.2) hKn.2.1 hS.2.2 fun H1 kC hkC e1 z1 o1 => ?_
  refine kk G p l e R s m args below meth c H1 locs lsA C0 (hk_S_push (x := .inr (ci, fs)) hS ⟨_, hc, (u_born ty hts hin hKn hkC e1 hty).to (hfs _)⟩ (by rw [z1, hS.2.2]) (fun q hq => o1 q (by rw [← hS.2.2]; exact hq))) ?_ hL
  exact ⟨Nat.le_trans hV.1 (by rw [z1, hS.2.2]; exact Nat.le_succ _), fun q h1 h2 => by rw [o1 q (by rw [← hS.2.2]; exact Nat.lt_of_lt_of_le h1 hV.1)]; exact hV.2.1 q h1 h2, hV.2.2⟩
theorem hk_newa {at_ : ArrayType} {ty : FieldType} {t N : Nat} {v : Int32} (hty : newarray.typeOf at_ = ty) (ht : (t = 0 ∧ ty = .int) ∨ (t = 1 ∧ ty = .boolean)) (hw : Cond.arrayClass ty ∈ hk_T) (hv : ¬ v < 0) (hN : v.toNatClampNeg = N) (hb : N * componentBytes ty ≤ 536870912) (hr : k + 1 ≤ mc ∧ n + N ≤ ms)
    (hd : decode M.2.1 pc = .ok (.newarray at_, 2)) (kk : hk_WP M d mc ms (k + 1) (n + N) (pc + 2) ls (.ref h.1 :: st) (hk_push h (.inl (t, N, .inl (fun _ => 0)))) Q) : hk_WP M d mc ms k n pc ls (.int v :: st) h Q := by
  subst hty
  intro G p l e R s m args below meth c H locs lsA C0 hS hV hL
  have hts := C0.2.2.2.2.1
  have hR := C0.2.2.2.2.2.2.2.2.2.1
  refine va_newaK C0.1 C0.2.1 (hts _ hw) rfl hd rfl hv hN hb (Nat.le_trans hr.1 hR.1) (Nat.le_trans hr.2 hR.2) hS.2.2 fun H1 cA e1 z1 o1 hAr hNm => ?_
  have hcA : cA = hk_cid G t ∧ defaultValue (newarray.typeOf at_) = .int 0 := by
    rcases ht with ⟨rfl, h2⟩ | ⟨rfl, h2⟩
    · rw [h2] at hNm ⊢
      have h3 : s.vm.findClass ("[" ++ FieldType.int.toString) = some G.2.1.1 := (hS.1.2 0 _ rfl).2
      exact ⟨Option.some.inj (hNm.symm.trans h3), rfl⟩
    · rw [h2] at hNm ⊢
      have h3 : s.vm.findClass ("[" ++ FieldType.boolean.toString) = some G.2.1.2.1 := (hS.1.2 1 _ rfl).2
      exact ⟨Option.some.inj (hNm.symm.trans h3), rfl⟩
  rw [hcA.1, hcA.2] at e1
  refine kk G p l e R s m args below meth c H1 locs lsA C0 (hk_S_push (x := .inl (t, N, .inl (fun _ => 0))) hS e1 (by rw [z1, hS.2.2]) (fun q hq => o1 q (by rw [← hS.2.2]; exact hq))) ?_ hL
  exact ⟨Nat.le_trans hV.1 (by rw [z1, hS.2.2]; exact Nat.le_succ _), fun q h1 h2 => by rw [o1 q (by rw [← hS.2.2]; exact Nat.lt_of_lt_of_le h1 hV.1)]; exact hV.2.1 q h1 h2, hV.2.2⟩
theorem hk_newq {idx N : Nat} {v : Int32} (hw : Cond.classLink M.1.cls idx RX3 ∈ hk_T ∧ Cond.arrayOver (.object RX3) ∈ hk_T) (hv : ¬ v < 0) (hN : v.toNatClampNeg = N) (hb : N * 4 ≤ 536870912) (hr : k + 1 ≤ mc ∧ n + N ≤ ms)
    (hd : decode M.2.1 pc = .ok (.anewarray idx, 3)) (kk : hk_WP M d mc ms (k + 1) (n + N) (pc + 3) ls (.ref h.1 :: st) (hk_push h (.inl (2, N, .inr (fun _ => none)))) Q) : hk_WP M d mc ms k n pc ls (.int v :: st) h Q := by
  intro G p l e R s m args below meth c H locs lsA C0 hS hV hL
  have hts := C0.2.2.2.2.1
  have hR := C0.2.2.2.2.2.2.2.2.2.1
  subst hN
  refine W.anew C0.1 C0.2.1 C0.2.2.2.1 (hts _ hw.1) (hts _ hw.2) rfl hd rfl hv hb (Nat.le_trans hr.1 hR.1) (Nat.le_trans hr.2 hR.2) fun cA kA comp f1 f2 f3 f4 => ?_
  obtain ⟨_, _, _, _, _, h3⟩ := (hS.1.2 2 _ rfl).2
  have hcA : cA = hk_cid G 2 := Option.some.inj (f1.symm.trans h3)
  rw [hcA, show (H.push ({ cls := hk_cid G 2, slots := Array.replicate v.toNatClampNeg .null, vm := .none } : Cell)) = H.push (arrV (hk_cid G 2) v.toNatClampNeg (fun _ => .null)) by rw [← arrV_new]]
  rw [show H.size = hk_b G + h.1 from hS.2.2]
  refine kk G p l e R s m args below meth c _ locs lsA C0 (hk_S_push (x := .inl (2, v.toNatClampNeg, .inr (fun _ => none))) hS ?_ (by simp) (fun q hq => by rw [Array.getElem?_push, if_neg (Nat.ne_of_lt hq)])) ?_ hL
  · show (H.push _)[hk_b G + h.1]? = some (vp_cell _ _)
    rw [← hS.2.2, Array.getElem?_push_size]
    rfl
  · exact ⟨Nat.le_trans hV.1 (by simp), fun q h1 h2 => by rw [Array.getElem?_push, if_neg (Nat.ne_of_lt (Nat.lt_of_lt_of_le h1 hV.1))]; exact hV.2.1 q h1 h2, hV.2.2⟩
theorem hk_aastore {a w ci N : Nat} {f : Nat → Option Nat} {vs : List Value} {i : Int32} (hci : (vwCl[ci]?).map (·.1) = some RX3) (hd : decode M.2.1 pc = .ok (.aastore, 1)) (ha : a < h.1) (he : h.2 a = .inl (2, N, .inr f)) (hin : vp_in i N) (hw : w < h.1) (hwe : h.2 w = .inr (ci, vs))
    (kk : hk_WP M d mc ms k n (pc + 1) ls st (hk_up h a (.inl (2, N, .inr (va_up f i.toNatClampNeg (some w))))) Q) : hk_WP M d mc ms k n pc ls (.ref w :: .int i :: .ref a :: st) h Q := by
  intro G p l e R s m args below meth c H locs lsA C0 hS hV hL
  have he' := hk_wl_ref (G := G) ha he
  have hP := hS.2.1 a _ he'
  obtain ⟨r, hr', cellV, g1, g2, g3, -⟩ := hS.2.1 w _ (hk_wl_obj (G := G) hw hwe)
  have hr1 : r.1 = RX3 := by
    have hr'' : vwCl[ci]? = some r := hr'
    rw [hr''] at hci
    exact Option.some.inj hci
  have hcls := (hS.1.1 ci r hr').2
  obtain ⟨kA, comp, k1, k2, k3, -⟩ := (hS.1.2 2 _ rfl).2
  obtain ⟨hfc, kC, hkC, hkind⟩ := id hcls
  have hcomp : comp = G.1.1 ci := Option.some.inj (k3.symm.trans (by rw [← hr1]; exact hfc))
  subst hcomp
  have hlt : i.toNatClampNeg < N := Nat.not_le.mp fun q => hin (Or.inr q)
  have h0 : ¬ i < 0 := fun q => hin (Or.inl q)
  refine W.aast C0.1 C0.2.1 (v := hk_b G + w) (cv := cellV) (t := .object RX3) hP (fun q h => by cases h) (fun h => by cases h) k1 k2 rfl hkC ⟨h0, by show _ < (arrV _ _ _).slots.size; rw [arrV_size]; exact hlt⟩ g1 (fun q h => by rw [g3] at h; cases h) (by rw [g2]; exact hkC) (by rw [g2]; exact va_assign hcls) rfl rfl hd fun H1 e7 z oq => ?_
  have hP1 := hS.2.1.set (hk_D G h) he' (e := .inl (hk_cid G 2, N, .inr (.inr (.inr (.inr (fun j => (va_up f i.toNatClampNeg (some w) j).map (fun a => hk_b G + a))))))) (H1 := H1) (by
    show H1[_]? = some (vp_cell _ _)
    rw [vp_cell_q]
    refine e7.trans ?_
    show some ((arrV _ _ _).setSlot _ _) = _
    rw [arrV_store]
    congr 2
    funext q
    by_cases hq : q = i.toNatClampNeg
    · subst hq; simp [updV, va_up, va_rf]
    · simp [updV, va_up, hq]) oq
  exact kk G p l e R s m args below meth c H1 _ lsA C0 (hk_S_set (x := .inl (2, N, .inr (va_up f i.toNatClampNeg (some w)))) hS hP1 z) (hV.put z oq (Nat.le_add_right _ _)) hL
end HM
end
section
/-! calls over contracts -/
theorem hk_after {p : Program} {l : Launch} {e : Env} {R : Room} {s : State} {m : MethodId} {args : Array Value} {below : List Frame} {meth : Method} {c : Code} {H : Heap} {locs : List Loc} {cells slots mc' ms' pc : Nat} {Z : State → Prop} {G : hk_G} {lsA : Array Slot} {st0 rest : List Value} {Qc : Option Value → hk_H → Prop} {a : Array Value}
    (hr : va_Run p l e R s m args below meth c H locs cells slots mc' ms' (F0 m pc lsA st0) rest (hk_Q G Qc a) (hk_A G)) (hS : va_S (hk_A G) s.heap H locs)
    (kk : ∀ (r : Option Value) (h' : hk_H) (H1 : Heap) (locs1 : List Loc), Qc r h' → hk_S G h' s H1 → va_S (hk_A G) s.heap H1 locs1 → W p l e R s m args below meth c H1 locs1 (cells + mc') (slots + ms') Z (F0 m (pc + 3) lsA ((r.map (hk_v (hk_b G))).toList ++ rest))) :
    W p l e R s m args below meth c H locs cells slots Z (F0 m pc lsA st0) := by
  intro T hT X
  obtain ⟨v, st₀, t, T', L, h0, X', hL, e1, e2, ⟨⟨r, h', hv, hp, hb⟩, hz, hk⟩, st⟩ := hr T hT X
  cases hv
  rw [h0] at hz hk
  have hvm : t.vm.Alike s.vm := by rw [← e2]; exact X'.warmed.alike.symm
  obtain ⟨t2, a1, b1⟩ := kk r h' T'.heap (locs ++ L) hp (by rw [e1]; exact ⟨va_K.moved hvm hb.1, hb.2⟩)
    ⟨Nat.le_trans hS.1 (by rw [e1]; exact hz), fun q h1 h2 => by rw [e1, hk q (Nat.lt_of_lt_of_le h1 hS.1) h2]; exact hS.2.1 q h1 h2, fun q hq => by
      rcases List.mem_append.mp hq with h | h
      · exact hS.2.2 q h
      · exact hL q h⟩ T' rfl X'
  exact ⟨t2, st t2 a1, b1⟩
theorem hk_blind {G : hk_G} {av : List Value} {h : hk_H} : FrameBlind (hk_Pre G av h) := fun a U g mk q => by
  obtain ⟨q1, q2, q3, q4⟩ := q
  exact ⟨q1, ⟨va_K.moved (u := U) (U := U.calling g mk a) (Vm.Alike.refl U.vm) q2.1, q2.2⟩, hk_Nw.same (u := U) (U := U.calling g mk a) rfl q3, hk_X.same (u := U) (U := U.calling g mk a) rfl q4⟩
/-- the words of a call -/
def hk_Wd (y : MethodName) (bytes : ByteArray) (maxL : Nat) (ret : Option FieldType) (n : Nat) : Prop :=
  Cond.code y bytes maxL ret ∈ hk_T ∧ Cond.initialized y.cls ∈ hk_T ∧ (y.cls ≠ "java/lang/invoke/MethodHandle" ∧ y.cls ≠ "java/lang/invoke/VarHandle" ∧ (parseMethodDescriptor y.desc).map (fun d => d.parameters.length) = some n) ∧ maxL ≤ 45
section HC
variable {M : hk_M} {d mc ms k n pc : Nat} {ls : List (Option Value)} {st st0 : List Value} {h : hk_H} {Q Qc : Option Value → hk_H → Prop} {y : MethodName} {bytes : ByteArray} {maxL : Nat} {ret : Option FieldType} {d' mc' ms' idx na a : Nat} {As : List Value} {fs : List Value} {ci : Nat}
theorem hk_pre_at {G : hk_G} {av : List Value} {s : State} {H : Heap} {locs : List Loc} {args : Array Value} (hS : hk_S G h s H) (hV : va_S (hk_A G) s.heap H locs) (hN : hk_Nw s) (hX : hk_X G s s.heap) : ∀ U : State, U.heap = H → s.WarmedH U.vm → hk_Pre G av h (av.map (hk_v (hk_b G))).toArray U := by
  intro U hU hW
  refine ⟨rfl, by rw [hU]; exact hS.warm hW, hN.warm hW, ?_⟩
  rw [hU]
  exact (hX.kept (fun q h1 h2 => hV.2.1 q h1 h2)).warm hW
theorem hk_lenargs {sig : MethodDescriptor} (hw : hk_Wd y bytes maxL ret na) (h : parseMethodDescriptor y.desc = some sig) : na = sig.parameters.length := by
  have := hw.2.2.1.2.2
  rw [h] at this
  exact (Option.some.inj this).symm
/-- what a call's words and room give -/
theorem hk_CB {G : hk_G} {p : Program} {R : Room} {s : State} {m : MethodId} {args : Array Value} {meth : Method} {c : Code} (C0 : hk_Cx M d mc ms G p R s m args meth c) (hw : hk_Wd y bytes maxL ret na) (hl : Cond.methodLink M.1.cls idx y ∈ hk_T) (hdep : d' + 1 ≤ d) :
    CallB R s args M.1.cls idx y bytes maxL ret (.code y bytes maxL ret :: hk_T) (hk_rm d' mc' ms') mc' ms' na := by
  have hts := C0.2.2.2.2.1
  have hR := C0.2.2.2.2.2.2.2.2.1
  refine callB_of na hts (hk_goodIn _ (fun w h => by rcases List.mem_cons.mp h with rfl | h; exact hw.1; exact h)) rfl rfl rfl (hts _ hw.2.1) (hts _ hl) hw.2.2.1 ⟨Nat.le_trans hdep hR.1, ?_⟩
  have := hw.2.2.2
  show 8 + (maxL + 11) + 64 * d' ≤ R.locals
  omega
theorem hk_CN {G : hk_G} {p : Program} {R : Room} {s : State} {m : MethodId} {args : Array Value} {meth : Method} {c : Code} {host : String} (C0 : hk_Cx M d mc ms G p R s m args meth c) (hw : hk_Wd y bytes maxL ret na) (hl : Cond.methodLinkNest M.1.cls idx y host ∈ hk_N) (hdep : d' + 1 ≤ d) :
    va_CN R s args M.1.cls idx y host bytes maxL ret (.code y bytes maxL ret :: hk_T) (hk_rm d' mc' ms') mc' ms' na := by
  have hts := C0.2.2.2.2.1
  have hR := C0.2.2.2.2.2.2.2.2.1
  refine va_cnB na hts (hk_goodIn _ (fun w h => by rcases List.mem_cons.mp h with rfl | h; exact hw.1; exact h)) rfl rfl rfl (C0.2.2.2.2.2.2.2.2.2.2.1 _ hl) (hts _ hw.2.1) hw.2.2.1 ⟨Nat.le_trans hdep hR.1, ?_⟩
  have := hw.2.2.2
  show 8 + (maxL + 11) + 64 * d' ≤ R.locals
  omega
theorem hk_recv {G : hk_G} {s : State} {H : Heap} (hS : hk_S G h s H) (ha : a < h.1) (he : h.2 a = .inr (ci, fs)) (hci : (vwCl[ci]?).map (·.1) = some y.cls) : ∃ cell : Cell, H[hk_b G + a]? = some cell ∧ cell.vm.isStatics = false ∧ s.vm.findClass y.cls = some cell.cls := by
  obtain ⟨q, hq, hq1⟩ := Option.map_eq_some_iff.mp hci
  rw [← hq1]
  exact va_recv hS.1 hS.2.1 hq (hk_wl_obj ha he)
theorem hk_rev {b : Nat} {As : List Value} : (As.map (hk_v b)).reverse = As.reverse.map (hk_v b) := List.map_reverse.symm
theorem hk_stk {b : Nat} {As : List Value} (v : Value) (hst : st0 = As.reverse ++ v :: st) : st0.map (hk_v b) = (As.map (hk_v b)).reverse ++ hk_v b v :: st.map (hk_v b) := by
  rw [hst, List.map_append, hk_rev]; rfl
theorem hk_stkS {b : Nat} {As : List Value} (hst : st0 = As.reverse ++ st) : st0.map (hk_v b) = (As.map (hk_v b)).reverse ++ st.map (hk_v b) := by
  rw [hst, List.map_append, hk_rev]
theorem hk_cats {b : Nat} (h : (st.map fun v => v.category).sum ≤ 8) {m pc : Nat} {cl : MethodId} {lsA : Array Slot} {x : List Value} : 2 * (F0 cl pc lsA x).monitorRoom + ((st.map (hk_v b)).map fun v => v.category).sum ≤ 8 := by
  refine lv_room ?_
  rw [List.map_map]
  have : ((fun v => Value.category v) ∘ hk_v b) = fun v => v.category := by funext v; exact hk_v_cat b v
  rw [this]
  exact h
theorem hk_rl {b : Nat} {r : Option Value} : (r.map (hk_v b)).toList ++ st.map (hk_v b) = (r.toList ++ st).map (hk_v b) := by cases r <;> rfl
theorem hk_invV (hC : hk_Ct (y, bytes, maxL, ret) d' mc' ms' (.ref a :: As) h Qc) (hw : hk_Wd y bytes maxL ret na) (hl : Cond.methodLink M.1.cls idx y ∈ hk_T ∧ Cond.instanceMethod y ∈ hk_T ∧ Cond.selects y.cls y y ∈ hk_T)
    (hd : decode M.2.1 pc = .ok (.invokevirtual idx, 3)) (ha : a < h.1) (he : h.2 a = .inr (ci, fs)) (hci : (vwCl[ci]?).map (·.1) = some y.cls) (hst : st0 = As.reverse ++ .ref a :: st) (hn : As.length = na) (hdep : d' + 1 ≤ d) (hrm : k + mc' ≤ mc ∧ n + ms' ≤ ms) (hcat : (st.map fun v => v.category).sum ≤ 8)
    (kk : ∀ (r : Option Value) (h' : hk_H), Qc r h' → hk_WP M d mc ms (k + mc') (n + ms') (pc + 3) ls (r.toList ++ st) h' Q) : hk_WP M d mc ms k n pc ls st0 h Q := by
  intro G p l e R s m args below meth c H locs lsA C0 hS hV hL
  have hts := C0.2.2.2.2.1
  have hR := C0.2.2.2.2.2.2.2.2.2.1
  refine hk_after (va_runV ⟨C0.1, C0.2.1, C0.2.2.1, C0.2.2.2.1, hts⟩ (hC l G) ⟨hk_CB C0 hw hl.1 hdep, hts _ hl.2.1, hts _ hl.2.2⟩ ⟨hk_blind, hk_recv hS ha he hci, hk_pre_at (args := args) hS hV C0.2.2.2.2.2.2.2.2.2.2.1 C0.2.2.2.2.2.2.2.2.2.2.2.2⟩ rfl (by rw [List.length_map]; exact hn) hL.1 (hk_stk _ hst) (hk_cats (m := 0) hcat) hd ⟨Nat.le_trans hrm.1 hR.1, Nat.le_trans hrm.2 hR.2⟩) hV (fun r h' H1 locs1 hq hS1 hV1 => ?_)
  rw [hk_rl]
  exact kk r h' hq G p l e R s m args below meth c H1 locs1 lsA C0 hS1 hV1 hL
theorem hk_invVN {host : String} (hC : hk_Ct (y, bytes, maxL, ret) d' mc' ms' (.ref a :: As) h Qc) (hw : hk_Wd y bytes maxL ret na) (hl : Cond.methodLinkNest M.1.cls idx y host ∈ hk_N ∧ Cond.instanceMethod y ∈ hk_T ∧ Cond.selects y.cls y y ∈ hk_T)
    (hd : decode M.2.1 pc = .ok (.invokevirtual idx, 3)) (ha : a < h.1) (he : h.2 a = .inr (ci, fs)) (hci : (vwCl[ci]?).map (·.1) = some y.cls) (hst : st0 = As.reverse ++ .ref a :: st) (hn : As.length = na) (hdep : d' + 1 ≤ d) (hrm : k + mc' ≤ mc ∧ n + ms' ≤ ms) (hcat : (st.map fun v => v.category).sum ≤ 8)
    (kk : ∀ (r : Option Value) (h' : hk_H), Qc r h' → hk_WP M d mc ms (k + mc') (n + ms') (pc + 3) ls (r.toList ++ st) h' Q) : hk_WP M d mc ms k n pc ls st0 h Q := by
  intro G p l e R s m args below meth c H locs lsA C0 hS hV hL
  have hts := C0.2.2.2.2.1
  have hR := C0.2.2.2.2.2.2.2.2.2.1
  refine hk_after (va_runVN ⟨C0.1, C0.2.1, C0.2.2.1, C0.2.2.2.1, hts⟩ (hC l G) ⟨hk_CN C0 hw hl.1 hdep, hts _ hl.2.1, hts _ hl.2.2⟩ ⟨hk_blind, hk_recv hS ha he hci, hk_pre_at (args := args) hS hV C0.2.2.2.2.2.2.2.2.2.2.1 C0.2.2.2.2.2.2.2.2.2.2.2.2⟩ rfl (by rw [List.length_map]; exact hn) hL.1 (hk_stk _ hst) (hk_cats (m := 0) hcat) hd ⟨Nat.le_trans hrm.1 hR.1, Nat.le_trans hrm.2 hR.2⟩) hV (fun r h' H1 locs1 hq hS1 hV1 => ?_)
  rw [hk_rl]
  exact kk r h' hq G p l e R s m args below meth c H1 locs1 lsA C0 hS1 hV1 hL
theorem hk_invS (hC : hk_Ct (y, bytes, maxL, ret) d' mc' ms' As h Qc) (hw : hk_Wd y bytes maxL ret na) (hl : Cond.methodLink M.1.cls idx y ∈ hk_T ∧ Cond.static y ∈ hk_T)
    (hd : decode M.2.1 pc = .ok (.invokestatic idx, 3)) (hst : st0 = As.reverse ++ st) (hn : As.length = na) (hdep : d' + 1 ≤ d) (hrm : k + mc' ≤ mc ∧ n + ms' ≤ ms) (hcat : (st.map fun v => v.category).sum ≤ 8)
    (kk : ∀ (r : Option Value) (h' : hk_H), Qc r h' → hk_WP M d mc ms (k + mc') (n + ms') (pc + 3) ls (r.toList ++ st) h' Q) : hk_WP M d mc ms k n pc ls st0 h Q := by
  intro G p l e R s m args below meth c H locs lsA C0 hS hV hL
  have hts := C0.2.2.2.2.1
  have hR := C0.2.2.2.2.2.2.2.2.2.1
  refine hk_after (va_runS ⟨C0.1, C0.2.1, C0.2.2.1, C0.2.2.2.1, hts⟩ (hC l G) ⟨hk_CB C0 hw hl.1 hdep, hts _ hl.2⟩ ⟨hk_blind, hk_pre_at (args := args) hS hV C0.2.2.2.2.2.2.2.2.2.2.1 C0.2.2.2.2.2.2.2.2.2.2.2.2⟩ rfl (by rw [List.length_map]; exact hn) hL.1 (hk_stkS hst) (hk_cats (m := 0) hcat) hd ⟨Nat.le_trans hrm.1 hR.1, Nat.le_trans hrm.2 hR.2⟩) hV (fun r h' H1 locs1 hq hS1 hV1 => ?_)
  rw [hk_rl]
  exact kk r h' hq G p l e R s m args below meth c H1 locs1 lsA C0 hS1 hV1 hL
theorem hk_invSN {host : String} (hC : hk_Ct (y, bytes, maxL, ret) d' mc' ms' As h Qc) (hw : hk_Wd y bytes maxL ret na) (hl : Cond.methodLinkNest M.1.cls idx y host ∈ hk_N ∧ Cond.static y ∈ hk_T)
    (hd : decode M.2.1 pc = .ok (.invokestatic idx, 3)) (hst : st0 = As.reverse ++ st) (hn : As.length = na) (hdep : d' + 1 ≤ d) (hrm : k + mc' ≤ mc ∧ n + ms' ≤ ms) (hcat : (st.map fun v => v.category).sum ≤ 8)
    (kk : ∀ (r : Option Value) (h' : hk_H), Qc r h' → hk_WP M d mc ms (k + mc') (n + ms') (pc + 3) ls (r.toList ++ st) h' Q) : hk_WP M d mc ms k n pc ls st0 h Q := by
  intro G p l e R s m args below meth c H locs lsA C0 hS hV hL
  have hts := C0.2.2.2.2.1
  have hR := C0.2.2.2.2.2.2.2.2.2.1
  refine hk_after (va_runSN ⟨C0.1, C0.2.1, C0.2.2.1, C0.2.2.2.1, hts⟩ (hC l G) ⟨hk_CN C0 hw hl.1 hdep, hts _ hl.2, trivial⟩ ⟨hk_blind, hk_pre_at (args := args) hS hV C0.2.2.2.2.2.2.2.2.2.2.1 C0.2.2.2.2.2.2.2.2.2.2.2.2⟩ rfl (by rw [List.length_map]; exact hn) hL.1 (hk_stkS hst) (hk_cats (m := 0) hcat) hd ⟨Nat.le_trans hrm.1 hR.1, Nat.le_trans hrm.2 hR.2⟩) hV (fun r h' H1 locs1 hq hS1 hV1 => ?_)
  rw [hk_rl]
  exact kk r h' hq G p l e R s m args below meth c H1 locs1 lsA C0 hS1 hV1 hL
theorem hk_invI (hC : hk_Ct (y, bytes, maxL, none) d' mc' ms' (.ref a :: As) h Qc) (hw : hk_Wd y bytes maxL none na) (hy : y.name = "<init>") (hl : Cond.methodLink M.1.cls idx y ∈ hk_T ∧ Cond.instanceMethod y ∈ hk_T)
    (hd : decode M.2.1 pc = .ok (.invokespecial idx, 3)) (hst : st0 = As.reverse ++ .ref a :: st) (hn : As.length = na) (hdep : d' + 1 ≤ d) (hrm : k + mc' ≤ mc ∧ n + ms' ≤ ms) (hcat : (st.map fun v => v.category).sum ≤ 8)
    (kk : ∀ (r : Option Value) (h' : hk_H), Qc r h' → hk_WP M d mc ms (k + mc') (n + ms') (pc + 3) ls (r.toList ++ st) h' Q) : hk_WP M d mc ms k n pc ls st0 h Q := by
  intro G p l e R s m args below meth c H locs lsA C0 hS hV hL
  have hts := C0.2.2.2.2.1
  have hR := C0.2.2.2.2.2.2.2.2.2.1
  refine hk_after (va_runI ⟨C0.1, C0.2.1, C0.2.2.1, C0.2.2.2.1, hts⟩ (hC l G) ⟨hk_CB C0 hw hl.1 hdep, hy, hts _ hl.2⟩ ⟨hk_blind, hk_pre_at (args := args) hS hV C0.2.2.2.2.2.2.2.2.2.2.1 C0.2.2.2.2.2.2.2.2.2.2.2.2⟩ rfl (by rw [List.length_map]; exact hn) hL.1 (hk_stk _ hst) (hk_cats (m := 0) hcat) hd ⟨Nat.le_trans hrm.1 hR.1, Nat.le_trans hrm.2 hR.2⟩) hV (fun r h' H1 locs1 hq hS1 hV1 => ?_)
  rw [hk_rl]
  exact kk r h' hq G p l e R s m args below meth c H1 locs1 lsA C0 hS1 hV1 hL
theorem hk_invIN {host : String} (hC : hk_Ct (y, bytes, maxL, none) d' mc' ms' (.ref a :: As) h Qc) (hw : hk_Wd y bytes maxL none na) (hy : y.name = "<init>") (hl : Cond.methodLinkNest M.1.cls idx y host ∈ hk_N ∧ Cond.instanceMethod y ∈ hk_T)
    (hd : decode M.2.1 pc = .ok (.invokespecial idx, 3)) (hst : st0 = As.reverse ++ .ref a :: st) (hn : As.length = na) (hdep : d' + 1 ≤ d) (hrm : k + mc' ≤ mc ∧ n + ms' ≤ ms) (hcat : (st.map fun v => v.category).sum ≤ 8)
    (kk : ∀ (r : Option Value) (h' : hk_H), Qc r h' → hk_WP M d mc ms (k + mc') (n + ms') (pc + 3) ls (r.toList ++ st) h' Q) : hk_WP M d mc ms k n pc ls st0 h Q := by
  intro G p l e R s m args below meth c H locs lsA C0 hS hV hL
  have hts := C0.2.2.2.2.1
  have hR := C0.2.2.2.2.2.2.2.2.2.1
  refine hk_after (va_runIN ⟨C0.1, C0.2.1, C0.2.2.1, C0.2.2.2.1, hts⟩ (hC l G) ⟨hk_CN C0 hw hl.1 hdep, hy, hts _ hl.2⟩ ⟨hk_blind, hk_pre_at (args := args) hS hV C0.2.2.2.2.2.2.2.2.2.2.1 C0.2.2.2.2.2.2.2.2.2.2.2.2⟩ rfl (by rw [List.length_map]; exact hn) hL.1 (hk_stk _ hst) (hk_cats (m := 0) hcat) hd ⟨Nat.le_trans hrm.1 hR.1, Nat.le_trans hrm.2 hR.2⟩) hV (fun r h' H1 locs1 hq hS1 hV1 => ?_)
  rw [hk_rl]
  exact kk r h' hq G p l e R s m args below meth c H1 locs1 lsA C0 hS1 hV1 hL
/-- Object's constructor does nothing -/
theorem hk_objInit (hl : Cond.methodLink M.1.cls idx Lib.objectInit ∈ hk_T ∧ Cond.instanceMethod Lib.objectInit ∈ hk_T ∧ Cond.code Lib.objectInit ⟨#[0xb1]⟩ 1 none ∈ hk_T) (hd : decode M.2.1 pc = .ok (.invokespecial idx, 3)) (hdep : 1 ≤ d) (hcat : (st.map fun v => v.category).sum ≤ 8) (kk : hk_WP M d mc ms k n (pc + 3) ls st h Q) : hk_WP M d mc ms k n pc ls (.ref a :: st) h Q := by
  intro G p l e R s m args below meth c H locs lsA C0 hS hV hL
  have hts := C0.2.2.2.2.1
  have hR := C0.2.2.2.2.2.2.2.2.1
  refine W.objInit C0.1 C0.2.1 C0.2.2.2.1 (hts _ hl.1) (hts _ hl.2.1) (hts _ hl.2.2) rfl (hL.1.trans C0.2.2.1.symm) rfl hd (Nat.le_trans hdep hR.1) ?_ (kk G p l e R s m args below meth c H locs lsA C0 hS hV hL)
  have h1 := hk_cats (b := hk_b G) (m := 0) (cl := m) (pc := pc) (lsA := lsA) (x := (Value.ref a :: st).map (hk_v (hk_b G))) hcat
  omega
theorem hk_mmax {x z : Int32} (hl : Cond.methodLink M.1.cls idx Lib.Math.max.name ∈ hk_T ∧ Cond.static Lib.Math.max.name ∈ hk_T ∧ Cond.initialized "java/lang/Math" ∈ hk_T ∧ Cond.code Lib.Math.max.name Lib.Math.max.code 2 (some .int) ∈ hk_T) (hd : decode M.2.1 pc = .ok (.invokestatic idx, 3)) (hdep : 1 ≤ d) (hcat : (st.map fun v => v.category).sum ≤ 8) (hk : k ≤ mc ∧ n ≤ ms)
    (kk : hk_WP M d mc ms k n (pc + 3) ls (.int (if x < z then z else x) :: st) h Q) : hk_WP M d mc ms k n pc ls (.int z :: .int x :: st) h Q := by
  intro G p l e R s m args below meth c H locs lsA C0 hS hV hL
  have hts := C0.2.2.2.2.1
  have hR := C0.2.2.2.2.2.2.2.2.1
  have hR2 := C0.2.2.2.2.2.2.2.2.2.1
  refine va_mmax C0.1 C0.2.1 (C0.2.2.1.trans hL.1.symm) C0.2.2.2.1 (hts _ hl.1) (hts _ hl.2.1) (hts _ hl.2.2.1) (hts _ hl.2.2.2) (Nat.le_trans hdep hR.1) ?_ (Nat.le_trans hk.1 hR2.1) (Nat.le_trans hk.2 hR2.2) hd (kk G p l e R s m args below meth c H locs lsA C0 hS hV hL)
  have h1 := hk_cats (b := hk_b G) (m := 0) (cl := m) (pc := pc) (lsA := lsA) (x := []) hcat
  omega
theorem hk_mmin {x z : Int32} (hl : Cond.methodLink M.1.cls idx Lib.Math.min.name ∈ hk_T ∧ Cond.static Lib.Math.min.name ∈ hk_T ∧ Cond.initialized "java/lang/Math" ∈ hk_T ∧ Cond.code Lib.Math.min.name Lib.Math.min.code 2 (some .int) ∈ hk_T) (hd : decode M.2.1 pc = .ok (.invokestatic idx, 3)) (hdep : 1 ≤ d) (hcat : (st.map fun v => v.category).sum ≤ 8) (hk : k ≤ mc ∧ n ≤ ms)
    (kk : hk_WP M d mc ms k n (pc + 3) ls (.int (if z < x then z else x) :: st) h Q) : hk_WP M d mc ms k n pc ls (.int z :: .int x :: st) h Q := by
  intro G p l e R s m args below meth c H locs lsA C0 hS hV hL
  have hts := C0.2.2.2.2.1
  have hR := C0.2.2.2.2.2.2.2.2.1
  have hR2 := C0.2.2.2.2.2.2.2.2.2.1
  refine va_mmin C0.1 C0.2.1 (C0.2.2.1.trans hL.1.symm) C0.2.2.2.1 (hts _ hl.1) (hts _ hl.2.1) (hts _ hl.2.2.1) (hts _ hl.2.2.2) (Nat.le_trans hdep hR.1) ?_ (Nat.le_trans hk.1 hR2.1) (Nat.le_trans hk.2 hR2.2) hd (kk G p l e R s m args below meth c H locs lsA C0 hS hV hL)
  have h1 := hk_cats (b := hk_b G) (m := 0) (cl := m) (pc := pc) (lsA := lsA) (x := []) hcat
  omega
theorem hk_mminL {x z : Int64} (hl : Cond.methodLink M.1.cls idx Lib.MathLoose.min_long.x ∈ hk_T ∧ Cond.static Lib.MathLoose.min_long.x ∈ hk_T ∧ Cond.initialized "java/lang/Math" ∈ hk_T ∧ Cond.code Lib.MathLoose.min_long.x Lib.MathLoose.min_long.code 4 (some .long) ∈ hk_T) (hd : decode M.2.1 pc = .ok (.invokestatic idx, 3)) (hdep : 1 ≤ d) (hcat : (st.map fun v => v.category).sum ≤ 8) (hk : k ≤ mc ∧ n ≤ ms)
    (kk : hk_WP M d mc ms k n (pc + 3) ls (.long (if z < x then z else x) :: st) h Q) : hk_WP M d mc ms k n pc ls (.long z :: .long x :: st) h Q := by
  intro G p l e R s m args below meth c H locs lsA C0 hS hV hL
  have hts := C0.2.2.2.2.1
  have hR := C0.2.2.2.2.2.2.2.2.1
  have hR2 := C0.2.2.2.2.2.2.2.2.2.1
  refine va_mmin_long C0.1 C0.2.1 (C0.2.2.1.trans hL.1.symm) C0.2.2.2.1 (hts _ hl.1) (hts _ hl.2.1) (hts _ hl.2.2.1) (hts _ hl.2.2.2) (Nat.le_trans hdep hR.1) ?_ (Nat.le_trans hk.1 hR2.1) (Nat.le_trans hk.2 hR2.2) hd (kk G p l e R s m args below meth c H locs lsA C0 hS hV hL)
  have h1 := hk_cats (b := hk_b G) (m := 0) (cl := m) (pc := pc) (lsA := lsA) (x := []) hcat
  omega
/-- a contract out of a walk of the body -/
theorem hk_ofWP {M : hk_M} {av : List Value} (hy : plainName M.1.cls = true) (hcat : ∀ v ∈ av, v.category = 1) (hlen : av.length ≤ M.2.2.1) (w : hk_WP M d mc ms 0 0 0 (av.map some ++ List.replicate (M.2.2.1 - av.length) none) [] h Q) : hk_Ct M d mc ms av h Q := by
  intro l G
  refine Met.ofW (cc := M.2.1) (maxL := M.2.2.1) (ret := M.2.2.2) hy rfl ?_
  intro p e s m args below meth c s₁ B hml hv
  obtain ⟨rfl, hS, hN, hX⟩ := hv
  have hts := atoms_spec (ws := Cond.code M.1 M.2.1 M.2.2.1 M.2.2.2 :: hk_T) B.pre
  have hcat' : ∀ v ∈ av.map (hk_v (hk_b G)), v.category = 1 := fun v hv => by
    obtain ⟨w, hw, rfl⟩ := List.mem_map.mp hv
    rw [hk_v_cat]; exact hcat w hw
  rw [entry_eq m (av.map (hk_v (hk_b G))) hcat']
  refine w G p l e _ s m _ below meth c s.heap [] _ ⟨B.exec, B.bytes, hml, findClass_of_methodNamed B.named, fun w hw => hts w (List.mem_cons_of_mem _ hw), B.returns, B.notSynchronized, (name_of_methodNamed B.named B.method).1, ⟨Nat.le_refl _, Nat.le_refl _⟩, ⟨Nat.le_refl _, Nat.le_refl _⟩, hN, by rw [hS.2.2]; exact Nat.le_add_right _ _, hX⟩ hS va_S.rf ?_
  have hl := lv_entry (av.map (hk_v (hk_b G))) (n := M.2.2.1)
  sorry
end HC
end
