section
-- ===== PART A: goes FIRST, ahead of the names: the tables' words, and 'selects' of the private methods out of them =====
/-- a private method of a class that the tables say can be made, by its rows of tables_1 -/
def lw_okq (q : MethodName × Nat) : Prop := (q.1.cls ≠ "java/lang/invoke/MethodHandle" ∧ q.1.cls ≠ "java/lang/invoke/VarHandle") ∧ Cond.instantiable q.1.cls q.2 ∈ tables_1 ∧ Cond.privateMethod q.1 ∈ tables_1 ∧ Cond.instanceMethod q.1 ∈ tables_1
theorem lw_p0 : lw_okq (⟨"UnseenClock", "appendNumber", "(I)V"⟩, 14) := ⟨⟨by decide +kernel, by decide +kernel⟩, List.mem_of_getElem? (i := 20) (by decide +kernel), List.mem_of_getElem? (i := 385) (by decide +kernel), List.mem_of_getElem? (i := 386) (by decide +kernel)⟩
theorem lw_p1 : lw_okq (⟨"UnseenClock$Reader", "step", "()V"⟩, 12) := ⟨⟨by decide +kernel, by decide +kernel⟩, List.mem_of_getElem? (i := 28) (by decide +kernel), List.mem_of_getElem? (i := 411) (by decide +kernel), List.mem_of_getElem? (i := 412) (by decide +kernel)⟩
theorem lw_p2 : lw_okq (⟨"UnseenClock$Reader", "readLine", "()Z"⟩, 12) := ⟨⟨by decide +kernel, by decide +kernel⟩, List.mem_of_getElem? (i := 28) (by decide +kernel), List.mem_of_getElem? (i := 416) (by decide +kernel), List.mem_of_getElem? (i := 417) (by decide +kernel)⟩
theorem lw_p3 : lw_okq (⟨"UnseenClock$Reader", "readSize", "()Z"⟩, 12) := ⟨⟨by decide +kernel, by decide +kernel⟩, List.mem_of_getElem? (i := 28) (by decide +kernel), List.mem_of_getElem? (i := 420) (by decide +kernel), List.mem_of_getElem? (i := 421) (by decide +kernel)⟩
theorem lw_p4 : lw_okq (⟨"UnseenClock$Reader", "takeWord", "(Ljava/lang/String;)Z"⟩, 12) := ⟨⟨by decide +kernel, by decide +kernel⟩, List.mem_of_getElem? (i := 28) (by decide +kernel), List.mem_of_getElem? (i := 425) (by decide +kernel), List.mem_of_getElem? (i := 426) (by decide +kernel)⟩
theorem lw_p5 : lw_okq (⟨"UnseenClock$Reader", "isWord", "(Ljava/lang/String;)Z"⟩, 12) := ⟨⟨by decide +kernel, by decide +kernel⟩, List.mem_of_getElem? (i := 28) (by decide +kernel), List.mem_of_getElem? (i := 429) (by decide +kernel), List.mem_of_getElem? (i := 430) (by decide +kernel)⟩
theorem lw_p6 : lw_okq (⟨"UnseenClock$Reader", "refuse", "(I)Z"⟩, 12) := ⟨⟨by decide +kernel, by decide +kernel⟩, List.mem_of_getElem? (i := 28) (by decide +kernel), List.mem_of_getElem? (i := 481) (by decide +kernel), List.mem_of_getElem? (i := 482) (by decide +kernel)⟩
theorem lw_p7 : lw_okq (⟨"UnseenClock$Reader", "takeNumber", "(II)Z"⟩, 12) := ⟨⟨by decide +kernel, by decide +kernel⟩, List.mem_of_getElem? (i := 28) (by decide +kernel), List.mem_of_getElem? (i := 486) (by decide +kernel), List.mem_of_getElem? (i := 487) (by decide +kernel)⟩
theorem lw_p8 : lw_okq (⟨"UnseenClock$Reader", "readWall", "()Z"⟩, 12) := ⟨⟨by decide +kernel, by decide +kernel⟩, List.mem_of_getElem? (i := 28) (by decide +kernel), List.mem_of_getElem? (i := 493) (by decide +kernel), List.mem_of_getElem? (i := 494) (by decide +kernel)⟩
theorem lw_p9 : lw_okq (⟨"UnseenClock$Reader", "takeFreeCell", "()Z"⟩, 12) := ⟨⟨by decide +kernel, by decide +kernel⟩, List.mem_of_getElem? (i := 28) (by decide +kernel), List.mem_of_getElem? (i := 498) (by decide +kernel), List.mem_of_getElem? (i := 499) (by decide +kernel)⟩
theorem lw_p10 : lw_okq (⟨"UnseenClock$Plan", "isInside", "(II)Z"⟩, 12) := ⟨⟨by decide +kernel, by decide +kernel⟩, List.mem_of_getElem? (i := 74) (by decide +kernel), List.mem_of_getElem? (i := 506) (by decide +kernel), List.mem_of_getElem? (i := 507) (by decide +kernel)⟩
theorem lw_p11 : lw_okq (⟨"UnseenClock$Reader", "readClock", "()Z"⟩, 12) := ⟨⟨by decide +kernel, by decide +kernel⟩, List.mem_of_getElem? (i := 28) (by decide +kernel), List.mem_of_getElem? (i := 515) (by decide +kernel), List.mem_of_getElem? (i := 516) (by decide +kernel)⟩
theorem lw_p12 : lw_okq (⟨"UnseenClock$Reader", "readPerson", "()Z"⟩, 12) := ⟨⟨by decide +kernel, by decide +kernel⟩, List.mem_of_getElem? (i := 28) (by decide +kernel), List.mem_of_getElem? (i := 524) (by decide +kernel), List.mem_of_getElem? (i := 525) (by decide +kernel)⟩
theorem lw_p13 : lw_okq (⟨"UnseenClock$Reader", "readGo", "()Z"⟩, 12) := ⟨⟨by decide +kernel, by decide +kernel⟩, List.mem_of_getElem? (i := 28) (by decide +kernel), List.mem_of_getElem? (i := 529) (by decide +kernel), List.mem_of_getElem? (i := 530) (by decide +kernel)⟩
theorem lw_p14 : lw_okq (⟨"UnseenClock$Reader", "lacksPerson", "()Z"⟩, 12) := ⟨⟨by decide +kernel, by decide +kernel⟩, List.mem_of_getElem? (i := 28) (by decide +kernel), List.mem_of_getElem? (i := 533) (by decide +kernel), List.mem_of_getElem? (i := 534) (by decide +kernel)⟩
theorem lw_p15 : lw_okq (⟨"UnseenClock$Reader", "wayTold", "()I"⟩, 12) := ⟨⟨by decide +kernel, by decide +kernel⟩, List.mem_of_getElem? (i := 28) (by decide +kernel), List.mem_of_getElem? (i := 537) (by decide +kernel), List.mem_of_getElem? (i := 538) (by decide +kernel)⟩
def lw_privs_1 : List (MethodName × Nat) := [(⟨"UnseenClock", "appendNumber", "(I)V"⟩, 14), (⟨"UnseenClock$Reader", "step", "()V"⟩, 12), (⟨"UnseenClock$Reader", "readLine", "()Z"⟩, 12), (⟨"UnseenClock$Reader", "readSize", "()Z"⟩, 12), (⟨"UnseenClock$Reader", "takeWord", "(Ljava/lang/String;)Z"⟩, 12), (⟨"UnseenClock$Reader", "isWord", "(Ljava/lang/String;)Z"⟩, 12), (⟨"UnseenClock$Reader", "refuse", "(I)Z"⟩, 12), (⟨"UnseenClock$Reader", "takeNumber", "(II)Z"⟩, 12), (⟨"UnseenClock$Reader", "readWall", "()Z"⟩, 12), (⟨"UnseenClock$Reader", "takeFreeCell", "()Z"⟩, 12), (⟨"UnseenClock$Plan", "isInside", "(II)Z"⟩, 12), (⟨"UnseenClock$Reader", "readClock", "()Z"⟩, 12), (⟨"UnseenClock$Reader", "readPerson", "()Z"⟩, 12), (⟨"UnseenClock$Reader", "readGo", "()Z"⟩, 12), (⟨"UnseenClock$Reader", "lacksPerson", "()Z"⟩, 12), (⟨"UnseenClock$Reader", "wayTold", "()I"⟩, 12)]
theorem lw_r1 : ∀ q ∈ lw_privs_1, lw_okq q := List.forall_mem_cons.mpr ⟨lw_p0, List.forall_mem_cons.mpr ⟨lw_p1, List.forall_mem_cons.mpr ⟨lw_p2, List.forall_mem_cons.mpr ⟨lw_p3, List.forall_mem_cons.mpr ⟨lw_p4, List.forall_mem_cons.mpr ⟨lw_p5, List.forall_mem_cons.mpr ⟨lw_p6, List.forall_mem_cons.mpr ⟨lw_p7, List.forall_mem_cons.mpr ⟨lw_p8, List.forall_mem_cons.mpr ⟨lw_p9, List.forall_mem_cons.mpr ⟨lw_p10, List.forall_mem_cons.mpr ⟨lw_p11, List.forall_mem_cons.mpr ⟨lw_p12, List.forall_mem_cons.mpr ⟨lw_p13, List.forall_mem_cons.mpr ⟨lw_p14, List.forall_mem_cons.mpr ⟨lw_p15, fun _ h => absurd h List.not_mem_nil⟩⟩⟩⟩⟩⟩⟩⟩⟩⟩⟩⟩⟩⟩⟩⟩
theorem lw_p16 : lw_okq (⟨"UnseenClock$Reader", "takeMove", "(LUnseenClock$Person;II)Z"⟩, 12) := ⟨⟨by decide +kernel, by decide +kernel⟩, List.mem_of_getElem? (i := 28) (by decide +kernel), List.mem_of_getElem? (i := 545) (by decide +kernel), List.mem_of_getElem? (i := 546) (by decide +kernel)⟩
theorem lw_p17 : lw_okq (⟨"UnseenClock$Reader", "readWait", "()Z"⟩, 12) := ⟨⟨by decide +kernel, by decide +kernel⟩, List.mem_of_getElem? (i := 28) (by decide +kernel), List.mem_of_getElem? (i := 550) (by decide +kernel), List.mem_of_getElem? (i := 551) (by decide +kernel)⟩
theorem lw_p18 : lw_okq (⟨"UnseenClock$Reader", "readLook", "()Z"⟩, 12) := ⟨⟨by decide +kernel, by decide +kernel⟩, List.mem_of_getElem? (i := 28) (by decide +kernel), List.mem_of_getElem? (i := 555) (by decide +kernel), List.mem_of_getElem? (i := 556) (by decide +kernel)⟩
theorem lw_p19 : lw_okq (⟨"UnseenClock$Reader", "readHabit", "(LUnseenClock$Person;I)Z"⟩, 12) := ⟨⟨by decide +kernel, by decide +kernel⟩, List.mem_of_getElem? (i := 28) (by decide +kernel), List.mem_of_getElem? (i := 559) (by decide +kernel), List.mem_of_getElem? (i := 560) (by decide +kernel)⟩
theorem lw_p20 : lw_okq (⟨"UnseenClock$Reader", "habitTold", "()I"⟩, 12) := ⟨⟨by decide +kernel, by decide +kernel⟩, List.mem_of_getElem? (i := 28) (by decide +kernel), List.mem_of_getElem? (i := 563) (by decide +kernel), List.mem_of_getElem? (i := 564) (by decide +kernel)⟩
theorem lw_p21 : lw_okq (⟨"UnseenClock$Reader", "mostOf", "(I)I"⟩, 12) := ⟨⟨by decide +kernel, by decide +kernel⟩, List.mem_of_getElem? (i := 28) (by decide +kernel), List.mem_of_getElem? (i := 573) (by decide +kernel), List.mem_of_getElem? (i := 574) (by decide +kernel)⟩
theorem lw_p22 : lw_okq (⟨"UnseenClock$Reader", "takeSign", "()Z"⟩, 12) := ⟨⟨by decide +kernel, by decide +kernel⟩, List.mem_of_getElem? (i := 28) (by decide +kernel), List.mem_of_getElem? (i := 579) (by decide +kernel), List.mem_of_getElem? (i := 580) (by decide +kernel)⟩
theorem lw_p23 : lw_okq (⟨"UnseenClock$Plan", "walk", "(LUnseenClock$Person;)V"⟩, 12) := ⟨⟨by decide +kernel, by decide +kernel⟩, List.mem_of_getElem? (i := 74) (by decide +kernel), List.mem_of_getElem? (i := 590) (by decide +kernel), List.mem_of_getElem? (i := 591) (by decide +kernel)⟩
theorem lw_p24 : lw_okq (⟨"UnseenClock$Plan", "putAt", "(LUnseenClock$Person;III)V"⟩, 12) := ⟨⟨by decide +kernel, by decide +kernel⟩, List.mem_of_getElem? (i := 74) (by decide +kernel), List.mem_of_getElem? (i := 594) (by decide +kernel), List.mem_of_getElem? (i := 595) (by decide +kernel)⟩
theorem lw_p25 : lw_okq (⟨"UnseenClock$Plan", "clocksInView", "(I)I"⟩, 12) := ⟨⟨by decide +kernel, by decide +kernel⟩, List.mem_of_getElem? (i := 74) (by decide +kernel), List.mem_of_getElem? (i := 599) (by decide +kernel), List.mem_of_getElem? (i := 600) (by decide +kernel)⟩
theorem lw_p26 : lw_okq (⟨"UnseenClock", "forgetCourses", "()V"⟩, 14) := ⟨⟨by decide +kernel, by decide +kernel⟩, List.mem_of_getElem? (i := 20) (by decide +kernel), List.mem_of_getElem? (i := 619) (by decide +kernel), List.mem_of_getElem? (i := 620) (by decide +kernel)⟩
theorem lw_p27 : lw_okq (⟨"UnseenClock", "noPerson", "(I)Z"⟩, 14) := ⟨⟨by decide +kernel, by decide +kernel⟩, List.mem_of_getElem? (i := 20) (by decide +kernel), List.mem_of_getElem? (i := 631) (by decide +kernel), List.mem_of_getElem? (i := 632) (by decide +kernel)⟩
theorem lw_p28 : lw_okq (⟨"UnseenClock", "noMinute", "(I)Z"⟩, 14) := ⟨⟨by decide +kernel, by decide +kernel⟩, List.mem_of_getElem? (i := 20) (by decide +kernel), List.mem_of_getElem? (i := 635) (by decide +kernel), List.mem_of_getElem? (i := 636) (by decide +kernel)⟩
theorem lw_p29 : lw_okq (⟨"UnseenClock", "noClock", "(I)Z"⟩, 14) := ⟨⟨by decide +kernel, by decide +kernel⟩, List.mem_of_getElem? (i := 20) (by decide +kernel), List.mem_of_getElem? (i := 643) (by decide +kernel), List.mem_of_getElem? (i := 644) (by decide +kernel)⟩
theorem lw_p30 : lw_okq (⟨"UnseenClock", "plainCourse", "()LUnseenClock$Play;"⟩, 14) := ⟨⟨by decide +kernel, by decide +kernel⟩, List.mem_of_getElem? (i := 20) (by decide +kernel), List.mem_of_getElem? (i := 655) (by decide +kernel), List.mem_of_getElem? (i := 656) (by decide +kernel)⟩
theorem lw_p31 : lw_okq (⟨"UnseenClock$Play", "readFaces", "(I)I"⟩, 15) := ⟨⟨by decide +kernel, by decide +kernel⟩, List.mem_of_getElem? (i := 257) (by decide +kernel), List.mem_of_getElem? (i := 670) (by decide +kernel), List.mem_of_getElem? (i := 671) (by decide +kernel)⟩
def lw_privs_2 : List (MethodName × Nat) := [(⟨"UnseenClock$Reader", "takeMove", "(LUnseenClock$Person;II)Z"⟩, 12), (⟨"UnseenClock$Reader", "readWait", "()Z"⟩, 12), (⟨"UnseenClock$Reader", "readLook", "()Z"⟩, 12), (⟨"UnseenClock$Reader", "readHabit", "(LUnseenClock$Person;I)Z"⟩, 12), (⟨"UnseenClock$Reader", "habitTold", "()I"⟩, 12), (⟨"UnseenClock$Reader", "mostOf", "(I)I"⟩, 12), (⟨"UnseenClock$Reader", "takeSign", "()Z"⟩, 12), (⟨"UnseenClock$Plan", "walk", "(LUnseenClock$Person;)V"⟩, 12), (⟨"UnseenClock$Plan", "putAt", "(LUnseenClock$Person;III)V"⟩, 12), (⟨"UnseenClock$Plan", "clocksInView", "(I)I"⟩, 12), (⟨"UnseenClock", "forgetCourses", "()V"⟩, 14), (⟨"UnseenClock", "noPerson", "(I)Z"⟩, 14), (⟨"UnseenClock", "noMinute", "(I)Z"⟩, 14), (⟨"UnseenClock", "noClock", "(I)Z"⟩, 14), (⟨"UnseenClock", "plainCourse", "()LUnseenClock$Play;"⟩, 14), (⟨"UnseenClock$Play", "readFaces", "(I)I"⟩, 15)]
theorem lw_r2 : ∀ q ∈ lw_privs_2, lw_okq q := List.forall_mem_cons.mpr ⟨lw_p16, List.forall_mem_cons.mpr ⟨lw_p17, List.forall_mem_cons.mpr ⟨lw_p18, List.forall_mem_cons.mpr ⟨lw_p19, List.forall_mem_cons.mpr ⟨lw_p20, List.forall_mem_cons.mpr ⟨lw_p21, List.forall_mem_cons.mpr ⟨lw_p22, List.forall_mem_cons.mpr ⟨lw_p23, List.forall_mem_cons.mpr ⟨lw_p24, List.forall_mem_cons.mpr ⟨lw_p25, List.forall_mem_cons.mpr ⟨lw_p26, List.forall_mem_cons.mpr ⟨lw_p27, List.forall_mem_cons.mpr ⟨lw_p28, List.forall_mem_cons.mpr ⟨lw_p29, List.forall_mem_cons.mpr ⟨lw_p30, List.forall_mem_cons.mpr ⟨lw_p31, fun _ h => absurd h List.not_mem_nil⟩⟩⟩⟩⟩⟩⟩⟩⟩⟩⟩⟩⟩⟩⟩⟩
theorem lw_p32 : lw_okq (⟨"UnseenClock$Play", "weighHabits", "(I)V"⟩, 15) := ⟨⟨by decide +kernel, by decide +kernel⟩, List.mem_of_getElem? (i := 257) (by decide +kernel), List.mem_of_getElem? (i := 675) (by decide +kernel), List.mem_of_getElem? (i := 676) (by decide +kernel)⟩
theorem lw_p33 : lw_okq (⟨"UnseenClock$Play", "holdsAlone", "(III)Z"⟩, 15) := ⟨⟨by decide +kernel, by decide +kernel⟩, List.mem_of_getElem? (i := 257) (by decide +kernel), List.mem_of_getElem? (i := 683) (by decide +kernel), List.mem_of_getElem? (i := 684) (by decide +kernel)⟩
theorem lw_p34 : lw_okq (⟨"UnseenClock$Play", "nextDraw", "()I"⟩, 15) := ⟨⟨by decide +kernel, by decide +kernel⟩, List.mem_of_getElem? (i := 257) (by decide +kernel), List.mem_of_getElem? (i := 691) (by decide +kernel), List.mem_of_getElem? (i := 692) (by decide +kernel)⟩
theorem lw_p35 : lw_okq (⟨"UnseenClock$Play", "settleLeft", "(I)V"⟩, 15) := ⟨⟨by decide +kernel, by decide +kernel⟩, List.mem_of_getElem? (i := 257) (by decide +kernel), List.mem_of_getElem? (i := 700) (by decide +kernel), List.mem_of_getElem? (i := 701) (by decide +kernel)⟩
theorem lw_p36 : lw_okq (⟨"UnseenClock$Play", "settleOne", "(I)V"⟩, 15) := ⟨⟨by decide +kernel, by decide +kernel⟩, List.mem_of_getElem? (i := 257) (by decide +kernel), List.mem_of_getElem? (i := 704) (by decide +kernel), List.mem_of_getElem? (i := 705) (by decide +kernel)⟩
theorem lw_p37 : lw_okq (⟨"UnseenClock$Play", "takeOpen", "(I)V"⟩, 15) := ⟨⟨by decide +kernel, by decide +kernel⟩, List.mem_of_getElem? (i := 257) (by decide +kernel), List.mem_of_getElem? (i := 708) (by decide +kernel), List.mem_of_getElem? (i := 709) (by decide +kernel)⟩
theorem lw_p38 : lw_okq (⟨"UnseenClock$Play", "goOn", "(II)V"⟩, 15) := ⟨⟨by decide +kernel, by decide +kernel⟩, List.mem_of_getElem? (i := 257) (by decide +kernel), List.mem_of_getElem? (i := 712) (by decide +kernel), List.mem_of_getElem? (i := 713) (by decide +kernel)⟩
theorem lw_p39 : lw_okq (⟨"UnseenClock", "noClockThen", "(II)Z"⟩, 14) := ⟨⟨by decide +kernel, by decide +kernel⟩, List.mem_of_getElem? (i := 20) (by decide +kernel), List.mem_of_getElem? (i := 735) (by decide +kernel), List.mem_of_getElem? (i := 736) (by decide +kernel)⟩
theorem lw_p40 : lw_okq (⟨"UnseenClock", "noMoment", "(I)Z"⟩, 14) := ⟨⟨by decide +kernel, by decide +kernel⟩, List.mem_of_getElem? (i := 20) (by decide +kernel), List.mem_of_getElem? (i := 739) (by decide +kernel), List.mem_of_getElem? (i := 740) (by decide +kernel)⟩
theorem lw_p41 : lw_okq (⟨"UnseenClock$Play", "isSeen", "(II)Z"⟩, 15) := ⟨⟨by decide +kernel, by decide +kernel⟩, List.mem_of_getElem? (i := 257) (by decide +kernel), List.mem_of_getElem? (i := 753) (by decide +kernel), List.mem_of_getElem? (i := 754) (by decide +kernel)⟩
theorem lw_p42 : lw_okq (⟨"UnseenClock", "noSquare", "()Z"⟩, 14) := ⟨⟨by decide +kernel, by decide +kernel⟩, List.mem_of_getElem? (i := 20) (by decide +kernel), List.mem_of_getElem? (i := 773) (by decide +kernel), List.mem_of_getElem? (i := 774) (by decide +kernel)⟩
theorem lw_p43 : lw_okq (⟨"UnseenClock", "allCourses", "()LUnseenClock$CourseSet;"⟩, 14) := ⟨⟨by decide +kernel, by decide +kernel⟩, List.mem_of_getElem? (i := 20) (by decide +kernel), List.mem_of_getElem? (i := 832) (by decide +kernel), List.mem_of_getElem? (i := 833) (by decide +kernel)⟩
theorem lw_p44 : lw_okq (⟨"UnseenClock$CourseSet", "store", "(LUnseenClock$Play;I)V"⟩, 10) := ⟨⟨by decide +kernel, by decide +kernel⟩, List.mem_of_getElem? (i := 836) (by decide +kernel), List.mem_of_getElem? (i := 882) (by decide +kernel), List.mem_of_getElem? (i := 883) (by decide +kernel)⟩
theorem lw_p45 : lw_okq (⟨"UnseenClock$CourseSet", "sortSights", "()V"⟩, 10) := ⟨⟨by decide +kernel, by decide +kernel⟩, List.mem_of_getElem? (i := 836) (by decide +kernel), List.mem_of_getElem? (i := 893) (by decide +kernel), List.mem_of_getElem? (i := 894) (by decide +kernel)⟩
theorem lw_p46 : lw_okq (⟨"UnseenClock$CourseSet", "firstUnlike", "(III)I"⟩, 10) := ⟨⟨by decide +kernel, by decide +kernel⟩, List.mem_of_getElem? (i := 836) (by decide +kernel), List.mem_of_getElem? (i := 897) (by decide +kernel), List.mem_of_getElem? (i := 898) (by decide +kernel)⟩
theorem lw_p47 : lw_okq (⟨"UnseenClock$CourseSet", "unlikeFaces", "(III)I"⟩, 10) := ⟨⟨by decide +kernel, by decide +kernel⟩, List.mem_of_getElem? (i := 836) (by decide +kernel), List.mem_of_getElem? (i := 902) (by decide +kernel), List.mem_of_getElem? (i := 903) (by decide +kernel)⟩
def lw_privs_3 : List (MethodName × Nat) := [(⟨"UnseenClock$Play", "weighHabits", "(I)V"⟩, 15), (⟨"UnseenClock$Play", "holdsAlone", "(III)Z"⟩, 15), (⟨"UnseenClock$Play", "nextDraw", "()I"⟩, 15), (⟨"UnseenClock$Play", "settleLeft", "(I)V"⟩, 15), (⟨"UnseenClock$Play", "settleOne", "(I)V"⟩, 15), (⟨"UnseenClock$Play", "takeOpen", "(I)V"⟩, 15), (⟨"UnseenClock$Play", "goOn", "(II)V"⟩, 15), (⟨"UnseenClock", "noClockThen", "(II)Z"⟩, 14), (⟨"UnseenClock", "noMoment", "(I)Z"⟩, 14), (⟨"UnseenClock$Play", "isSeen", "(II)Z"⟩, 15), (⟨"UnseenClock", "noSquare", "()Z"⟩, 14), (⟨"UnseenClock", "allCourses", "()LUnseenClock$CourseSet;"⟩, 14), (⟨"UnseenClock$CourseSet", "store", "(LUnseenClock$Play;I)V"⟩, 10), (⟨"UnseenClock$CourseSet", "sortSights", "()V"⟩, 10), (⟨"UnseenClock$CourseSet", "firstUnlike", "(III)I"⟩, 10), (⟨"UnseenClock$CourseSet", "unlikeFaces", "(III)I"⟩, 10)]
theorem lw_r3 : ∀ q ∈ lw_privs_3, lw_okq q := List.forall_mem_cons.mpr ⟨lw_p32, List.forall_mem_cons.mpr ⟨lw_p33, List.forall_mem_cons.mpr ⟨lw_p34, List.forall_mem_cons.mpr ⟨lw_p35, List.forall_mem_cons.mpr ⟨lw_p36, List.forall_mem_cons.mpr ⟨lw_p37, List.forall_mem_cons.mpr ⟨lw_p38, List.forall_mem_cons.mpr ⟨lw_p39, List.forall_mem_cons.mpr ⟨lw_p40, List.forall_mem_cons.mpr ⟨lw_p41, List.forall_mem_cons.mpr ⟨lw_p42, List.forall_mem_cons.mpr ⟨lw_p43, List.forall_mem_cons.mpr ⟨lw_p44, List.forall_mem_cons.mpr ⟨lw_p45, List.forall_mem_cons.mpr ⟨lw_p46, List.forall_mem_cons.mpr ⟨lw_p47, fun _ h => absurd h List.not_mem_nil⟩⟩⟩⟩⟩⟩⟩⟩⟩⟩⟩⟩⟩⟩⟩⟩
theorem lw_p48 : lw_okq (⟨"UnseenClock$CourseSet", "sameSight", "(III)Z"⟩, 10) := ⟨⟨by decide +kernel, by decide +kernel⟩, List.mem_of_getElem? (i := 836) (by decide +kernel), List.mem_of_getElem? (i := 916) (by decide +kernel), List.mem_of_getElem? (i := 917) (by decide +kernel)⟩
theorem lw_p49 : lw_okq (⟨"UnseenClock$CourseSet", "hour", "(III)I"⟩, 10) := ⟨⟨by decide +kernel, by decide +kernel⟩, List.mem_of_getElem? (i := 836) (by decide +kernel), List.mem_of_getElem? (i := 924) (by decide +kernel), List.mem_of_getElem? (i := 925) (by decide +kernel)⟩
theorem lw_p50 : lw_okq (⟨"UnseenClock", "sightingTrouble", "(ILUnseenClock$CourseSet;)I"⟩, 14) := ⟨⟨by decide +kernel, by decide +kernel⟩, List.mem_of_getElem? (i := 20) (by decide +kernel), List.mem_of_getElem? (i := 932) (by decide +kernel), List.mem_of_getElem? (i := 933) (by decide +kernel)⟩
theorem lw_p51 : lw_okq (⟨"UnseenClock", "allSightings", "(I)I"⟩, 14) := ⟨⟨by decide +kernel, by decide +kernel⟩, List.mem_of_getElem? (i := 20) (by decide +kernel), List.mem_of_getElem? (i := 948) (by decide +kernel), List.mem_of_getElem? (i := 949) (by decide +kernel)⟩
theorem lw_p52 : lw_okq (⟨"UnseenClock$CourseSet", "sharesSight", "(III)Z"⟩, 10) := ⟨⟨by decide +kernel, by decide +kernel⟩, List.mem_of_getElem? (i := 836) (by decide +kernel), List.mem_of_getElem? (i := 994) (by decide +kernel), List.mem_of_getElem? (i := 995) (by decide +kernel)⟩
theorem lw_p53 : lw_okq (⟨"UnseenClock", "fewestAway", "(IIII)I"⟩, 14) := ⟨⟨by decide +kernel, by decide +kernel⟩, List.mem_of_getElem? (i := 20) (by decide +kernel), List.mem_of_getElem? (i := 1040) (by decide +kernel), List.mem_of_getElem? (i := 1041) (by decide +kernel)⟩
theorem lw_p54 : lw_okq (⟨"UnseenClock", "hourKept", "(III)I"⟩, 14) := ⟨⟨by decide +kernel, by decide +kernel⟩, List.mem_of_getElem? (i := 20) (by decide +kernel), List.mem_of_getElem? (i := 1056) (by decide +kernel), List.mem_of_getElem? (i := 1057) (by decide +kernel)⟩
theorem lw_p55 : lw_okq (⟨"UnseenClock", "leastKeeping", "(III)I"⟩, 14) := ⟨⟨by decide +kernel, by decide +kernel⟩, List.mem_of_getElem? (i := 20) (by decide +kernel), List.mem_of_getElem? (i := 1064) (by decide +kernel), List.mem_of_getElem? (i := 1065) (by decide +kernel)⟩
theorem lw_p56 : lw_okq (⟨"UnseenClock", "hourDrawn", "(III)I"⟩, 14) := ⟨⟨by decide +kernel, by decide +kernel⟩, List.mem_of_getElem? (i := 20) (by decide +kernel), List.mem_of_getElem? (i := 1098) (by decide +kernel), List.mem_of_getElem? (i := 1099) (by decide +kernel)⟩
theorem lw_p57 : lw_okq (⟨"UnseenClock", "filledSlots", "()I"⟩, 14) := ⟨⟨by decide +kernel, by decide +kernel⟩, List.mem_of_getElem? (i := 20) (by decide +kernel), List.mem_of_getElem? (i := 1114) (by decide +kernel), List.mem_of_getElem? (i := 1115) (by decide +kernel)⟩
theorem lw_p58 : lw_okq (⟨"UnseenClockModel", "advance", "()V"⟩, 41) := ⟨⟨by decide +kernel, by decide +kernel⟩, List.mem_of_getElem? (i := 1168) (by decide +kernel), List.mem_of_getElem? (i := 1327) (by decide +kernel), List.mem_of_getElem? (i := 1328) (by decide +kernel)⟩
theorem lw_p59 : lw_okq (⟨"UnseenClockModel", "see", "(I)I"⟩, 41) := ⟨⟨by decide +kernel, by decide +kernel⟩, List.mem_of_getElem? (i := 1168) (by decide +kernel), List.mem_of_getElem? (i := 1331) (by decide +kernel), List.mem_of_getElem? (i := 1332) (by decide +kernel)⟩
theorem lw_p60 : lw_okq (⟨"UnseenClockModel", "good", "()Z"⟩, 41) := ⟨⟨by decide +kernel, by decide +kernel⟩, List.mem_of_getElem? (i := 1168) (by decide +kernel), List.mem_of_getElem? (i := 1341) (by decide +kernel), List.mem_of_getElem? (i := 1342) (by decide +kernel)⟩
theorem lw_p61 : lw_okq (⟨"UnseenClockModel", "readLine", "()V"⟩, 41) := ⟨⟨by decide +kernel, by decide +kernel⟩, List.mem_of_getElem? (i := 1168) (by decide +kernel), List.mem_of_getElem? (i := 1345) (by decide +kernel), List.mem_of_getElem? (i := 1346) (by decide +kernel)⟩
theorem lw_p62 : lw_okq (⟨"UnseenClockModel", "needs", "(Ljava/lang/String;)V"⟩, 41) := ⟨⟨by decide +kernel, by decide +kernel⟩, List.mem_of_getElem? (i := 1168) (by decide +kernel), List.mem_of_getElem? (i := 1350) (by decide +kernel), List.mem_of_getElem? (i := 1351) (by decide +kernel)⟩
theorem lw_p63 : lw_okq (⟨"UnseenClockModel", "takes", "(Ljava/lang/String;)Z"⟩, 41) := ⟨⟨by decide +kernel, by decide +kernel⟩, List.mem_of_getElem? (i := 1168) (by decide +kernel), List.mem_of_getElem? (i := 1354) (by decide +kernel), List.mem_of_getElem? (i := 1355) (by decide +kernel)⟩
def lw_privs_4 : List (MethodName × Nat) := [(⟨"UnseenClock$CourseSet", "sameSight", "(III)Z"⟩, 10), (⟨"UnseenClock$CourseSet", "hour", "(III)I"⟩, 10), (⟨"UnseenClock", "sightingTrouble", "(ILUnseenClock$CourseSet;)I"⟩, 14), (⟨"UnseenClock", "allSightings", "(I)I"⟩, 14), (⟨"UnseenClock$CourseSet", "sharesSight", "(III)Z"⟩, 10), (⟨"UnseenClock", "fewestAway", "(IIII)I"⟩, 14), (⟨"UnseenClock", "hourKept", "(III)I"⟩, 14), (⟨"UnseenClock", "leastKeeping", "(III)I"⟩, 14), (⟨"UnseenClock", "hourDrawn", "(III)I"⟩, 14), (⟨"UnseenClock", "filledSlots", "()I"⟩, 14), (⟨"UnseenClockModel", "advance", "()V"⟩, 41), (⟨"UnseenClockModel", "see", "(I)I"⟩, 41), (⟨"UnseenClockModel", "good", "()Z"⟩, 41), (⟨"UnseenClockModel", "readLine", "()V"⟩, 41), (⟨"UnseenClockModel", "needs", "(Ljava/lang/String;)V"⟩, 41), (⟨"UnseenClockModel", "takes", "(Ljava/lang/String;)Z"⟩, 41)]
theorem lw_r4 : ∀ q ∈ lw_privs_4, lw_okq q := List.forall_mem_cons.mpr ⟨lw_p48, List.forall_mem_cons.mpr ⟨lw_p49, List.forall_mem_cons.mpr ⟨lw_p50, List.forall_mem_cons.mpr ⟨lw_p51, List.forall_mem_cons.mpr ⟨lw_p52, List.forall_mem_cons.mpr ⟨lw_p53, List.forall_mem_cons.mpr ⟨lw_p54, List.forall_mem_cons.mpr ⟨lw_p55, List.forall_mem_cons.mpr ⟨lw_p56, List.forall_mem_cons.mpr ⟨lw_p57, List.forall_mem_cons.mpr ⟨lw_p58, List.forall_mem_cons.mpr ⟨lw_p59, List.forall_mem_cons.mpr ⟨lw_p60, List.forall_mem_cons.mpr ⟨lw_p61, List.forall_mem_cons.mpr ⟨lw_p62, List.forall_mem_cons.mpr ⟨lw_p63, fun _ h => absurd h List.not_mem_nil⟩⟩⟩⟩⟩⟩⟩⟩⟩⟩⟩⟩⟩⟩⟩⟩
theorem lw_p64 : lw_okq (⟨"UnseenClockModel", "is", "(Ljava/lang/String;)Z"⟩, 41) := ⟨⟨by decide +kernel, by decide +kernel⟩, List.mem_of_getElem? (i := 1168) (by decide +kernel), List.mem_of_getElem? (i := 1358) (by decide +kernel), List.mem_of_getElem? (i := 1359) (by decide +kernel)⟩
theorem lw_p65 : lw_okq (⟨"UnseenClockModel", "errs", "(I)V"⟩, 41) := ⟨⟨by decide +kernel, by decide +kernel⟩, List.mem_of_getElem? (i := 1168) (by decide +kernel), List.mem_of_getElem? (i := 1364) (by decide +kernel), List.mem_of_getElem? (i := 1365) (by decide +kernel)⟩
theorem lw_p66 : lw_okq (⟨"UnseenClockModel", "told", "(Ljava/lang/String;II)I"⟩, 41) := ⟨⟨by decide +kernel, by decide +kernel⟩, List.mem_of_getElem? (i := 1168) (by decide +kernel), List.mem_of_getElem? (i := 1369) (by decide +kernel), List.mem_of_getElem? (i := 1370) (by decide +kernel)⟩
theorem lw_p67 : lw_okq (⟨"UnseenClockModel", "number", "(II)I"⟩, 41) := ⟨⟨by decide +kernel, by decide +kernel⟩, List.mem_of_getElem? (i := 1168) (by decide +kernel), List.mem_of_getElem? (i := 1373) (by decide +kernel), List.mem_of_getElem? (i := 1374) (by decide +kernel)⟩
theorem lw_p68 : lw_okq (⟨"UnseenClockModel", "readNext", "()V"⟩, 41) := ⟨⟨by decide +kernel, by decide +kernel⟩, List.mem_of_getElem? (i := 1168) (by decide +kernel), List.mem_of_getElem? (i := 1379) (by decide +kernel), List.mem_of_getElem? (i := 1380) (by decide +kernel)⟩
theorem lw_p69 : lw_okq (⟨"UnseenClockModel", "latest", "()I"⟩, 41) := ⟨⟨by decide +kernel, by decide +kernel⟩, List.mem_of_getElem? (i := 1168) (by decide +kernel), List.mem_of_getElem? (i := 1389) (by decide +kernel), List.mem_of_getElem? (i := 1390) (by decide +kernel)⟩
theorem lw_p70 : lw_okq (⟨"UnseenClockModel", "readCell", "(I)V"⟩, 41) := ⟨⟨by decide +kernel, by decide +kernel⟩, List.mem_of_getElem? (i := 1168) (by decide +kernel), List.mem_of_getElem? (i := 1393) (by decide +kernel), List.mem_of_getElem? (i := 1394) (by decide +kernel)⟩
theorem lw_p71 : lw_okq (⟨"UnseenClockModel", "readClock", "()V"⟩, 41) := ⟨⟨by decide +kernel, by decide +kernel⟩, List.mem_of_getElem? (i := 1168) (by decide +kernel), List.mem_of_getElem? (i := 1401) (by decide +kernel), List.mem_of_getElem? (i := 1402) (by decide +kernel)⟩
theorem lw_p72 : lw_okq (⟨"UnseenClockModel", "readPerson", "()V"⟩, 41) := ⟨⟨by decide +kernel, by decide +kernel⟩, List.mem_of_getElem? (i := 1168) (by decide +kernel), List.mem_of_getElem? (i := 1409) (by decide +kernel), List.mem_of_getElem? (i := 1410) (by decide +kernel)⟩
theorem lw_p73 : lw_okq (⟨"UnseenClockModel", "readMove", "(Z)V"⟩, 41) := ⟨⟨by decide +kernel, by decide +kernel⟩, List.mem_of_getElem? (i := 1168) (by decide +kernel), List.mem_of_getElem? (i := 1413) (by decide +kernel), List.mem_of_getElem? (i := 1414) (by decide +kernel)⟩
theorem lw_p74 : lw_okq (⟨"UnseenClockModel", "readLook", "()V"⟩, 41) := ⟨⟨by decide +kernel, by decide +kernel⟩, List.mem_of_getElem? (i := 1168) (by decide +kernel), List.mem_of_getElem? (i := 1421) (by decide +kernel), List.mem_of_getElem? (i := 1422) (by decide +kernel)⟩
theorem lw_p75 : lw_okq (⟨"UnseenClockModel", "freshClock", "()I"⟩, 41) := ⟨⟨by decide +kernel, by decide +kernel⟩, List.mem_of_getElem? (i := 1168) (by decide +kernel), List.mem_of_getElem? (i := 1425) (by decide +kernel), List.mem_of_getElem? (i := 1426) (by decide +kernel)⟩
theorem lw_p76 : lw_okq (⟨"UnseenClockModel", "isPerson", "(I)Z"⟩, 41) := ⟨⟨by decide +kernel, by decide +kernel⟩, List.mem_of_getElem? (i := 1168) (by decide +kernel), List.mem_of_getElem? (i := 1441) (by decide +kernel), List.mem_of_getElem? (i := 1442) (by decide +kernel)⟩
theorem lw_p77 : lw_okq (⟨"UnseenClockModel", "isMinute", "(I)Z"⟩, 41) := ⟨⟨by decide +kernel, by decide +kernel⟩, List.mem_of_getElem? (i := 1168) (by decide +kernel), List.mem_of_getElem? (i := 1445) (by decide +kernel), List.mem_of_getElem? (i := 1446) (by decide +kernel)⟩
theorem lw_p78 : lw_okq (⟨"UnseenClockModel", "fillSpots", "(I)V"⟩, 41) := ⟨⟨by decide +kernel, by decide +kernel⟩, List.mem_of_getElem? (i := 1168) (by decide +kernel), List.mem_of_getElem? (i := 1449) (by decide +kernel), List.mem_of_getElem? (i := 1450) (by decide +kernel)⟩
theorem lw_p79 : lw_okq (⟨"UnseenClockModel", "setSpot", "(IIII)V"⟩, 41) := ⟨⟨by decide +kernel, by decide +kernel⟩, List.mem_of_getElem? (i := 1168) (by decide +kernel), List.mem_of_getElem? (i := 1453) (by decide +kernel), List.mem_of_getElem? (i := 1454) (by decide +kernel)⟩
def lw_privs_5 : List (MethodName × Nat) := [(⟨"UnseenClockModel", "is", "(Ljava/lang/String;)Z"⟩, 41), (⟨"UnseenClockModel", "errs", "(I)V"⟩, 41), (⟨"UnseenClockModel", "told", "(Ljava/lang/String;II)I"⟩, 41), (⟨"UnseenClockModel", "number", "(II)I"⟩, 41), (⟨"UnseenClockModel", "readNext", "()V"⟩, 41), (⟨"UnseenClockModel", "latest", "()I"⟩, 41), (⟨"UnseenClockModel", "readCell", "(I)V"⟩, 41), (⟨"UnseenClockModel", "readClock", "()V"⟩, 41), (⟨"UnseenClockModel", "readPerson", "()V"⟩, 41), (⟨"UnseenClockModel", "readMove", "(Z)V"⟩, 41), (⟨"UnseenClockModel", "readLook", "()V"⟩, 41), (⟨"UnseenClockModel", "freshClock", "()I"⟩, 41), (⟨"UnseenClockModel", "isPerson", "(I)Z"⟩, 41), (⟨"UnseenClockModel", "isMinute", "(I)Z"⟩, 41), (⟨"UnseenClockModel", "fillSpots", "(I)V"⟩, 41), (⟨"UnseenClockModel", "setSpot", "(IIII)V"⟩, 41)]
theorem lw_r5 : ∀ q ∈ lw_privs_5, lw_okq q := List.forall_mem_cons.mpr ⟨lw_p64, List.forall_mem_cons.mpr ⟨lw_p65, List.forall_mem_cons.mpr ⟨lw_p66, List.forall_mem_cons.mpr ⟨lw_p67, List.forall_mem_cons.mpr ⟨lw_p68, List.forall_mem_cons.mpr ⟨lw_p69, List.forall_mem_cons.mpr ⟨lw_p70, List.forall_mem_cons.mpr ⟨lw_p71, List.forall_mem_cons.mpr ⟨lw_p72, List.forall_mem_cons.mpr ⟨lw_p73, List.forall_mem_cons.mpr ⟨lw_p74, List.forall_mem_cons.mpr ⟨lw_p75, List.forall_mem_cons.mpr ⟨lw_p76, List.forall_mem_cons.mpr ⟨lw_p77, List.forall_mem_cons.mpr ⟨lw_p78, List.forall_mem_cons.mpr ⟨lw_p79, fun _ h => absurd h List.not_mem_nil⟩⟩⟩⟩⟩⟩⟩⟩⟩⟩⟩⟩⟩⟩⟩⟩
theorem lw_p80 : lw_okq (⟨"UnseenClockModel", "of", "(II)I"⟩, 41) := ⟨⟨by decide +kernel, by decide +kernel⟩, List.mem_of_getElem? (i := 1168) (by decide +kernel), List.mem_of_getElem? (i := 1457) (by decide +kernel), List.mem_of_getElem? (i := 1458) (by decide +kernel)⟩
theorem lw_p81 : lw_okq (⟨"UnseenClockModel", "isFree", "(II)Z"⟩, 41) := ⟨⟨by decide +kernel, by decide +kernel⟩, List.mem_of_getElem? (i := 1168) (by decide +kernel), List.mem_of_getElem? (i := 1461) (by decide +kernel), List.mem_of_getElem? (i := 1462) (by decide +kernel)⟩
theorem lw_p82 : lw_okq (⟨"UnseenClockModel", "isThere", "(II)Z"⟩, 41) := ⟨⟨by decide +kernel, by decide +kernel⟩, List.mem_of_getElem? (i := 1168) (by decide +kernel), List.mem_of_getElem? (i := 1465) (by decide +kernel), List.mem_of_getElem? (i := 1466) (by decide +kernel)⟩
theorem lw_p83 : lw_okq (⟨"UnseenClockModel", "isClock", "(I)Z"⟩, 41) := ⟨⟨by decide +kernel, by decide +kernel⟩, List.mem_of_getElem? (i := 1168) (by decide +kernel), List.mem_of_getElem? (i := 1473) (by decide +kernel), List.mem_of_getElem? (i := 1474) (by decide +kernel)⟩
theorem lw_p84 : lw_okq (⟨"UnseenClockModel", "seesFrom", "(III)Z"⟩, 41) := ⟨⟨by decide +kernel, by decide +kernel⟩, List.mem_of_getElem? (i := 1168) (by decide +kernel), List.mem_of_getElem? (i := 1477) (by decide +kernel), List.mem_of_getElem? (i := 1478) (by decide +kernel)⟩
theorem lw_p85 : lw_okq (⟨"UnseenClockModel", "ofClock", "(II)I"⟩, 41) := ⟨⟨by decide +kernel, by decide +kernel⟩, List.mem_of_getElem? (i := 1168) (by decide +kernel), List.mem_of_getElem? (i := 1481) (by decide +kernel), List.mem_of_getElem? (i := 1482) (by decide +kernel)⟩
theorem lw_p86 : lw_okq (⟨"UnseenClockModel", "plain", "()V"⟩, 41) := ⟨⟨by decide +kernel, by decide +kernel⟩, List.mem_of_getElem? (i := 1168) (by decide +kernel), List.mem_of_getElem? (i := 1494) (by decide +kernel), List.mem_of_getElem? (i := 1495) (by decide +kernel)⟩
theorem lw_p87 : lw_okq (⟨"UnseenClockModel", "keepsNone", "()V"⟩, 41) := ⟨⟨by decide +kernel, by decide +kernel⟩, List.mem_of_getElem? (i := 1168) (by decide +kernel), List.mem_of_getElem? (i := 1498) (by decide +kernel), List.mem_of_getElem? (i := 1499) (by decide +kernel)⟩
theorem lw_p88 : lw_okq (⟨"UnseenClockModel", "runs", "()V"⟩, 41) := ⟨⟨by decide +kernel, by decide +kernel⟩, List.mem_of_getElem? (i := 1168) (by decide +kernel), List.mem_of_getElem? (i := 1502) (by decide +kernel), List.mem_of_getElem? (i := 1503) (by decide +kernel)⟩
theorem lw_p89 : lw_okq (⟨"UnseenClockModel", "fillAllSpots", "()V"⟩, 41) := ⟨⟨by decide +kernel, by decide +kernel⟩, List.mem_of_getElem? (i := 1168) (by decide +kernel), List.mem_of_getElem? (i := 1506) (by decide +kernel), List.mem_of_getElem? (i := 1507) (by decide +kernel)⟩
theorem lw_p90 : lw_okq (⟨"UnseenClockModel", "goes", "(I)V"⟩, 41) := ⟨⟨by decide +kernel, by decide +kernel⟩, List.mem_of_getElem? (i := 1168) (by decide +kernel), List.mem_of_getElem? (i := 1510) (by decide +kernel), List.mem_of_getElem? (i := 1511) (by decide +kernel)⟩
theorem lw_p91 : lw_okq (⟨"UnseenClockModel", "looksIn", "(I)V"⟩, 41) := ⟨⟨by decide +kernel, by decide +kernel⟩, List.mem_of_getElem? (i := 1168) (by decide +kernel), List.mem_of_getElem? (i := 1514) (by decide +kernel), List.mem_of_getElem? (i := 1515) (by decide +kernel)⟩
theorem lw_p92 : lw_okq (⟨"UnseenClockModel", "fillSeeing", "(I)V"⟩, 41) := ⟨⟨by decide +kernel, by decide +kernel⟩, List.mem_of_getElem? (i := 1168) (by decide +kernel), List.mem_of_getElem? (i := 1518) (by decide +kernel), List.mem_of_getElem? (i := 1519) (by decide +kernel)⟩
theorem lw_p93 : lw_okq (⟨"UnseenClockModel", "drawsMaybes", "()V"⟩, 41) := ⟨⟨by decide +kernel, by decide +kernel⟩, List.mem_of_getElem? (i := 1168) (by decide +kernel), List.mem_of_getElem? (i := 1522) (by decide +kernel), List.mem_of_getElem? (i := 1523) (by decide +kernel)⟩
theorem lw_p94 : lw_okq (⟨"UnseenClockModel", "lookOf", "(III)I"⟩, 41) := ⟨⟨by decide +kernel, by decide +kernel⟩, List.mem_of_getElem? (i := 1168) (by decide +kernel), List.mem_of_getElem? (i := 1526) (by decide +kernel), List.mem_of_getElem? (i := 1527) (by decide +kernel)⟩
theorem lw_p95 : lw_okq (⟨"UnseenClockModel", "draw", "()I"⟩, 41) := ⟨⟨by decide +kernel, by decide +kernel⟩, List.mem_of_getElem? (i := 1168) (by decide +kernel), List.mem_of_getElem? (i := 1530) (by decide +kernel), List.mem_of_getElem? (i := 1531) (by decide +kernel)⟩
def lw_privs_6 : List (MethodName × Nat) := [(⟨"UnseenClockModel", "of", "(II)I"⟩, 41), (⟨"UnseenClockModel", "isFree", "(II)Z"⟩, 41), (⟨"UnseenClockModel", "isThere", "(II)Z"⟩, 41), (⟨"UnseenClockModel", "isClock", "(I)Z"⟩, 41), (⟨"UnseenClockModel", "seesFrom", "(III)Z"⟩, 41), (⟨"UnseenClockModel", "ofClock", "(II)I"⟩, 41), (⟨"UnseenClockModel", "plain", "()V"⟩, 41), (⟨"UnseenClockModel", "keepsNone", "()V"⟩, 41), (⟨"UnseenClockModel", "runs", "()V"⟩, 41), (⟨"UnseenClockModel", "fillAllSpots", "()V"⟩, 41), (⟨"UnseenClockModel", "goes", "(I)V"⟩, 41), (⟨"UnseenClockModel", "looksIn", "(I)V"⟩, 41), (⟨"UnseenClockModel", "fillSeeing", "(I)V"⟩, 41), (⟨"UnseenClockModel", "drawsMaybes", "()V"⟩, 41), (⟨"UnseenClockModel", "lookOf", "(III)I"⟩, 41), (⟨"UnseenClockModel", "draw", "()I"⟩, 41)]
theorem lw_r6 : ∀ q ∈ lw_privs_6, lw_okq q := List.forall_mem_cons.mpr ⟨lw_p80, List.forall_mem_cons.mpr ⟨lw_p81, List.forall_mem_cons.mpr ⟨lw_p82, List.forall_mem_cons.mpr ⟨lw_p83, List.forall_mem_cons.mpr ⟨lw_p84, List.forall_mem_cons.mpr ⟨lw_p85, List.forall_mem_cons.mpr ⟨lw_p86, List.forall_mem_cons.mpr ⟨lw_p87, List.forall_mem_cons.mpr ⟨lw_p88, List.forall_mem_cons.mpr ⟨lw_p89, List.forall_mem_cons.mpr ⟨lw_p90, List.forall_mem_cons.mpr ⟨lw_p91, List.forall_mem_cons.mpr ⟨lw_p92, List.forall_mem_cons.mpr ⟨lw_p93, List.forall_mem_cons.mpr ⟨lw_p94, List.forall_mem_cons.mpr ⟨lw_p95, fun _ h => absurd h List.not_mem_nil⟩⟩⟩⟩⟩⟩⟩⟩⟩⟩⟩⟩⟩⟩⟩⟩
theorem lw_p96 : lw_okq (⟨"UnseenClockModel", "settles", "(I)V"⟩, 41) := ⟨⟨by decide +kernel, by decide +kernel⟩, List.mem_of_getElem? (i := 1168) (by decide +kernel), List.mem_of_getElem? (i := 1539) (by decide +kernel), List.mem_of_getElem? (i := 1540) (by decide +kernel)⟩
theorem lw_p97 : lw_okq (⟨"UnseenClockModel", "settled", "(III)I"⟩, 41) := ⟨⟨by decide +kernel, by decide +kernel⟩, List.mem_of_getElem? (i := 1168) (by decide +kernel), List.mem_of_getElem? (i := 1543) (by decide +kernel), List.mem_of_getElem? (i := 1544) (by decide +kernel)⟩
theorem lw_p98 : lw_okq (⟨"UnseenClockModel", "holds", "(III)I"⟩, 41) := ⟨⟨by decide +kernel, by decide +kernel⟩, List.mem_of_getElem? (i := 1168) (by decide +kernel), List.mem_of_getElem? (i := 1547) (by decide +kernel), List.mem_of_getElem? (i := 1548) (by decide +kernel)⟩
theorem lw_p99 : lw_okq (⟨"UnseenClockModel", "shownAt", "(II)I"⟩, 41) := ⟨⟨by decide +kernel, by decide +kernel⟩, List.mem_of_getElem? (i := 1168) (by decide +kernel), List.mem_of_getElem? (i := 1551) (by decide +kernel), List.mem_of_getElem? (i := 1552) (by decide +kernel)⟩
theorem lw_p100 : lw_okq (⟨"UnseenClockModel", "firstUnknown", "()I"⟩, 41) := ⟨⟨by decide +kernel, by decide +kernel⟩, List.mem_of_getElem? (i := 1168) (by decide +kernel), List.mem_of_getElem? (i := 1555) (by decide +kernel), List.mem_of_getElem? (i := 1556) (by decide +kernel)⟩
theorem lw_p101 : lw_okq (⟨"UnseenClockModel", "isLooked", "(II)Z"⟩, 41) := ⟨⟨by decide +kernel, by decide +kernel⟩, List.mem_of_getElem? (i := 1168) (by decide +kernel), List.mem_of_getElem? (i := 1559) (by decide +kernel), List.mem_of_getElem? (i := 1560) (by decide +kernel)⟩
theorem lw_p102 : lw_okq (⟨"UnseenClockModel", "isTime", "(I)Z"⟩, 41) := ⟨⟨by decide +kernel, by decide +kernel⟩, List.mem_of_getElem? (i := 1168) (by decide +kernel), List.mem_of_getElem? (i := 1571) (by decide +kernel), List.mem_of_getElem? (i := 1572) (by decide +kernel)⟩
theorem lw_p103 : lw_okq (⟨"UnseenClockModel", "isSquare", "()Z"⟩, 41) := ⟨⟨by decide +kernel, by decide +kernel⟩, List.mem_of_getElem? (i := 1168) (by decide +kernel), List.mem_of_getElem? (i := 1575) (by decide +kernel), List.mem_of_getElem? (i := 1576) (by decide +kernel)⟩
theorem lw_p104 : lw_okq (⟨"UnseenClockModel", "manyShow", "(II)I"⟩, 41) := ⟨⟨by decide +kernel, by decide +kernel⟩, List.mem_of_getElem? (i := 1168) (by decide +kernel), List.mem_of_getElem? (i := 1604) (by decide +kernel), List.mem_of_getElem? (i := 1605) (by decide +kernel)⟩
theorem lw_p105 : lw_okq (⟨"UnseenClockModel", "fillCourses", "()Z"⟩, 41) := ⟨⟨by decide +kernel, by decide +kernel⟩, List.mem_of_getElem? (i := 1168) (by decide +kernel), List.mem_of_getElem? (i := 1612) (by decide +kernel), List.mem_of_getElem? (i := 1613) (by decide +kernel)⟩
theorem lw_p106 : lw_okq (⟨"UnseenClockModel", "keepsCourse", "()V"⟩, 41) := ⟨⟨by decide +kernel, by decide +kernel⟩, List.mem_of_getElem? (i := 1168) (by decide +kernel), List.mem_of_getElem? (i := 1616) (by decide +kernel), List.mem_of_getElem? (i := 1617) (by decide +kernel)⟩
theorem lw_p107 : lw_okq (⟨"UnseenClockModel", "nextTaking", "()Z"⟩, 41) := ⟨⟨by decide +kernel, by decide +kernel⟩, List.mem_of_getElem? (i := 1168) (by decide +kernel), List.mem_of_getElem? (i := 1620) (by decide +kernel), List.mem_of_getElem? (i := 1621) (by decide +kernel)⟩
theorem lw_p108 : lw_okq (⟨"UnseenClockModel", "shownIn", "(III)I"⟩, 41) := ⟨⟨by decide +kernel, by decide +kernel⟩, List.mem_of_getElem? (i := 1168) (by decide +kernel), List.mem_of_getElem? (i := 1628) (by decide +kernel), List.mem_of_getElem? (i := 1629) (by decide +kernel)⟩
theorem lw_p109 : lw_okq (⟨"UnseenClockModel", "asksSightings", "(IZI)I"⟩, 41) := ⟨⟨by decide +kernel, by decide +kernel⟩, List.mem_of_getElem? (i := 1168) (by decide +kernel), List.mem_of_getElem? (i := 1636) (by decide +kernel), List.mem_of_getElem? (i := 1637) (by decide +kernel)⟩
theorem lw_p110 : lw_okq (⟨"UnseenClockModel", "agrees", "(III)Z"⟩, 41) := ⟨⟨by decide +kernel, by decide +kernel⟩, List.mem_of_getElem? (i := 1168) (by decide +kernel), List.mem_of_getElem? (i := 1644) (by decide +kernel), List.mem_of_getElem? (i := 1645) (by decide +kernel)⟩
theorem lw_p111 : lw_okq (⟨"UnseenClockModel", "sureBy", "(IIII)I"⟩, 41) := ⟨⟨by decide +kernel, by decide +kernel⟩, List.mem_of_getElem? (i := 1168) (by decide +kernel), List.mem_of_getElem? (i := 1652) (by decide +kernel), List.mem_of_getElem? (i := 1653) (by decide +kernel)⟩
def lw_privs_7 : List (MethodName × Nat) := [(⟨"UnseenClockModel", "settles", "(I)V"⟩, 41), (⟨"UnseenClockModel", "settled", "(III)I"⟩, 41), (⟨"UnseenClockModel", "holds", "(III)I"⟩, 41), (⟨"UnseenClockModel", "shownAt", "(II)I"⟩, 41), (⟨"UnseenClockModel", "firstUnknown", "()I"⟩, 41), (⟨"UnseenClockModel", "isLooked", "(II)Z"⟩, 41), (⟨"UnseenClockModel", "isTime", "(I)Z"⟩, 41), (⟨"UnseenClockModel", "isSquare", "()Z"⟩, 41), (⟨"UnseenClockModel", "manyShow", "(II)I"⟩, 41), (⟨"UnseenClockModel", "fillCourses", "()Z"⟩, 41), (⟨"UnseenClockModel", "keepsCourse", "()V"⟩, 41), (⟨"UnseenClockModel", "nextTaking", "()Z"⟩, 41), (⟨"UnseenClockModel", "shownIn", "(III)I"⟩, 41), (⟨"UnseenClockModel", "asksSightings", "(IZI)I"⟩, 41), (⟨"UnseenClockModel", "agrees", "(III)Z"⟩, 41), (⟨"UnseenClockModel", "sureBy", "(IIII)I"⟩, 41)]
theorem lw_r7 : ∀ q ∈ lw_privs_7, lw_okq q := List.forall_mem_cons.mpr ⟨lw_p96, List.forall_mem_cons.mpr ⟨lw_p97, List.forall_mem_cons.mpr ⟨lw_p98, List.forall_mem_cons.mpr ⟨lw_p99, List.forall_mem_cons.mpr ⟨lw_p100, List.forall_mem_cons.mpr ⟨lw_p101, List.forall_mem_cons.mpr ⟨lw_p102, List.forall_mem_cons.mpr ⟨lw_p103, List.forall_mem_cons.mpr ⟨lw_p104, List.forall_mem_cons.mpr ⟨lw_p105, List.forall_mem_cons.mpr ⟨lw_p106, List.forall_mem_cons.mpr ⟨lw_p107, List.forall_mem_cons.mpr ⟨lw_p108, List.forall_mem_cons.mpr ⟨lw_p109, List.forall_mem_cons.mpr ⟨lw_p110, List.forall_mem_cons.mpr ⟨lw_p111, fun _ h => absurd h List.not_mem_nil⟩⟩⟩⟩⟩⟩⟩⟩⟩⟩⟩⟩⟩⟩⟩⟩
theorem lw_p112 : lw_okq (⟨"UnseenClockModel", "isAlike", "(III)Z"⟩, 41) := ⟨⟨by decide +kernel, by decide +kernel⟩, List.mem_of_getElem? (i := 1168) (by decide +kernel), List.mem_of_getElem? (i := 1667) (by decide +kernel), List.mem_of_getElem? (i := 1668) (by decide +kernel)⟩
theorem lw_p113 : lw_okq (⟨"UnseenClockModel", "isAlikeTill", "(IIII)Z"⟩, 41) := ⟨⟨by decide +kernel, by decide +kernel⟩, List.mem_of_getElem? (i := 1168) (by decide +kernel), List.mem_of_getElem? (i := 1671) (by decide +kernel), List.mem_of_getElem? (i := 1672) (by decide +kernel)⟩
theorem lw_p114 : lw_okq (⟨"UnseenClockModel", "commonOf", "(II)I"⟩, 41) := ⟨⟨by decide +kernel, by decide +kernel⟩, List.mem_of_getElem? (i := 1168) (by decide +kernel), List.mem_of_getElem? (i := 1675) (by decide +kernel), List.mem_of_getElem? (i := 1676) (by decide +kernel)⟩
theorem lw_p115 : lw_okq (⟨"UnseenClockModel", "spreads", "(I)V"⟩, 41) := ⟨⟨by decide +kernel, by decide +kernel⟩, List.mem_of_getElem? (i := 1168) (by decide +kernel), List.mem_of_getElem? (i := 1683) (by decide +kernel), List.mem_of_getElem? (i := 1684) (by decide +kernel)⟩
theorem lw_p116 : lw_okq (⟨"UnseenClockModel", "comesBy", "(III)Z"⟩, 41) := ⟨⟨by decide +kernel, by decide +kernel⟩, List.mem_of_getElem? (i := 1168) (by decide +kernel), List.mem_of_getElem? (i := 1687) (by decide +kernel), List.mem_of_getElem? (i := 1688) (by decide +kernel)⟩
theorem lw_p117 : lw_okq (⟨"UnseenClockModel", "isAsked", "(IIII)Z"⟩, 41) := ⟨⟨by decide +kernel, by decide +kernel⟩, List.mem_of_getElem? (i := 1168) (by decide +kernel), List.mem_of_getElem? (i := 1699) (by decide +kernel), List.mem_of_getElem? (i := 1700) (by decide +kernel)⟩
theorem lw_p118 : lw_okq (⟨"UnseenClockModel", "shownBy", "(IIII)I"⟩, 41) := ⟨⟨by decide +kernel, by decide +kernel⟩, List.mem_of_getElem? (i := 1168) (by decide +kernel), List.mem_of_getElem? (i := 1703) (by decide +kernel), List.mem_of_getElem? (i := 1704) (by decide +kernel)⟩
theorem lw_p119 : lw_okq (⟨"UnseenClockModel", "areTwo", "(II)Z"⟩, 41) := ⟨⟨by decide +kernel, by decide +kernel⟩, List.mem_of_getElem? (i := 1168) (by decide +kernel), List.mem_of_getElem? (i := 1715) (by decide +kernel), List.mem_of_getElem? (i := 1716) (by decide +kernel)⟩
theorem lw_p120 : lw_okq (⟨"UnseenClockModel", "isBell", "(III)Z"⟩, 41) := ⟨⟨by decide +kernel, by decide +kernel⟩, List.mem_of_getElem? (i := 1168) (by decide +kernel), List.mem_of_getElem? (i := 1751) (by decide +kernel), List.mem_of_getElem? (i := 1752) (by decide +kernel)⟩
theorem lw_p121 : lw_okq (⟨"UnseenClockModel", "awayOf", "(III)I"⟩, 41) := ⟨⟨by decide +kernel, by decide +kernel⟩, List.mem_of_getElem? (i := 1168) (by decide +kernel), List.mem_of_getElem? (i := 1763) (by decide +kernel), List.mem_of_getElem? (i := 1764) (by decide +kernel)⟩
theorem lw_p122 : lw_okq (⟨"UnseenClockModel", "keptAt", "(III)I"⟩, 41) := ⟨⟨by decide +kernel, by decide +kernel⟩, List.mem_of_getElem? (i := 1168) (by decide +kernel), List.mem_of_getElem? (i := 1772) (by decide +kernel), List.mem_of_getElem? (i := 1773) (by decide +kernel)⟩
theorem lw_p123 : lw_okq (⟨"UnseenClockModel", "leastKept", "(III)I"⟩, 41) := ⟨⟨by decide +kernel, by decide +kernel⟩, List.mem_of_getElem? (i := 1168) (by decide +kernel), List.mem_of_getElem? (i := 1780) (by decide +kernel), List.mem_of_getElem? (i := 1781) (by decide +kernel)⟩
theorem lw_p124 : lw_okq (⟨"UnseenClockModel", "dayOf", "(JII)I"⟩, 41) := ⟨⟨by decide +kernel, by decide +kernel⟩, List.mem_of_getElem? (i := 1168) (by decide +kernel), List.mem_of_getElem? (i := 1810) (by decide +kernel), List.mem_of_getElem? (i := 1811) (by decide +kernel)⟩
def lw_privs_8 : List (MethodName × Nat) := [(⟨"UnseenClockModel", "isAlike", "(III)Z"⟩, 41), (⟨"UnseenClockModel", "isAlikeTill", "(IIII)Z"⟩, 41), (⟨"UnseenClockModel", "commonOf", "(II)I"⟩, 41), (⟨"UnseenClockModel", "spreads", "(I)V"⟩, 41), (⟨"UnseenClockModel", "comesBy", "(III)Z"⟩, 41), (⟨"UnseenClockModel", "isAsked", "(IIII)Z"⟩, 41), (⟨"UnseenClockModel", "shownBy", "(IIII)I"⟩, 41), (⟨"UnseenClockModel", "areTwo", "(II)Z"⟩, 41), (⟨"UnseenClockModel", "isBell", "(III)Z"⟩, 41), (⟨"UnseenClockModel", "awayOf", "(III)I"⟩, 41), (⟨"UnseenClockModel", "keptAt", "(III)I"⟩, 41), (⟨"UnseenClockModel", "leastKept", "(III)I"⟩, 41), (⟨"UnseenClockModel", "dayOf", "(JII)I"⟩, 41)]
theorem lw_r8 : ∀ q ∈ lw_privs_8, lw_okq q := List.forall_mem_cons.mpr ⟨lw_p112, List.forall_mem_cons.mpr ⟨lw_p113, List.forall_mem_cons.mpr ⟨lw_p114, List.forall_mem_cons.mpr ⟨lw_p115, List.forall_mem_cons.mpr ⟨lw_p116, List.forall_mem_cons.mpr ⟨lw_p117, List.forall_mem_cons.mpr ⟨lw_p118, List.forall_mem_cons.mpr ⟨lw_p119, List.forall_mem_cons.mpr ⟨lw_p120, List.forall_mem_cons.mpr ⟨lw_p121, List.forall_mem_cons.mpr ⟨lw_p122, List.forall_mem_cons.mpr ⟨lw_p123, List.forall_mem_cons.mpr ⟨lw_p124, fun _ h => absurd h List.not_mem_nil⟩⟩⟩⟩⟩⟩⟩⟩⟩⟩⟩⟩⟩
def lw_privs : List (MethodName × Nat) := lw_privs_1 ++ (lw_privs_2 ++ (lw_privs_3 ++ (lw_privs_4 ++ (lw_privs_5 ++ (lw_privs_6 ++ (lw_privs_7 ++ (lw_privs_8)))))))
def lw_tbl : List Cond := k2_sels lw_privs ++ tables_1
theorem lw_privs_ok : ∀ q ∈ lw_privs, lw_okq q := by
  show ∀ q ∈ lw_privs_1 ++ (lw_privs_2 ++ (lw_privs_3 ++ (lw_privs_4 ++ (lw_privs_5 ++ (lw_privs_6 ++ (lw_privs_7 ++ (lw_privs_8))))))), lw_okq q
  exact List.forall_mem_append.mpr ⟨lw_r1, List.forall_mem_append.mpr ⟨lw_r2, List.forall_mem_append.mpr ⟨lw_r3, List.forall_mem_append.mpr ⟨lw_r4, List.forall_mem_append.mpr ⟨lw_r5, List.forall_mem_append.mpr ⟨lw_r6, List.forall_mem_append.mpr ⟨lw_r7, lw_r8⟩⟩⟩⟩⟩⟩⟩
end
section
def RX0 : String := "UnseenClock$Clock"
def TX0 : u_T := fun k => match k with
  | 0 => ("UnseenClock$Clock", "x", "I", false)
  | 1 => ("UnseenClock$Clock", "y", "I", false)
  | 2 => ("UnseenClock$Clock", "pace", "I", false)
  | 3 => ("UnseenClock$Clock", "over", "I", false)
  | 4 => ("UnseenClock$Clock", "dial", "I", false)
  | _ => ("UnseenClock$Clock", "start", "I", false)
def tyX0 : Nat → FieldType := fun k => match k with
  | 0 => .int
  | 1 => .int
  | 2 => .int
  | 3 => .int
  | 4 => .int
  | _ => .int
abbrev wsX00 : List Cond := u_ws RX0 TX0 6
theorem nmX0 : ∀ a, a < 6 → ∀ b, b < 6 → a ≠ b → (TX0 a).2.1 ≠ (TX0 b).2.1 := by decide +kernel
theorem tyX0_ok : ∀ k, k < 6 → parseFieldDescriptor (TX0 k).2.2.1 = some (tyX0 k) := by decide +kernel
def RX1 : String := "UnseenClock$CourseSet"
def TX1 : u_T := fun k => match k with
  | 0 => ("UnseenClock$CourseSet", "size", "I", false)
  | 1 => ("UnseenClock$CourseSet", "over", "Z", false)
  | 2 => ("UnseenClock$CourseSet", "minutes", "I", false)
  | 3 => ("UnseenClock$CourseSet", "people", "I", false)
  | 4 => ("UnseenClock$CourseSet", "looked", "[I", true)
  | 5 => ("UnseenClock$CourseSet", "faces", "[I", true)
  | 6 => ("UnseenClock$CourseSet", "sight", "[I", true)
  | 7 => ("UnseenClock$CourseSet", "met", "[I", true)
  | 8 => ("UnseenClock$CourseSet", "mark", "[I", true)
  | _ => ("UnseenClock$CourseSet", "queue", "[I", true)
def tyX1 : Nat → FieldType := fun k => match k with
  | 0 => .int
  | 1 => .boolean
  | 2 => .int
  | 3 => .int
  | 4 => .array .int
  | 5 => .array .int
  | 6 => .array .int
  | 7 => .array .int
  | 8 => .array .int
  | _ => .array .int
abbrev wsX10 : List Cond := u_ws RX1 TX1 10
theorem nmX1 : ∀ a, a < 10 → ∀ b, b < 10 → a ≠ b → (TX1 a).2.1 ≠ (TX1 b).2.1 := by decide +kernel
theorem tyX1_ok : ∀ k, k < 10 → parseFieldDescriptor (TX1 k).2.2.1 = some (tyX1 k) := by decide +kernel
def RX2 : String := "UnseenClock$Person"
def TX2 : u_T := fun k => match k with
  | 0 => ("UnseenClock$Person", "x", "I", false)
  | 1 => ("UnseenClock$Person", "y", "I", false)
  | 2 => ("UnseenClock$Person", "from", "I", false)
  | 3 => ("UnseenClock$Person", "moves", "I", false)
  | 4 => ("UnseenClock$Person", "habits", "I", false)
  | 5 => ("UnseenClock$Person", "way", "[I", true)
  | 6 => ("UnseenClock$Person", "steps", "[I", true)
  | 7 => ("UnseenClock$Person", "target", "[I", true)
  | 8 => ("UnseenClock$Person", "habit", "[I", true)
  | 9 => ("UnseenClock$Person", "first", "[I", true)
  | 10 => ("UnseenClock$Person", "second", "[I", true)
  | _ => ("UnseenClock$Person", "place", "[I", true)
def tyX2 : Nat → FieldType := fun k => match k with
  | 0 => .int
  | 1 => .int
  | 2 => .int
  | 3 => .int
  | 4 => .int
  | 5 => .array .int
  | 6 => .array .int
  | 7 => .array .int
  | 8 => .array .int
  | 9 => .array .int
  | 10 => .array .int
  | _ => .array .int
abbrev wsX20 : List Cond := u_ws RX2 TX2 12
theorem nmX2 : ∀ a, a < 12 → ∀ b, b < 12 → a ≠ b → (TX2 a).2.1 ≠ (TX2 b).2.1 := by decide +kernel
theorem tyX2_ok : ∀ k, k < 12 → parseFieldDescriptor (TX2 k).2.2.1 = some (tyX2 k) := by decide +kernel
def RX3 : String := "UnseenClock$Plan"
def TX3 : u_T := fun k => match k with
  | 0 => ("UnseenClock$Plan", "wide", "I", false)
  | 1 => ("UnseenClock$Plan", "tall", "I", false)
  | 2 => ("UnseenClock$Plan", "minutes", "I", false)
  | 3 => ("UnseenClock$Plan", "lines", "I", false)
  | 4 => ("UnseenClock$Plan", "walls", "I", false)
  | 5 => ("UnseenClock$Plan", "clocks", "I", false)
  | 6 => ("UnseenClock$Plan", "people", "I", false)
  | 7 => ("UnseenClock$Plan", "away", "I", false)
  | 8 => ("UnseenClock$Plan", "cell", "[B", true)
  | 9 => ("UnseenClock$Plan", "clock", "[LUnseenClock$Clock;", true)
  | 10 => ("UnseenClock$Plan", "person", "[LUnseenClock$Person;", true)
  | _ => ("UnseenClock$Plan", "seen", "[I", true)
def tyX3 : Nat → FieldType := fun k => match k with
  | 0 => .int
  | 1 => .int
  | 2 => .int
  | 3 => .int
  | 4 => .int
  | 5 => .int
  | 6 => .int
  | 7 => .int
  | 8 => .array .byte
  | 9 => .array (.object "UnseenClock$Clock")
  | 10 => .array (.object "UnseenClock$Person")
  | _ => .array .int
abbrev wsX30 : List Cond := u_ws RX3 TX3 12
theorem nmX3 : ∀ a, a < 12 → ∀ b, b < 12 → a ≠ b → (TX3 a).2.1 ≠ (TX3 b).2.1 := by decide +kernel
theorem tyX3_ok : ∀ k, k < 12 → parseFieldDescriptor (TX3 k).2.2.1 = some (tyX3 k) := by decide +kernel
def RX4 : String := "UnseenClock$Play"
def TX4 : u_T := fun k => match k with
  | 0 => ("UnseenClock$Play", "looked", "[I", true)
  | 1 => ("UnseenClock$Play", "opened", "[I", true)
  | 2 => ("UnseenClock$Play", "faces", "[I", true)
  | 3 => ("UnseenClock$Play", "keeper", "[I", true)
  | 4 => ("UnseenClock$Play", "keptLast", "[I", true)
  | 5 => ("UnseenClock$Play", "opens", "I", false)
  | 6 => ("UnseenClock$Play", "parts", "[I", true)
  | 7 => ("UnseenClock$Play", "choice", "[I", true)
  | 8 => ("UnseenClock$Play", "chosen", "I", false)
  | 9 => ("UnseenClock$Play", "plan", "LUnseenClock$Plan;", false)
  | 10 => ("UnseenClock$Play", "hidden", "I", false)
  | 11 => ("UnseenClock$Play", "drawn", "Z", false)
  | 12 => ("UnseenClock$Play", "draw", "J", false)
  | 13 => ("UnseenClock$Play", "yes", "I", false)
  | _ => ("UnseenClock$Play", "left", "I", false)
def tyX4 : Nat → FieldType := fun k => match k with
  | 0 => .array .int
  | 1 => .array .int
  | 2 => .array .int
  | 3 => .array .int
  | 4 => .array .int
  | 5 => .int
  | 6 => .array .int
  | 7 => .array .int
  | 8 => .int
  | 9 => .object "UnseenClock$Plan"
  | 10 => .int
  | 11 => .boolean
  | 12 => .long
  | 13 => .int
  | _ => .int
abbrev wsX40 : List Cond := u_ws RX4 TX4 15
theorem nmX4 : ∀ a, a < 15 → ∀ b, b < 15 → a ≠ b → (TX4 a).2.1 ≠ (TX4 b).2.1 := by decide +kernel
theorem tyX4_ok : ∀ k, k < 15 → parseFieldDescriptor (TX4 k).2.2.1 = some (tyX4 k) := by decide +kernel
def RX5 : String := "UnseenClock$Reader"
def TX5 : u_T := fun k => match k with
  | 0 => ("UnseenClock$Reader", "fault", "I", false)
  | 1 => ("UnseenClock$Reader", "place", "I", false)
  | 2 => ("UnseenClock$Reader", "text", "[B", false)
  | 3 => ("UnseenClock$Reader", "length", "I", false)
  | 4 => ("UnseenClock$Reader", "kind", "I", false)
  | 5 => ("UnseenClock$Reader", "from", "I", false)
  | 6 => ("UnseenClock$Reader", "to", "I", false)
  | 7 => ("UnseenClock$Reader", "number", "I", false)
  | 8 => ("UnseenClock$Reader", "taken", "I", false)
  | 9 => ("UnseenClock$Reader", "cellX", "I", false)
  | 10 => ("UnseenClock$Reader", "cellY", "I", false)
  | _ => ("UnseenClock$Reader", "plan", "LUnseenClock$Plan;", false)
def tyX5 : Nat → FieldType := fun k => match k with
  | 0 => .int
  | 1 => .int
  | 2 => .array .byte
  | 3 => .int
  | 4 => .int
  | 5 => .int
  | 6 => .int
  | 7 => .int
  | 8 => .int
  | 9 => .int
  | 10 => .int
  | _ => .object "UnseenClock$Plan"
abbrev wsX50 : List Cond := u_ws RX5 TX5 12
theorem nmX5 : ∀ a, a < 12 → ∀ b, b < 12 → a ≠ b → (TX5 a).2.1 ≠ (TX5 b).2.1 := by decide +kernel
theorem tyX5_ok : ∀ k, k < 12 → parseFieldDescriptor (TX5 k).2.2.1 = some (tyX5 k) := by decide +kernel
def RX6 : String := "UnseenClock$Row"
def TX6 : u_T := fun k => match k with
  | 0 => ("UnseenClock$Row", "width", "I", false)
  | 1 => ("UnseenClock$Row", "length", "I", false)
  | _ => ("UnseenClock$Row", "number", "[J", true)
def tyX6 : Nat → FieldType := fun k => match k with
  | 0 => .int
  | 1 => .int
  | _ => .array .long
abbrev wsX60 : List Cond := u_ws RX6 TX6 3
theorem nmX6 : ∀ a, a < 3 → ∀ b, b < 3 → a ≠ b → (TX6 a).2.1 ≠ (TX6 b).2.1 := by decide +kernel
theorem tyX6_ok : ∀ k, k < 3 → parseFieldDescriptor (TX6 k).2.2.1 = some (tyX6 k) := by decide +kernel
def RX7 : String := "UnseenClock"
def TX7 : u_T := fun k => match k with
  | 0 => ("UnseenClock", "tape", "[B", true)
  | 1 => ("UnseenClock", "tapeLength", "I", false)
  | 2 => ("UnseenClock", "reader", "LUnseenClock$Reader;", true)
  | 3 => ("UnseenClock", "faultKind", "I", false)
  | 4 => ("UnseenClock", "faultPlace", "I", false)
  | 5 => ("UnseenClock", "plan", "LUnseenClock$Plan;", false)
  | 6 => ("UnseenClock", "draft", "LUnseenClock$Plan;", false)
  | 7 => ("UnseenClock", "images", "[LUnseenClock$Plan;", true)
  | 8 => ("UnseenClock", "plain", "LUnseenClock$Play;", true)
  | 9 => ("UnseenClock", "plainStands", "Z", false)
  | 10 => ("UnseenClock", "trial", "LUnseenClock$Play;", true)
  | 11 => ("UnseenClock", "branches", "LUnseenClock$CourseSet;", false)
  | 12 => ("UnseenClock", "branchesStand", "Z", false)
  | _ => ("UnseenClock", "rows", "[LUnseenClock$Row;", true)
def tyX7 : Nat → FieldType := fun k => match k with
  | 0 => .array .byte
  | 1 => .int
  | 2 => .object "UnseenClock$Reader"
  | 3 => .int
  | 4 => .int
  | 5 => .object "UnseenClock$Plan"
  | 6 => .object "UnseenClock$Plan"
  | 7 => .array (.object "UnseenClock$Plan")
  | 8 => .object "UnseenClock$Play"
  | 9 => .boolean
  | 10 => .object "UnseenClock$Play"
  | 11 => .object "UnseenClock$CourseSet"
  | 12 => .boolean
  | _ => .array (.object "UnseenClock$Row")
abbrev wsX70 : List Cond := u_ws RX7 TX7 14
theorem nmX7 : ∀ a, a < 14 → ∀ b, b < 14 → a ≠ b → (TX7 a).2.1 ≠ (TX7 b).2.1 := by decide +kernel
theorem tyX7_ok : ∀ k, k < 14 → parseFieldDescriptor (TX7 k).2.2.1 = some (tyX7 k) := by decide +kernel
def RX8 : String := "UnseenClockModel"
def TX8 : u_T := fun k => match k with
  | 0 => ("UnseenClockModel", "thrown", "I", false)
  | 1 => ("UnseenClockModel", "world", "[I", true)
  | 2 => ("UnseenClockModel", "images", "[I", true)
  | 3 => ("UnseenClockModel", "hasImage", "[Z", true)
  | 4 => ("UnseenClockModel", "tape", "[B", true)
  | 5 => ("UnseenClockModel", "taped", "I", false)
  | 6 => ("UnseenClockModel", "five", "[I", true)
  | 7 => ("UnseenClockModel", "size", "I", false)
  | 8 => ("UnseenClockModel", "at", "I", false)
  | 9 => ("UnseenClockModel", "from", "I", false)
  | 10 => ("UnseenClockModel", "token", "I", false)
  | 11 => ("UnseenClockModel", "value", "I", false)
  | 12 => ("UnseenClockModel", "faultKind", "I", false)
  | 13 => ("UnseenClockModel", "faultPlace", "I", false)
  | 14 => ("UnseenClockModel", "fresh", "[I", true)
  | 15 => ("UnseenClockModel", "spotX", "[I", true)
  | 16 => ("UnseenClockModel", "spotY", "[I", true)
  | 17 => ("UnseenClockModel", "seeing", "[Z", true)
  | 18 => ("UnseenClockModel", "parts", "[I", true)
  | 19 => ("UnseenClockModel", "looking", "[I", true)
  | 20 => ("UnseenClockModel", "opening", "[I", true)
  | 21 => ("UnseenClockModel", "opened", "[I", true)
  | 22 => ("UnseenClockModel", "openMany", "I", false)
  | 23 => ("UnseenClockModel", "taken", "[Z", true)
  | 24 => ("UnseenClockModel", "takenMany", "I", false)
  | 25 => ("UnseenClockModel", "keeping", "[I", true)
  | 26 => ("UnseenClockModel", "keptLast", "[I", true)
  | 27 => ("UnseenClockModel", "keptMany", "[I", true)
  | 28 => ("UnseenClockModel", "isDrawn", "Z", false)
  | 29 => ("UnseenClockModel", "drawn", "J", false)
  | 30 => ("UnseenClockModel", "value3", "[I", true)
  | 31 => ("UnseenClockModel", "maybes", "[Z", true)
  | 32 => ("UnseenClockModel", "showing", "[I", true)
  | 33 => ("UnseenClockModel", "sights", "[I", true)
  | 34 => ("UnseenClockModel", "coursesMany", "I", false)
  | 35 => ("UnseenClockModel", "isComing", "[Z", true)
  | 36 => ("UnseenClockModel", "queue", "[I", true)
  | 37 => ("UnseenClockModel", "many", "[I", true)
  | 38 => ("UnseenClockModel", "width", "[I", true)
  | 39 => ("UnseenClockModel", "numbers", "[J", true)
  | _ => ("UnseenClockModel", "moving", "[J", true)
def tyX8 : Nat → FieldType := fun k => match k with
  | 0 => .int
  | 1 => .array .int
  | 2 => .array .int
  | 3 => .array .boolean
  | 4 => .array .byte
  | 5 => .int
  | 6 => .array .int
  | 7 => .int
  | 8 => .int
  | 9 => .int
  | 10 => .int
  | 11 => .int
  | 12 => .int
  | 13 => .int
  | 14 => .array .int
  | 15 => .array .int
  | 16 => .array .int
  | 17 => .array .boolean
  | 18 => .array .int
  | 19 => .array .int
  | 20 => .array .int
  | 21 => .array .int
  | 22 => .int
  | 23 => .array .boolean
  | 24 => .int
  | 25 => .array .int
  | 26 => .array .int
  | 27 => .array .int
  | 28 => .boolean
  | 29 => .long
  | 30 => .array .int
  | 31 => .array .boolean
  | 32 => .array .int
  | 33 => .array .int
  | 34 => .int
  | 35 => .array .boolean
  | 36 => .array .int
  | 37 => .array .int
  | 38 => .array .int
  | 39 => .array .long
  | _ => .array .long
abbrev wsX80 : List Cond := u_ws RX8 TX8 41
theorem nmX8 : ∀ a, a < 41 → ∀ b, b < 41 → a ≠ b → (TX8 a).2.1 ≠ (TX8 b).2.1 := by decide +kernel
theorem tyX8_ok : ∀ k, k < 41 → parseFieldDescriptor (TX8 k).2.2.1 = some (tyX8 k) := by decide +kernel
def RL : String := "UnseenClockLaw"
def RJ7 : String := "java/util/Arrays"
abbrev cX0_init : ByteArray := prog_2_method_1_code
def yX0_init : MethodName := ⟨RX0, "<init>", "()V"⟩
abbrev cX0_copyFrom : ByteArray := prog_2_method_2_code
def yX0_copyFrom : MethodName := ⟨RX0, "copyFrom", "(LUnseenClock$Clock;)V"⟩
abbrev cX1_init : ByteArray := prog_3_method_1_code
def yX1_init : MethodName := ⟨RX1, "<init>", "()V"⟩
abbrev cX1_build : ByteArray := prog_3_method_2_code
def yX1_build : MethodName := ⟨RX1, "build", "(LUnseenClock$Plan;LUnseenClock$Play;)V"⟩
abbrev cX1_store : ByteArray := prog_3_method_3_code
def yX1_store : MethodName := ⟨RX1, "store", "(LUnseenClock$Play;I)V"⟩
abbrev cX1_sortSights : ByteArray := prog_3_method_4_code
def yX1_sortSights : MethodName := ⟨RX1, "sortSights", "()V"⟩
abbrev cX1_firstUnlike : ByteArray := prog_3_method_5_code
def yX1_firstUnlike : MethodName := ⟨RX1, "firstUnlike", "(III)I"⟩
abbrev cX1_unlikeFaces : ByteArray := prog_3_method_6_code
def yX1_unlikeFaces : MethodName := ⟨RX1, "unlikeFaces", "(III)I"⟩
abbrev cX1_hour : ByteArray := prog_3_method_7_code
def yX1_hour : MethodName := ⟨RX1, "hour", "(III)I"⟩
abbrev cX1_sameSight : ByteArray := prog_3_method_8_code
def yX1_sameSight : MethodName := ⟨RX1, "sameSight", "(III)Z"⟩
abbrev cX1_markSight : ByteArray := prog_3_method_9_code
def yX1_markSight : MethodName := ⟨RX1, "markSight", "(I)V"⟩
abbrev cX1_markReached : ByteArray := prog_3_method_10_code
def yX1_markReached : MethodName := ⟨RX1, "markReached", "(I)V"⟩
abbrev cX1_sharesSight : ByteArray := prog_3_method_11_code
def yX1_sharesSight : MethodName := ⟨RX1, "sharesSight", "(III)Z"⟩
abbrev cX1_forgetMet : ByteArray := prog_3_method_12_code
def yX1_forgetMet : MethodName := ⟨RX1, "forgetMet", "()V"⟩
abbrev cX1_noteMet : ByteArray := prog_3_method_13_code
def yX1_noteMet : MethodName := ⟨RX1, "noteMet", "(IIIJ)V"⟩
abbrev cX1_markMeeting : ByteArray := prog_3_method_14_code
def yX1_markMeeting : MethodName := ⟨RX1, "markMeeting", "(I)V"⟩
abbrev cX1_marked : ByteArray := prog_3_method_15_code
def yX1_marked : MethodName := ⟨RX1, "marked", "()I"⟩
abbrev cX1_markedShowing : ByteArray := prog_3_method_16_code
def yX1_markedShowing : MethodName := ⟨RX1, "markedShowing", "(III)I"⟩
abbrev cX1_onlyHour : ByteArray := prog_3_method_17_code
def yX1_onlyHour : MethodName := ⟨RX1, "onlyHour", "(II)I"⟩
abbrev cX1_hourBySight : ByteArray := prog_3_method_18_code
def yX1_hourBySight : MethodName := ⟨RX1, "hourBySight", "(III)I"⟩
abbrev cX1_firstShower : ByteArray := prog_3_method_19_code
def yX1_firstShower : MethodName := ⟨RX1, "firstShower", "(IIII)I"⟩
abbrev cX1_minutesToLearn : ByteArray := prog_3_method_20_code
def yX1_minutesToLearn : MethodName := ⟨RX1, "minutesToLearn", "(III)I"⟩
abbrev cX1_unlikeSights : ByteArray := prog_3_method_21_code
def yX1_unlikeSights : MethodName := ⟨RX1, "unlikeSights", "(I)I"⟩
abbrev cX2_init : ByteArray := prog_4_method_1_code
def yX2_init : MethodName := ⟨RX2, "<init>", "()V"⟩
abbrev cX2_copyFrom : ByteArray := prog_4_method_2_code
def yX2_copyFrom : MethodName := ⟨RX2, "copyFrom", "(LUnseenClock$Person;)V"⟩
abbrev cX3_init : ByteArray := prog_5_method_1_code
def yX3_init : MethodName := ⟨RX3, "<init>", "()V"⟩
abbrev cX3_clear : ByteArray := prog_5_method_2_code
def yX3_clear : MethodName := ⟨RX3, "clear", "()V"⟩
abbrev cX3_copyFrom : ByteArray := prog_5_method_3_code
def yX3_copyFrom : MethodName := ⟨RX3, "copyFrom", "(LUnseenClock$Plan;)V"⟩
abbrev cX3_isInside : ByteArray := prog_5_method_4_code
def yX3_isInside : MethodName := ⟨RX3, "isInside", "(II)Z"⟩
abbrev cX3_isFree : ByteArray := prog_5_method_5_code
def yX3_isFree : MethodName := ⟨RX3, "isFree", "(II)Z"⟩
abbrev cX3_fillCell : ByteArray := prog_5_method_6_code
def yX3_fillCell : MethodName := ⟨RX3, "fillCell", "(III)V"⟩
abbrev cX3_inView : ByteArray := prog_5_method_7_code
def yX3_inView : MethodName := ⟨RX3, "inView", "(IILUnseenClock$Clock;)Z"⟩
abbrev cX3_walkAll : ByteArray := prog_5_method_8_code
def yX3_walkAll : MethodName := ⟨RX3, "walkAll", "()V"⟩
abbrev cX3_walk : ByteArray := prog_5_method_9_code
def yX3_walk : MethodName := ⟨RX3, "walk", "(LUnseenClock$Person;)V"⟩
abbrev cX3_putAt : ByteArray := prog_5_method_10_code
def yX3_putAt : MethodName := ⟨RX3, "putAt", "(LUnseenClock$Person;III)V"⟩
abbrev cX3_clocksInView : ByteArray := prog_5_method_11_code
def yX3_clocksInView : MethodName := ⟨RX3, "clocksInView", "(I)I"⟩
abbrev cX4_init : ByteArray := prog_6_method_1_code
def yX4_init : MethodName := ⟨RX4, "<init>", "()V"⟩
abbrev cX4_prepare : ByteArray := prog_6_method_2_code
def yX4_prepare : MethodName := ⟨RX4, "prepare", "(LUnseenClock$Plan;I)V"⟩
abbrev cX4_drawFrom : ByteArray := prog_6_method_3_code
def yX4_drawFrom : MethodName := ⟨RX4, "drawFrom", "(I)V"⟩
abbrev cX4_runTo : ByteArray := prog_6_method_4_code
def yX4_runTo : MethodName := ⟨RX4, "runTo", "(I)V"⟩
abbrev cX4_readFaces : ByteArray := prog_6_method_5_code
def yX4_readFaces : MethodName := ⟨RX4, "readFaces", "(I)I"⟩
abbrev cX4_goOn : ByteArray := prog_6_method_6_code
def yX4_goOn : MethodName := ⟨RX4, "goOn", "(II)V"⟩
abbrev cX4_weighHabits : ByteArray := prog_6_method_7_code
def yX4_weighHabits : MethodName := ⟨RX4, "weighHabits", "(I)V"⟩
abbrev cX4_hangsOnOther : ByteArray := prog_6_method_8_code
def yX4_hangsOnOther : MethodName := ⟨RX4, "hangsOnOther", "(I)Z"⟩
abbrev cX4_holdsAlone : ByteArray := prog_6_method_9_code
def yX4_holdsAlone : MethodName := ⟨RX4, "holdsAlone", "(III)Z"⟩
abbrev cX4_nextDraw : ByteArray := prog_6_method_10_code
def yX4_nextDraw : MethodName := ⟨RX4, "nextDraw", "()I"⟩
abbrev cX4_settleLeft : ByteArray := prog_6_method_11_code
def yX4_settleLeft : MethodName := ⟨RX4, "settleLeft", "(I)V"⟩
abbrev cX4_settleOne : ByteArray := prog_6_method_12_code
def yX4_settleOne : MethodName := ⟨RX4, "settleOne", "(I)V"⟩
abbrev cX4_takeOpen : ByteArray := prog_6_method_13_code
def yX4_takeOpen : MethodName := ⟨RX4, "takeOpen", "(I)V"⟩
abbrev cX4_chooseNext : ByteArray := prog_6_method_14_code
def yX4_chooseNext : MethodName := ⟨RX4, "chooseNext", "()Z"⟩
abbrev cX4_hour : ByteArray := prog_6_method_15_code
def yX4_hour : MethodName := ⟨RX4, "hour", "(II)I"⟩
abbrev cX4_showing : ByteArray := prog_6_method_16_code
def yX4_showing : MethodName := ⟨RX4, "showing", "(II)I"⟩
abbrev cX4_firstBell : ByteArray := prog_6_method_17_code
def yX4_firstBell : MethodName := ⟨RX4, "firstBell", "(III)I"⟩
abbrev cX4_isSeen : ByteArray := prog_6_method_18_code
def yX4_isSeen : MethodName := ⟨RX4, "isSeen", "(II)Z"⟩
abbrev cX4_stoodStill : ByteArray := prog_6_method_19_code
def yX4_stoodStill : MethodName := ⟨RX4, "stoodStill", "(II)I"⟩
abbrev cX4_longestStill : ByteArray := prog_6_method_20_code
def yX4_longestStill : MethodName := ⟨RX4, "longestStill", "(I)I"⟩
abbrev cX4_firstUnseen : ByteArray := prog_6_method_21_code
def yX4_firstUnseen : MethodName := ⟨RX4, "firstUnseen", "(I)I"⟩
abbrev cX4_openLook : ByteArray := prog_6_method_22_code
def yX4_openLook : MethodName := ⟨RX4, "openLook", "(I)I"⟩
abbrev cX5_init : ByteArray := prog_7_method_1_code
def yX5_init : MethodName := ⟨RX5, "<init>", "()V"⟩
abbrev cX5_readSquare : ByteArray := prog_7_method_2_code
def yX5_readSquare : MethodName := ⟨RX5, "readSquare", "([BILUnseenClock$Plan;)V"⟩
abbrev cX5_refuse : ByteArray := prog_7_method_3_code
def yX5_refuse : MethodName := ⟨RX5, "refuse", "(I)Z"⟩
abbrev cX5_step : ByteArray := prog_7_method_4_code
def yX5_step : MethodName := ⟨RX5, "step", "()V"⟩
abbrev cX5_isWord : ByteArray := prog_7_method_5_code
def yX5_isWord : MethodName := ⟨RX5, "isWord", "(Ljava/lang/String;)Z"⟩
abbrev cX5_takeWord : ByteArray := prog_7_method_6_code
def yX5_takeWord : MethodName := ⟨RX5, "takeWord", "(Ljava/lang/String;)Z"⟩
abbrev cX5_takeSign : ByteArray := prog_7_method_7_code
def yX5_takeSign : MethodName := ⟨RX5, "takeSign", "()Z"⟩
abbrev cX5_takeNumber : ByteArray := prog_7_method_8_code
def yX5_takeNumber : MethodName := ⟨RX5, "takeNumber", "(II)Z"⟩
abbrev cX5_takeFreeCell : ByteArray := prog_7_method_9_code
def yX5_takeFreeCell : MethodName := ⟨RX5, "takeFreeCell", "()Z"⟩
abbrev cX5_readLine : ByteArray := prog_7_method_10_code
def yX5_readLine : MethodName := ⟨RX5, "readLine", "()Z"⟩
abbrev cX5_readSize : ByteArray := prog_7_method_11_code
def yX5_readSize : MethodName := ⟨RX5, "readSize", "()Z"⟩
abbrev cX5_readWall : ByteArray := prog_7_method_12_code
def yX5_readWall : MethodName := ⟨RX5, "readWall", "()Z"⟩
abbrev cX5_readClock : ByteArray := prog_7_method_13_code
def yX5_readClock : MethodName := ⟨RX5, "readClock", "()Z"⟩
abbrev cX5_readPerson : ByteArray := prog_7_method_14_code
def yX5_readPerson : MethodName := ⟨RX5, "readPerson", "()Z"⟩
abbrev cX5_lacksPerson : ByteArray := prog_7_method_15_code
def yX5_lacksPerson : MethodName := ⟨RX5, "lacksPerson", "()Z"⟩
abbrev cX5_readGo : ByteArray := prog_7_method_16_code
def yX5_readGo : MethodName := ⟨RX5, "readGo", "()Z"⟩
abbrev cX5_wayTold : ByteArray := prog_7_method_17_code
def yX5_wayTold : MethodName := ⟨RX5, "wayTold", "()I"⟩
abbrev cX5_readWait : ByteArray := prog_7_method_18_code
def yX5_readWait : MethodName := ⟨RX5, "readWait", "()Z"⟩
abbrev cX5_takeMove : ByteArray := prog_7_method_19_code
def yX5_takeMove : MethodName := ⟨RX5, "takeMove", "(LUnseenClock$Person;II)Z"⟩
abbrev cX5_readLook : ByteArray := prog_7_method_20_code
def yX5_readLook : MethodName := ⟨RX5, "readLook", "()Z"⟩
abbrev cX5_readHabit : ByteArray := prog_7_method_21_code
def yX5_readHabit : MethodName := ⟨RX5, "readHabit", "(LUnseenClock$Person;I)Z"⟩
abbrev cX5_habitTold : ByteArray := prog_7_method_22_code
def yX5_habitTold : MethodName := ⟨RX5, "habitTold", "()I"⟩
abbrev cX5_mostOf : ByteArray := prog_7_method_23_code
def yX5_mostOf : MethodName := ⟨RX5, "mostOf", "(I)I"⟩
abbrev cX6_init : ByteArray := prog_8_method_1_code
def yX6_init : MethodName := ⟨RX6, "<init>", "()V"⟩
abbrev cX6_begin : ByteArray := prog_8_method_2_code
def yX6_begin : MethodName := ⟨RX6, "begin", "(II)V"⟩
abbrev cX6_cut : ByteArray := prog_8_method_3_code
def yX6_cut : MethodName := ⟨RX6, "cut", "(J)J"⟩
abbrev cX6_lacks : ByteArray := prog_8_method_4_code
def yX6_lacks : MethodName := ⟨RX6, "lacks", "(II)Z"⟩
abbrev cX7_init : ByteArray := prog_1_method_1_code
def yX7_init : MethodName := ⟨RX7, "<init>", "()V"⟩
abbrev cX7_feed : ByteArray := prog_1_method_2_code
def yX7_feed : MethodName := ⟨RX7, "feed", "(IIIII)I"⟩
abbrev cX7_appendNumber : ByteArray := prog_1_method_3_code
def yX7_appendNumber : MethodName := ⟨RX7, "appendNumber", "(I)V"⟩
abbrev cX7_end : ByteArray := prog_1_method_4_code
def yX7_end : MethodName := ⟨RX7, "end", "(I)I"⟩
abbrev cX7_square : ByteArray := prog_1_method_5_code
def yX7_square : MethodName := ⟨RX7, "square", "()I"⟩
abbrev cX7_fault : ByteArray := prog_1_method_6_code
def yX7_fault : MethodName := ⟨RX7, "fault", "(I)I"⟩
abbrev cX7_forgetCourses : ByteArray := prog_1_method_7_code
def yX7_forgetCourses : MethodName := ⟨RX7, "forgetCourses", "()V"⟩
abbrev cX7_plainCourse : ByteArray := prog_1_method_8_code
def yX7_plainCourse : MethodName := ⟨RX7, "plainCourse", "()LUnseenClock$Play;"⟩
abbrev cX7_allCourses : ByteArray := prog_1_method_9_code
def yX7_allCourses : MethodName := ⟨RX7, "allCourses", "()LUnseenClock$CourseSet;"⟩
abbrev cX7_noSquare : ByteArray := prog_1_method_10_code
def yX7_noSquare : MethodName := ⟨RX7, "noSquare", "()Z"⟩
abbrev cX7_noPerson : ByteArray := prog_1_method_11_code
def yX7_noPerson : MethodName := ⟨RX7, "noPerson", "(I)Z"⟩
abbrev cX7_noClock : ByteArray := prog_1_method_12_code
def yX7_noClock : MethodName := ⟨RX7, "noClock", "(I)Z"⟩
abbrev cX7_noMinute : ByteArray := prog_1_method_13_code
def yX7_noMinute : MethodName := ⟨RX7, "noMinute", "(I)Z"⟩
abbrev cX7_noMoment : ByteArray := prog_1_method_14_code
def yX7_noMoment : MethodName := ⟨RX7, "noMoment", "(I)Z"⟩
abbrev cX7_noClockThen : ByteArray := prog_1_method_15_code
def yX7_noClockThen : MethodName := ⟨RX7, "noClockThen", "(II)Z"⟩
abbrev cX7_at : ByteArray := prog_1_method_16_code
def yX7_at : MethodName := ⟨RX7, "at", "(II)I"⟩
abbrev cX7_sees : ByteArray := prog_1_method_17_code
def yX7_sees : MethodName := ⟨RX7, "sees", "(III)I"⟩
abbrev cX7_looks : ByteArray := prog_1_method_18_code
def yX7_looks : MethodName := ⟨RX7, "looks", "(III)I"⟩
abbrev cX7_eyes : ByteArray := prog_1_method_19_code
def yX7_eyes : MethodName := ⟨RX7, "eyes", "(II)I"⟩
abbrev cX7_shows : ByteArray := prog_1_method_20_code
def yX7_shows : MethodName := ⟨RX7, "shows", "(II)I"⟩
abbrev cX7_value : ByteArray := prog_1_method_21_code
def yX7_value : MethodName := ⟨RX7, "value", "(III)I"⟩
abbrev cX7_still : ByteArray := prog_1_method_22_code
def yX7_still : MethodName := ⟨RX7, "still", "(II)I"⟩
abbrev cX7_open : ByteArray := prog_1_method_23_code
def yX7_open : MethodName := ⟨RX7, "open", "()I"⟩
abbrev cX7_opens : ByteArray := prog_1_method_24_code
def yX7_opens : MethodName := ⟨RX7, "opens", "(I)I"⟩
abbrev cX7_bell : ByteArray := prog_1_method_25_code
def yX7_bell : MethodName := ⟨RX7, "bell", "(II)I"⟩
abbrev cX7_noBell : ByteArray := prog_1_method_26_code
def yX7_noBell : MethodName := ⟨RX7, "noBell", "(II)Z"⟩
abbrev cX7_when : ByteArray := prog_1_method_27_code
def yX7_when : MethodName := ⟨RX7, "when", "(II)I"⟩
abbrev cX7_hours : ByteArray := prog_1_method_28_code
def yX7_hours : MethodName := ⟨RX7, "hours", "(I)I"⟩
abbrev cX7_meets : ByteArray := prog_1_method_29_code
def yX7_meets : MethodName := ⟨RX7, "meets", "(II)I"⟩
abbrev cX7_besides : ByteArray := prog_1_method_30_code
def yX7_besides : MethodName := ⟨RX7, "besides", "(II)Z"⟩
abbrev cX7_spots : ByteArray := prog_1_method_31_code
def yX7_spots : MethodName := ⟨RX7, "spots", "(I)I"⟩
abbrev cX7_courses : ByteArray := prog_1_method_32_code
def yX7_courses : MethodName := ⟨RX7, "courses", "()I"⟩
abbrev cX7_among : ByteArray := prog_1_method_33_code
def yX7_among : MethodName := ⟨RX7, "among", "(III)I"⟩
abbrev cX7_agree : ByteArray := prog_1_method_34_code
def yX7_agree : MethodName := ⟨RX7, "agree", "(I)I"⟩
abbrev cX7_sure : ByteArray := prog_1_method_35_code
def yX7_sure : MethodName := ⟨RX7, "sure", "(III)I"⟩
abbrev cX7_needs : ByteArray := prog_1_method_36_code
def yX7_needs : MethodName := ⟨RX7, "needs", "(III)I"⟩
abbrev cX7_sightingTrouble : ByteArray := prog_1_method_37_code
def yX7_sightingTrouble : MethodName := ⟨RX7, "sightingTrouble", "(ILUnseenClock$CourseSet;)I"⟩
abbrev cX7_allSightings : ByteArray := prog_1_method_38_code
def yX7_allSightings : MethodName := ⟨RX7, "allSightings", "(I)I"⟩
abbrev cX7_knows : ByteArray := prog_1_method_39_code
def yX7_knows : MethodName := ⟨RX7, "knows", "(III)I"⟩
abbrev cX7_both : ByteArray := prog_1_method_40_code
def yX7_both : MethodName := ⟨RX7, "both", "(IIII)I"⟩
abbrev cX7_common : ByteArray := prog_1_method_41_code
def yX7_common : MethodName := ⟨RX7, "common", "(III)I"⟩
abbrev cX7_alike : ByteArray := prog_1_method_42_code
def yX7_alike : MethodName := ⟨RX7, "alike", "(I)I"⟩
abbrev cX7_lie : ByteArray := prog_1_method_43_code
def yX7_lie : MethodName := ⟨RX7, "lie", "(IIII)I"⟩
abbrev cX7_shown : ByteArray := prog_1_method_44_code
def yX7_shown : MethodName := ⟨RX7, "shown", "(IIII)I"⟩
abbrev cX7_learns : ByteArray := prog_1_method_45_code
def yX7_learns : MethodName := ⟨RX7, "learns", "(III)I"⟩
abbrev cX7_sights : ByteArray := prog_1_method_46_code
def yX7_sights : MethodName := ⟨RX7, "sights", "(I)I"⟩
abbrev cX7_without : ByteArray := prog_1_method_47_code
def yX7_without : MethodName := ⟨RX7, "without", "(III)I"⟩
abbrev cX7_hush : ByteArray := prog_1_method_48_code
def yX7_hush : MethodName := ⟨RX7, "hush", "(IIII)I"⟩
abbrev cX7_fewestAway : ByteArray := prog_1_method_49_code
def yX7_fewestAway : MethodName := ⟨RX7, "fewestAway", "(IIII)I"⟩
abbrev cX7_call : ByteArray := prog_1_method_50_code
def yX7_call : MethodName := ⟨RX7, "call", "(IZ)I"⟩
abbrev cX7_away : ByteArray := prog_1_method_51_code
def yX7_away : MethodName := ⟨RX7, "away", "(IIII)I"⟩
abbrev cX7_kept : ByteArray := prog_1_method_52_code
def yX7_kept : MethodName := ⟨RX7, "kept", "(III)I"⟩
abbrev cX7_hourKept : ByteArray := prog_1_method_53_code
def yX7_hourKept : MethodName := ⟨RX7, "hourKept", "(III)I"⟩
abbrev cX7_keep : ByteArray := prog_1_method_54_code
def yX7_keep : MethodName := ⟨RX7, "keep", "(III)I"⟩
abbrev cX7_leastKeeping : ByteArray := prog_1_method_55_code
def yX7_leastKeeping : MethodName := ⟨RX7, "leastKeeping", "(III)I"⟩
abbrev cX7_shifts : ByteArray := prog_1_method_56_code
def yX7_shifts : MethodName := ⟨RX7, "shifts", "(IIII)I"⟩
abbrev cX7_last : ByteArray := prog_1_method_57_code
def yX7_last : MethodName := ⟨RX7, "last", "(III)I"⟩
abbrev cX7_all : ByteArray := prog_1_method_58_code
def yX7_all : MethodName := ⟨RX7, "all", "(III)I"⟩
abbrev cX7_pace : ByteArray := prog_1_method_59_code
def yX7_pace : MethodName := ⟨RX7, "pace", "(III)I"⟩
abbrev cX7_mends : ByteArray := prog_1_method_60_code
def yX7_mends : MethodName := ⟨RX7, "mends", "(II)I"⟩
abbrev cX7_day : ByteArray := prog_1_method_61_code
def yX7_day : MethodName := ⟨RX7, "day", "(III)I"⟩
abbrev cX7_days : ByteArray := prog_1_method_62_code
def yX7_days : MethodName := ⟨RX7, "days", "(IIIII)I"⟩
abbrev cX7_noSeed : ByteArray := prog_1_method_63_code
def yX7_noSeed : MethodName := ⟨RX7, "noSeed", "(I)Z"⟩
abbrev cX7_hourDrawn : ByteArray := prog_1_method_64_code
def yX7_hourDrawn : MethodName := ⟨RX7, "hourDrawn", "(III)I"⟩
abbrev cX7_count : ByteArray := prog_1_method_65_code
def yX7_count : MethodName := ⟨RX7, "count", "(I)I"⟩
abbrev cX7_filledSlots : ByteArray := prog_1_method_66_code
def yX7_filledSlots : MethodName := ⟨RX7, "filledSlots", "()I"⟩
abbrev cX7_image : ByteArray := prog_1_method_67_code
def yX7_image : MethodName := ⟨RX7, "image", "(I)I"⟩
abbrev cX7_back : ByteArray := prog_1_method_68_code
def yX7_back : MethodName := ⟨RX7, "back", "(I)I"⟩
abbrev cX7_row : ByteArray := prog_1_method_69_code
def yX7_row : MethodName := ⟨RX7, "row", "(III)I"⟩
abbrev cX7_write : ByteArray := prog_1_method_70_code
def yX7_write : MethodName := ⟨RX7, "write", "(IIJ)I"⟩
abbrev cX7_paste : ByteArray := prog_1_method_71_code
def yX7_paste : MethodName := ⟨RX7, "paste", "(IIIII)I"⟩
abbrev cX7_noSlot : ByteArray := prog_1_method_72_code
def yX7_noSlot : MethodName := ⟨RX7, "noSlot", "(I)Z"⟩
abbrev cX7_pair : ByteArray := prog_1_method_73_code
def yX7_pair : MethodName := ⟨RX7, "pair", "(II)I"⟩
abbrev cX7_pairsOf : ByteArray := prog_1_method_74_code
def yX7_pairsOf : MethodName := ⟨RX7, "pairsOf", "(I)I"⟩
abbrev cX7_lookersAt : ByteArray := prog_1_method_75_code
def yX7_lookersAt : MethodName := ⟨RX7, "lookersAt", "(I)I"⟩
abbrev cX8_init : ByteArray := prog_10_method_1_code
def yX8_init : MethodName := ⟨RX8, "<init>", "()V"⟩
abbrev cX8_in : ByteArray := prog_10_method_3_code
def yX8_in : MethodName := ⟨RX8, "in", "(JJJ)Z"⟩
abbrev cX8_image : ByteArray := prog_10_method_4_code
def yX8_image : MethodName := ⟨RX8, "image", "(I)I"⟩
abbrev cX8_back : ByteArray := prog_10_method_5_code
def yX8_back : MethodName := ⟨RX8, "back", "(I)I"⟩
abbrev cX8_isSquare : ByteArray := prog_10_method_6_code
def yX8_isSquare : MethodName := ⟨RX8, "isSquare", "()Z"⟩
abbrev cX8_isClock : ByteArray := prog_10_method_7_code
def yX8_isClock : MethodName := ⟨RX8, "isClock", "(I)Z"⟩
abbrev cX8_isPerson : ByteArray := prog_10_method_8_code
def yX8_isPerson : MethodName := ⟨RX8, "isPerson", "(I)Z"⟩
abbrev cX8_isMinute : ByteArray := prog_10_method_9_code
def yX8_isMinute : MethodName := ⟨RX8, "isMinute", "(I)Z"⟩
abbrev cX8_isTime : ByteArray := prog_10_method_10_code
def yX8_isTime : MethodName := ⟨RX8, "isTime", "(I)Z"⟩
abbrev cX8_isHour : ByteArray := prog_10_method_11_code
def yX8_isHour : MethodName := ⟨RX8, "isHour", "(I)Z"⟩
abbrev cX8_ofClock : ByteArray := prog_10_method_12_code
def yX8_ofClock : MethodName := ⟨RX8, "ofClock", "(II)I"⟩
abbrev cX8_of : ByteArray := prog_10_method_13_code
def yX8_of : MethodName := ⟨RX8, "of", "(II)I"⟩
abbrev cX8_feed : ByteArray := prog_10_method_14_code
def yX8_feed : MethodName := ⟨RX8, "feed", "(IIIII)I"⟩
abbrev cX8_end : ByteArray := prog_10_method_15_code
def yX8_end : MethodName := ⟨RX8, "end", "(I)I"⟩
abbrev cX8_see : ByteArray := prog_10_method_16_code
def yX8_see : MethodName := ⟨RX8, "see", "(I)I"⟩
abbrev cX8_advance : ByteArray := prog_10_method_17_code
def yX8_advance : MethodName := ⟨RX8, "advance", "()V"⟩
abbrev cX8_good : ByteArray := prog_10_method_18_code
def yX8_good : MethodName := ⟨RX8, "good", "()Z"⟩
abbrev cX8_errs : ByteArray := prog_10_method_19_code
def yX8_errs : MethodName := ⟨RX8, "errs", "(I)V"⟩
abbrev cX8_is : ByteArray := prog_10_method_20_code
def yX8_is : MethodName := ⟨RX8, "is", "(Ljava/lang/String;)Z"⟩
abbrev cX8_takes : ByteArray := prog_10_method_21_code
def yX8_takes : MethodName := ⟨RX8, "takes", "(Ljava/lang/String;)Z"⟩
abbrev cX8_needs : ByteArray := prog_10_method_22_code
def yX8_needs : MethodName := ⟨RX8, "needs", "(Ljava/lang/String;)V"⟩
abbrev cX8_number : ByteArray := prog_10_method_23_code
def yX8_number : MethodName := ⟨RX8, "number", "(II)I"⟩
abbrev cX8_told : ByteArray := prog_10_method_24_code
def yX8_told : MethodName := ⟨RX8, "told", "(Ljava/lang/String;II)I"⟩
abbrev cX8_fault : ByteArray := prog_10_method_25_code
def yX8_fault : MethodName := ⟨RX8, "fault", "(I)I"⟩
abbrev cX8_isTaken : ByteArray := prog_10_method_26_code
def yX8_isTaken : MethodName := ⟨RX8, "isTaken", "([IIII)Z"⟩
abbrev cX8_readCell : ByteArray := prog_10_method_27_code
def yX8_readCell : MethodName := ⟨RX8, "readCell", "(I)V"⟩
abbrev cX8_readClock : ByteArray := prog_10_method_28_code
def yX8_readClock : MethodName := ⟨RX8, "readClock", "()V"⟩
abbrev cX8_readPerson : ByteArray := prog_10_method_29_code
def yX8_readPerson : MethodName := ⟨RX8, "readPerson", "()V"⟩
abbrev cX8_latest : ByteArray := prog_10_method_30_code
def yX8_latest : MethodName := ⟨RX8, "latest", "()I"⟩
abbrev cX8_readMove : ByteArray := prog_10_method_31_code
def yX8_readMove : MethodName := ⟨RX8, "readMove", "(Z)V"⟩
abbrev cX8_freshClock : ByteArray := prog_10_method_32_code
def yX8_freshClock : MethodName := ⟨RX8, "freshClock", "()I"⟩
abbrev cX8_readLook : ByteArray := prog_10_method_33_code
def yX8_readLook : MethodName := ⟨RX8, "readLook", "()V"⟩
abbrev cX8_readNext : ByteArray := prog_10_method_34_code
def yX8_readNext : MethodName := ⟨RX8, "readNext", "()V"⟩
abbrev cX8_readLine : ByteArray := prog_10_method_35_code
def yX8_readLine : MethodName := ⟨RX8, "readLine", "()V"⟩
abbrev cX8_square : ByteArray := prog_10_method_36_code
def yX8_square : MethodName := ⟨RX8, "square", "()I"⟩
abbrev cX8_isFree : ByteArray := prog_10_method_37_code
def yX8_isFree : MethodName := ⟨RX8, "isFree", "(II)Z"⟩
abbrev cX8_setSpot : ByteArray := prog_10_method_38_code
def yX8_setSpot : MethodName := ⟨RX8, "setSpot", "(IIII)V"⟩
abbrev cX8_fillSpots : ByteArray := prog_10_method_39_code
def yX8_fillSpots : MethodName := ⟨RX8, "fillSpots", "(I)V"⟩
abbrev cX8_isThere : ByteArray := prog_10_method_40_code
def yX8_isThere : MethodName := ⟨RX8, "isThere", "(II)Z"⟩
abbrev cX8_sign : ByteArray := prog_10_method_41_code
def yX8_sign : MethodName := ⟨RX8, "sign", "(I)I"⟩
abbrev cX8_seesFrom : ByteArray := prog_10_method_42_code
def yX8_seesFrom : MethodName := ⟨RX8, "seesFrom", "(III)Z"⟩
abbrev cX8_fillSeeing : ByteArray := prog_10_method_43_code
def yX8_fillSeeing : MethodName := ⟨RX8, "fillSeeing", "(I)V"⟩
abbrev cX8_fillAllSpots : ByteArray := prog_10_method_44_code
def yX8_fillAllSpots : MethodName := ⟨RX8, "fillAllSpots", "()V"⟩
abbrev cX8_at : ByteArray := prog_10_method_45_code
def yX8_at : MethodName := ⟨RX8, "at", "(II)I"⟩
abbrev cX8_sees : ByteArray := prog_10_method_46_code
def yX8_sees : MethodName := ⟨RX8, "sees", "(III)I"⟩
abbrev cX8_draw : ByteArray := prog_10_method_47_code
def yX8_draw : MethodName := ⟨RX8, "draw", "()I"⟩
abbrev cX8_shownAt : ByteArray := prog_10_method_48_code
def yX8_shownAt : MethodName := ⟨RX8, "shownAt", "(II)I"⟩
abbrev cX8_lookOf : ByteArray := prog_10_method_49_code
def yX8_lookOf : MethodName := ⟨RX8, "lookOf", "(III)I"⟩
abbrev cX8_drawsMaybes : ByteArray := prog_10_method_50_code
def yX8_drawsMaybes : MethodName := ⟨RX8, "drawsMaybes", "()V"⟩
abbrev cX8_holds : ByteArray := prog_10_method_51_code
def yX8_holds : MethodName := ⟨RX8, "holds", "(III)I"⟩
abbrev cX8_settled : ByteArray := prog_10_method_52_code
def yX8_settled : MethodName := ⟨RX8, "settled", "(III)I"⟩
abbrev cX8_settles : ByteArray := prog_10_method_53_code
def yX8_settles : MethodName := ⟨RX8, "settles", "(I)V"⟩
abbrev cX8_firstUnknown : ByteArray := prog_10_method_54_code
def yX8_firstUnknown : MethodName := ⟨RX8, "firstUnknown", "()I"⟩
abbrev cX8_looksIn : ByteArray := prog_10_method_55_code
def yX8_looksIn : MethodName := ⟨RX8, "looksIn", "(I)V"⟩
abbrev cX8_isLooked : ByteArray := prog_10_method_56_code
def yX8_isLooked : MethodName := ⟨RX8, "isLooked", "(II)Z"⟩
abbrev cX8_goes : ByteArray := prog_10_method_57_code
def yX8_goes : MethodName := ⟨RX8, "goes", "(I)V"⟩
abbrev cX8_runs : ByteArray := prog_10_method_58_code
def yX8_runs : MethodName := ⟨RX8, "runs", "()V"⟩
abbrev cX8_keepsNone : ByteArray := prog_10_method_59_code
def yX8_keepsNone : MethodName := ⟨RX8, "keepsNone", "()V"⟩
abbrev cX8_plain : ByteArray := prog_10_method_60_code
def yX8_plain : MethodName := ⟨RX8, "plain", "()V"⟩
abbrev cX8_looks : ByteArray := prog_10_method_61_code
def yX8_looks : MethodName := ⟨RX8, "looks", "(III)I"⟩
abbrev cX8_eyes : ByteArray := prog_10_method_62_code
def yX8_eyes : MethodName := ⟨RX8, "eyes", "(II)I"⟩
abbrev cX8_shows : ByteArray := prog_10_method_63_code
def yX8_shows : MethodName := ⟨RX8, "shows", "(II)I"⟩
abbrev cX8_value : ByteArray := prog_10_method_64_code
def yX8_value : MethodName := ⟨RX8, "value", "(III)I"⟩
abbrev cX8_still : ByteArray := prog_10_method_65_code
def yX8_still : MethodName := ⟨RX8, "still", "(II)I"⟩
abbrev cX8_open : ByteArray := prog_10_method_66_code
def yX8_open : MethodName := ⟨RX8, "open", "()I"⟩
abbrev cX8_opens : ByteArray := prog_10_method_67_code
def yX8_opens : MethodName := ⟨RX8, "opens", "(I)I"⟩
abbrev cX8_manyShow : ByteArray := prog_10_method_68_code
def yX8_manyShow : MethodName := ⟨RX8, "manyShow", "(II)I"⟩
abbrev cX8_bell : ByteArray := prog_10_method_69_code
def yX8_bell : MethodName := ⟨RX8, "bell", "(II)I"⟩
abbrev cX8_keepsCourse : ByteArray := prog_10_method_70_code
def yX8_keepsCourse : MethodName := ⟨RX8, "keepsCourse", "()V"⟩
abbrev cX8_nextTaking : ByteArray := prog_10_method_71_code
def yX8_nextTaking : MethodName := ⟨RX8, "nextTaking", "()Z"⟩
abbrev cX8_fillCourses : ByteArray := prog_10_method_72_code
def yX8_fillCourses : MethodName := ⟨RX8, "fillCourses", "()Z"⟩
abbrev cX8_shownIn : ByteArray := prog_10_method_73_code
def yX8_shownIn : MethodName := ⟨RX8, "shownIn", "(III)I"⟩
abbrev cX8_courses : ByteArray := prog_10_method_74_code
def yX8_courses : MethodName := ⟨RX8, "courses", "()I"⟩
abbrev cX8_among : ByteArray := prog_10_method_75_code
def yX8_among : MethodName := ⟨RX8, "among", "(III)I"⟩
abbrev cX8_asksSightings : ByteArray := prog_10_method_76_code
def yX8_asksSightings : MethodName := ⟨RX8, "asksSightings", "(IZI)I"⟩
abbrev cX8_agrees : ByteArray := prog_10_method_77_code
def yX8_agrees : MethodName := ⟨RX8, "agrees", "(III)Z"⟩
abbrev cX8_sureBy : ByteArray := prog_10_method_78_code
def yX8_sureBy : MethodName := ⟨RX8, "sureBy", "(IIII)I"⟩
abbrev cX8_agree : ByteArray := prog_10_method_79_code
def yX8_agree : MethodName := ⟨RX8, "agree", "(I)I"⟩
abbrev cX8_sure : ByteArray := prog_10_method_80_code
def yX8_sure : MethodName := ⟨RX8, "sure", "(III)I"⟩
abbrev cX8_needs_ : ByteArray := prog_10_method_81_code
def yX8_needs_ : MethodName := ⟨RX8, "needs", "(III)I"⟩
abbrev cX8_bits : ByteArray := prog_10_method_82_code
def yX8_bits : MethodName := ⟨RX8, "bits", "(I)I"⟩
abbrev cX8_isAlike : ByteArray := prog_10_method_83_code
def yX8_isAlike : MethodName := ⟨RX8, "isAlike", "(III)Z"⟩
abbrev cX8_isAlikeTill : ByteArray := prog_10_method_84_code
def yX8_isAlikeTill : MethodName := ⟨RX8, "isAlikeTill", "(IIII)Z"⟩
abbrev cX8_commonOf : ByteArray := prog_10_method_85_code
def yX8_commonOf : MethodName := ⟨RX8, "commonOf", "(II)I"⟩
abbrev cX8_knows : ByteArray := prog_10_method_86_code
def yX8_knows : MethodName := ⟨RX8, "knows", "(III)I"⟩
abbrev cX8_comesBy : ByteArray := prog_10_method_87_code
def yX8_comesBy : MethodName := ⟨RX8, "comesBy", "(III)Z"⟩
abbrev cX8_spreads : ByteArray := prog_10_method_88_code
def yX8_spreads : MethodName := ⟨RX8, "spreads", "(I)V"⟩
abbrev cX8_common : ByteArray := prog_10_method_89_code
def yX8_common : MethodName := ⟨RX8, "common", "(III)I"⟩
abbrev cX8_alike : ByteArray := prog_10_method_90_code
def yX8_alike : MethodName := ⟨RX8, "alike", "(I)I"⟩
abbrev cX8_isAsked : ByteArray := prog_10_method_91_code
def yX8_isAsked : MethodName := ⟨RX8, "isAsked", "(IIII)Z"⟩
abbrev cX8_shownBy : ByteArray := prog_10_method_92_code
def yX8_shownBy : MethodName := ⟨RX8, "shownBy", "(IIII)I"⟩
abbrev cX8_lie : ByteArray := prog_10_method_93_code
def yX8_lie : MethodName := ⟨RX8, "lie", "(IIII)I"⟩
abbrev cX8_shown : ByteArray := prog_10_method_94_code
def yX8_shown : MethodName := ⟨RX8, "shown", "(IIII)I"⟩
abbrev cX8_areTwo : ByteArray := prog_10_method_95_code
def yX8_areTwo : MethodName := ⟨RX8, "areTwo", "(II)Z"⟩
abbrev cX8_both : ByteArray := prog_10_method_96_code
def yX8_both : MethodName := ⟨RX8, "both", "(IIII)I"⟩
abbrev cX8_learns : ByteArray := prog_10_method_97_code
def yX8_learns : MethodName := ⟨RX8, "learns", "(III)I"⟩
abbrev cX8_sights : ByteArray := prog_10_method_98_code
def yX8_sights : MethodName := ⟨RX8, "sights", "(I)I"⟩
abbrev cX8_meets : ByteArray := prog_10_method_99_code
def yX8_meets : MethodName := ⟨RX8, "meets", "(II)I"⟩
abbrev cX8_spots : ByteArray := prog_10_method_100_code
def yX8_spots : MethodName := ⟨RX8, "spots", "(I)I"⟩
abbrev cX8_when : ByteArray := prog_10_method_101_code
def yX8_when : MethodName := ⟨RX8, "when", "(II)I"⟩
abbrev cX8_hours : ByteArray := prog_10_method_102_code
def yX8_hours : MethodName := ⟨RX8, "hours", "(I)I"⟩
abbrev cX8_without : ByteArray := prog_10_method_103_code
def yX8_without : MethodName := ⟨RX8, "without", "(III)I"⟩
abbrev cX8_isBell : ByteArray := prog_10_method_104_code
def yX8_isBell : MethodName := ⟨RX8, "isBell", "(III)Z"⟩
abbrev cX8_hush : ByteArray := prog_10_method_105_code
def yX8_hush : MethodName := ⟨RX8, "hush", "(IIII)I"⟩
abbrev cX8_call : ByteArray := prog_10_method_106_code
def yX8_call : MethodName := ⟨RX8, "call", "(IZ)I"⟩
abbrev cX8_awayOf : ByteArray := prog_10_method_107_code
def yX8_awayOf : MethodName := ⟨RX8, "awayOf", "(III)I"⟩
abbrev cX8_away : ByteArray := prog_10_method_108_code
def yX8_away : MethodName := ⟨RX8, "away", "(IIII)I"⟩
abbrev cX8_keptAt : ByteArray := prog_10_method_109_code
def yX8_keptAt : MethodName := ⟨RX8, "keptAt", "(III)I"⟩
abbrev cX8_kept : ByteArray := prog_10_method_110_code
def yX8_kept : MethodName := ⟨RX8, "kept", "(III)I"⟩
abbrev cX8_leastKept : ByteArray := prog_10_method_111_code
def yX8_leastKept : MethodName := ⟨RX8, "leastKept", "(III)I"⟩
abbrev cX8_keep : ByteArray := prog_10_method_112_code
def yX8_keep : MethodName := ⟨RX8, "keep", "(III)I"⟩
abbrev cX8_shifts : ByteArray := prog_10_method_113_code
def yX8_shifts : MethodName := ⟨RX8, "shifts", "(IIII)I"⟩
abbrev cX8_last : ByteArray := prog_10_method_114_code
def yX8_last : MethodName := ⟨RX8, "last", "(III)I"⟩
abbrev cX8_all : ByteArray := prog_10_method_115_code
def yX8_all : MethodName := ⟨RX8, "all", "(III)I"⟩
abbrev cX8_pace : ByteArray := prog_10_method_116_code
def yX8_pace : MethodName := ⟨RX8, "pace", "(III)I"⟩
abbrev cX8_mends : ByteArray := prog_10_method_117_code
def yX8_mends : MethodName := ⟨RX8, "mends", "(II)I"⟩
abbrev cX8_dayOf : ByteArray := prog_10_method_118_code
def yX8_dayOf : MethodName := ⟨RX8, "dayOf", "(JII)I"⟩
abbrev cX8_day : ByteArray := prog_10_method_119_code
def yX8_day : MethodName := ⟨RX8, "day", "(III)I"⟩
abbrev cX8_days : ByteArray := prog_10_method_120_code
def yX8_days : MethodName := ⟨RX8, "days", "(IIIII)I"⟩
abbrev cX8_count : ByteArray := prog_10_method_121_code
def yX8_count : MethodName := ⟨RX8, "count", "(I)I"⟩
abbrev cX8_isSlot : ByteArray := prog_10_method_122_code
def yX8_isSlot : MethodName := ⟨RX8, "isSlot", "(I)Z"⟩
abbrev cX8_cut : ByteArray := prog_10_method_123_code
def yX8_cut : MethodName := ⟨RX8, "cut", "(JI)J"⟩
abbrev cX8_row : ByteArray := prog_10_method_124_code
def yX8_row : MethodName := ⟨RX8, "row", "(III)I"⟩
abbrev cX8_write : ByteArray := prog_10_method_125_code
def yX8_write : MethodName := ⟨RX8, "write", "(IIJ)I"⟩
abbrev cX8_paste : ByteArray := prog_10_method_126_code
def yX8_paste : MethodName := ⟨RX8, "paste", "(IIIII)I"⟩
abbrev cJ7_fill_d0a16 : ByteArray := prog_18_method_101_code
def yJ7_fill_d0a16 : MethodName := ⟨RJ7, "fill", "([JJ)V"⟩
abbrev cJ7_fill_53178 : ByteArray := prog_18_method_103_code
def yJ7_fill_53178 : MethodName := ⟨RJ7, "fill", "([II)V"⟩
abbrev cJ7_fill_031fb : ByteArray := prog_18_method_109_code
def yJ7_fill_031fb : MethodName := ⟨RJ7, "fill", "([BB)V"⟩
abbrev cL_law : ByteArray := code
abbrev vwCl : List vw_C := [(RX0, TX0, 6), (RX1, TX1, 10), (RX2, TX2, 12), (RX3, TX3, 12), (RX4, TX4, 15), (RX5, TX5, 12), (RX6, TX6, 3), (RX7, TX7, 14), (RX8, TX8, 41)]
end
section
/-- the classes of the rows: int, byte, long, boolean, Clock, Person, Plan, Row -/
def tyE (E : Nat → ClassId) : List (ClassId × FieldType) := [(E 0, .int), (E 1, .byte), (E 2, .long), (E 3, .boolean), (E 4, .object RX0), (E 5, .object RX2), (E 6, .object RX3), (E 7, .object RX6)]
/-- words that the tables have, but that are no good words: links across the nest, arrays of own classes -/
def nw (U : State) : Prop := va_Nw (.methodLinkNest RX7 15 yX5_init RX7) U ∧ va_Nw (.methodLinkNest RX3 31 yX0_init RX7) U ∧ va_Nw (.methodLinkNest RX3 32 yX2_init RX7) U ∧ va_Nw (.methodLinkNest RX7 40 yX4_init RX7) U ∧ va_Nw (.methodLinkNest RX7 54 yX6_init RX7) U ∧ va_Nw (.methodLinkNest RX4 37 yX7_pairsOf RX7) U ∧ va_Nw (.methodLinkNest RX7 110 yX1_init RX7) U ∧ va_AO RX0 U ∧ va_AO RX2 U ∧ va_AO RX3 U ∧ va_AO RX6 U
theorem nw_same {u U : State} (h : u.vm = U.vm) (z : nw u) : nw U := by
  obtain ⟨z1, z2, z3, z4, z5, z6, z7, z8, z9, z10, z11⟩ := z
  have ha : u.vm.Alike U.vm := by rw [h]; exact Vm.Alike.refl _
  exact ⟨va_Nw.same rfl h z1, va_Nw.same rfl h z2, va_Nw.same rfl h z3, va_Nw.same rfl h z4, va_Nw.same rfl h z5, va_Nw.same rfl h z6, va_Nw.same rfl h z7, z8.moved ha, z9.moved ha, z10.moved ha, z11.moved ha⟩
theorem nw_warm {s U : State} (hW : s.WarmedH U.vm) (z : nw s) : nw U := by
  obtain ⟨z1, z2, z3, z4, z5, z6, z7, z8, z9, z10, z11⟩ := z
  exact ⟨z1.warmM hW, z2.warmM hW, z3.warmM hW, z4.warmM hW, z5.warmM hW, z6.warmM hW, z7.warmM hW, z8.moved hW.alike, z9.moved hW.alike, z10.moved hW.alike, z11.moved hW.alike⟩
/-- a contract's start: the heap has sz cells, it holds ws, they are apart -/
def pre (D : va_G) (E : Nat → ClassId) (ws : va_W) (sz : Nat) (U : State) : Prop := U.heap.size = sz ∧ va_P D vwCl ws U.heap ∧ va_K D vwCl (tyE E) U ∧ va_D (fun _ => True) ws ∧ nw U
theorem pre_blind {av : List Value} {D : va_G} {E : Nat → ClassId} {ws : va_W} {sz : Nat} : FrameBlind (va_Pc av (pre D E ws sz)) := fun a U g mk q => by
  obtain ⟨q0, q1, qP, qK, qD, qN⟩ := q
  exact ⟨q0, q1, qP, va_K.moved (u := U) (U := U.calling g mk a) (Vm.Alike.refl U.vm) qK, qD, nw_same (u := U) (U := U.calling g mk a) rfl qN⟩
theorem pre_at {av : List Value} {D : va_G} {E : Nat → ClassId} {wc : va_W} {H : Heap} {s : State} {A : Nat → Prop} (hP : va_P D vwCl wc H) (hK : va_K D vwCl (tyE E) s) (hD : va_D A wc) (hN : nw s) : ∀ U : State, U.heap = H → s.WarmedH U.vm → va_Pc av (pre D E wc H.size) av.toArray U := fun U hU hW => ⟨rfl, by rw [hU], by rw [hU]; exact hP, va_K.moved hW.alike hK, hD.weaken (fun _ _ _ _ => trivial), nw_warm hW hN⟩
/-- a contract's end: post of answer and u, and the heap holds w1 u -/
def qI {S : Type} (post : Int32 → S → Prop) (w1 : S → va_W) (D : va_G) (A : Nat → Prop) : Array Value → State → Outcome → State → Prop := va_Qi post (fun u t => va_P D vwCl (w1 u) t.heap ∧ va_D A (w1 u)) A
def qV {S : Type} (post : S → Prop) (w1 : S → va_W) (D : va_G) (A : Nat → Prop) : Array Value → State → Outcome → State → Prop := va_Qv post (fun u t => va_P D vwCl (w1 u) t.heap ∧ va_D A (w1 u)) A
def qR {S : Type} (post : S → Prop) (w1 : S → Nat → va_W) (D : va_G) (A : Nat → Prop) : Array Value → State → Outcome → State → Prop := va_Qr post (fun u a t => va_P D vwCl (w1 u a) t.heap ∧ va_D A (w1 u a)) A
theorem p_nil {D : va_G} {H : Heap} : va_P D vwCl [] H := fun k q h => by simp at h
theorem d_nil {A : Nat → Prop} : va_D A [] := ⟨fun i j p q h => by simp at h, fun k q h => by simp at h⟩
theorem k_same {D : va_G} {cl : List vw_C} {tys : List (ClassId × FieldType)} {s : State} {cA c1 : ClassId} {ty : FieldType} (i : Nat) (hK : va_K D cl (tys ++ [(cA, ty)]) s) (h : tys[i]? = some (c1, ty)) : cA = c1 := by
  have h1 := (hK.2 tys.length (cA, ty) (by simp)).2
  have h2 := (hK.2 i (c1, ty) (by rw [List.getElem?_append_left ((List.getElem?_eq_some_iff.mp h).1)]; exact h)).2
  have f : ∀ c : ClassId, va_RA s c ty → s.vm.findClass ("[" ++ ty.toString) = some c := by
    intro c hc
    cases ty with
    | object C => obtain ⟨_, _, _, _, _, h⟩ := hc; exact h
    | _ => exact hc
  exact Option.some.inj ((f _ h1).symm.trans (f _ h2))
theorem g_rows {big : List Cond} (ws : List Cond) (ps : List Nat) (hp : ws = ps.filterMap (fun i => big[i]?)) (h : ws.all goodWord = true) : GoodIn big ws := by
  intro w hw
  have h1 := List.all_eq_true.mp h w hw
  rw [hp] at hw
  obtain ⟨i, -, hi⟩ := List.mem_filterMap.mp hw
  exact ⟨List.mem_of_getElem? hi, good_of_word h1⟩
section KW
variable {p : Program} {l : Launch} {e : Env} {R : Room} {s : State} {m : MethodId} {args : Array Value} {below : List Frame} {meth : Method} {c : Code} {H : Heap} {locs : List Loc} {cells slots : Nat} {Q : State → Prop}
variable {cc : ByteArray} {pc : Nat} {ls : Array Slot} {rest st0 : List Value} {D : va_G} {cl : List vw_C} {A : Nat → Prop} {a : Nat} {av : Array Value} {tys : List (ClassId × FieldType)} {ws wc wr : va_W} {H0 : Heap} {mc ms : Nat}
theorem lv_toc {x y : Int32} (h : x = y) (k : W p l e R s m args below meth c H locs cells slots Q (F0 m pc ls (.int y :: rest))) : W p l e R s m args below meth c H locs cells slots Q (F0 m pc ls (.int x :: rest)) := by rw [h]; exact k
theorem lv_tol {x y : Int64} (h : x = y) (k : W p l e R s m args below meth c H locs cells slots Q (F0 m pc ls (.long y :: rest))) : W p l e R s m args below meth c H locs cells slots Q (F0 m pc ls (.long x :: rest)) := by rw [h]; exact k
theorem lv_tov {x y : Value} (h : x = y) (k : W p l e R s m args below meth c H locs cells slots Q (F0 m pc ls (y :: rest))) : W p l e R s m args below meth c H locs cells slots Q (F0 m pc ls (x :: rest)) := by rw [h]; exact k
theorem k_newa (hexec : p.tables.exec = Jvm.exec) (hb : c.code = cc) {atype : ArrayType} (harr : (Cond.arrayClass (newarray.typeOf atype)).before args s = true) {ty : FieldType} (hty : newarray.typeOf atype = ty) (hK : va_K D cl tys s) (hP : va_P D cl ws H) (hD : va_D A ws) (hS : va_S A H0 H locs) (hA : ∀ q, H0.size ≤ q → A q)
    {n : Int32} {N' : Nat} {a0 : vp_A} (ha : ∀ cA : ClassId, vp_cell cA a0 = arrV cA N' (fun _ => defaultValue ty)) (hn : ¬ n < 0) (hN : n.toNatClampNeg = N') (hbytes : N' * componentBytes ty ≤ 536870912) (hcells : cells + 1 ≤ R.cells) (hslots : slots + N' ≤ R.slots) (hdg : decode cc pc = .ok (.newarray atype, 2)) (i : Nat) {c1 : ClassId} (hi : tys[i]? = some (c1, ty))
    (kk : ∀ (q : Nat) (H1 : Heap), va_P D cl (ws ++ [(q, .inl (c1, a0))]) H1 → va_D A (ws ++ [(q, .inl (c1, a0))]) → va_S A H0 H1 locs →
      W p l e R s m args below meth c H1 locs (cells + 1) (slots + N') Q (F0 m (pc + 2) ls (.ref q :: rest))) : W p l e R s m args below meth c H locs cells slots Q (F0 m pc ls (.int n :: rest)) :=
  va_newa hexec hb harr hty hK hP hD hS hA ha hn hN hbytes hcells hslots hdg (fun q cA H1 hK' hP' hD' hS' => by
    obtain rfl := k_same i hK' hi
    exact kk q H1 hP' hD' hS')
theorem k_newq (hexec : p.tables.exec = Jvm.exec) (hb : c.code = cc) {own C : String} {index : Nat} (hown : s.vm.findClass own = some m.cls) (hclink : (Cond.classLink own index C).before args s = true) (hover : va_AO C s) (hK : va_K D cl tys s) (hP : va_P D cl ws H) (hD : va_D A ws) (hS : va_S A H0 H locs) (hA : ∀ q, H0.size ≤ q → A q)
    {n : Int32} {N' : Nat} (hn : ¬ n < 0) (hN : n.toNatClampNeg = N') (hbytes : N' * 4 ≤ 536870912) (hcells : cells + 1 ≤ R.cells) (hslots : slots + N' ≤ R.slots) (hdg : decode cc pc = .ok (.anewarray index, 3)) (i : Nat) {c1 : ClassId} (hi : tys[i]? = some (c1, .object C))
    (kk : ∀ (q : Nat) (H1 : Heap), va_P D cl (ws ++ [(q, .inl (c1, N', .inr (.inr (.inr (.inr (fun _ => none))))))]) H1 → va_D A (ws ++ [(q, .inl (c1, N', .inr (.inr (.inr (.inr (fun _ => none))))))]) → va_S A H0 H1 locs →
      W p l e R s m args below meth c H1 locs (cells + 1) (slots + N') Q (F0 m (pc + 3) ls (.ref q :: rest))) : W p l e R s m args below meth c H locs cells slots Q (F0 m pc ls (.int n :: rest)) :=
  va_newq hexec hb hown hclink hover hK hP hD hS hA hn hN hbytes hcells hslots hdg (fun q cA H1 hK' hP' hD' hS' => by
    obtain rfl := k_same i hK' hi
    exact kk q H1 hP' hD' hS')
/-- a call: the callee's cells are cut out, and joined to the rest behind it -/
theorem k_v {S : Type} {post : S → Prop} {w1 : S → va_W} (hr : va_Run p l e R s m args below meth c H locs cells slots mc ms (F0 m pc ls st0) rest (qV post w1 D (va_A wc H.size) av) (va_A wc H.size))
    (hP : va_P D vwCl ws H) (hD : va_D A ws) (hS : va_S A H0 H locs) (hA : ∀ q, H0.size ≤ q → A q) (isC isR : List Nat) (hC : isC.map (fun i => ws[i]?) = wc.map some) (hR : isR.map (fun i => ws[i]?) = wr.map some) (hn : va_nd isR = true) (hdis : ∀ i ∈ isR, i ∉ isC)
    (kk : ∀ (u : S) (H1 : Heap) (locs1 : List Loc), post u → va_P D vwCl (wr ++ w1 u) H1 → va_D A (wr ++ w1 u) → va_S A H0 H1 locs1 → W p l e R s m args below meth c H1 locs1 (cells + mc) (slots + ms) Q (F0 m (pc + 3) ls rest)) : W p l e R s m args below meth c H locs cells slots Q (F0 m pc ls st0) := by
  have hF := va_free (wc := wc) hD hS hA isC hC
  refine va_callv hr hS (fun q _ h => hF q h) hF (fun u t H1 locs1 ht hvm hw hB hz1 hk1 hS1 => ?_)
  obtain ⟨hP1, hD1⟩ := hB
  rw [ht] at hP1
  obtain ⟨hP2, hD2⟩ := va_join (wr := wr) (w1 := w1 u) hP hD isC isR hC hR hn hdis hk1 hF hP1 hD1
  exact kk u H1 locs1 hw hP2 hD2 hS1
theorem k_i {S : Type} {post : Int32 → S → Prop} {w1 : S → va_W} (hr : va_Run p l e R s m args below meth c H locs cells slots mc ms (F0 m pc ls st0) rest (qI post w1 D (va_A wc H.size) av) (va_A wc H.size))
    (hP : va_P D vwCl ws H) (hD : va_D A ws) (hS : va_S A H0 H locs) (hA : ∀ q, H0.size ≤ q → A q) (isC isR : List Nat) (hC : isC.map (fun i => ws[i]?) = wc.map some) (hR : isR.map (fun i => ws[i]?) = wr.map some) (hn : va_nd isR = true) (hdis : ∀ i ∈ isR, i ∉ isC)
    (kk : ∀ (r : Int32) (u : S) (H1 : Heap) (locs1 : List Loc), post r u → va_P D vwCl (wr ++ w1 u) H1 → va_D A (wr ++ w1 u) → va_S A H0 H1 locs1 → W p l e R s m args below meth c H1 locs1 (cells + mc) (slots + ms) Q (F0 m (pc + 3) ls (.int r :: rest))) : W p l e R s m args below meth c H locs cells slots Q (F0 m pc ls st0) := by
  have hF := va_free (wc := wc) hD hS hA isC hC
  refine va_calli hr hS (fun q _ h => hF q h) hF (fun r u t H1 locs1 ht hvm hw hB hz1 hk1 hS1 => ?_)
  obtain ⟨hP1, hD1⟩ := hB
  rw [ht] at hP1
  obtain ⟨hP2, hD2⟩ := va_join (wr := wr) (w1 := w1 u) hP hD isC isR hC hR hn hdis hk1 hF hP1 hD1
  exact kk r u H1 locs1 hw hP2 hD2 hS1
theorem k_r {S : Type} {post : S → Prop} {w1 : S → Nat → va_W} (hr : va_Run p l e R s m args below meth c H locs cells slots mc ms (F0 m pc ls st0) rest (qR post w1 D (va_A wc H.size) av) (va_A wc H.size))
    (hP : va_P D vwCl ws H) (hD : va_D A ws) (hS : va_S A H0 H locs) (hA : ∀ q, H0.size ≤ q → A q) (isC isR : List Nat) (hC : isC.map (fun i => ws[i]?) = wc.map some) (hR : isR.map (fun i => ws[i]?) = wr.map some) (hn : va_nd isR = true) (hdis : ∀ i ∈ isR, i ∉ isC)
    (kk : ∀ (u : S) (ra : Nat) (H1 : Heap) (locs1 : List Loc), post u → va_P D vwCl (wr ++ w1 u ra) H1 → va_D A (wr ++ w1 u ra) → va_S A H0 H1 locs1 → W p l e R s m args below meth c H1 locs1 (cells + mc) (slots + ms) Q (F0 m (pc + 3) ls (.ref ra :: rest))) : W p l e R s m args below meth c H locs cells slots Q (F0 m pc ls st0) := by
  have hF := va_free (wc := wc) hD hS hA isC hC
  refine va_callr hr hS (fun q _ h => hF q h) hF (fun u ra t H1 locs1 ht hvm hw hB hz1 hk1 hS1 => ?_)
  obtain ⟨hP1, hD1⟩ := hB
  rw [ht] at hP1
  obtain ⟨hP2, hD2⟩ := va_join (wr := wr) (w1 := w1 u ra) hP hD isC isR hC hR hn hdis hk1 hF hP1 hD1
  exact kk u ra H1 locs1 hw hP2 hD2 hS1
/-- a method's ends -/
theorem e_i {S : Type} {post : Int32 → S → Prop} {w1 : S → va_W} {v : Int32} {ty : FieldType} (hx : p.tables.exec = Jvm.exec) (hb : c.code = cc) (hr : meth.sig.returnType = some ty) (hn : narrow ty (.int v) = .int v) (u : S) (hp : post v u) (hP : va_P D vwCl (w1 u) H) (hD : va_D A (w1 u)) (hS : va_S A s.heap H locs) (hlocks : meth.locks = false) (hdg : decode cc pc = .ok (.ireturn, 1)) : W p l e R s m args below meth c H locs cells slots (MQ below (qI post w1 D A) args s cells slots A) (F0 m pc ls [.int v]) :=
  W.zret hx hb hr hn (fun t ht hW => ⟨⟨v, u, rfl, hp, by rw [ht]; exact hP, hD⟩, hS.F ht⟩) hS.2.2 hdg hlocks
theorem e_v {S : Type} {post : S → Prop} {w1 : S → va_W} (hx : p.tables.exec = Jvm.exec) (hb : c.code = cc) (hr : meth.sig.returnType = none) (u : S) (hp : post u) (hP : va_P D vwCl (w1 u) H) (hD : va_D A (w1 u)) (hS : va_S A s.heap H locs) (hlocks : meth.locks = false) (hdg : decode cc pc = .ok (.return_, 1)) : W p l e R s m args below meth c H locs cells slots (MQ below (qV post w1 D A) args s cells slots A) (F0 m pc ls []) :=
  W.vret hx hb hr (fun t ht hW => ⟨⟨u, rfl, hp, by rw [ht]; exact hP, hD⟩, hS.F ht⟩) hS.2.2 hdg hlocks
theorem e_r {S : Type} {post : S → Prop} {w1 : S → Nat → va_W} {n : String} (hx : p.tables.exec = Jvm.exec) (hb : c.code = cc) (hr : meth.sig.returnType = some (.object n)) (u : S) (hp : post u) (hP : va_P D vwCl (w1 u a) H) (hD : va_D A (w1 u a)) (hS : va_S A s.heap H locs) (hlocks : meth.locks = false) (hdg : decode cc pc = .ok (.areturn, 1)) : W p l e R s m args below meth c H locs cells slots (MQ below (qR post w1 D A) args s cells slots A) (F0 m pc ls [.ref a]) :=
  W.aret hx hb hr (Or.inl ⟨n, rfl⟩) (Or.inr ⟨a, rfl⟩) (fun t ht hW => ⟨⟨u, a, rfl, hp, by rw [ht]; exact hP, hD⟩, hS.F ht⟩) hS.2.2 hdg hlocks
/-- an end of a method that only reads -/
theorem e_s {post : Int32 → Prop} {v : Int32} {ty : FieldType} (hx : p.tables.exec = Jvm.exec) (hb : c.code = cc) (hr : meth.sig.returnType = some ty) (hn : narrow ty (.int v) = .int v) (hp : post v) (hlocks : meth.locks = false) (hdg : decode cc pc = .ok (.ireturn, 1)) : W p l e R s m args below meth c s.heap [] cells slots (MQ below (vp_Si post) args s cells slots (fun _ => False)) (F0 m pc ls [.int v]) :=
  W.zret hx hb hr hn (fun t ht hW => ⟨v, rfl, hp, ht⟩) (fun q h => by cases h) hdg hlocks
end KW
/-- what a body has at its entry -/
def ent (p : Program) (s : State) (m : MethodId) (args : Array Value) (meth : Method) (c : Code) (y : MethodName) (v : List Cond) (cc : ByteArray) (maxL : Nat) (ret : Option FieldType) : Prop :=
  p.tables.exec = Jvm.exec ∧ c.code = cc ∧ meth.sig.returnType = ret ∧ (∀ w ∈ v, w.before args s = true) ∧ s.vm.findClass y.cls = some m.cls ∧ meth.locks = false ∧ meth.name = y.name ∧ c.maxLocals = maxL
theorem c_int {l : Launch} {S : Type} {post : Int32 → S → Prop} {w1 : S → va_W} {y : MethodName} {v v' : List Cond} {rm : Room} {cc : ByteArray} {maxL : Nat} {ret : Option FieldType} {av : List Value} {D : va_G} {E : Nat → ClassId} {ws : va_W} {sz mc ms : Nat} (hy : plainName y.cls = true) (hw : v = .code y cc maxL ret :: v') (hlen : (lg_sl av).length ≤ maxL)
    (body : ∀ (p : Program) (e : Env) (s : State) (m : MethodId) (below : List Frame) (meth : Method) (c : Code) (ls : Array Slot) (A : Nat → Prop), ent p s m av.toArray meth c y v cc maxL ret → va_P D vwCl ws s.heap → va_K D vwCl (tyE E) s → va_D A ws → nw s → (∀ q : Nat, s.heap.size ≤ q → A q) → va_S A s.heap s.heap [] → lv_has ls maxL (lv_args 0 av) → W p l e (headSpec v rm).room s m av.toArray below meth c s.heap [] 0 0 (MQ below (qI post w1 D A) av.toArray s mc ms A) (F0 m 0 ls [])) :
    Met l y v rm (va_Pc av (pre D E ws sz)) (qI post w1 D (va_A ws sz)) mc ms (va_A ws sz) := by
  refine Met.ofW (cc := cc) (maxL := maxL) (ret := ret) hy hw ?_
  intro p e s m args below meth c s₁ B hml hv
  obtain ⟨rfl, hsz, hP, hK, hD0, hN⟩ := hv
  subst hsz
  have hD := hD0.self (sz := s.heap.size)
  have hl := lv_entry av (n := maxL) hlen
  rw [lg_entry_eq]
  generalize (lg_sl av ++ List.replicate (maxL - (lg_sl av).length) Slot.unset).toArray = ls at hl ⊢
  exact body p e s m below meth c ls _ ⟨B.exec, B.bytes, B.returns, atoms_spec (ws := v) B.pre, findClass_of_methodNamed B.named, B.notSynchronized, (name_of_methodNamed B.named B.method).1, hml⟩ hP hK hD hN (fun q h => Or.inr h) va_S.rf hl
theorem c_void {l : Launch} {S : Type} {post : S → Prop} {w1 : S → va_W} {y : MethodName} {v v' : List Cond} {rm : Room} {cc : ByteArray} {maxL : Nat} {ret : Option FieldType} {av : List Value} {D : va_G} {E : Nat → ClassId} {ws : va_W} {sz mc ms : Nat} (hy : plainName y.cls = true) (hw : v = .code y cc maxL ret :: v') (hlen : (lg_sl av).length ≤ maxL)
    (body : ∀ (p : Program) (e : Env) (s : State) (m : MethodId) (below : List Frame) (meth : Method) (c : Code) (ls : Array Slot) (A : Nat → Prop), ent p s m av.toArray meth c y v cc maxL ret → va_P D vwCl ws s.heap → va_K D vwCl (tyE E) s → va_D A ws → nw s → (∀ q : Nat, s.heap.size ≤ q → A q) → va_S A s.heap s.heap [] → lv_has ls maxL (lv_args 0 av) → W p l e (headSpec v rm).room s m av.toArray below meth c s.heap [] 0 0 (MQ below (qV post w1 D A) av.toArray s mc ms A) (F0 m 0 ls [])) :
    Met l y v rm (va_Pc av (pre D E ws sz)) (qV post w1 D (va_A ws sz)) mc ms (va_A ws sz) := by
  refine Met.ofW (cc := cc) (maxL := maxL) (ret := ret) hy hw ?_
  intro p e s m args below meth c s₁ B hml hv
  obtain ⟨rfl, hsz, hP, hK, hD0, hN⟩ := hv
  subst hsz
  have hD := hD0.self (sz := s.heap.size)
  have hl := lv_entry av (n := maxL) hlen
  rw [lg_entry_eq]
  generalize (lg_sl av ++ List.replicate (maxL - (lg_sl av).length) Slot.unset).toArray = ls at hl ⊢
  exact body p e s m below meth c ls _ ⟨B.exec, B.bytes, B.returns, atoms_spec (ws := v) B.pre, findClass_of_methodNamed B.named, B.notSynchronized, (name_of_methodNamed B.named B.method).1, hml⟩ hP hK hD hN (fun q h => Or.inr h) va_S.rf hl
theorem c_ref {l : Launch} {S : Type} {post : S → Prop} {w1 : S → Nat → va_W} {y : MethodName} {v v' : List Cond} {rm : Room} {cc : ByteArray} {maxL : Nat} {ret : Option FieldType} {av : List Value} {D : va_G} {E : Nat → ClassId} {ws : va_W} {sz mc ms : Nat} (hy : plainName y.cls = true) (hw : v = .code y cc maxL ret :: v') (hlen : (lg_sl av).length ≤ maxL)
    (body : ∀ (p : Program) (e : Env) (s : State) (m : MethodId) (below : List Frame) (meth : Method) (c : Code) (ls : Array Slot) (A : Nat → Prop), ent p s m av.toArray meth c y v cc maxL ret → va_P D vwCl ws s.heap → va_K D vwCl (tyE E) s → va_D A ws → nw s → (∀ q : Nat, s.heap.size ≤ q → A q) → va_S A s.heap s.heap [] → lv_has ls maxL (lv_args 0 av) → W p l e (headSpec v rm).room s m av.toArray below meth c s.heap [] 0 0 (MQ below (qR post w1 D A) av.toArray s mc ms A) (F0 m 0 ls [])) :
    Met l y v rm (va_Pc av (pre D E ws sz)) (qR post w1 D (va_A ws sz)) mc ms (va_A ws sz) := by
  refine Met.ofW (cc := cc) (maxL := maxL) (ret := ret) hy hw ?_
  intro p e s m args below meth c s₁ B hml hv
  obtain ⟨rfl, hsz, hP, hK, hD0, hN⟩ := hv
  subst hsz
  have hD := hD0.self (sz := s.heap.size)
  have hl := lv_entry av (n := maxL) hlen
  rw [lg_entry_eq]
  generalize (lg_sl av ++ List.replicate (maxL - (lg_sl av).length) Slot.unset).toArray = ls at hl ⊢
  exact body p e s m below meth c ls _ ⟨B.exec, B.bytes, B.returns, atoms_spec (ws := v) B.pre, findClass_of_methodNamed B.named, B.notSynchronized, (name_of_methodNamed B.named B.method).1, hml⟩ hP hK hD hN (fun q h => Or.inr h) va_S.rf hl
/-- a contract of a method that only reads: its answer, the heap as it was -/
theorem c_read {l : Launch} {post : Int32 → Prop} {y : MethodName} {v v' : List Cond} {rm : Room} {cc : ByteArray} {maxL : Nat} {ret : Option FieldType} {av : List Value} {D : va_G} {E : Nat → ClassId} {ws : va_W} {sz : Nat} (hy : plainName y.cls = true) (hw : v = .code y cc maxL ret :: v') (hlen : (lg_sl av).length ≤ maxL)
    (body : ∀ (p : Program) (e : Env) (s : State) (m : MethodId) (below : List Frame) (meth : Method) (c : Code) (ls : Array Slot), ent p s m av.toArray meth c y v cc maxL ret → va_P D vwCl ws s.heap → va_K D vwCl (tyE E) s → va_D (fun _ => True) ws → nw s → lv_has ls maxL (lv_args 0 av) → W p l e (headSpec v rm).room s m av.toArray below meth c s.heap [] 0 0 (MQ below (vp_Si post) av.toArray s 0 0 (fun _ => False)) (F0 m 0 ls [])) :
    Met l y v rm (va_Pc av (pre D E ws sz)) (vp_Si post) 0 0 (fun _ => False) := by
  refine Met.ofW (cc := cc) (maxL := maxL) (ret := ret) hy hw ?_
  intro p e s m args below meth c s₁ B hml hv
  obtain ⟨rfl, hsz, hP, hK, hD0, hN⟩ := hv
  have hl := lv_entry av (n := maxL) hlen
  rw [lg_entry_eq]
  generalize (lg_sl av ++ List.replicate (maxL - (lg_sl av).length) Slot.unset).toArray = ls at hl ⊢
  exact body p e s m below meth c ls ⟨B.exec, B.bytes, B.returns, atoms_spec (ws := v) B.pre, findClass_of_methodNamed B.named, B.notSynchronized, (name_of_methodNamed B.named B.method).1, hml⟩ hP hK hD0 hN hl
end
