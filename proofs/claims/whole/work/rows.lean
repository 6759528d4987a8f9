section
-- ===== PART A: goes FIRST, ahead of the names: the tables' words, and 'selects' of the private methods out of them =====
/-- a private method of a class that the tables say can be made, by its rows of tables_1 -/
def lw_okq (q : MethodName × Nat) : Prop := (q.1.cls ≠ "java/lang/invoke/MethodHandle" ∧ q.1.cls ≠ "java/lang/invoke/VarHandle") ∧ Cond.instantiable q.1.cls q.2 ∈ tables_1 ∧ Cond.privateMethod q.1 ∈ tables_1 ∧ Cond.instanceMethod q.1 ∈ tables_1
theorem lw_p0 : lw_okq (⟨"DetourLoom$Ways", "clear", "()V"⟩, 1) := ⟨⟨by decide +kernel, by decide +kernel⟩, List.mem_of_getElem? (i := 126) (by decide +kernel), List.mem_of_getElem? (i := 236) (by decide +kernel), List.mem_of_getElem? (i := 237) (by decide +kernel)⟩
theorem lw_p1 : lw_okq (⟨"DetourLoom$Ways", "goOver", "(II)V"⟩, 1) := ⟨⟨by decide +kernel, by decide +kernel⟩, List.mem_of_getElem? (i := 126) (by decide +kernel), List.mem_of_getElem? (i := 245) (by decide +kernel), List.mem_of_getElem? (i := 246) (by decide +kernel)⟩
theorem lw_p2 : lw_okq (⟨"DetourLoom", "foresee", "(II)V"⟩, 3) := ⟨⟨by decide +kernel, by decide +kernel⟩, List.mem_of_getElem? (i := 16) (by decide +kernel), List.mem_of_getElem? (i := 257) (by decide +kernel), List.mem_of_getElem? (i := 258) (by decide +kernel)⟩
theorem lw_p3 : lw_okq (⟨"DetourLoom$Weave", "goOnMending", "()V"⟩, 6) := ⟨⟨by decide +kernel, by decide +kernel⟩, List.mem_of_getElem? (i := 24) (by decide +kernel), List.mem_of_getElem? (i := 290) (by decide +kernel), List.mem_of_getElem? (i := 291) (by decide +kernel)⟩
theorem lw_p4 : lw_okq (⟨"DetourLoom$Weave", "setOut", "(I)V"⟩, 6) := ⟨⟨by decide +kernel, by decide +kernel⟩, List.mem_of_getElem? (i := 24) (by decide +kernel), List.mem_of_getElem? (i := 300) (by decide +kernel), List.mem_of_getElem? (i := 301) (by decide +kernel)⟩
theorem lw_p5 : lw_okq (⟨"DetourLoom$Weave", "closeWornRoads", "()V"⟩, 6) := ⟨⟨by decide +kernel, by decide +kernel⟩, List.mem_of_getElem? (i := 24) (by decide +kernel), List.mem_of_getElem? (i := 325) (by decide +kernel), List.mem_of_getElem? (i := 326) (by decide +kernel)⟩
theorem lw_p6 : lw_okq (⟨"DetourLoom", "digestOfRoads", "(J)J"⟩, 3) := ⟨⟨by decide +kernel, by decide +kernel⟩, List.mem_of_getElem? (i := 16) (by decide +kernel), List.mem_of_getElem? (i := 366) (by decide +kernel), List.mem_of_getElem? (i := 367) (by decide +kernel)⟩
theorem lw_p7 : lw_okq (⟨"DetourLoom", "digestOfTourists", "(J)J"⟩, 3) := ⟨⟨by decide +kernel, by decide +kernel⟩, List.mem_of_getElem? (i := 16) (by decide +kernel), List.mem_of_getElem? (i := 371) (by decide +kernel), List.mem_of_getElem? (i := 372) (by decide +kernel)⟩
theorem lw_p8 : lw_okq (⟨"DetourLoom", "foreseenHoursUntilIn", "(I)I"⟩, 3) := ⟨⟨by decide +kernel, by decide +kernel⟩, List.mem_of_getElem? (i := 16) (by decide +kernel), List.mem_of_getElem? (i := 377) (by decide +kernel), List.mem_of_getElem? (i := 378) (by decide +kernel)⟩
theorem lw_p9 : lw_okq (⟨"java/lang/Throwable", "fillInStackTrace", "(I)Ljava/lang/Throwable;"⟩, 6) := ⟨⟨by decide +kernel, by decide +kernel⟩, List.mem_of_getElem? (i := 427) (by decide +kernel), List.mem_of_getElem? (i := 425) (by decide +kernel), List.mem_of_getElem? (i := 426) (by decide +kernel)⟩
theorem lw_p10 : lw_okq (⟨"DetourLoom", "requireCrossing", "(I)V"⟩, 3) := ⟨⟨by decide +kernel, by decide +kernel⟩, List.mem_of_getElem? (i := 16) (by decide +kernel), List.mem_of_getElem? (i := 470) (by decide +kernel), List.mem_of_getElem? (i := 471) (by decide +kernel)⟩
theorem lw_p11 : lw_okq (⟨"DetourLoom", "requireRoad", "(I)V"⟩, 3) := ⟨⟨by decide +kernel, by decide +kernel⟩, List.mem_of_getElem? (i := 16) (by decide +kernel), List.mem_of_getElem? (i := 546) (by decide +kernel), List.mem_of_getElem? (i := 547) (by decide +kernel)⟩
theorem lw_p12 : lw_okq (⟨"DetourLoom", "requirePassing", "(I)V"⟩, 3) := ⟨⟨by decide +kernel, by decide +kernel⟩, List.mem_of_getElem? (i := 16) (by decide +kernel), List.mem_of_getElem? (i := 572) (by decide +kernel), List.mem_of_getElem? (i := 573) (by decide +kernel)⟩
theorem lw_p13 : lw_okq (⟨"DetourLoom", "requireTourist", "(I)V"⟩, 3) := ⟨⟨by decide +kernel, by decide +kernel⟩, List.mem_of_getElem? (i := 16) (by decide +kernel), List.mem_of_getElem? (i := 638) (by decide +kernel), List.mem_of_getElem? (i := 639) (by decide +kernel)⟩
theorem lw_p14 : lw_okq (⟨"DetourLoomModel", "fail", "(I)I"⟩, 14) := ⟨⟨by decide +kernel, by decide +kernel⟩, List.mem_of_getElem? (i := 685) (by decide +kernel), List.mem_of_getElem? (i := 742) (by decide +kernel), List.mem_of_getElem? (i := 743) (by decide +kernel)⟩
theorem lw_p15 : lw_okq (⟨"DetourLoomModel", "isCrossing", "(I)Z"⟩, 14) := ⟨⟨by decide +kernel, by decide +kernel⟩, List.mem_of_getElem? (i := 685) (by decide +kernel), List.mem_of_getElem? (i := 750) (by decide +kernel), List.mem_of_getElem? (i := 751) (by decide +kernel)⟩
def lw_privs_1 : List (MethodName × Nat) := [(⟨"DetourLoom$Ways", "clear", "()V"⟩, 1), (⟨"DetourLoom$Ways", "goOver", "(II)V"⟩, 1), (⟨"DetourLoom", "foresee", "(II)V"⟩, 3), (⟨"DetourLoom$Weave", "goOnMending", "()V"⟩, 6), (⟨"DetourLoom$Weave", "setOut", "(I)V"⟩, 6), (⟨"DetourLoom$Weave", "closeWornRoads", "()V"⟩, 6), (⟨"DetourLoom", "digestOfRoads", "(J)J"⟩, 3), (⟨"DetourLoom", "digestOfTourists", "(J)J"⟩, 3), (⟨"DetourLoom", "foreseenHoursUntilIn", "(I)I"⟩, 3), (⟨"java/lang/Throwable", "fillInStackTrace", "(I)Ljava/lang/Throwable;"⟩, 6), (⟨"DetourLoom", "requireCrossing", "(I)V"⟩, 3), (⟨"DetourLoom", "requireRoad", "(I)V"⟩, 3), (⟨"DetourLoom", "requirePassing", "(I)V"⟩, 3), (⟨"DetourLoom", "requireTourist", "(I)V"⟩, 3), (⟨"DetourLoomModel", "fail", "(I)I"⟩, 14), (⟨"DetourLoomModel", "isCrossing", "(I)Z"⟩, 14)]
theorem lw_r1 : ∀ q ∈ lw_privs_1, lw_okq q := List.forall_mem_cons.mpr ⟨lw_p0, List.forall_mem_cons.mpr ⟨lw_p1, List.forall_mem_cons.mpr ⟨lw_p2, List.forall_mem_cons.mpr ⟨lw_p3, List.forall_mem_cons.mpr ⟨lw_p4, List.forall_mem_cons.mpr ⟨lw_p5, List.forall_mem_cons.mpr ⟨lw_p6, List.forall_mem_cons.mpr ⟨lw_p7, List.forall_mem_cons.mpr ⟨lw_p8, List.forall_mem_cons.mpr ⟨lw_p9, List.forall_mem_cons.mpr ⟨lw_p10, List.forall_mem_cons.mpr ⟨lw_p11, List.forall_mem_cons.mpr ⟨lw_p12, List.forall_mem_cons.mpr ⟨lw_p13, List.forall_mem_cons.mpr ⟨lw_p14, List.forall_mem_cons.mpr ⟨lw_p15, fun _ h => absurd h List.not_mem_nil⟩⟩⟩⟩⟩⟩⟩⟩⟩⟩⟩⟩⟩⟩⟩⟩
theorem lw_p16 : lw_okq (⟨"DetourLoomModel", "apart", "(IIZ)I"⟩, 14) := ⟨⟨by decide +kernel, by decide +kernel⟩, List.mem_of_getElem? (i := 685) (by decide +kernel), List.mem_of_getElem? (i := 761) (by decide +kernel), List.mem_of_getElem? (i := 762) (by decide +kernel)⟩
theorem lw_p17 : lw_okq (⟨"DetourLoomModel", "measure", "(IZ)V"⟩, 14) := ⟨⟨by decide +kernel, by decide +kernel⟩, List.mem_of_getElem? (i := 685) (by decide +kernel), List.mem_of_getElem? (i := 765) (by decide +kernel), List.mem_of_getElem? (i := 766) (by decide +kernel)⟩
theorem lw_p18 : lw_okq (⟨"DetourLoomModel", "isOpen", "(I)Z"⟩, 14) := ⟨⟨by decide +kernel, by decide +kernel⟩, List.mem_of_getElem? (i := 685) (by decide +kernel), List.mem_of_getElem? (i := 769) (by decide +kernel), List.mem_of_getElem? (i := 770) (by decide +kernel)⟩
theorem lw_p19 : lw_okq (⟨"DetourLoomModel", "ro", "(II)I"⟩, 14) := ⟨⟨by decide +kernel, by decide +kernel⟩, List.mem_of_getElem? (i := 685) (by decide +kernel), List.mem_of_getElem? (i := 773) (by decide +kernel), List.mem_of_getElem? (i := 774) (by decide +kernel)⟩
theorem lw_p20 : lw_okq (⟨"DetourLoomModel", "longNow", "(I)I"⟩, 14) := ⟨⟨by decide +kernel, by decide +kernel⟩, List.mem_of_getElem? (i := 685) (by decide +kernel), List.mem_of_getElem? (i := 777) (by decide +kernel), List.mem_of_getElem? (i := 778) (by decide +kernel)⟩
theorem lw_p21 : lw_okq (⟨"DetourLoomModel", "let", "(III)V"⟩, 14) := ⟨⟨by decide +kernel, by decide +kernel⟩, List.mem_of_getElem? (i := 685) (by decide +kernel), List.mem_of_getElem? (i := 784) (by decide +kernel), List.mem_of_getElem? (i := 785) (by decide +kernel)⟩
theorem lw_p22 : lw_okq (⟨"DetourLoomModel", "isRoad", "(I)Z"⟩, 14) := ⟨⟨by decide +kernel, by decide +kernel⟩, List.mem_of_getElem? (i := 685) (by decide +kernel), List.mem_of_getElem? (i := 792) (by decide +kernel), List.mem_of_getElem? (i := 793) (by decide +kernel)⟩
theorem lw_p23 : lw_okq (⟨"DetourLoomModel", "lay", "(III)V"⟩, 14) := ⟨⟨by decide +kernel, by decide +kernel⟩, List.mem_of_getElem? (i := 685) (by decide +kernel), List.mem_of_getElem? (i := 796) (by decide +kernel), List.mem_of_getElem? (i := 797) (by decide +kernel)⟩
theorem lw_p24 : lw_okq (⟨"DetourLoomModel", "on", "(I)I"⟩, 14) := ⟨⟨by decide +kernel, by decide +kernel⟩, List.mem_of_getElem? (i := 685) (by decide +kernel), List.mem_of_getElem? (i := 804) (by decide +kernel), List.mem_of_getElem? (i := 805) (by decide +kernel)⟩
theorem lw_p25 : lw_okq (⟨"DetourLoomModel", "to", "(II)I"⟩, 14) := ⟨⟨by decide +kernel, by decide +kernel⟩, List.mem_of_getElem? (i := 685) (by decide +kernel), List.mem_of_getElem? (i := 808) (by decide +kernel), List.mem_of_getElem? (i := 809) (by decide +kernel)⟩
theorem lw_p26 : lw_okq (⟨"DetourLoomModel", "came", "()I"⟩, 14) := ⟨⟨by decide +kernel, by decide +kernel⟩, List.mem_of_getElem? (i := 685) (by decide +kernel), List.mem_of_getElem? (i := 816) (by decide +kernel), List.mem_of_getElem? (i := 817) (by decide +kernel)⟩
theorem lw_p27 : lw_okq (⟨"DetourLoomModel", "hoursOn", "(I)V"⟩, 14) := ⟨⟨by decide +kernel, by decide +kernel⟩, List.mem_of_getElem? (i := 685) (by decide +kernel), List.mem_of_getElem? (i := 820) (by decide +kernel), List.mem_of_getElem? (i := 821) (by decide +kernel)⟩
theorem lw_p28 : lw_okq (⟨"DetourLoomModel", "hourOn", "()V"⟩, 14) := ⟨⟨by decide +kernel, by decide +kernel⟩, List.mem_of_getElem? (i := 685) (by decide +kernel), List.mem_of_getElem? (i := 824) (by decide +kernel), List.mem_of_getElem? (i := 825) (by decide +kernel)⟩
theorem lw_p29 : lw_okq (⟨"DetourLoomModel", "mendOn", "(I)V"⟩, 14) := ⟨⟨by decide +kernel, by decide +kernel⟩, List.mem_of_getElem? (i := 685) (by decide +kernel), List.mem_of_getElem? (i := 828) (by decide +kernel), List.mem_of_getElem? (i := 829) (by decide +kernel)⟩
theorem lw_p30 : lw_okq (⟨"DetourLoomModel", "goOn", "(I)V"⟩, 14) := ⟨⟨by decide +kernel, by decide +kernel⟩, List.mem_of_getElem? (i := 685) (by decide +kernel), List.mem_of_getElem? (i := 832) (by decide +kernel), List.mem_of_getElem? (i := 833) (by decide +kernel)⟩
theorem lw_p31 : lw_okq (⟨"DetourLoomModel", "takes", "(II)I"⟩, 14) := ⟨⟨by decide +kernel, by decide +kernel⟩, List.mem_of_getElem? (i := 685) (by decide +kernel), List.mem_of_getElem? (i := 836) (by decide +kernel), List.mem_of_getElem? (i := 837) (by decide +kernel)⟩
def lw_privs_2 : List (MethodName × Nat) := [(⟨"DetourLoomModel", "apart", "(IIZ)I"⟩, 14), (⟨"DetourLoomModel", "measure", "(IZ)V"⟩, 14), (⟨"DetourLoomModel", "isOpen", "(I)Z"⟩, 14), (⟨"DetourLoomModel", "ro", "(II)I"⟩, 14), (⟨"DetourLoomModel", "longNow", "(I)I"⟩, 14), (⟨"DetourLoomModel", "let", "(III)V"⟩, 14), (⟨"DetourLoomModel", "isRoad", "(I)Z"⟩, 14), (⟨"DetourLoomModel", "lay", "(III)V"⟩, 14), (⟨"DetourLoomModel", "on", "(I)I"⟩, 14), (⟨"DetourLoomModel", "to", "(II)I"⟩, 14), (⟨"DetourLoomModel", "came", "()I"⟩, 14), (⟨"DetourLoomModel", "hoursOn", "(I)V"⟩, 14), (⟨"DetourLoomModel", "hourOn", "()V"⟩, 14), (⟨"DetourLoomModel", "mendOn", "(I)V"⟩, 14), (⟨"DetourLoomModel", "goOn", "(I)V"⟩, 14), (⟨"DetourLoomModel", "takes", "(II)I"⟩, 14)]
theorem lw_r2 : ∀ q ∈ lw_privs_2, lw_okq q := List.forall_mem_cons.mpr ⟨lw_p16, List.forall_mem_cons.mpr ⟨lw_p17, List.forall_mem_cons.mpr ⟨lw_p18, List.forall_mem_cons.mpr ⟨lw_p19, List.forall_mem_cons.mpr ⟨lw_p20, List.forall_mem_cons.mpr ⟨lw_p21, List.forall_mem_cons.mpr ⟨lw_p22, List.forall_mem_cons.mpr ⟨lw_p23, List.forall_mem_cons.mpr ⟨lw_p24, List.forall_mem_cons.mpr ⟨lw_p25, List.forall_mem_cons.mpr ⟨lw_p26, List.forall_mem_cons.mpr ⟨lw_p27, List.forall_mem_cons.mpr ⟨lw_p28, List.forall_mem_cons.mpr ⟨lw_p29, List.forall_mem_cons.mpr ⟨lw_p30, List.forall_mem_cons.mpr ⟨lw_p31, fun _ h => absurd h List.not_mem_nil⟩⟩⟩⟩⟩⟩⟩⟩⟩⟩⟩⟩⟩⟩⟩⟩
theorem lw_p32 : lw_okq (⟨"DetourLoomModel", "end", "(II)I"⟩, 14) := ⟨⟨by decide +kernel, by decide +kernel⟩, List.mem_of_getElem? (i := 685) (by decide +kernel), List.mem_of_getElem? (i := 840) (by decide +kernel), List.mem_of_getElem? (i := 841) (by decide +kernel)⟩
theorem lw_p33 : lw_okq (⟨"DetourLoomModel", "told", "(I)I"⟩, 14) := ⟨⟨by decide +kernel, by decide +kernel⟩, List.mem_of_getElem? (i := 685) (by decide +kernel), List.mem_of_getElem? (i := 851) (by decide +kernel), List.mem_of_getElem? (i := 852) (by decide +kernel)⟩
theorem lw_p34 : lw_okq (⟨"DetourLoomModel", "shut", "()I"⟩, 14) := ⟨⟨by decide +kernel, by decide +kernel⟩, List.mem_of_getElem? (i := 685) (by decide +kernel), List.mem_of_getElem? (i := 875) (by decide +kernel), List.mem_of_getElem? (i := 876) (by decide +kernel)⟩
theorem lw_p35 : lw_okq (⟨"DetourLoomModel", "frays", "(Z)I"⟩, 14) := ⟨⟨by decide +kernel, by decide +kernel⟩, List.mem_of_getElem? (i := 685) (by decide +kernel), List.mem_of_getElem? (i := 883) (by decide +kernel), List.mem_of_getElem? (i := 884) (by decide +kernel)⟩
theorem lw_p36 : lw_okq (⟨"DetourLoomModel", "fray", "(I)I"⟩, 14) := ⟨⟨by decide +kernel, by decide +kernel⟩, List.mem_of_getElem? (i := 685) (by decide +kernel), List.mem_of_getElem? (i := 887) (by decide +kernel), List.mem_of_getElem? (i := 888) (by decide +kernel)⟩
theorem lw_p37 : lw_okq (⟨"DetourLoomModel", "road", "(II)I"⟩, 14) := ⟨⟨by decide +kernel, by decide +kernel⟩, List.mem_of_getElem? (i := 685) (by decide +kernel), List.mem_of_getElem? (i := 900) (by decide +kernel), List.mem_of_getElem? (i := 901) (by decide +kernel)⟩
theorem lw_p38 : lw_okq (⟨"DetourLoomModel", "worn", "()I"⟩, 14) := ⟨⟨by decide +kernel, by decide +kernel⟩, List.mem_of_getElem? (i := 685) (by decide +kernel), List.mem_of_getElem? (i := 920) (by decide +kernel), List.mem_of_getElem? (i := 921) (by decide +kernel)⟩
theorem lw_p39 : lw_okq (⟨"DetourLoomModel", "distanceOf", "(IIZ)I"⟩, 14) := ⟨⟨by decide +kernel, by decide +kernel⟩, List.mem_of_getElem? (i := 685) (by decide +kernel), List.mem_of_getElem? (i := 928) (by decide +kernel), List.mem_of_getElem? (i := 929) (by decide +kernel)⟩
theorem lw_p40 : lw_okq (⟨"DetourLoomModel", "parted", "()I"⟩, 14) := ⟨⟨by decide +kernel, by decide +kernel⟩, List.mem_of_getElem? (i := 685) (by decide +kernel), List.mem_of_getElem? (i := 944) (by decide +kernel), List.mem_of_getElem? (i := 945) (by decide +kernel)⟩
theorem lw_p41 : lw_okq (⟨"DetourLoomModel", "tourist", "(II)I"⟩, 14) := ⟨⟨by decide +kernel, by decide +kernel⟩, List.mem_of_getElem? (i := 685) (by decide +kernel), List.mem_of_getElem? (i := 952) (by decide +kernel), List.mem_of_getElem? (i := 953) (by decide +kernel)⟩
theorem lw_p42 : lw_okq (⟨"DetourLoomModel", "isTourist", "(I)Z"⟩, 14) := ⟨⟨by decide +kernel, by decide +kernel⟩, List.mem_of_getElem? (i := 685) (by decide +kernel), List.mem_of_getElem? (i := 956) (by decide +kernel), List.mem_of_getElem? (i := 957) (by decide +kernel)⟩
theorem lw_p43 : lw_okq (⟨"DetourLoomModel", "until", "(I)I"⟩, 14) := ⟨⟨by decide +kernel, by decide +kernel⟩, List.mem_of_getElem? (i := 685) (by decide +kernel), List.mem_of_getElem? (i := 980) (by decide +kernel), List.mem_of_getElem? (i := 981) (by decide +kernel)⟩
theorem lw_p44 : lw_okq (⟨"DetourLoomModel", "keep", "()V"⟩, 14) := ⟨⟨by decide +kernel, by decide +kernel⟩, List.mem_of_getElem? (i := 685) (by decide +kernel), List.mem_of_getElem? (i := 984) (by decide +kernel), List.mem_of_getElem? (i := 985) (by decide +kernel)⟩
theorem lw_p45 : lw_okq (⟨"DetourLoomModel", "bringBack", "()V"⟩, 14) := ⟨⟨by decide +kernel, by decide +kernel⟩, List.mem_of_getElem? (i := 685) (by decide +kernel), List.mem_of_getElem? (i := 989) (by decide +kernel), List.mem_of_getElem? (i := 990) (by decide +kernel)⟩
theorem lw_p46 : lw_okq (⟨"DetourLoomModel", "toMend", "()I"⟩, 14) := ⟨⟨by decide +kernel, by decide +kernel⟩, List.mem_of_getElem? (i := 685) (by decide +kernel), List.mem_of_getElem? (i := 1001) (by decide +kernel), List.mem_of_getElem? (i := 1002) (by decide +kernel)⟩
def lw_privs_3 : List (MethodName × Nat) := [(⟨"DetourLoomModel", "end", "(II)I"⟩, 14), (⟨"DetourLoomModel", "told", "(I)I"⟩, 14), (⟨"DetourLoomModel", "shut", "()I"⟩, 14), (⟨"DetourLoomModel", "frays", "(Z)I"⟩, 14), (⟨"DetourLoomModel", "fray", "(I)I"⟩, 14), (⟨"DetourLoomModel", "road", "(II)I"⟩, 14), (⟨"DetourLoomModel", "worn", "()I"⟩, 14), (⟨"DetourLoomModel", "distanceOf", "(IIZ)I"⟩, 14), (⟨"DetourLoomModel", "parted", "()I"⟩, 14), (⟨"DetourLoomModel", "tourist", "(II)I"⟩, 14), (⟨"DetourLoomModel", "isTourist", "(I)Z"⟩, 14), (⟨"DetourLoomModel", "until", "(I)I"⟩, 14), (⟨"DetourLoomModel", "keep", "()V"⟩, 14), (⟨"DetourLoomModel", "bringBack", "()V"⟩, 14), (⟨"DetourLoomModel", "toMend", "()I"⟩, 14)]
theorem lw_r3 : ∀ q ∈ lw_privs_3, lw_okq q := List.forall_mem_cons.mpr ⟨lw_p32, List.forall_mem_cons.mpr ⟨lw_p33, List.forall_mem_cons.mpr ⟨lw_p34, List.forall_mem_cons.mpr ⟨lw_p35, List.forall_mem_cons.mpr ⟨lw_p36, List.forall_mem_cons.mpr ⟨lw_p37, List.forall_mem_cons.mpr ⟨lw_p38, List.forall_mem_cons.mpr ⟨lw_p39, List.forall_mem_cons.mpr ⟨lw_p40, List.forall_mem_cons.mpr ⟨lw_p41, List.forall_mem_cons.mpr ⟨lw_p42, List.forall_mem_cons.mpr ⟨lw_p43, List.forall_mem_cons.mpr ⟨lw_p44, List.forall_mem_cons.mpr ⟨lw_p45, List.forall_mem_cons.mpr ⟨lw_p46, fun _ h => absurd h List.not_mem_nil⟩⟩⟩⟩⟩⟩⟩⟩⟩⟩⟩⟩⟩⟩⟩
def lw_privs : List (MethodName × Nat) := lw_privs_1 ++ (lw_privs_2 ++ (lw_privs_3))
def lw_tbl : List Cond := k2_sels lw_privs ++ tables_1
theorem lw_privs_ok : ∀ q ∈ lw_privs, lw_okq q := by
  show ∀ q ∈ lw_privs_1 ++ (lw_privs_2 ++ (lw_privs_3)), lw_okq q
  exact List.forall_mem_append.mpr ⟨lw_r1, List.forall_mem_append.mpr ⟨lw_r2, lw_r3⟩⟩
/-- the streams that the claim lets the run draw from -/
abbrev lw_cs : List Choice := [Jvm.Choice.named "NaN.bits"]
theorem lw_bits : nanBits ∈ lw_cs := by first | decide | exact List.mem_cons_self | simp [lw_cs, nanBits]

/-! ===== BEGIN words of one list among another's, by their places ===== -/
theorem goodIn_r {big : List Cond} (ws : List Cond) (ps : List Nat) (hp : ws = ps.filterMap (fun i => big[i]?)) (h : ws.all goodWord = true) : GoodIn big ws := by
  intro w hw
  have h1 := List.all_eq_true.mp h w hw
  rw [hp] at hw
  obtain ⟨i, -, hi⟩ := List.mem_filterMap.mp hw
  have hm : w ∈ big := by first | exact List.mem_of_getElem? hi | exact List.getElem?_mem hi
  exact ⟨hm, good_of_word h1⟩
theorem goodIn_app {big a b : List Cond} (ha : GoodIn big a) (hb : GoodIn big b) : GoodIn big (a ++ b) := fun w h => (List.mem_append.mp h).elim (ha w) (hb w)
theorem goodIn_ca {big a b : List Cond} {c : Cond} (ha : GoodIn big (c :: a)) (hb : GoodIn big b) : GoodIn big (c :: (a ++ b)) := fun w h => (List.mem_cons.mp h).elim (fun e => ha w (List.mem_cons.mpr (Or.inl e))) (fun h => (List.mem_append.mp h).elim (fun h => ha w (List.mem_cons.mpr (Or.inr h))) (hb w))
theorem goodIn_sub {big ws : List Cond} (hm : ∀ w ∈ ws, w ∈ big) (h : ws.all goodWord = true) : GoodIn big ws := fun w hw => ⟨hm w hw, good_of_word (List.all_eq_true.mp h w hw)⟩
/-! ===== END ===== -/

/-! ===== BEGIN exceptions that leave a method, and their catching by the caller (launches without stack traces) ===== -/
section VXA
/-! The laws vx_back, vx_callV, vx_callS, vx_callSW, vx_throw0, vx_throwS follow proofs of the library, with one case more: JvmDerived/Free/Laws.lean (Back.of_free), Shelf42/LK1.lean (callV, callS), Shelf/KitTraced.lean (throwNew0V, throwNewS). -/
/-- where a method has thrown q: the class by its name, the cell, what was written, the world -/
def vx_T (XC : String → State → State → Prop) (st : State) (q : Addr) (t : State) (mc ms : Nat) (free : Addr → Prop) : Prop :=
  ∃ (E : String) (ce : Cell) (L : List Loc), XC E st t ∧ t.heap[q]? = some ce ∧ ce.vm = .none ∧ st.vm.findClass E = some ce.cls ∧ st.WarmedH t.vm ∧ st.sameButNew ({ t with vm := st.vm } : State) L mc ms ∧ ∀ z ∈ L, free z.base
def vx_Q (Qc : Array Value → State → Outcome → State → Prop) (XC : String → State → State → Prop) (mc ms : Nat) (free : Addr → Prop) : Array Value → State → Outcome → State → Prop := fun a st o t =>
  (Qc a st o t ∧ ∃ L, FrameEnd st o t L mc ms ∧ ∀ q ∈ L, free q.base) ∨ ∃ q, o = .threw q ∧ vx_T XC st q t mc ms free
/-- a callee that returns or throws -/
def vx_Met (l : Launch) (y : MethodName) (ws : List Cond) (rm : Room) (Pc : Array Value → State → Prop) (Qc : Array Value → State → Outcome → State → Prop) (XC : String → State → State → Prop) (mc ms : Nat) (free : Addr → Prop) : Prop :=
  MetFree l y (headSpec ws rm) Pc (fun _ _ _ _ _ => True) (vx_Q Qc XC mc ms free)
def vx_Post (XC : String → State → State → Prop) (mc ms : Nat) (free : Addr → Prop) : Pt → Array Value → Addr → Pt → Prop := fun A a q B =>
  ∃ (g : JFrame) (mk : MethodId) (t : State) (L : List Loc) (E : String) (ce : Cell), B.U.heap = t.heap ∧ B.U.vm = t.vm ∧ XC E (A.U.calling g mk a) t ∧ t.heap[q]? = some ce ∧ ce.vm = .none ∧ A.U.vm.findClass E = some ce.cls ∧ B.locs = A.locs ++ L ∧ (∀ z ∈ L, free z.base) ∧ B.cells = A.cells + mc ∧ B.slots = A.slots + ms
def vx_Back (l : Launch) (R : Room) (p : Program) (e : Env) (below : List Frame) (s : State) (sargs : Array Value) (y : MethodName) (len W9 : Nat)
    (Pre : Pt → Array Value → Prop) (Post : Pt → Array Value → Option Value → Pt → Prop) (PostX : Pt → Array Value → Addr → Pt → Prop) : Prop :=
  ∀ (m : MethodId) (meth : Method) (c : Code) (A : Pt) (g : JFrame) (ig : Instr) (mk : MethodId) (a : Array Value),
    Stand p l e R s m sargs below meth c A.U A.locs A.cells A.slots → g.method = m → g.locals.size = c.maxLocals → decode c.code g.pc = .ok (ig, len) →
    2 * g.monitorRoom + (g.stack.map fun v => v.category).sum ≤ W9 → A.U.methodNamed? y = some mk → Pre A a →
    (∃ (v : Option Value) (B : Pt), Stand p l e R s m sargs below meth c B.U B.locs B.cells B.slots ∧ Post A a v B ∧
      Steps p.tables e below (doInvoke e (A.U.setTop g) [] mk a).1 (B.U.setTop { g with pc := g.pc + len, stack := v.toList ++ g.stack })) ∨
    (∃ (q : Addr) (B : Pt), Stand p l e R s m sargs below meth c B.U B.locs B.cells B.slots ∧ PostX A a q B ∧
      Steps p.tables e below (doInvoke e (A.U.setTop g) [] mk a).1 ((B.U.setTop g).pushFrame (.throwing q)))
section Payer
variable {l : Launch} {R : Room} {p : Program} {e : Env} {below : List Frame} {s : State} {sargs : Array Value} {y : MethodName} {len W9 : Nat}
theorem vx_back {ws : List Cond} {rm : Room} {Pc : Array Value → State → Prop} {Qc : Array Value → State → Outcome → State → Prop} {XC : String → State → State → Prop} {mc ms : Nat} {free : Addr → Prop} {bytes : ByteArray} {maxL : Nat} {ret : Option FieldType}
    (hM : vx_Met l y ws rm Pc Qc XC mc ms free) (hblind : FrameBlind Pc) (hrc : rm.cells = mc) (hrs : rm.slots = ms)
    (hframes : rm.frames + 1 ≤ R.frames) (hlocals : W9 + (maxL + 11) + rm.locals ≤ R.locals)
    (hws : ∀ w ∈ ws, ∀ a' U, s.WarmedH U.vm → w.before a' U = true) (hcode : Cond.code y bytes maxL ret ∈ ws) (hinit : ∀ a' U, s.WarmedH U.vm → (Cond.initialized y.cls).before a' U = true) :
    vx_Back l R p e below s sargs y len W9 (PreOf R mc ms Pc) (PostOf Qc mc ms free) (vx_Post XC mc ms free) := by
  intro m meth c A g ig mk a X hg hsize hdg hW hn hp
  have h1 : (headSpec ws rm).pre.before a A.U = true := atoms_intro fun w hw => hws w hw _ _ X.warmed
  have h2 : (Cond.code y bytes maxL ret).before a A.U = true := hws _ hcode _ _ X.warmed
  have h3 : (Cond.initialized y.cls).before a A.U = true := hinit _ _ X.warmed
  have h4 : A.cells + (headSpec ws rm).room.cells ≤ R.cells := by rw [show (headSpec ws rm).room.cells = mc from hrc]; exact hp.1
  have h5 : A.slots + (headSpec ws rm).room.slots ≤ R.slots := by rw [show (headSpec ws rm).room.slots = ms from hrs]; exact hp.2.1
  have hPc : Pc a (A.U.calling g mk a) := hblind _ _ _ _ hp.2.2
  obtain ⟨U, Ls, c0, s0⟩ := A
  dsimp only [Pt.U, Pt.locs, Pt.cells, Pt.slots] at h1 h2 h3 h4 h5 X hn hPc ⊢
  obtain ⟨methY, cY, hmY, hcY, -, hlY, -, -, -, -⟩ := Cond.code_spec hn h2
  obtain ⟨kY, hkY, -⟩ := className_of_methodNamed hn
  have hinitY : kY.init = .initialized := Cond.initialized_spec (findClass_of_methodNamed hn) hkY h3
  have h : At U g.method c below := by rw [hg]; exact X.here
  have hlocals9 : W9 + (maxL + 11) + (headSpec ws rm).room.locals ≤ R.locals := hlocals
  have happ : (headSpec ws rm).appliesLoose y e.platform (U.calling g mk a) = true :=
    Spec.appliesLoose_calling (g := g) h hdg hn hkY hinitY
      (X.room_calling (g := g) (R' := (headSpec ws rm).room) hsize hmY hcY hframes (by rw [hlY]; omega) h4 h5) h1
  obtain ⟨mid, hmid⟩ := h.above
  have hfr : (U.setTop g).frames = (.java g :: mid) ++ below := by rw [State.frames_setTop' g h.top, hmid]; rfl
  obtain ⟨o, s₂, hsteps, -, hend, hq⟩ := Steps.callFree hM p X.admits X.cas X.clock (acts := []) hfr happ hPc trivial
  have hq' : vx_Q Qc XC mc ms free a (U.calling g mk a) o s₂ := hq
  rw [State.frames_setTop' g h.top] at hend
  obtain ⟨g₀, hg0⟩ := Option.isSome_iff_exists.mp h.top
  obtain ⟨r, hr⟩ := State.topJava?_eq_some.mp hg0
  have hr' : (({ U with heap := s₂.heap, slotsUsed := s₂.slotsUsed } : State).setVm s₂.vm).frames = .java g₀ :: r := hr
  rcases hq' with ⟨hqc, L, hfe, hL⟩ | ⟨q, rfl, E, ce, L, hx, hce, hcv, hcl, hW₂, hsm, hL⟩
  · obtain ⟨⟨v, rfl⟩, hW₂, e2, q2, q3, q4, q5, q6⟩ := id hfe
    have e3 : s₂ = ({ (U.calling g mk a).setFrames s₂.frames with heap := s₂.heap, slotsUsed := s₂.slotsUsed } : State).setVm s₂.vm := by
      have : s₂ = ({ s₂ with vm := (U.calling g mk a).vm } : State).setVm s₂.vm := rfl
      rw [e2] at this
      exact this
    obtain ⟨c₂, i₂, len₂, hc₂, hd₂, hf₂⟩ := hend
    have hW' : U.WarmedH s₂.vm := hW₂
    have hcc : c₂ = c := by
      have h1 : s₂.code? g.method = U.code? g.method := by
        rw [State.code?_eq, State.code?_eq, hW'.alike.method?]
      exact Option.some.inj (hc₂.symm.trans (h1.trans h.code))
    subst hcc
    have hlen : len₂ = len := by rw [hdg] at hd₂; cases hd₂; rfl
    subst hlen
    have hs₂ : s₂ = (({ U with heap := s₂.heap, slotsUsed := s₂.slotsUsed } : State).setVm s₂.vm).setTop { g with pc := g.pc + len₂, stack := v.toList ++ g.stack } := by
      refine e3.trans ?_
      rw [hf₂, State.calling_eq h.top, State.setFrames_setFrames, State.setTop_of_frames _ hr', hr]
      rfl
    have hsame : U.sameButNew ({ U with heap := s₂.heap, slotsUsed := s₂.slotsUsed } : State) L mc ms := by
      refine ⟨?_, q2, q3, q4, q5, q6⟩
      obtain ⟨t, ht, -⟩ := State.frames_cons hr
      show ({ U with heap := s₂.heap, slotsUsed := s₂.slotsUsed } : State) = { U.setFrames U.frames with heap := s₂.heap, slotsUsed := s₂.slotsUsed }
      rw [State.setFrames_self ht]
    subst hg
    refine Or.inl ⟨v, ⟨(({ U with heap := s₂.heap, slotsUsed := s₂.slotsUsed } : State).setVm s₂.vm), Ls ++ L, c0 + mc, s0 + ms⟩,
      ⟨X.admits, X.cas, X.clock, X.frames, X.room, X.hears, X.method, X.code, (X.here.setHeapUsed s₂.heap s₂.slotsUsed).setVm hW'.alike, X.tail, State.WarmedH.trans X.warmed hW', X.limits, X.bytes, X.same.trans (hsame.setVm s.vm)⟩,
      ⟨g, mk, s₂, L, rfl, rfl, hqc, rfl, hL, rfl, rfl⟩, ?_⟩
    show Steps p.tables e below _ ((({ U with heap := s₂.heap, slotsUsed := s₂.slotsUsed } : State).setVm s₂.vm).setTop { g with pc := g.pc + len₂, stack := v.toList ++ g.stack })
    rw [← hs₂]
    exact hsteps
  · obtain ⟨e2, q2, q3, q4, q5, q6⟩ := id hsm
    have e3 : s₂ = ({ (U.calling g mk a).setFrames s₂.frames with heap := s₂.heap, slotsUsed := s₂.slotsUsed } : State).setVm s₂.vm := by
      have : s₂ = ({ s₂ with vm := (U.calling g mk a).vm } : State).setVm s₂.vm := rfl
      rw [e2] at this
      exact this
    have hf₂ : s₂.frames = .throwing q :: .java g :: U.frames.tail := hend
    have hW' : U.WarmedH s₂.vm := hW₂
    have hs₂ : s₂ = ((({ U with heap := s₂.heap, slotsUsed := s₂.slotsUsed } : State).setVm s₂.vm).setTop g).pushFrame (.throwing q) := by
      refine e3.trans ?_
      rw [hf₂, State.calling_eq h.top, State.setFrames_setFrames, State.pushFrame, State.frames_setTop _ hr', State.setTop_of_frames _ hr', State.setFrames_setFrames, hr]
      rfl
    have hsame : U.sameButNew ({ U with heap := s₂.heap, slotsUsed := s₂.slotsUsed } : State) L mc ms := by
      refine ⟨?_, q2, q3, q4, q5, q6⟩
      obtain ⟨t, ht, -⟩ := State.frames_cons hr
      show ({ U with heap := s₂.heap, slotsUsed := s₂.slotsUsed } : State) = { U.setFrames U.frames with heap := s₂.heap, slotsUsed := s₂.slotsUsed }
      rw [State.setFrames_self ht]
    subst hg
    refine Or.inr ⟨q, ⟨(({ U with heap := s₂.heap, slotsUsed := s₂.slotsUsed } : State).setVm s₂.vm), Ls ++ L, c0 + mc, s0 + ms⟩,
      ⟨X.admits, X.cas, X.clock, X.frames, X.room, X.hears, X.method, X.code, (X.here.setHeapUsed s₂.heap s₂.slotsUsed).setVm hW'.alike, X.tail, State.WarmedH.trans X.warmed hW', X.limits, X.bytes, X.same.trans (hsame.setVm s.vm)⟩,
      ⟨g, mk, s₂, L, E, ce, rfl, rfl, hx, hce, hcv, hcl, rfl, hL, rfl, rfl⟩, ?_⟩
    show Steps p.tables e below _ (((({ U with heap := s₂.heap, slotsUsed := s₂.slotsUsed } : State).setVm s₂.vm).setTop g).pushFrame (.throwing q))
    rw [← hs₂]
    exact hsteps
end Payer
section Calls
variable {p : Program} {l : Launch} {e : Env} {R : Room} {s : State} {m : MethodId} {args : Array Value} {below : List Frame} {meth : Method} {c : Code} {T : State} {locs : List Loc} {cells slots : Nat}
theorem vx_callV (X : Stand p l e R s m args below meth c T locs cells slots) (hexec : p.tables.exec = Jvm.exec) {own C : String} {index : Nat} {y : MethodName} {bytes : ByteArray} {maxL : Nat} {ret : Option FieldType}
    (hown : s.vm.findClass own = some m.cls) (hlink : (Cond.methodLink own index y).before args s = true) (hinst : (Cond.instanceMethod y).before args s = true) (hsel : (Cond.selects C y y).before args s = true)
    (hcode : (Cond.code y bytes maxL ret).before args s = true) (hy : y.cls ≠ "java/lang/invoke/MethodHandle" ∧ y.cls ≠ "java/lang/invoke/VarHandle")
    {W9 : Nat} {Pre : Pt → Array Value → Prop} {Post : Pt → Array Value → Option Value → Pt → Prop} {PostX : Pt → Array Value → Addr → Pt → Prop} (hK : vx_Back l R p e below s args y 3 W9 Pre Post PostX)
    {b : Addr} {cellB : Cell} (hcell : T.heap[b]? = some cellB) (hobj : cellB.vm.isStatics = false) (hcls : s.vm.findClass C = some cellB.cls)
    {g : JFrame} (hg : g.method = m) (hsize : g.locals.size = c.maxLocals) {argsL rest : List Value} (hlen : ∀ sig, parseMethodDescriptor y.desc = some sig → argsL.length = sig.parameters.length)
    (hstack : g.stack = argsL.reverse ++ .ref b :: rest) (hW : 2 * g.monitorRoom + (rest.map fun v => v.category).sum ≤ W9) (hdg : decode c.code g.pc = .ok (.invokevirtual index, 3))
    (hpre : ∀ vm₁, s.WarmedH vm₁ → Pre ⟨T.setVm vm₁, locs, cells, slots⟩ (Value.ref b :: argsL).toArray) :
    (∃ (v : Option Value) (vm₁ : Vm) (B : Pt), s.WarmedH vm₁ ∧ Stand p l e R s m args below meth c B.U B.locs B.cells B.slots ∧ Post ⟨T.setVm vm₁, locs, cells, slots⟩ (Value.ref b :: argsL).toArray v B ∧
      ∀ target, Steps p.tables e below (B.U.setTop { g with pc := g.pc + 3, stack := v.toList ++ rest }) target → Steps p.tables e below (T.setTop g) target) ∨
    (∃ (q : Addr) (vm₁ : Vm) (B : Pt), s.WarmedH vm₁ ∧ Stand p l e R s m args below meth c B.U B.locs B.cells B.slots ∧ PostX ⟨T.setVm vm₁, locs, cells, slots⟩ (Value.ref b :: argsL).toArray q B ∧
      Steps p.tables e below (T.setTop g) ((B.U.setTop { g with stack := rest }).pushFrame (.throwing q))) := by
  obtain ⟨mk, methM, hnamed, hmethM, hstM, habM⟩ := Cond.instanceMethod_spec hinst
  obtain ⟨methM', cM, hmethM', -, -, -, -, -, -, hsigM⟩ := Cond.code_spec hnamed hcode
  cases hmethM.symm.trans hmethM'
  obtain ⟨c2, r2, m2, q1, q2, q3, q4, kP, hkP, hkPi⟩ := Cond.selects_spec hsel
  cases hcls.symm.trans q1
  cases (State.methodFound?_of_named hnamed hy).symm.trans q2
  cases hnamed.symm.trans q3
  have hselP : selectMethod e.platform s.vm cellB.cls mk = .method mk := by rw [Launch.admits_selectMethod X.admits]; exact q4
  obtain ⟨vm₁, X₁, hstep₁⟩ := X.invokevirtual hexec hown hlink hnamed hmethM hstM hkP hkPi hy (a := b) (cell := cellB) hcell
    (fun z h => by rw [h] at hobj; cases hobj) hselP hmethM habM hkP hkPi (g := g) hg (argsL := argsL) (rest := rest) (hlen _ hsigM) hstack hdg
  rcases hK m meth c ⟨T.setVm vm₁, locs, cells, slots⟩ { g with stack := rest } (.invokevirtual index) mk (Value.ref b :: argsL).toArray X₁ hg hsize hdg hW (X₁.named hnamed) (hpre vm₁ X₁.warmed) with ⟨v, B, X', hpost, hsteps⟩ | ⟨q, B, X', hpost, hsteps⟩
  · exact Or.inl ⟨v, vm₁, B, X₁.warmed, X', hpost, fun target h => hstep₁ _ fun acts => by rw [doInvoke_state]; exact hsteps.trans h⟩
  · exact Or.inr ⟨q, vm₁, B, X₁.warmed, X', hpost, hstep₁ _ fun acts => by rw [doInvoke_state]; exact hsteps⟩
theorem vx_callS (X : Stand p l e R s m args below meth c T locs cells slots) (hexec : p.tables.exec = Jvm.exec) {own : String} {index : Nat} {y : MethodName} {bytes : ByteArray} {maxL : Nat} {ret : Option FieldType}
    (hown : s.vm.findClass own = some m.cls) (hlink : (Cond.methodLink own index y).before args s = true) (hstat : (Cond.static y).before args s = true) (hinit : (Cond.initialized y.cls).before args s = true)
    (hcode : (Cond.code y bytes maxL ret).before args s = true) (hy : y.cls ≠ "java/lang/invoke/MethodHandle" ∧ y.cls ≠ "java/lang/invoke/VarHandle")
    {W9 : Nat} {Pre : Pt → Array Value → Prop} {Post : Pt → Array Value → Option Value → Pt → Prop} {PostX : Pt → Array Value → Addr → Pt → Prop} (hK : vx_Back l R p e below s args y 3 W9 Pre Post PostX)
    {g : JFrame} (hg : g.method = m) (hsize : g.locals.size = c.maxLocals) {argsL rest : List Value} (hlen : ∀ sig, parseMethodDescriptor y.desc = some sig → argsL.length = sig.parameters.length)
    (hstack : g.stack = argsL.reverse ++ rest) (hW : 2 * g.monitorRoom + (rest.map fun v => v.category).sum ≤ W9) (hdg : decode c.code g.pc = .ok (.invokestatic index, 3))
    (hpre : ∀ vm₁, s.WarmedH vm₁ → Pre ⟨T.setVm vm₁, locs, cells, slots⟩ argsL.toArray) :
    (∃ (v : Option Value) (vm₁ : Vm) (B : Pt), s.WarmedH vm₁ ∧ Stand p l e R s m args below meth c B.U B.locs B.cells B.slots ∧ Post ⟨T.setVm vm₁, locs, cells, slots⟩ argsL.toArray v B ∧
      ∀ target, Steps p.tables e below (B.U.setTop { g with pc := g.pc + 3, stack := v.toList ++ rest }) target → Steps p.tables e below (T.setTop g) target) ∨
    (∃ (q : Addr) (vm₁ : Vm) (B : Pt), s.WarmedH vm₁ ∧ Stand p l e R s m args below meth c B.U B.locs B.cells B.slots ∧ PostX ⟨T.setVm vm₁, locs, cells, slots⟩ argsL.toArray q B ∧
      Steps p.tables e below (T.setTop g) ((B.U.setTop { g with stack := rest }).pushFrame (.throwing q))) := by
  obtain ⟨mk, hnamed⟩ := Cond.code_named hcode
  obtain ⟨methM, cM, hmethM, -, -, -, -, -, -, hsigM⟩ := Cond.code_spec hnamed hcode
  have hstatic : methM.isStatic = true := Cond.static_spec hnamed hmethM hstat
  obtain ⟨kP, hkP, -⟩ := className_of_methodNamed hnamed
  have hinitP : kP.init = .initialized := Cond.initialized_spec (findClass_of_methodNamed hnamed) hkP hinit
  obtain ⟨vm₁, X₁, hstep₁⟩ := X.invokestatic hexec hown hlink hnamed hmethM hstatic hkP hinitP hy (g := g) hg (argsL := argsL) (rest := rest) (hlen _ hsigM) hstack hdg
  rcases hK m meth c ⟨T.setVm vm₁, locs, cells, slots⟩ { g with stack := rest } (.invokestatic index) mk argsL.toArray X₁ hg hsize hdg hW (X₁.named hnamed) (hpre vm₁ X₁.warmed) with ⟨v, B, X', hpost, hsteps⟩ | ⟨q, B, X', hpost, hsteps⟩
  · exact Or.inl ⟨v, vm₁, B, X₁.warmed, X', hpost, fun target h => hstep₁ _ fun acts => by rw [doInvoke_state]; exact hsteps.trans h⟩
  · exact Or.inr ⟨q, vm₁, B, X₁.warmed, X', hpost, hstep₁ _ fun acts => by rw [doInvoke_state]; exact hsteps⟩
end Calls
theorem vx_cls {s : State} {T : State} {vm₁ : Vm} {E : String} {k : ClassId} (hW : s.WarmedH vm₁) (h : (T.setVm vm₁).vm.findClass E = some k) : s.vm.findClass E = some k := by
  have h1 : vm₁.findClass E = some k := h
  rw [hW.alike.findClass] at h1
  exact h1
/-- the method's frame g, with q thrown over it -/
def vx_W (p : Program) (l : Launch) (e : Env) (R : Room) (s : State) (m : MethodId) (args : Array Value) (below : List Frame) (meth : Method) (c : Code) (H : Heap) (locs : List Loc) (cells slots : Nat) (Q : State → Prop) (g : JFrame) (q : Addr) : Prop :=
  ∀ T : State, T.heap = H → Stand p l e R s m args below meth c T locs cells slots → ∃ t, Steps p.tables e below ((T.setTop g).pushFrame (.throwing q)) t ∧ Q t
def vx_Run (p : Program) (l : Launch) (e : Env) (R : Room) (s : State) (m : MethodId) (args : Array Value) (below : List Frame) (meth : Method) (c : Code) (H : Heap) (locs : List Loc) (cells slots mc ms : Nat) (g : JFrame) (rest : List Value) (Qa : State → Outcome → State → Prop) (XC : String → State → State → Prop) (free : Addr → Prop) : Prop :=
  ∀ T : State, T.heap = H → Stand p l e R s m args below meth c T locs cells slots →
    (∃ (v : Option Value) (st₀ t T' : State) (L : List Loc), st₀.heap = H ∧ Stand p l e R s m args below meth c T' (locs ++ L) (cells + mc) (slots + ms) ∧ (∀ q ∈ L, free q.base) ∧ T'.heap = t.heap ∧ T'.vm = t.vm ∧ Qa st₀ (.returned v) t ∧
      Goes p e below T g T' { g with pc := g.pc + 3, stack := v.toList ++ rest }) ∨
    (∃ (q : Addr) (st₀ t T' : State) (L : List Loc) (E : String) (ce : Cell), st₀.heap = H ∧ Stand p l e R s m args below meth c T' (locs ++ L) (cells + mc) (slots + ms) ∧ (∀ z ∈ L, free z.base) ∧ T'.heap = t.heap ∧ T'.vm = t.vm ∧ XC E st₀ t ∧ t.heap[q]? = some ce ∧ ce.vm = .none ∧ s.vm.findClass E = some ce.cls ∧
      Steps p.tables e below (T.setTop g) ((T'.setTop { g with stack := rest }).pushFrame (.throwing q)))
def vx_X {S : Type} (px : S → Prop) (B : String → S → State → Prop) (A : Nat → Prop) : String → State → State → Prop := fun E st t => ∃ u : S, px u ∧ B E u t ∧ va_F A st t
section Runs
variable {p : Program} {l : Launch} {e : Env} {R : Room} {s : State} {m : MethodId} {args : Array Value} {below : List Frame} {meth : Method} {c : Code} {H : Heap} {locs : List Loc} {cells slots : Nat}
variable {y : MethodName} {bytes cc : ByteArray} {maxL nL mc ms n index : Nat} {ret : Option FieldType} {ws : List Cond} {rm : Room} {Pc : Array Value → State → Prop} {Qc : Array Value → State → Outcome → State → Prop} {XC : String → State → State → Prop} {free : Addr → Prop} {Ts : List Cond} {own C : String} {b : Addr} {As rest : List Value} {g : JFrame}
theorem vx_callBack (cb : CallB R s args own index y bytes maxL ret ws rm mc ms n) (hM : vx_Met l y ws rm Pc Qc XC mc ms free) (hbl : FrameBlind Pc) : vx_Back l R p e below s args y 3 8 (PreOf R mc ms Pc) (PostOf Qc mc ms free) (vx_Post XC mc ms free) := by
  obtain ⟨hrc, hrs, hfr, hlo, hws, hcw, -, hini, -⟩ := cb
  exact vx_back (bytes := bytes) (maxL := maxL) (ret := ret) hM hbl hrc hrs hfr hlo hws hcw (fun a' U hW => word_at hW (Or.inl (by first | rfl | simp [Cond.onTables, Cond.keeps, Cond.steady])) hini)
theorem vx_runV (S : CallFix p m c cc nL s args Ts own) (hM : vx_Met l y ws rm Pc Qc XC mc ms free) (cw : CallW R s args own C index y bytes maxL ret ws rm mc ms n) (hp : PreV s H C b Pc As)
    (hg : g.method = m) (hn : As.length = n) (hsize : g.locals.size = nL) (hstack : g.stack = As.reverse ++ .ref b :: rest) (hW : 2 * g.monitorRoom + (rest.map fun v => v.category).sum ≤ 8) (hdg : decode cc g.pc = .ok (.invokevirtual index, 3)) (hf : cells + mc ≤ R.cells ∧ slots + ms ≤ R.slots) :
    vx_Run p l e R s m args below meth c H locs cells slots mc ms g rest (Qc (Value.ref b :: As).toArray) XC free := by
  have hK : vx_Back l R p e below s args y 3 8 (PreOf R mc ms Pc) (PostOf Qc mc ms free) (vx_Post XC mc ms free) := vx_callBack cw.1 hM hp.1
  obtain ⟨⟨-, -, -, -, -, -, hcode, -, hy, hlen, hl⟩, hin, hse⟩ := cw
  obtain ⟨hx, hb, hml, ho, -⟩ := S
  obtain ⟨-, ⟨cellB, hcB, hoB, hclB⟩, hPc⟩ := hp
  intro T hT X
  rcases vx_callV X hx (C := C) (bytes := bytes) (maxL := maxL) (ret := ret) ho hl hin hse hcode hy hK (by rw [hT]; exact hcB) hoB hclB hg (hsize.trans hml.symm) (argsL := As) (rest := rest) (fun sig h => hn.trans (hlen sig h)) hstack hW (by rw [hb]; exact hdg)
    (fun vm₁ hW₁ => ⟨hf.1, hf.2, hPc (T.setVm vm₁) hT hW₁⟩) with ⟨v, vm₁, ⟨U', l2, c2, s2⟩, hW₁, X', ⟨g', mk, t, L, e1, e2, hq, h1, hL, h2, h3⟩, st⟩ | ⟨q, vm₁, ⟨U', l2, c2, s2⟩, hW₁, X', ⟨g', mk, t, L, E, ce, e1, e2, hq, hce, hcv, hcl, h1, hL, h2, h3⟩, st⟩
  · dsimp only [Pt.U, Pt.locs, Pt.cells, Pt.slots] at X' e1 e2 h1 h2 h3 st
    subst h1; subst h2; subst h3
    exact Or.inl ⟨v, (T.setVm vm₁).calling g' mk (Value.ref b :: As).toArray, t, U', L, hT, X', hL, e1, e2, hq, st⟩
  · dsimp only [Pt.U, Pt.locs, Pt.cells, Pt.slots] at X' e1 e2 h1 h2 h3 st hcl
    subst h1; subst h2; subst h3
    exact Or.inr ⟨q, (T.setVm vm₁).calling g' mk (Value.ref b :: As).toArray, t, U', L, E, ce, hT, X', hL, e1, e2, hq, hce, hcv, vx_cls hW₁ hcl, st⟩
theorem vx_runS (S : CallFix p m c cc nL s args Ts own) (hM : vx_Met l y ws rm Pc Qc XC mc ms free) (cw : CallB R s args own index y bytes maxL ret ws rm mc ms n ∧ (Cond.static y).before args s = true) (hp : PreS s H Pc As)
    (hg : g.method = m) (hn : As.length = n) (hsize : g.locals.size = nL) (hstack : g.stack = As.reverse ++ rest) (hW : 2 * g.monitorRoom + (rest.map fun v => v.category).sum ≤ 8) (hdg : decode cc g.pc = .ok (.invokestatic index, 3)) (hf : cells + mc ≤ R.cells ∧ slots + ms ≤ R.slots) :
    vx_Run p l e R s m args below meth c H locs cells slots mc ms g rest (Qc As.toArray) XC free := by
  have hK : vx_Back l R p e below s args y 3 8 (PreOf R mc ms Pc) (PostOf Qc mc ms free) (vx_Post XC mc ms free) := vx_callBack cw.1 hM hp.1
  obtain ⟨⟨-, -, -, -, -, -, hcode, hini, hy, hlen, hl⟩, hstt⟩ := cw
  obtain ⟨hx, hb, hml, ho, -⟩ := S
  intro T hT X
  rcases vx_callS X hx (bytes := bytes) (maxL := maxL) (ret := ret) ho hl hstt hini hcode hy hK hg (hsize.trans hml.symm) (argsL := As) (rest := rest) (fun sig h => hn.trans (hlen sig h)) hstack hW (by rw [hb]; exact hdg)
    (fun vm₁ hW₁ => ⟨hf.1, hf.2, hp.2 (T.setVm vm₁) hT hW₁⟩) with ⟨v, vm₁, ⟨U', l2, c2, s2⟩, hW₁, X', ⟨g', mk, t, L, e1, e2, hq, h1, hL, h2, h3⟩, st⟩ | ⟨q, vm₁, ⟨U', l2, c2, s2⟩, hW₁, X', ⟨g', mk, t, L, E, ce, e1, e2, hq, hce, hcv, hcl, h1, hL, h2, h3⟩, st⟩
  · dsimp only [Pt.U, Pt.locs, Pt.cells, Pt.slots] at X' e1 e2 h1 h2 h3 st
    subst h1; subst h2; subst h3
    exact Or.inl ⟨v, (T.setVm vm₁).calling g' mk As.toArray, t, U', L, hT, X', hL, e1, e2, hq, st⟩
  · dsimp only [Pt.U, Pt.locs, Pt.cells, Pt.slots] at X' e1 e2 h1 h2 h3 st hcl
    subst h1; subst h2; subst h3
    exact Or.inr ⟨q, (T.setVm vm₁).calling g' mk As.toArray, t, U', L, E, ce, hT, X', hL, e1, e2, hq, hce, hcv, vx_cls hW₁ hcl, st⟩
end Runs
section Rows
variable {p : Program} {l : Launch} {e : Env} {R : Room} {s : State} {m : MethodId} {args : Array Value} {below : List Frame} {meth : Method} {c : Code} {H : Heap} {locs : List Loc} {cells slots : Nat} {Q : State → Prop}
variable {mc ms : Nat} {free : Addr → Prop} {A0 A1 : Nat → Prop} {H0 : Heap} {a : Array Value} {pc : Nat} {ls : Array Slot} {st0 rest : List Value}
theorem vx_keep {st₀ t T' : State} {L : List Loc} (h0 : st₀.heap = H) (e1 : T'.heap = t.heap) (hS : va_S A0 H0 H locs) (hA : ∀ q, q < H.size → A1 q → A0 q) (hf : ∀ q, free q → A0 q) (hL : ∀ q ∈ L, free q.base) (hF : va_F A1 st₀ t) :
    H.size ≤ T'.heap.size ∧ (∀ q : Nat, q < H.size → ¬ A1 q → T'.heap[q]? = H[q]?) ∧ va_S A0 H0 T'.heap (locs ++ L) := by
  obtain ⟨hz, hk⟩ := hF
  rw [h0] at hz hk
  exact ⟨by rw [e1]; exact hz, fun q h1 h2 => by rw [e1]; exact hk q h1 h2,
    ⟨Nat.le_trans hS.1 (by rw [e1]; exact hz), fun q h1 h2 => by rw [e1, hk q (Nat.lt_of_lt_of_le h1 hS.1) (fun z => h2 (hA q (Nat.lt_of_lt_of_le h1 hS.1) z))]; exact hS.2.1 q h1 h2, fun q hq => by
      rcases List.mem_append.mp hq with h | h
      · exact hS.2.2 q h
      · exact hf _ (hL q h)⟩⟩
theorem vx_calli {S SX : Type} {post : Int32 → S → Prop} {px : SX → Prop} {B : S → State → Prop} {BX : String → SX → State → Prop} {AX : Nat → Prop} (hr : vx_Run p l e R s m args below meth c H locs cells slots mc ms (F0 m pc ls st0) rest (va_Qi post B A1 a) (vx_X px BX AX) free) (hS : va_S A0 H0 H locs) (hA : ∀ q, q < H.size → A1 q → A0 q) (hf : ∀ q, free q → A0 q) (hAX : ∀ q, q < H.size → AX q → A0 q)
    (kx : ∀ (E : String) (ce : Cell) (q9 : Addr) (u : SX) (t : State) (H1 : Heap) (locs1 : List Loc), t.heap = H1 → s.vm.Alike t.vm → px u → BX E u t → H.size ≤ H1.size → (∀ q : Nat, q < H.size → ¬ AX q → H1[q]? = H[q]?) → va_S A0 H0 H1 locs1 → H1[q9]? = some ce → ce.vm = .none → s.vm.findClass E = some ce.cls → vx_W p l e R s m args below meth c H1 locs1 (cells + mc) (slots + ms) Q (F0 m pc ls rest) q9)
    (kk : ∀ (r : Int32) (u : S) (t : State) (H1 : Heap) (locs1 : List Loc), t.heap = H1 → s.vm.Alike t.vm → post r u → B u t → H.size ≤ H1.size → (∀ q : Nat, q < H.size → ¬ A1 q → H1[q]? = H[q]?) → va_S A0 H0 H1 locs1 → W p l e R s m args below meth c H1 locs1 (cells + mc) (slots + ms) Q (F0 m (pc + 3) ls (.int r :: rest))) : W p l e R s m args below meth c H locs cells slots Q (F0 m pc ls st0) := by
  intro T hT X
  rcases hr T hT X with ⟨v, st₀, t, T', L, h0, X', hL, e1, e2, ⟨⟨r, u, hv, hp, hb⟩, hF⟩, st⟩ | ⟨q, st₀, t, T', L, E, ce, h0, X', hL, e1, e2, ⟨u, hp, hb, hF⟩, hce, hcv, hcl, st⟩
  · cases hv
    obtain ⟨k1, k2, k3⟩ := vx_keep h0 e1 hS hA hf hL hF
    obtain ⟨t2, a1, b1⟩ := kk r u t T'.heap (locs ++ L) e1.symm (by rw [← e2]; exact X'.warmed.alike) hp hb k1 k2 k3 T' rfl X'
    exact ⟨t2, st t2 a1, b1⟩
  · obtain ⟨k1, k2, k3⟩ := vx_keep h0 e1 hS hAX hf hL hF
    obtain ⟨t2, a1, b1⟩ := kx E ce q u t T'.heap (locs ++ L) e1.symm (by rw [← e2]; exact X'.warmed.alike) hp hb k1 k2 k3 (by rw [e1]; exact hce) hcv hcl T' rfl X'
    exact ⟨t2, st.trans a1, b1⟩
theorem vx_calll {S SX : Type} {post : Int64 → S → Prop} {px : SX → Prop} {B : S → State → Prop} {BX : String → SX → State → Prop} {AX : Nat → Prop} (hr : vx_Run p l e R s m args below meth c H locs cells slots mc ms (F0 m pc ls st0) rest (va_Ql post B A1 a) (vx_X px BX AX) free) (hS : va_S A0 H0 H locs) (hA : ∀ q, q < H.size → A1 q → A0 q) (hf : ∀ q, free q → A0 q) (hAX : ∀ q, q < H.size → AX q → A0 q)
    (kx : ∀ (E : String) (ce : Cell) (q9 : Addr) (u : SX) (t : State) (H1 : Heap) (locs1 : List Loc), t.heap = H1 → s.vm.Alike t.vm → px u → BX E u t → H.size ≤ H1.size → (∀ q : Nat, q < H.size → ¬ AX q → H1[q]? = H[q]?) → va_S A0 H0 H1 locs1 → H1[q9]? = some ce → ce.vm = .none → s.vm.findClass E = some ce.cls → vx_W p l e R s m args below meth c H1 locs1 (cells + mc) (slots + ms) Q (F0 m pc ls rest) q9)
    (kk : ∀ (r : Int64) (u : S) (t : State) (H1 : Heap) (locs1 : List Loc), t.heap = H1 → s.vm.Alike t.vm → post r u → B u t → H.size ≤ H1.size → (∀ q : Nat, q < H.size → ¬ A1 q → H1[q]? = H[q]?) → va_S A0 H0 H1 locs1 → W p l e R s m args below meth c H1 locs1 (cells + mc) (slots + ms) Q (F0 m (pc + 3) ls (.long r :: rest))) : W p l e R s m args below meth c H locs cells slots Q (F0 m pc ls st0) := by
  intro T hT X
  rcases hr T hT X with ⟨v, st₀, t, T', L, h0, X', hL, e1, e2, ⟨⟨r, u, hv, hp, hb⟩, hF⟩, st⟩ | ⟨q, st₀, t, T', L, E, ce, h0, X', hL, e1, e2, ⟨u, hp, hb, hF⟩, hce, hcv, hcl, st⟩
  · cases hv
    obtain ⟨k1, k2, k3⟩ := vx_keep h0 e1 hS hA hf hL hF
    obtain ⟨t2, a1, b1⟩ := kk r u t T'.heap (locs ++ L) e1.symm (by rw [← e2]; exact X'.warmed.alike) hp hb k1 k2 k3 T' rfl X'
    exact ⟨t2, st t2 a1, b1⟩
  · obtain ⟨k1, k2, k3⟩ := vx_keep h0 e1 hS hAX hf hL hF
    obtain ⟨t2, a1, b1⟩ := kx E ce q u t T'.heap (locs ++ L) e1.symm (by rw [← e2]; exact X'.warmed.alike) hp hb k1 k2 k3 (by rw [e1]; exact hce) hcv hcl T' rfl X'
    exact ⟨t2, st.trans a1, b1⟩
theorem vx_callf {S SX : Type} {post : UInt32 → S → Prop} {px : SX → Prop} {B : S → State → Prop} {BX : String → SX → State → Prop} {AX : Nat → Prop} (hr : vx_Run p l e R s m args below meth c H locs cells slots mc ms (F0 m pc ls st0) rest (va_Qf post B A1 a) (vx_X px BX AX) free) (hS : va_S A0 H0 H locs) (hA : ∀ q, q < H.size → A1 q → A0 q) (hf : ∀ q, free q → A0 q) (hAX : ∀ q, q < H.size → AX q → A0 q)
    (kx : ∀ (E : String) (ce : Cell) (q9 : Addr) (u : SX) (t : State) (H1 : Heap) (locs1 : List Loc), t.heap = H1 → s.vm.Alike t.vm → px u → BX E u t → H.size ≤ H1.size → (∀ q : Nat, q < H.size → ¬ AX q → H1[q]? = H[q]?) → va_S A0 H0 H1 locs1 → H1[q9]? = some ce → ce.vm = .none → s.vm.findClass E = some ce.cls → vx_W p l e R s m args below meth c H1 locs1 (cells + mc) (slots + ms) Q (F0 m pc ls rest) q9)
    (kk : ∀ (r : UInt32) (u : S) (t : State) (H1 : Heap) (locs1 : List Loc), t.heap = H1 → s.vm.Alike t.vm → post r u → B u t → H.size ≤ H1.size → (∀ q : Nat, q < H.size → ¬ A1 q → H1[q]? = H[q]?) → va_S A0 H0 H1 locs1 → W p l e R s m args below meth c H1 locs1 (cells + mc) (slots + ms) Q (F0 m (pc + 3) ls (.float r :: rest))) : W p l e R s m args below meth c H locs cells slots Q (F0 m pc ls st0) := by
  intro T hT X
  rcases hr T hT X with ⟨v, st₀, t, T', L, h0, X', hL, e1, e2, ⟨⟨r, u, hv, hp, hb⟩, hF⟩, st⟩ | ⟨q, st₀, t, T', L, E, ce, h0, X', hL, e1, e2, ⟨u, hp, hb, hF⟩, hce, hcv, hcl, st⟩
  · cases hv
    obtain ⟨k1, k2, k3⟩ := vx_keep h0 e1 hS hA hf hL hF
    obtain ⟨t2, a1, b1⟩ := kk r u t T'.heap (locs ++ L) e1.symm (by rw [← e2]; exact X'.warmed.alike) hp hb k1 k2 k3 T' rfl X'
    exact ⟨t2, st t2 a1, b1⟩
  · obtain ⟨k1, k2, k3⟩ := vx_keep h0 e1 hS hAX hf hL hF
    obtain ⟨t2, a1, b1⟩ := kx E ce q u t T'.heap (locs ++ L) e1.symm (by rw [← e2]; exact X'.warmed.alike) hp hb k1 k2 k3 (by rw [e1]; exact hce) hcv hcl T' rfl X'
    exact ⟨t2, st.trans a1, b1⟩
theorem vx_calld {S SX : Type} {post : UInt64 → S → Prop} {px : SX → Prop} {B : S → State → Prop} {BX : String → SX → State → Prop} {AX : Nat → Prop} (hr : vx_Run p l e R s m args below meth c H locs cells slots mc ms (F0 m pc ls st0) rest (va_Qd post B A1 a) (vx_X px BX AX) free) (hS : va_S A0 H0 H locs) (hA : ∀ q, q < H.size → A1 q → A0 q) (hf : ∀ q, free q → A0 q) (hAX : ∀ q, q < H.size → AX q → A0 q)
    (kx : ∀ (E : String) (ce : Cell) (q9 : Addr) (u : SX) (t : State) (H1 : Heap) (locs1 : List Loc), t.heap = H1 → s.vm.Alike t.vm → px u → BX E u t → H.size ≤ H1.size → (∀ q : Nat, q < H.size → ¬ AX q → H1[q]? = H[q]?) → va_S A0 H0 H1 locs1 → H1[q9]? = some ce → ce.vm = .none → s.vm.findClass E = some ce.cls → vx_W p l e R s m args below meth c H1 locs1 (cells + mc) (slots + ms) Q (F0 m pc ls rest) q9)
    (kk : ∀ (r : UInt64) (u : S) (t : State) (H1 : Heap) (locs1 : List Loc), t.heap = H1 → s.vm.Alike t.vm → post r u → B u t → H.size ≤ H1.size → (∀ q : Nat, q < H.size → ¬ A1 q → H1[q]? = H[q]?) → va_S A0 H0 H1 locs1 → W p l e R s m args below meth c H1 locs1 (cells + mc) (slots + ms) Q (F0 m (pc + 3) ls (.double r :: rest))) : W p l e R s m args below meth c H locs cells slots Q (F0 m pc ls st0) := by
  intro T hT X
  rcases hr T hT X with ⟨v, st₀, t, T', L, h0, X', hL, e1, e2, ⟨⟨r, u, hv, hp, hb⟩, hF⟩, st⟩ | ⟨q, st₀, t, T', L, E, ce, h0, X', hL, e1, e2, ⟨u, hp, hb, hF⟩, hce, hcv, hcl, st⟩
  · cases hv
    obtain ⟨k1, k2, k3⟩ := vx_keep h0 e1 hS hA hf hL hF
    obtain ⟨t2, a1, b1⟩ := kk r u t T'.heap (locs ++ L) e1.symm (by rw [← e2]; exact X'.warmed.alike) hp hb k1 k2 k3 T' rfl X'
    exact ⟨t2, st t2 a1, b1⟩
  · obtain ⟨k1, k2, k3⟩ := vx_keep h0 e1 hS hAX hf hL hF
    obtain ⟨t2, a1, b1⟩ := kx E ce q u t T'.heap (locs ++ L) e1.symm (by rw [← e2]; exact X'.warmed.alike) hp hb k1 k2 k3 (by rw [e1]; exact hce) hcv hcl T' rfl X'
    exact ⟨t2, st.trans a1, b1⟩
theorem vx_callv {S SX : Type} {post : S → Prop} {px : SX → Prop} {B : S → State → Prop} {BX : String → SX → State → Prop} {AX : Nat → Prop} (hr : vx_Run p l e R s m args below meth c H locs cells slots mc ms (F0 m pc ls st0) rest (va_Qv post B A1 a) (vx_X px BX AX) free) (hS : va_S A0 H0 H locs) (hA : ∀ q, q < H.size → A1 q → A0 q) (hf : ∀ q, free q → A0 q) (hAX : ∀ q, q < H.size → AX q → A0 q)
    (kx : ∀ (E : String) (ce : Cell) (q9 : Addr) (u : SX) (t : State) (H1 : Heap) (locs1 : List Loc), t.heap = H1 → s.vm.Alike t.vm → px u → BX E u t → H.size ≤ H1.size → (∀ q : Nat, q < H.size → ¬ AX q → H1[q]? = H[q]?) → va_S A0 H0 H1 locs1 → H1[q9]? = some ce → ce.vm = .none → s.vm.findClass E = some ce.cls → vx_W p l e R s m args below meth c H1 locs1 (cells + mc) (slots + ms) Q (F0 m pc ls rest) q9)
    (kk : ∀ (u : S) (t : State) (H1 : Heap) (locs1 : List Loc), t.heap = H1 → s.vm.Alike t.vm → post u → B u t → H.size ≤ H1.size → (∀ q : Nat, q < H.size → ¬ A1 q → H1[q]? = H[q]?) → va_S A0 H0 H1 locs1 → W p l e R s m args below meth c H1 locs1 (cells + mc) (slots + ms) Q (F0 m (pc + 3) ls (rest))) : W p l e R s m args below meth c H locs cells slots Q (F0 m pc ls st0) := by
  intro T hT X
  rcases hr T hT X with ⟨v, st₀, t, T', L, h0, X', hL, e1, e2, ⟨⟨u, hv, hp, hb⟩, hF⟩, st⟩ | ⟨q, st₀, t, T', L, E, ce, h0, X', hL, e1, e2, ⟨u, hp, hb, hF⟩, hce, hcv, hcl, st⟩
  · cases hv
    obtain ⟨k1, k2, k3⟩ := vx_keep h0 e1 hS hA hf hL hF
    obtain ⟨t2, a1, b1⟩ := kk u t T'.heap (locs ++ L) e1.symm (by rw [← e2]; exact X'.warmed.alike) hp hb k1 k2 k3 T' rfl X'
    exact ⟨t2, st t2 a1, b1⟩
  · obtain ⟨k1, k2, k3⟩ := vx_keep h0 e1 hS hAX hf hL hF
    obtain ⟨t2, a1, b1⟩ := kx E ce q u t T'.heap (locs ++ L) e1.symm (by rw [← e2]; exact X'.warmed.alike) hp hb k1 k2 k3 (by rw [e1]; exact hce) hcv hcl T' rfl X'
    exact ⟨t2, st.trans a1, b1⟩
/-- caught by the row x of this method's table; the rows ahead don't take it -/
theorem vx_catch {own name : String} {E : String} {ce : Cell} {q : Addr} (hown : s.vm.findClass own = some m.cls) (pre : List ExceptionTableEntry) (x : ExceptionTableEntry) (suf : List ExceptionTableEntry) (hsplit : c.exceptionTable.toList = pre ++ x :: suf)
    (hpass : ∀ z ∈ pre, covers z pc = false ∨ (z.catchType ≠ 0 ∧ ∃ nm : String, (Cond.classLink own z.catchType nm).before args s = true ∧ va_Nc E nm s)) (hx : covers x pc = true) (h0 : x.catchType ≠ 0)
    (hlink : (Cond.classLink own x.catchType name).before args s = true) (hcast : (Cond.castable E name).before args s = true) (hcell : H[q]? = some ce) (hv : ce.vm = .none) (hcl : s.vm.findClass E = some ce.cls)
    (kk : W p l e R s m args below meth c H locs cells slots Q (F0 m x.handlerPc ls [.ref q])) : vx_W p l e R s m args below meth c H locs cells slots Q (F0 m pc ls rest) q := by
  intro T hT X
  have hpl : e.platform.magicAccessors = ({} : Platform).magicAccessors := by rw [X.admits.platform]
  obtain ⟨c3, c4, hc3, hc4, hasg⟩ := Cond.castable_spec hcast
  cases Option.some.inj (hc3.symm.trans hcl)
  obtain ⟨c5, hc5, hcl5⟩ := Cond.classLink_spec hown hlink e.platform hpl
  cases Option.some.inj (hc4.symm.trans hc5)
  obtain ⟨vm', X', st⟩ := X.thenCaughtThrough q (g := F0 m pc ls rest) rfl (Steps.refl _) (by rw [hT]; exact hcell) (by rw [hv]; rfl) (by obtain ⟨k9, h9, -⟩ := Vm.findClass_spec hcl; exact ⟨k9, h9⟩) pre x suf hsplit
    (fun z hz => by
      rcases hpass z hz with h | ⟨hz0, nm, hl1, hn1⟩
      · exact Or.inl h
      · obtain ⟨c6, hc6, hcl6⟩ := Cond.classLink_spec hown hl1 e.platform hpl
        obtain ⟨a8, b8, h1, h2, h3⟩ := hn1
        cases Option.some.inj (h1.symm.trans hcl)
        cases Option.some.inj (h2.symm.trans hc6)
        exact Or.inr ⟨hz0, _, hcl6, h3⟩) hx (Or.inr ⟨h0, c4, hcl5, hasg⟩)
  obtain ⟨t, a1, b1⟩ := kk (T.setVm vm') hT X'
  exact ⟨t, st.trans a1, b1⟩
end Rows
section Ends
variable {p : Program} {l : Launch} {e : Env} {R : Room} {s : State} {m : MethodId} {args : Array Value} {below : List Frame} {meth : Method} {c : Code} {H : Heap} {locs : List Loc} {cells slots : Nat} {Q : State → Prop}
variable {mc ms : Nat} {free : Addr → Prop} {A0 A1 : Nat → Prop} {H0 : Heap} {a : Array Value} {ls : Array Slot} {st0 rest : List Value}
variable {Qc : Array Value → State → Outcome → State → Prop} {XC : String → State → State → Prop}
/-- what a body that may throw owes at its end -/
def vx_MQ (below : List Frame) (Qc : Array Value → State → Outcome → State → Prop) (XC : String → State → State → Prop) (a : Array Value) (s : State) (mc ms : Nat) (free : Addr → Prop) : State → Prop := fun t =>
  ∃ o, t.status = .running ∧ Ended t below o ∧ vx_Q Qc XC mc ms free a s o t
theorem vx_ret {g : JFrame} {mc ms : Nat} (k : W p l e R s m args below meth c H locs cells slots (MQ below Qc args s mc ms free) g) : W p l e R s m args below meth c H locs cells slots (vx_MQ below Qc XC args s mc ms free) g := by
  intro T hT X
  obtain ⟨t, a1, o, b1, b2, b3, b4⟩ := k T hT X
  exact ⟨t, a1, o, b1, b2, Or.inl ⟨b3, b4⟩⟩
/-- not caught here: it goes on to the caller -/
theorem vx_widen {g : JFrame} {q : Addr} {k n : Nat} (h1 : cells ≤ k) (h2 : slots ≤ n) (kk : vx_W p l e R s m args below meth c H locs k n Q g q) : vx_W p l e R s m args below meth c H locs cells slots Q g q := fun T hT X => kk T hT (stand_widen X h1 h2)
theorem vx_out {pc : Nat} {E : String} {ce : Cell} {q : Addr} {mc ms : Nat} (hout : ∀ x ∈ c.exceptionTable.toList, covers x pc = false) (hlocks : meth.locks = false) (hcell : H[q]? = some ce) (hv : ce.vm = .none) (hcl : s.vm.findClass E = some ce.cls)
    (hx : ∀ t : State, t.heap = H → s.vm.Alike t.vm → XC E s t) (hf : ∀ z ∈ locs, free z.base) (hc : cells ≤ mc) (hs : slots ≤ ms) :
    vx_W p l e R s m args below meth c H locs cells slots (vx_MQ below Qc XC args s mc ms free) (F0 m pc ls rest) q := by
  intro T hT X
  obtain ⟨st1, hrun, hend, hW, hsm⟩ := X.leaveThrown q (g := F0 m pc ls rest) rfl rfl rfl hout hlocks
  have hcell9 : (T.setFrames (.throwing q :: below)).heap[q]? = some ce := by
    show T.heap[q]? = some ce
    rw [hT]; exact hcell
  exact ⟨_, st1, .threw q, hrun, hend, Or.inr ⟨q, rfl, E, ce, locs, hx _ hT hW.alike, hcell9, hv, hcl, hW, hsm.mono hc hs, hf⟩⟩
theorem vx_frame {U : State} {k n : Nat} (h : s.sameButNew ({ U with vm := s.vm } : State) locs k n) : s.heap.size ≤ U.heap.size ∧ ∀ q : Nat, q < s.heap.size → (∀ z ∈ locs, z.base ≠ q) → U.heap[q]? = s.heap[q]? := by
  obtain ⟨-, h2, -, -, -, h6⟩ := h
  refine ⟨h2, fun q hq hz => ?_⟩
  obtain ⟨c9, e1, e2, e3, e4⟩ := h6 q _ (Array.getElem?_eq_getElem hq)
  have hs : c9.slots = (s.heap[q]).slots := Array.ext_getElem? fun i => e4 i fun hm => hz _ hm rfl
  have h9 : c9 = s.heap[q] := by
    rw [hs] at e2
    exact e2
  have e5 : U.heap[q]? = some c9 := e1
  rw [e5, h9, Array.getElem?_eq_getElem hq]
/-- the words of a throw but the four that speak of the heap -/
def vx_no (w : Cond) : Bool := decide (w ≠ .isRef (.static Bundle.tN "UNASSIGNED_STACK" Bundle.steD)) && decide (w ≠ .isRef (.static Bundle.tN "SUPPRESSED_SENTINEL" Bundle.listD)) && decide (w ≠ .laysStatic Bundle.tN "UNASSIGNED_STACK" Bundle.steD) && decide (w ≠ .laysStatic Bundle.tN "SUPPRESSED_SENTINEL" Bundle.listD)
def vx_at0 (own : String) (ic : Nat) (X : String) (names : List String) : List Cond := (Bundle.ownAtoms0 own ic X names).filter vx_no
def vx_atS (own : String) (ic : Nat) (X : String) (names : List String) : List Cond := (Bundle.ownAtoms own ic X names).filter vx_no
/-- a word that the tables alone decide, or a good one -/
def vx_ot (w : Cond) : Bool := w.onTables || goodWord w
theorem vx_ot_at {args a' : Array Value} {s U : State} {w : Cond} (hW : s.WarmedH U.vm) (hvm : s.vm = U.vm) (hg : vx_ot w = true) (h : w.before args s = true) : w.before a' U = true := by
  simp only [vx_ot, Bool.or_eq_true] at hg
  rcases hg with hg | hg
  · exact va_tabs hg hvm h
  · exact word_at hW (good_of_word hg) h
/-- a list's words: the good ones out of the method's own list, the others by premises of their own -/
theorem vx_hat {args : Array Value} {s : State} {L B : List Cond} (h1 : ∀ w ∈ L.filter goodWord, w.before args s = true) (h2 : ∀ w ∈ L.filter (fun w => !goodWord w), w ∈ B) (h3 : ∀ w ∈ B, w.before args s = true) : ∀ w ∈ L, w.before args s = true := by
  intro w hw
  by_cases g : goodWord w = true
  · exact h1 w (List.mem_filter.mpr ⟨hw, g⟩)
  · refine h3 w (h2 w (List.mem_filter.mpr ⟨hw, ?_⟩))
    show (!goodWord w) = true
    cases hgw : goodWord w
    · rfl
    · exact absurd hgw g
theorem vx_c {args : Array Value} {s : State} {w : Cond} {B : List Cond} (h : w.before args s = true) (t : ∀ w ∈ B, w.before args s = true) : ∀ w' ∈ w :: B, w'.before args s = true := fun w' h' => (List.mem_cons.mp h').elim (fun e => by rw [e]; exact h) (t w')
theorem vx_n {args : Array Value} {s : State} : ∀ w ∈ ([] : List Cond), w.before args s = true := fun _ h => nomatch h
theorem vx_own {args : Array Value} {s : State} {L : List Cond} (h1 : ∀ w ∈ L.filter vx_no, w.before args s = true)
    (hU : (Cond.isRef (.static Bundle.tN "UNASSIGNED_STACK" Bundle.steD)).before args s = true) (hN : (Cond.isRef (.static Bundle.tN "SUPPRESSED_SENTINEL" Bundle.listD)).before args s = true)
    (lU : (Cond.laysStatic Bundle.tN "UNASSIGNED_STACK" Bundle.steD).before args s = true) (lN : (Cond.laysStatic Bundle.tN "SUPPRESSED_SENTINEL" Bundle.listD).before args s = true) : ∀ w ∈ L, w.before args s = true := by
  intro w hw
  by_cases e1 : w = .isRef (.static Bundle.tN "UNASSIGNED_STACK" Bundle.steD)
  · rw [e1]; exact hU
  · by_cases e2 : w = .isRef (.static Bundle.tN "SUPPRESSED_SENTINEL" Bundle.listD)
    · rw [e2]; exact hN
    · by_cases e3 : w = .laysStatic Bundle.tN "UNASSIGNED_STACK" Bundle.steD
      · rw [e3]; exact lU
      · by_cases e4 : w = .laysStatic Bundle.tN "SUPPRESSED_SENTINEL" Bundle.listD
        · rw [e4]; exact lN
        · exact h1 w (List.mem_filter.mpr ⟨hw, by unfold vx_no; rw [decide_eq_true e1, decide_eq_true e2, decide_eq_true e3, decide_eq_true e4]; rfl⟩)
/-- where a static field lies, its class's statics cell in H -/
def vx_L (C n d : String) (A : Nat → Prop) (U : State) (H : Heap) : Prop := ∃ (c : ClassId) (k : Class) (i : Nat) (f : Field) (a : Nat) (cell : Cell), U.vm.findClass C = some c ∧ U.fieldFound? C n d = some (c, k, i, f) ∧ f.isStatic = true ∧ k.statics = some a ∧ H[a]? = some cell ∧ cell.vm.isStatics = true ∧ cell.cls = c ∧ f.slot < cell.slots.size ∧ k.staticTypes[f.slot]? = some f.type ∧ ¬ A a
theorem vx_L.moved {C n d : String} {A : Nat → Prop} {u U : State} {H : Heap} (hvm : u.vm.Alike U.vm) (h : vx_L C n d A u H) : vx_L C n d A U H := by
  obtain ⟨c, k, i, f, a, cell, h1, h2, h3, h4, h5, h6, h7, h8, h9, h10⟩ := h
  obtain ⟨k', hi', he⟩ := State.fieldFound?_setVm hvm h2
  exact ⟨c, k', i, f, a, cell, by rw [hvm.findClass]; exact h1, hi', h3, by rw [he]; exact h4, h5, h6, h7, h8, by rw [he]; exact h9, h10⟩
theorem vx_L.kept {C n d : String} {A : Nat → Prop} {U : State} {H H1 : Heap} (h : vx_L C n d A U H) (hq : ∀ a : Nat, a < H.size → ¬ A a → H1[a]? = H[a]?) : vx_L C n d A U H1 := by
  obtain ⟨c, k, i, f, a, cell, h1, h2, h3, h4, h5, h6, h7, h8, h9, h10⟩ := h
  exact ⟨c, k, i, f, a, cell, h1, h2, h3, h4, by rw [hq a (Array.getElem?_eq_some_iff.mp h5).1 h10]; exact h5, h6, h7, h8, h9, h10⟩
theorem vx_L.narrow {C n d : String} {A B : Nat → Prop} {U : State} {H : Heap} (h : vx_L C n d A U H) (hAB : ∀ q, B q → A q) : vx_L C n d B U H := by
  obtain ⟨c, k, i, f, a, cell, h1, h2, h3, h4, h5, h6, h7, h8, h9, h10⟩ := h
  exact ⟨c, k, i, f, a, cell, h1, h2, h3, h4, h5, h6, h7, h8, h9, fun z => h10 (hAB _ z)⟩
theorem vx_L.word {C n d : String} {A : Nat → Prop} {s : State} {args : Array Value} (h : vx_L C n d A s s.heap) : (Cond.laysStatic C n d).before args s = true := by
  obtain ⟨c, k, i, f, a, cell, h1, h2, h3, h4, h5, h6, h7, h8, h9, -⟩ := h
  show (Cond.laysStatic C n d).holds args s none s [] = true
  exact Cond.laysStatic_of h1 h2 h3 h4 h5 h6 h7 h8 h9
/-- .. and what it holds: null or some reference -/
def vx_Zq (C n d : String) (A : Nat → Prop) (U : State) (H : Heap) : Prop := va_Zq C n d A U H ∧ vx_L C n d A U H
theorem vx_Zq.moved {C n d : String} {A : Nat → Prop} {u U : State} {H : Heap} (hvm : u.vm.Alike U.vm) (h : vx_Zq C n d A u H) : vx_Zq C n d A U H := ⟨va_Zq.moved hvm h.1, vx_L.moved hvm h.2⟩
theorem vx_Zq.kept {C n d : String} {A : Nat → Prop} {U : State} {H H1 : Heap} (h : vx_Zq C n d A U H) (hq : ∀ a : Nat, a < H.size → ¬ A a → H1[a]? = H[a]?) : vx_Zq C n d A U H1 := ⟨va_Zq.kept h.1 hq, vx_L.kept h.2 hq⟩
theorem vx_Zq.narrow {C n d : String} {A B : Nat → Prop} {U : State} {H : Heap} (h : vx_Zq C n d A U H) (hAB : ∀ q, B q → A q) : vx_Zq C n d B U H := ⟨va_Zq.narrow h.1 hAB, vx_L.narrow h.2 hAB⟩
theorem vx_Zqof {args : Array Value} {s : State} {C n d : String} {A : Nat → Prop} (hl : (Cond.laysStatic C n d).before args s = true) (hini : (Cond.initialized C).before args s = true) (h : (Cond.isRef (.static C n d)).before args s = true) (hA : ∀ a : Nat, a < s.heap.size → ¬ A a) : vx_Zq C n d A s s.heap := by
  refine ⟨va_Zqof hl hini h hA, ?_⟩
  obtain ⟨c, k, i, f, a, cell, h1, h2, h3, h4, h5, h6, h7, h8, h9⟩ := Cond.laysStatic_spec hl
  exact ⟨c, k, i, f, a, cell, h1, h2, h3, h4, h5, h6, h7, h8, h9, hA a (Array.getElem?_eq_some_iff.mp h5).1⟩
theorem vx_isRef {C n d : String} {v : Value} {A : Nat → Prop} {s : State} {args : Array Value} (h : va_Z C n d v A s s.heap) (hv : v.isRef = true) : (Cond.isRef (.static C n d)).before args s = true := by
  obtain ⟨cf, kf, fi, f, a, cell, h1, h2, h3, h4, h5, h6, h7, -⟩ := h
  have he : (Term.static C n d).eval args s none [] s = some v := by
    simp [Term.eval, State.fieldNamed?, h1, h2, h4, h5, h6, h7]
  simp only [Cond.before, Cond.holds, Cond.value, he]
  cases v <;> simp_all [Value.isRef]
theorem vx_isRefq {C n d : String} {A : Nat → Prop} {s : State} {args : Array Value} (h : va_Zq C n d A s s.heap) : (Cond.isRef (.static C n d)).before args s = true := by
  rcases h with h | ⟨t, h⟩
  · exact vx_isRef h rfl
  · exact vx_isRef h rfl
/-- the same frame, seen from here: as if the method were called anew in this heap -/
theorem vx_rebase {T : State} (X : Stand p l e R s m args below meth c T locs cells slots) {R' : Room} (hf : R'.frames ≤ R.frames) (hl : R'.locals ≤ R.locals) (hc : cells + R'.cells ≤ R.cells) (hs : slots + R'.slots ≤ R.slots) :
    Stand p l e R' ((T.setVm s.vm).setFrames (.invoking m args :: below)) m args below meth c T [] 0 0 := by
  have htop : (T.setVm s.vm).topJava?.isSome := X.here.top
  have hF : ((T.setVm s.vm).setFrames (.invoking m args :: below)).frames = .invoking m args :: below := State.frames_setFrames _ (State.cur_lt_of_top htop)
  obtain ⟨g₀, hg0⟩ := Option.isSome_iff_exists.mp htop
  obtain ⟨r, hr⟩ := State.topJava?_eq_some.mp hg0
  have hl9 : e.platform.stackLimits (T.setVm s.vm).me = e.platform.stackLimits s.me := X.limits
  have hb9 : (T.setVm s.vm).me.stackBytes = s.me.stackBytes := X.bytes
  refine ⟨X.admits, X.cas, X.clock, hF, ?_, X.hears, X.method, X.code, X.here, X.tail, X.warmed, ?_, ?_, ?_⟩
  · have h := X.room
    have hU : ((T.setVm s.vm).setFrames (.invoking m args :: below)).localsInUse = s.localsInUse := by
      rw [State.localsInUse_invoking hF (meth := meth) (c := c) X.method X.code, State.localsInUse_invoking X.frames X.method X.code]
    simp only [State.hasRoom, Bool.and_eq_true, decide_eq_true_eq] at h ⊢
    obtain ⟨⟨⟨⟨h1, h2, h3, h4, h5, h6⟩, h7⟩, h8⟩, h9⟩ := h
    rw [X.frames, List.length_cons] at h2 h3
    have q1 := X.heapSize
    have q2 := X.used
    simp only [hF, hU, List.length_cons, State.stackLimits_setFrames, State.stackBytes_setFrames, hl9, hb9]
    refine ⟨⟨⟨⟨by omega, by omega, by omega, by omega, by omega, h6⟩, ?_⟩, ?_⟩, X.book⟩
    · show T.heap.size + R'.cells ≤ e.platform.maxCells
      omega
    · show T.slotsUsed + R'.slots ≤ e.platform.maxSlots
      omega
  · rw [State.stackLimits_setFrames]; rfl
  · rw [State.stackBytes_setFrames]; rfl
  · refine ⟨?_, Nat.le_refl _, Nat.le_refl _, ?_, ?_, fun a c9 h9 => ⟨c9, h9, rfl, rfl, fun _ _ => rfl⟩⟩
    · obtain ⟨t, ht, -⟩ := State.frames_cons hr
      show T.setVm s.vm = { ((T.setVm s.vm).setFrames (.invoking m args :: below)).setFrames (T.setVm s.vm).frames with heap := T.heap, slotsUsed := T.slotsUsed }
      rw [State.setFrames_setFrames, State.setFrames_self ht]
      rfl
    · show T.slotsUsed = T.slotsUsed + ((T.heap.toList.drop T.heap.size).map (·.slots.size)).sum
      rw [List.drop_eq_nil_of_le (Nat.le_of_eq Array.length_toList)]
      rfl
    · show ((T.heap.toList.drop T.heap.size).map (·.slots.size)).sum ≤ 0
      rw [List.drop_eq_nil_of_le (Nat.le_of_eq Array.length_toList)]
      exact Nat.le_refl _
/-- 'throw new E()': new; dup; invokespecial; athrow -/
theorem vx_throw0 {cc : ByteArray} {pc : Nat} (hexec : p.tables.exec = Jvm.exec) (hb : c.code = cc) (hl : l.stackTraces = false) {own cls : String} {names : List String} {ik ic mc ms : Nat} {A : Nat → Prop}
    (hown : s.vm.findClass own = some m.cls) (hcls : Bundle.fit cls = true) (hnames : ∀ n ∈ names, Bundle.fit n = true)
    (hk : (Cond.classLink own ik cls).before args s = true) (hini : (Cond.initialized cls).before args s = true) (hat : ∀ w ∈ vx_at0 own ic cls names, w.before args s = true)
    (hgood : ∀ w ∈ Cond.classLink own ik cls :: Cond.initialized cls :: vx_at0 own ic cls names, vx_ot w = true)
    (hU : vx_Zq Bundle.tN "UNASSIGNED_STACK" Bundle.steD A s s.heap) (hN : vx_Zq Bundle.tN "SUPPRESSED_SENTINEL" Bundle.listD A s s.heap) (hS : va_S A s.heap H locs) (hsize : ls.size = c.maxLocals)
    (d0 : decode cc pc = .ok (.new ik, 3)) (d3 : decode cc (pc + 3) = .ok (.dup, 1)) (d4 : decode cc (pc + 4) = .ok (.invokespecial ic, 3)) (d7 : decode cc (pc + 7) = .ok (.athrow, 1))
    (hout : ∀ x ∈ c.exceptionTable.toList, covers x (pc + 7) = false)
    (hRframes : names.length + 3 < R.frames) (hRlocals : (rest.map fun v => v.category).sum + (13 * (names.length + 1) + 42) ≤ R.locals) (hRcells : cells + 1 ≤ R.cells) (hRslots : slots + 6 ≤ R.slots) (hlocks : meth.locks = false)
    (hx : ∀ t : State, s.vm.Alike t.vm → H.size ≤ t.heap.size → (∀ q : Nat, q < H.size → t.heap[q]? = H[q]?) → XC cls s t)
    (hf : ∀ z ∈ locs, free z.base) (hc : cells + 1 ≤ mc) (hs : slots + 6 ≤ ms) :
    W p l e R s m args below meth c H locs cells slots (vx_MQ below Qc XC args s mc ms free) (F0 m pc ls rest) := by
  intro T hT X
  have htr : e.platform.stackTraces = false := (show e.platform.stackTraces = l.stackTraces by rw [X.admits.platform]).trans hl
  have Y := vx_rebase X (R' := { frames := R.frames, locals := R.locals, cells := 1, slots := 6 }) (Nat.le_refl _) (Nat.le_refl _) hRcells hRslots
  obtain ⟨s', hA⟩ : ∃ z, z = (T.setVm s.vm).setFrames (.invoking m args :: below) := ⟨_, rfl⟩
  rw [← hA] at Y
  have hvm : s'.vm = s.vm := by rw [hA]; rfl
  have hhp : s'.heap = H := by rw [hA]; exact hT
  have hW0 : s.WarmedH s'.vm := by rw [hvm]; exact State.WarmedH.refl s
  have hat' : ∀ w ∈ vx_at0 own ic cls names, w.before args s' = true := fun w hw => vx_ot_at hW0 hvm.symm (hgood w (List.mem_cons_of_mem _ (List.mem_cons_of_mem _ hw))) (hat w hw)
  have hk' : (Cond.classLink own ik cls).before args s' = true := vx_ot_at hW0 hvm.symm (hgood _ List.mem_cons_self) hk
  have hini' : (Cond.initialized cls).before args s' = true := vx_ot_at hW0 hvm.symm (hgood _ (List.mem_cons_of_mem _ List.mem_cons_self)) hini
  have hU' : vx_Zq Bundle.tN "UNASSIGNED_STACK" Bundle.steD A s' s'.heap := by rw [hhp]; exact vx_Zq.moved hW0.alike (hU.kept hS.2.1)
  have hN' : vx_Zq Bundle.tN "SUPPRESSED_SENTINEL" Bundle.listD A s' s'.heap := by rw [hhp]; exact vx_Zq.moved hW0.alike (hN.kept hS.2.1)
  have h : ∀ w ∈ Bundle.ownAtoms0 own ic cls names, w.before args s' = true := vx_own hat' (vx_isRefq hU'.1) (vx_isRefq hN'.1) hU'.2.word hN'.2.word
  have hown' : s'.vm.findClass own = some m.cls := by rw [hvm]; exact hown
  have hins : (Cond.instantiable cls 6).before args s' = true := h _ (by simp [Bundle.ownAtoms0])
  obtain ⟨vm₁, cX, kX, hfX, hkX, -, -, X₁, st1⟩ := Y.newCold hexec (own := own) (C := cls) (index := ik) (n := 6) hown' hk' hins hini'
    (g := F0 m pc ls rest) rfl (by rw [hb]; exact d0) (Nat.le_refl _) (Nat.le_refl _)
  generalize hT1 : (T.setVm vm₁).pushCell { cls := cX, slots := kX.instanceTypes.map defaultValue, vm := .none } = T1 at X₁ st1
  have hcat : (Value.ref T.heap.size).category = 1 := rfl
  have hcellA : T1.heap[T.heap.size]? = some (freshCell cX kX) := by rw [← hT1]; exact State.heap_pushCell_size _ _
  have d3' : decode c.code (pc + 3) = .ok (.dup, 1) := by rw [hb]; exact d3
  obtain ⟨U, hsteps, hrun, hend, hW, hsame, ce, hce, hO⟩ := X₁.ctorThrow0 hexec htr (own := own) (cls := cls) (names := names) (ic := ic) hown' hcls hnames h (fun x hx => nomatch hx) hfX hkX hcellA (by rw [hhp, hT]; exact Nat.le_refl _)
    (g := { method := m, pc := pc + 4, locals := ls, stack := .ref T.heap.size :: .ref T.heap.size :: rest, locked := none }) rfl hsize rfl rfl (rest := rest) rfl
    (by rw [hb]; exact d4) (by rw [hb]; exact d7) hout hRframes (by simp only [List.map_cons, List.sum_cons, hcat]; omega) hlocks
  obtain ⟨f1, f2⟩ := vx_frame hsame
  rw [hhp] at f1 f2
  have hWs : s.WarmedH U.vm := State.WarmedH.trans hW0 hW
  have hcl : s.vm.findClass cls = some ce.cls := by
    have h9 := hO.cls
    rw [hvm] at h9
    exact h9
  have hall : s.sameButNew ({ U with vm := s.vm } : State) locs mc ms := by
    subst hA
    obtain ⟨e1, e2⟩ := hsame
    rw [State.setFrames_setFrames] at e1
    have h2 : (T.setVm s.vm).sameButNew ({ U with vm := s.vm } : State) [] (0 + 1) (0 + 6) := ⟨e1, e2⟩
    have h3 := X.same.trans h2
    rw [List.append_nil] at h3
    exact h3.mono hc hs
  refine ⟨U, ?_, .threw T.heap.size, hrun, hend, Or.inr ⟨T.heap.size, rfl, cls, ce, locs, hx U hWs.alike f1 (fun q hq => f2 q hq (fun z hz => nomatch hz)), hce, hO.vm, hcl, hWs, hall, hf⟩⟩
  refine st1 _ ?_
  show Steps p.tables e below (T1.setTop { method := m, pc := pc + 3, locals := ls, stack := .ref T.heap.size :: rest, locked := none }) _
  jvm_step X₁.here [X₁.here.top, hexec, d3', Value.category]
  exact hsteps
/-- 'throw new E("text")': new; dup; ldc; invokespecial; athrow -/
theorem vx_throwS {cc : ByteArray} {pc : Nat} (hexec : p.tables.exec = Jvm.exec) (hb : c.code = cc) (hl : l.stackTraces = false) {own cls text : String} {names : List String} {ik is ic mc ms sa : Nat} {A : Nat → Prop}
    (hown : s.vm.findClass own = some m.cls) (hcls : Bundle.fit cls = true) (hnames : ∀ n ∈ names, Bundle.fit n = true)
    (hk : (Cond.classLink own ik cls).before args s = true) (hini : (Cond.initialized cls).before args s = true) (hstr : vk_R own is text sa s) (hat : ∀ w ∈ vx_atS own ic cls names, w.before args s = true)
    (hgood : ∀ w ∈ Cond.classLink own ik cls :: Cond.initialized cls :: vx_atS own ic cls names, vx_ot w = true)
    (hU : vx_Zq Bundle.tN "UNASSIGNED_STACK" Bundle.steD A s s.heap) (hN : vx_Zq Bundle.tN "SUPPRESSED_SENTINEL" Bundle.listD A s s.heap) (hS : va_S A s.heap H locs) (hsize : ls.size = c.maxLocals)
    (d0 : decode cc pc = .ok (.new ik, 3)) (d3 : decode cc (pc + 3) = .ok (.dup, 1)) (d4 : decode cc (pc + 4) = .ok (.ldc is, 2)) (d6 : decode cc (pc + 6) = .ok (.invokespecial ic, 3)) (d9 : decode cc (pc + 9) = .ok (.athrow, 1))
    (hout : ∀ x ∈ c.exceptionTable.toList, covers x (pc + 9) = false)
    (hRframes : names.length + 3 < R.frames) (hRlocals : (rest.map fun v => v.category).sum + (13 * (names.length + 1) + 43) ≤ R.locals) (hRcells : cells + 1 ≤ R.cells) (hRslots : slots + 6 ≤ R.slots) (hlocks : meth.locks = false)
    (hx : ∀ t : State, s.vm.Alike t.vm → H.size ≤ t.heap.size → (∀ q : Nat, q < H.size → t.heap[q]? = H[q]?) → XC cls s t)
    (hf : ∀ z ∈ locs, free z.base) (hc : cells + 1 ≤ mc) (hs : slots + 6 ≤ ms) :
    W p l e R s m args below meth c H locs cells slots (vx_MQ below Qc XC args s mc ms free) (F0 m pc ls rest) := by
  intro T hT X
  have htr : e.platform.stackTraces = false := (show e.platform.stackTraces = l.stackTraces by rw [X.admits.platform]).trans hl
  have Y := vx_rebase X (R' := { frames := R.frames, locals := R.locals, cells := 1, slots := 6 }) (Nat.le_refl _) (Nat.le_refl _) hRcells hRslots
  obtain ⟨s', hA⟩ : ∃ z, z = (T.setVm s.vm).setFrames (.invoking m args :: below) := ⟨_, rfl⟩
  rw [← hA] at Y
  have hvm : s'.vm = s.vm := by rw [hA]; rfl
  have hhp : s'.heap = H := by rw [hA]; exact hT
  have hW0 : s.WarmedH s'.vm := by rw [hvm]; exact State.WarmedH.refl s
  have hat' : ∀ w ∈ vx_atS own ic cls names, w.before args s' = true := fun w hw => vx_ot_at hW0 hvm.symm (hgood w (List.mem_cons_of_mem _ (List.mem_cons_of_mem _ hw))) (hat w hw)
  have hk' : (Cond.classLink own ik cls).before args s' = true := vx_ot_at hW0 hvm.symm (hgood _ List.mem_cons_self) hk
  have hini' : (Cond.initialized cls).before args s' = true := vx_ot_at hW0 hvm.symm (hgood _ (List.mem_cons_of_mem _ List.mem_cons_self)) hini
  have hU' : vx_Zq Bundle.tN "UNASSIGNED_STACK" Bundle.steD A s' s'.heap := by rw [hhp]; exact vx_Zq.moved hW0.alike (hU.kept hS.2.1)
  have hN' : vx_Zq Bundle.tN "SUPPRESSED_SENTINEL" Bundle.listD A s' s'.heap := by rw [hhp]; exact vx_Zq.moved hW0.alike (hN.kept hS.2.1)
  have h : ∀ w ∈ Bundle.ownAtoms own ic cls names, w.before args s' = true := vx_own hat' (vx_isRefq hU'.1) (vx_isRefq hN'.1) hU'.2.word hN'.2.word
  have hown' : s'.vm.findClass own = some m.cls := by rw [hvm]; exact hown
  have hins : (Cond.instantiable cls 6).before args s' = true := h _ (by simp [Bundle.ownAtoms])
  obtain ⟨vm₁, cX, kX, hfX, hkX, -, -, X₁, st1⟩ := Y.newCold hexec (own := own) (C := cls) (index := ik) (n := 6) hown' hk' hins hini'
    (g := F0 m pc ls rest) rfl (by rw [hb]; exact d0) (Nat.le_refl _) (Nat.le_refl _)
  generalize hT1 : (T.setVm vm₁).pushCell { cls := cX, slots := kX.instanceTypes.map defaultValue, vm := .none } = T1 at X₁ st1
  have hcat : (Value.ref T.heap.size).category = 1 := rfl
  have hcellA : T1.heap[T.heap.size]? = some (freshCell cX kX) := by rw [← hT1]; exact State.heap_pushCell_size _ _
  have d3' : decode c.code (pc + 3) = .ok (.dup, 1) := by rw [hb]; exact d3
  have d4' : decode c.code (pc + 4) = .ok (.ldc is, 2) := by rw [hb]; exact d4
  have hstr' : vk_R own is text sa s' := vk_R.warm hW0 hstr
  obtain ⟨U, hsteps, hrun, hend, hW, hsame, ce, hce, hO⟩ := X₁.ctorThrowS hexec htr (own := own) (cls := cls) (names := names) (ic := ic) hown' hcls hnames h (fun x hx => nomatch hx) hfX hkX hcellA (by rw [hhp, hT]; exact Nat.le_refl _) (msg := .ref sa) rfl
    (g := { method := m, pc := pc + 6, locals := ls, stack := .ref sa :: .ref T.heap.size :: .ref T.heap.size :: rest, locked := none }) rfl hsize rfl rfl (rest := rest) rfl
    (by rw [hb]; exact d6) (by rw [hb]; exact d9) hout hRframes (by simp only [List.map_cons, List.sum_cons, hcat]; omega) hlocks
  obtain ⟨f1, f2⟩ := vx_frame hsame
  rw [hhp] at f1 f2
  have hWs : s.WarmedH U.vm := State.WarmedH.trans hW0 hW
  have hcl : s.vm.findClass cls = some ce.cls := by
    have h9 := hO.cls
    rw [hvm] at h9
    exact h9
  have hall : s.sameButNew ({ U with vm := s.vm } : State) locs mc ms := by
    subst hA
    obtain ⟨e1, e2⟩ := hsame
    rw [State.setFrames_setFrames] at e1
    have h2 : (T.setVm s.vm).sameButNew ({ U with vm := s.vm } : State) [] (0 + 1) (0 + 6) := ⟨e1, e2⟩
    have h3 := X.same.trans h2
    rw [List.append_nil] at h3
    exact h3.mono hc hs
  refine ⟨U, ?_, .threw T.heap.size, hrun, hend, Or.inr ⟨T.heap.size, rfl, cls, ce, locs, hx U hWs.alike f1 (fun q hq => f2 q hq (fun z hz => nomatch hz)), hce, hO.vm, hcl, hWs, hall, hf⟩⟩
  refine st1 _ ?_
  show Steps p.tables e below (T1.setTop { method := m, pc := pc + 3, locals := ls, stack := .ref T.heap.size :: rest, locked := none }) _
  jvm_step X₁.here [X₁.here.top, hexec, d3', Value.category]
  exact X₁.ldcString hexec (own := own) (text := text) (index := is) (a := sa) hown' hstr'.1 hstr'.2
    (g := { method := m, pc := pc + 4, locals := ls, stack := .ref T.heap.size :: .ref T.heap.size :: rest, locked := none }) rfl d4' _ hsteps
/-- 'throw new E("text")', the text by a wide index -/
theorem vx_throwSW {cc : ByteArray} {pc : Nat} (hexec : p.tables.exec = Jvm.exec) (hb : c.code = cc) (hl : l.stackTraces = false) {own cls text : String} {names : List String} {ik is ic mc ms sa : Nat} {A : Nat → Prop}
    (hown : s.vm.findClass own = some m.cls) (hcls : Bundle.fit cls = true) (hnames : ∀ n ∈ names, Bundle.fit n = true)
    (hk : (Cond.classLink own ik cls).before args s = true) (hini : (Cond.initialized cls).before args s = true) (hstr : vk_R own is text sa s) (hat : ∀ w ∈ vx_atS own ic cls names, w.before args s = true)
    (hgood : ∀ w ∈ Cond.classLink own ik cls :: Cond.initialized cls :: vx_atS own ic cls names, vx_ot w = true)
    (hU : vx_Zq Bundle.tN "UNASSIGNED_STACK" Bundle.steD A s s.heap) (hN : vx_Zq Bundle.tN "SUPPRESSED_SENTINEL" Bundle.listD A s s.heap) (hS : va_S A s.heap H locs) (hsize : ls.size = c.maxLocals)
    (d0 : decode cc pc = .ok (.new ik, 3)) (d3 : decode cc (pc + 3) = .ok (.dup, 1)) (d4 : decode cc (pc + 4) = .ok (.ldc_w is, 3)) (d7 : decode cc (pc + 7) = .ok (.invokespecial ic, 3)) (d10 : decode cc (pc + 10) = .ok (.athrow, 1))
    (hout : ∀ x ∈ c.exceptionTable.toList, covers x (pc + 10) = false)
    (hRframes : names.length + 3 < R.frames) (hRlocals : (rest.map fun v => v.category).sum + (13 * (names.length + 1) + 43) ≤ R.locals) (hRcells : cells + 1 ≤ R.cells) (hRslots : slots + 6 ≤ R.slots) (hlocks : meth.locks = false)
    (hx : ∀ t : State, s.vm.Alike t.vm → H.size ≤ t.heap.size → (∀ q : Nat, q < H.size → t.heap[q]? = H[q]?) → XC cls s t)
    (hf : ∀ z ∈ locs, free z.base) (hc : cells + 1 ≤ mc) (hs : slots + 6 ≤ ms) :
    W p l e R s m args below meth c H locs cells slots (vx_MQ below Qc XC args s mc ms free) (F0 m pc ls rest) := by
  intro T hT X
  have htr : e.platform.stackTraces = false := (show e.platform.stackTraces = l.stackTraces by rw [X.admits.platform]).trans hl
  have Y := vx_rebase X (R' := { frames := R.frames, locals := R.locals, cells := 1, slots := 6 }) (Nat.le_refl _) (Nat.le_refl _) hRcells hRslots
  obtain ⟨s', hA⟩ : ∃ z, z = (T.setVm s.vm).setFrames (.invoking m args :: below) := ⟨_, rfl⟩
  rw [← hA] at Y
  have hvm : s'.vm = s.vm := by rw [hA]; rfl
  have hhp : s'.heap = H := by rw [hA]; exact hT
  have hW0 : s.WarmedH s'.vm := by rw [hvm]; exact State.WarmedH.refl s
  have hat' : ∀ w ∈ vx_atS own ic cls names, w.before args s' = true := fun w hw => vx_ot_at hW0 hvm.symm (hgood w (List.mem_cons_of_mem _ (List.mem_cons_of_mem _ hw))) (hat w hw)
  have hk' : (Cond.classLink own ik cls).before args s' = true := vx_ot_at hW0 hvm.symm (hgood _ List.mem_cons_self) hk
  have hini' : (Cond.initialized cls).before args s' = true := vx_ot_at hW0 hvm.symm (hgood _ (List.mem_cons_of_mem _ List.mem_cons_self)) hini
  have hU' : vx_Zq Bundle.tN "UNASSIGNED_STACK" Bundle.steD A s' s'.heap := by rw [hhp]; exact vx_Zq.moved hW0.alike (hU.kept hS.2.1)
  have hN' : vx_Zq Bundle.tN "SUPPRESSED_SENTINEL" Bundle.listD A s' s'.heap := by rw [hhp]; exact vx_Zq.moved hW0.alike (hN.kept hS.2.1)
  have h : ∀ w ∈ Bundle.ownAtoms own ic cls names, w.before args s' = true := vx_own hat' (vx_isRefq hU'.1) (vx_isRefq hN'.1) hU'.2.word hN'.2.word
  have hown' : s'.vm.findClass own = some m.cls := by rw [hvm]; exact hown
  have hins : (Cond.instantiable cls 6).before args s' = true := h _ (by simp [Bundle.ownAtoms])
  obtain ⟨vm₁, cX, kX, hfX, hkX, -, -, X₁, st1⟩ := Y.newCold hexec (own := own) (C := cls) (index := ik) (n := 6) hown' hk' hins hini'
    (g := F0 m pc ls rest) rfl (by rw [hb]; exact d0) (Nat.le_refl _) (Nat.le_refl _)
  generalize hT1 : (T.setVm vm₁).pushCell { cls := cX, slots := kX.instanceTypes.map defaultValue, vm := .none } = T1 at X₁ st1
  have hcat : (Value.ref T.heap.size).category = 1 := rfl
  have hcellA : T1.heap[T.heap.size]? = some (freshCell cX kX) := by rw [← hT1]; exact State.heap_pushCell_size _ _
  have d3' : decode c.code (pc + 3) = .ok (.dup, 1) := by rw [hb]; exact d3
  have d4' : decode c.code (pc + 4) = .ok (.ldc_w is, 3) := by rw [hb]; exact d4
  have hstr' : vk_R own is text sa s' := vk_R.warm hW0 hstr
  obtain ⟨U, hsteps, hrun, hend, hW, hsame, ce, hce, hO⟩ := X₁.ctorThrowS hexec htr (own := own) (cls := cls) (names := names) (ic := ic) hown' hcls hnames h (fun x hx => nomatch hx) hfX hkX hcellA (by rw [hhp, hT]; exact Nat.le_refl _) (msg := .ref sa) rfl
    (g := { method := m, pc := pc + 7, locals := ls, stack := .ref sa :: .ref T.heap.size :: .ref T.heap.size :: rest, locked := none }) rfl hsize rfl rfl (rest := rest) rfl
    (by rw [hb]; exact d7) (by rw [hb]; exact d10) hout hRframes (by simp only [List.map_cons, List.sum_cons, hcat]; omega) hlocks
  obtain ⟨f1, f2⟩ := vx_frame hsame
  rw [hhp] at f1 f2
  have hWs : s.WarmedH U.vm := State.WarmedH.trans hW0 hW
  have hcl : s.vm.findClass cls = some ce.cls := by
    have h9 := hO.cls
    rw [hvm] at h9
    exact h9
  have hall : s.sameButNew ({ U with vm := s.vm } : State) locs mc ms := by
    subst hA
    obtain ⟨e1, e2⟩ := hsame
    rw [State.setFrames_setFrames] at e1
    have h2 : (T.setVm s.vm).sameButNew ({ U with vm := s.vm } : State) [] (0 + 1) (0 + 6) := ⟨e1, e2⟩
    have h3 := X.same.trans h2
    rw [List.append_nil] at h3
    exact h3.mono hc hs
  refine ⟨U, ?_, .threw T.heap.size, hrun, hend, Or.inr ⟨T.heap.size, rfl, cls, ce, locs, hx U hWs.alike f1 (fun q hq => f2 q hq (fun z hz => nomatch hz)), hce, hO.vm, hcl, hWs, hall, hf⟩⟩
  refine st1 _ ?_
  show Steps p.tables e below (T1.setTop { method := m, pc := pc + 3, locals := ls, stack := .ref T.heap.size :: rest, locked := none }) _
  jvm_step X₁.here [X₁.here.top, hexec, d3', Value.category]
  exact X₁.ldcStringW hexec (own := own) (text := text) (index := is) (a := sa) hown' hstr'.1 hstr'.2
    (g := { method := m, pc := pc + 4, locals := ls, stack := .ref T.heap.size :: .ref T.heap.size :: rest, locked := none }) rfl d4' _ hsteps
end Ends
section Bodies
variable {l : Launch}
theorem vx_ofW {y : MethodName} {ws ws' : List Cond} {rm : Room} {Pc : Array Value → State → Prop} {Qc : Array Value → State → Outcome → State → Prop} {XC : String → State → State → Prop} {mc ms : Nat} {free : Addr → Prop} {cc : ByteArray} {maxL : Nat} {ret : Option FieldType}
    (hy : plainName y.cls = true) (hw : ws = Cond.code y cc maxL ret :: ws')
    (body : ∀ p e s m args below meth c s₁, BodyLoose p l y (headSpec ws rm) cc maxL ret e s m args below meth c s₁ → c.maxLocals = maxL → (∀ x ∈ c.exceptionTable.toList, False) → Pc args s →
      W p l e (headSpec ws rm).room s m args below meth c s.heap [] 0 0 (vx_MQ below Qc XC args s mc ms free) (entryFrame m args maxL)) : vx_Met l y ws rm Pc Qc XC mc ms free := by
  refine MetFree.of_bodyS (code := cc) (maxLocals := maxL) (ret := ret) hy ?_ ?_
  · intro args s m h hn
    obtain ⟨meth, c, h1, h2, h3, h4, h5, h6, -, -⟩ := Cond.code_spec hn (atoms_spec (ws := ws) h _ (by rw [hw]; exact List.mem_cons_self))
    exact ⟨meth, c, h1, h2, h3, h4, h5, h6⟩
  · intro p e s m args below meth c s₁ B hml hP _
    have hh0 : s₁.heap = s.heap := by rw [B.state]; rfl
    have ht : ∀ x ∈ c.exceptionTable.toList, False := by
      obtain ⟨meth9, c9, h1, h2, -, -, -, -, h7, -⟩ := Cond.code_spec B.named (atoms_spec (ws := ws) B.pre _ (by rw [hw]; exact List.mem_cons_self))
      cases Option.some.inj (h1.symm.trans B.method)
      cases Option.some.inj (h2.symm.trans (Stand.of_body B).code)
      intro x hx
      rw [Array.isEmpty_iff.mp h7] at hx
      cases hx
    obtain ⟨t, a1, o, b1, b2, b3⟩ := body p e s m args below meth c s₁ B hml ht hP s₁ hh0 (Stand.of_body B)
    exact ⟨t, o, a1, b1, b2, b3⟩
/-- the table of a body with handlers -/
theorem vx_table {p : Program} {x y : MethodName} {S : Spec} {cc bytes : ByteArray} {maxL maxL' : Nat} {ret ret' : Option FieldType} {e : Env} {s s₁ : State} {m : MethodId} {args : Array Value} {below : List Frame} {meth : Method} {c : Code} {hh : List (Nat × Nat × Nat × Nat)}
    (B : BodyLoose p l y S cc maxL ret e s m args below meth c s₁) (h : (Cond.codeWith y bytes maxL' ret' hh).before args s = true) : c.exceptionTable.toList = tableOf hh := by
  obtain ⟨m9, meth9, c9, hn9, h1, h2, -, -, h6, -⟩ := Cond.codeWith_spec h
  cases Option.some.inj (hn9.symm.trans B.named)
  cases Option.some.inj (h1.symm.trans B.method)
  cases Option.some.inj (h2.symm.trans (Stand.of_body B).code)
  rw [← h6, table_eq]
end Bodies
end VXA
/-! ===== END ===== -/
/-! ===== BEGIN a static call of a method with an exception table ===== -/
section VXS
variable {p : Program} {l : Launch} {e : Env} {R : Room} {s : State} {m : MethodId} {args : Array Value} {below : List Frame} {meth : Method} {c : Code} {T : State} {H : Heap} {locs : List Loc} {cells slots : Nat}
abbrev vx_CSW (R : Room) (s : State) (args : Array Value) (own : String) (index : Nat) (y : MethodName) (bytes : ByteArray) (maxL : Nat) (ret : Option FieldType) (hh : List (Nat × Nat × Nat × Nat)) (ws : List Cond) (rm : Room) (mc ms n : Nat) : Prop :=
  (rm.cells = mc ∧ rm.slots = ms ∧ rm.frames + 1 ≤ R.frames ∧ 8 + (maxL + 11) + rm.locals ≤ R.locals ∧ (∀ w ∈ ws, ∀ (a' : Array Value) (U : State), s.WarmedH U.vm → w.before a' U = true) ∧ Cond.codeWith y bytes maxL ret hh ∈ ws) ∧
  (Cond.codeWith y bytes maxL ret hh).before args s = true ∧ (Cond.initialized y.cls).before args s = true ∧ (y.cls ≠ "java/lang/invoke/MethodHandle" ∧ y.cls ≠ "java/lang/invoke/VarHandle") ∧
  (∀ sig, parseMethodDescriptor y.desc = some sig → n = sig.parameters.length) ∧ (Cond.methodLink own index y).before args s = true ∧ (Cond.static y).before args s = true
theorem vx_cwSW {own : String} {index maxL mc ms : Nat} {y : MethodName} {bytes : ByteArray} {ret : Option FieldType} {hh : List (Nat × Nat × Nat × Nat)} {Ts ws ws' : List Cond} {rm : Room} (n : Nat) (ht : ∀ w ∈ Ts, w.before args s = true) (hT : GoodIn Ts (va_wsS own index y ws)) (hw : ws = Cond.codeWith y bytes maxL ret hh :: ws') (hrc : rm.cells = mc) (hrs : rm.slots = ms)
    (hd : y.cls ≠ "java/lang/invoke/MethodHandle" ∧ y.cls ≠ "java/lang/invoke/VarHandle" ∧ (parseMethodDescriptor y.desc).map (fun d => d.parameters.length) = some n) (hR : rm.frames + 1 ≤ R.frames ∧ 8 + (maxL + 11) + rm.locals ≤ R.locals) :
    vx_CSW R s args own index y bytes maxL ret hh ws rm mc ms n := by
  have ok : ∀ w ∈ va_wsS own index y ws, w.before args s = true := fun w h => ht w (hT w h).1
  have hG : GoodIn Ts ws := fun w h => hT w (by unfold va_wsS; exact List.mem_append_right _ h)
  have hc : Cond.codeWith y bytes maxL ret hh ∈ ws := by rw [hw]; exact List.mem_cons_self
  refine ⟨⟨hrc, hrs, hR.1, hR.2, pay_in ht hG, hc⟩, ht _ (hG _ hc).1, ok _ (by simp [va_wsS]), ⟨hd.1, hd.2.1⟩, fun sig h => ?_, ok _ (by simp [va_wsS]), ok _ (by simp [va_wsS])⟩
  have h2 := hd.2.2
  rw [h] at h2
  exact (Option.some.inj h2).symm
theorem vx_callSW (X : Stand p l e R s m args below meth c T locs cells slots) (hexec : p.tables.exec = Jvm.exec) {own : String} {index : Nat} {y : MethodName} {bytes : ByteArray} {maxL : Nat} {ret : Option FieldType} {hh : List (Nat × Nat × Nat × Nat)}
    (hown : s.vm.findClass own = some m.cls) (hlink : (Cond.methodLink own index y).before args s = true) (hstat : (Cond.static y).before args s = true) (hinit : (Cond.initialized y.cls).before args s = true)
    (hcode : (Cond.codeWith y bytes maxL ret hh).before args s = true) (hy : y.cls ≠ "java/lang/invoke/MethodHandle" ∧ y.cls ≠ "java/lang/invoke/VarHandle")
    {W9 : Nat} {Pre : Pt → Array Value → Prop} {Post : Pt → Array Value → Option Value → Pt → Prop} (hK : Back l R p e below s args y 3 W9 Pre Post)
    {g : JFrame} (hg : g.method = m) (hsize : g.locals.size = c.maxLocals) {argsL rest : List Value} (hlen : ∀ sig, parseMethodDescriptor y.desc = some sig → argsL.length = sig.parameters.length)
    (hstack : g.stack = argsL.reverse ++ rest) (hW : 2 * g.monitorRoom + (rest.map fun v => v.category).sum ≤ W9) (hdg : decode c.code g.pc = .ok (.invokestatic index, 3))
    (hpre : ∀ vm₁, s.WarmedH vm₁ → Pre ⟨T.setVm vm₁, locs, cells, slots⟩ argsL.toArray) :
    ∃ (v : Option Value) (vm₁ : Vm) (B : Pt), s.WarmedH vm₁ ∧ Stand p l e R s m args below meth c B.U B.locs B.cells B.slots ∧ Post ⟨T.setVm vm₁, locs, cells, slots⟩ argsL.toArray v B ∧
      ∀ target, Steps p.tables e below (B.U.setTop { g with pc := g.pc + 3, stack := v.toList ++ rest }) target → Steps p.tables e below (T.setTop g) target := by
  obtain ⟨mk, methM, cM, hnamed, hmethM, -, -, -, -, -, -, hsigM⟩ := Cond.codeWith_spec hcode
  have hstatic : methM.isStatic = true := Cond.static_spec hnamed hmethM hstat
  obtain ⟨kP, hkP, -⟩ := className_of_methodNamed hnamed
  have hinitP : kP.init = .initialized := Cond.initialized_spec (findClass_of_methodNamed hnamed) hkP hinit
  obtain ⟨vm₁, X₁, hstep₁⟩ := X.invokestatic hexec hown hlink hnamed hmethM hstatic hkP hinitP hy (g := g) hg (argsL := argsL) (rest := rest) (hlen _ hsigM) hstack hdg
  obtain ⟨v, B, X', hpost, hsteps⟩ := hK m meth c ⟨T.setVm vm₁, locs, cells, slots⟩ { g with stack := rest } (.invokestatic index) mk argsL.toArray X₁ hg hsize hdg hW (X₁.named hnamed) (hpre vm₁ X₁.warmed)
  exact ⟨v, vm₁, B, X₁.warmed, X', hpost, fun target h => hstep₁ _ fun acts => by rw [doInvoke_state]; exact hsteps.trans h⟩
theorem vx_runSW {y : MethodName} {bytes cc : ByteArray} {maxL nL mc ms n index : Nat} {ret : Option FieldType} {hh : List (Nat × Nat × Nat × Nat)} {ws : List Cond} {rm : Room} {Pc : Array Value → State → Prop} {Qc : Array Value → State → Outcome → State → Prop} {free : Addr → Prop} {Ts : List Cond} {own : String} {As rest : List Value} {g : JFrame}
    (S : CallFix p m c cc nL s args Ts own) (hM : Met l y ws rm Pc Qc mc ms free) (cw : vx_CSW R s args own index y bytes maxL ret hh ws rm mc ms n) (hp : PreS s H Pc As)
    (hg : g.method = m) (hn : As.length = n) (hsize : g.locals.size = nL) (hstack : g.stack = As.reverse ++ rest) (hW : 2 * g.monitorRoom + (rest.map fun v => v.category).sum ≤ 8) (hdg : decode cc g.pc = .ok (.invokestatic index, 3)) (hf : cells + mc ≤ R.cells ∧ slots + ms ≤ R.slots) :
    va_Run p l e R s m args below meth c H locs cells slots mc ms g rest (Qc As.toArray) (free) := by
  obtain ⟨⟨hrc, hrs, hfr, hlo, hws, hcw⟩, hcode, hini, hy, hlen, hl, hstt⟩ := cw
  have hK : Back l R p e below s args y 3 8 (PreOf R mc ms Pc) (PostOf Qc mc ms free) := va_backW (hh := hh) (bytes := bytes) (maxL := maxL) (ret := ret) hM hp.1 hrc hrs hfr hlo hws hcw (fun a' U hW => word_at hW (Or.inl (by first | rfl | simp [Cond.onTables, Cond.keeps, Cond.steady])) hini)
  obtain ⟨hx, hb, hml, ho, -⟩ := S
  intro T hT X
  obtain ⟨v, vm₁, ⟨U', l2, c2, s2⟩, hW₁, X', ⟨g', mk, t, L, e1, e2, hq, h1, hL, h2, h3⟩, st⟩ := vx_callSW X hx (hh := hh) (bytes := bytes) (maxL := maxL) (ret := ret) ho hl hstt hini hcode hy hK hg (hsize.trans hml.symm) (argsL := As) (rest := rest) (fun sig h => hn.trans (hlen sig h)) hstack hW (by rw [hb]; exact hdg)
    (fun vm₁ hW₁ => ⟨hf.1, hf.2, hp.2 (T.setVm vm₁) hT hW₁⟩)
  dsimp only [Pt.U, Pt.locs, Pt.cells, Pt.slots] at X' e1 e2 h1 h2 h3 st
  subst h1; subst h2; subst h3
  exact ⟨v, (T.setVm vm₁).calling g' mk As.toArray, t, U', L, hT, X', hL, e1, e2, hq, st⟩
/-- not caught here, past rows that name other classes: it goes on to the caller -/
theorem vx_outP {p : Program} {l : Launch} {e : Env} {R : Room} {s : State} {m : MethodId} {args : Array Value} {below : List Frame} {meth : Method} {c : Code} {H : Heap} {locs : List Loc} {cells slots : Nat} {free : Addr → Prop} {ls : Array Slot} {rest : List Value} {Qc : Array Value → State → Outcome → State → Prop} {XC : String → State → State → Prop}
    {pc : Nat} {own E : String} {ce : Cell} {q : Addr} {mc ms : Nat} (hown : s.vm.findClass own = some m.cls) (hlocks : meth.locks = false)
    (hpass : ∀ z ∈ c.exceptionTable.toList, covers z pc = false ∨ (z.catchType ≠ 0 ∧ ∃ nm : String, (Cond.classLink own z.catchType nm).before args s = true ∧ va_Nc E nm s)) (hcell : H[q]? = some ce) (hv : ce.vm = .none) (hcl : s.vm.findClass E = some ce.cls)
    (hx : ∀ t : State, t.heap = H → s.vm.Alike t.vm → XC E s t) (hf : ∀ z ∈ locs, free z.base) (hc : cells ≤ mc) (hs : slots ≤ ms) :
    vx_W p l e R s m args below meth c H locs cells slots (vx_MQ below Qc XC args s mc ms free) (F0 m pc ls rest) q := by
  intro T hT X
  have hpl : e.platform.magicAccessors = ({} : Platform).magicAccessors := by rw [X.admits.platform]
  obtain ⟨vm', hW', X', st⟩ := X.outThrough hlocks q (g := F0 m pc ls rest) rfl rfl rfl (cell := ce) (by rw [hT]; exact hcell) (by rw [hv]; rfl)
    (by obtain ⟨k9, h9, -⟩ := Vm.findClass_spec hcl; exact ⟨k9, h9⟩) (fun z hz => by
      rcases hpass z hz with h | ⟨hz0, nm, hl1, hn1⟩
      · exact Or.inl h
      · obtain ⟨c6, hc6, hcl6⟩ := Cond.classLink_spec hown hl1 e.platform hpl
        obtain ⟨a8, b8, h1, h2, h3⟩ := hn1
        cases Option.some.inj (h1.symm.trans hcl)
        cases Option.some.inj (h2.symm.trans hc6)
        exact Or.inr ⟨hz0, _, hcl6, h3⟩)
  obtain ⟨g₀, hfr⟩ := X'.frames_eq
  have hcell9 : ((T.setVm vm').setFrames (.throwing q :: below)).heap[q]? = some ce := by
    show T.heap[q]? = some ce
    rw [hT]; exact hcell
  have hend : Ended ((T.setVm vm').setFrames (.throwing q :: below)) below (.threw q) := State.frames_setFrames _ (State.cur_lt_of_frames hfr)
  refine ⟨(T.setVm vm').setFrames (.throwing q :: below), ?_, .threw q, X'.here.running, hend, Or.inr ⟨q, rfl, E, ce, locs, hx _ hT (X'.ends _).1.alike, hcell9, hv, hcl, (X'.ends _).1, (X'.ends _).2.mono hc hs, hf⟩⟩
  rw [X.pushThrowing_eq]
  exact st
/-- a thing of a world lies in the heap -/
theorem vx_lt {D : va_G} {cl : List vw_C} {ws : va_W} {H1 : Heap} (h : va_P D cl ws H1) {k : Nat} {q : Nat × va_E} (hk : ws[k]? = some q) : q.1 < H1.size := (h k q hk).lt
end VXS
/-! ===== END ===== -/
/-! ===== BEGIN methods with a table of their own: called by a name, returning or throwing ===== -/
section VXH
/-! vx_backW, vx_callVX, vx_callSX, vx_callVW, vx_runVW, vx_runVX, vx_runSX, vx_ofWH follow the same proofs as their sisters above (Free/Laws.lean, Shelf42/LK1.lean); vx_outP calls Shelf42/NT130.lean (outThrough). -/
section
variable {l : Launch} {R : Room} {p : Program} {e : Env} {below : List Frame} {s : State} {sargs : Array Value} {y : MethodName} {len W9 : Nat}
theorem vx_backW {ws : List Cond} {rm : Room} {Pc : Array Value → State → Prop} {Qc : Array Value → State → Outcome → State → Prop} {XC : String → State → State → Prop} {mc ms : Nat} {free : Addr → Prop} {bytes : ByteArray} {maxL : Nat} {ret : Option FieldType} {hh : List (Nat × Nat × Nat × Nat)}
    (hM : vx_Met l y ws rm Pc Qc XC mc ms free) (hblind : FrameBlind Pc) (hrc : rm.cells = mc) (hrs : rm.slots = ms)
    (hframes : rm.frames + 1 ≤ R.frames) (hlocals : W9 + (maxL + 11) + rm.locals ≤ R.locals)
    (hws : ∀ w ∈ ws, ∀ a' U, s.WarmedH U.vm → w.before a' U = true) (hcode : Cond.codeWith y bytes maxL ret hh ∈ ws) (hinit : ∀ a' U, s.WarmedH U.vm → (Cond.initialized y.cls).before a' U = true) :
    vx_Back l R p e below s sargs y len W9 (PreOf R mc ms Pc) (PostOf Qc mc ms free) (vx_Post XC mc ms free) := by
  intro m meth c A g ig mk a X hg hsize hdg hW hn hp
  have h1 : (headSpec ws rm).pre.before a A.U = true := atoms_intro fun w hw => hws w hw _ _ X.warmed
  have h2 : (Cond.codeWith y bytes maxL ret hh).before a A.U = true := hws _ hcode _ _ X.warmed
  have h3 : (Cond.initialized y.cls).before a A.U = true := hinit _ _ X.warmed
  have h4 : A.cells + (headSpec ws rm).room.cells ≤ R.cells := by rw [show (headSpec ws rm).room.cells = mc from hrc]; exact hp.1
  have h5 : A.slots + (headSpec ws rm).room.slots ≤ R.slots := by rw [show (headSpec ws rm).room.slots = ms from hrs]; exact hp.2.1
  have hPc : Pc a (A.U.calling g mk a) := hblind _ _ _ _ hp.2.2
  obtain ⟨U, Ls, c0, s0⟩ := A
  dsimp only [Pt.U, Pt.locs, Pt.cells, Pt.slots] at h1 h2 h3 h4 h5 X hn hPc ⊢
  obtain ⟨m9, methY, cY, hn9, hmY, hcY, -, hlY, -⟩ := Cond.codeWith_spec h2
  cases Option.some.inj (hn9.symm.trans hn)
  obtain ⟨kY, hkY, -⟩ := className_of_methodNamed hn
  have hinitY : kY.init = .initialized := Cond.initialized_spec (findClass_of_methodNamed hn) hkY h3
  have h : At U g.method c below := by rw [hg]; exact X.here
  have hlocals9 : W9 + (maxL + 11) + (headSpec ws rm).room.locals ≤ R.locals := hlocals
  have happ : (headSpec ws rm).appliesLoose y e.platform (U.calling g mk a) = true :=
    Spec.appliesLoose_calling (g := g) h hdg hn hkY hinitY
      (X.room_calling (g := g) (R' := (headSpec ws rm).room) hsize hmY hcY hframes (by rw [hlY]; omega) h4 h5) h1
  obtain ⟨mid, hmid⟩ := h.above
  have hfr : (U.setTop g).frames = (.java g :: mid) ++ below := by rw [State.frames_setTop' g h.top, hmid]; rfl
  obtain ⟨o, s₂, hsteps, -, hend, hq⟩ := Steps.callFree hM p X.admits X.cas X.clock (acts := []) hfr happ hPc trivial
  have hq' : vx_Q Qc XC mc ms free a (U.calling g mk a) o s₂ := hq
  rw [State.frames_setTop' g h.top] at hend
  obtain ⟨g₀, hg0⟩ := Option.isSome_iff_exists.mp h.top
  obtain ⟨r, hr⟩ := State.topJava?_eq_some.mp hg0
  have hr' : (({ U with heap := s₂.heap, slotsUsed := s₂.slotsUsed } : State).setVm s₂.vm).frames = .java g₀ :: r := hr
  rcases hq' with ⟨hqc, L, hfe, hL⟩ | ⟨q, rfl, E, ce, L, hx, hce, hcv, hcl, hW₂, hsm, hL⟩
  · obtain ⟨⟨v, rfl⟩, hW₂, e2, q2, q3, q4, q5, q6⟩ := id hfe
    have e3 : s₂ = ({ (U.calling g mk a).setFrames s₂.frames with heap := s₂.heap, slotsUsed := s₂.slotsUsed } : State).setVm s₂.vm := by
      have : s₂ = ({ s₂ with vm := (U.calling g mk a).vm } : State).setVm s₂.vm := rfl
      rw [e2] at this
      exact this
    obtain ⟨c₂, i₂, len₂, hc₂, hd₂, hf₂⟩ := hend
    have hW' : U.WarmedH s₂.vm := hW₂
    have hcc : c₂ = c := by
      have h1 : s₂.code? g.method = U.code? g.method := by
        rw [State.code?_eq, State.code?_eq, hW'.alike.method?]
      exact Option.some.inj (hc₂.symm.trans (h1.trans h.code))
    subst hcc
    have hlen : len₂ = len := by rw [hdg] at hd₂; cases hd₂; rfl
    subst hlen
    have hs₂ : s₂ = (({ U with heap := s₂.heap, slotsUsed := s₂.slotsUsed } : State).setVm s₂.vm).setTop { g with pc := g.pc + len₂, stack := v.toList ++ g.stack } := by
      refine e3.trans ?_
      rw [hf₂, State.calling_eq h.top, State.setFrames_setFrames, State.setTop_of_frames _ hr', hr]
      rfl
    have hsame : U.sameButNew ({ U with heap := s₂.heap, slotsUsed := s₂.slotsUsed } : State) L mc ms := by
      refine ⟨?_, q2, q3, q4, q5, q6⟩
      obtain ⟨t, ht, -⟩ := State.frames_cons hr
      show ({ U with heap := s₂.heap, slotsUsed := s₂.slotsUsed } : State) = { U.setFrames U.frames with heap := s₂.heap, slotsUsed := s₂.slotsUsed }
      rw [State.setFrames_self ht]
    subst hg
    refine Or.inl ⟨v, ⟨(({ U with heap := s₂.heap, slotsUsed := s₂.slotsUsed } : State).setVm s₂.vm), Ls ++ L, c0 + mc, s0 + ms⟩,
      ⟨X.admits, X.cas, X.clock, X.frames, X.room, X.hears, X.method, X.code, (X.here.setHeapUsed s₂.heap s₂.slotsUsed).setVm hW'.alike, X.tail, State.WarmedH.trans X.warmed hW', X.limits, X.bytes, X.same.trans (hsame.setVm s.vm)⟩,
      ⟨g, mk, s₂, L, rfl, rfl, hqc, rfl, hL, rfl, rfl⟩, ?_⟩
    show Steps p.tables e below _ ((({ U with heap := s₂.heap, slotsUsed := s₂.slotsUsed } : State).setVm s₂.vm).setTop { g with pc := g.pc + len₂, stack := v.toList ++ g.stack })
    rw [← hs₂]
    exact hsteps
  · obtain ⟨e2, q2, q3, q4, q5, q6⟩ := id hsm
    have e3 : s₂ = ({ (U.calling g mk a).setFrames s₂.frames with heap := s₂.heap, slotsUsed := s₂.slotsUsed } : State).setVm s₂.vm := by
      have : s₂ = ({ s₂ with vm := (U.calling g mk a).vm } : State).setVm s₂.vm := rfl
      rw [e2] at this
      exact this
    have hf₂ : s₂.frames = .throwing q :: .java g :: U.frames.tail := hend
    have hW' : U.WarmedH s₂.vm := hW₂
    have hs₂ : s₂ = ((({ U with heap := s₂.heap, slotsUsed := s₂.slotsUsed } : State).setVm s₂.vm).setTop g).pushFrame (.throwing q) := by
      refine e3.trans ?_
      rw [hf₂, State.calling_eq h.top, State.setFrames_setFrames, State.pushFrame, State.frames_setTop _ hr', State.setTop_of_frames _ hr', State.setFrames_setFrames, hr]
      rfl
    have hsame : U.sameButNew ({ U with heap := s₂.heap, slotsUsed := s₂.slotsUsed } : State) L mc ms := by
      refine ⟨?_, q2, q3, q4, q5, q6⟩
      obtain ⟨t, ht, -⟩ := State.frames_cons hr
      show ({ U with heap := s₂.heap, slotsUsed := s₂.slotsUsed } : State) = { U.setFrames U.frames with heap := s₂.heap, slotsUsed := s₂.slotsUsed }
      rw [State.setFrames_self ht]
    subst hg
    refine Or.inr ⟨q, ⟨(({ U with heap := s₂.heap, slotsUsed := s₂.slotsUsed } : State).setVm s₂.vm), Ls ++ L, c0 + mc, s0 + ms⟩,
      ⟨X.admits, X.cas, X.clock, X.frames, X.room, X.hears, X.method, X.code, (X.here.setHeapUsed s₂.heap s₂.slotsUsed).setVm hW'.alike, X.tail, State.WarmedH.trans X.warmed hW', X.limits, X.bytes, X.same.trans (hsame.setVm s.vm)⟩,
      ⟨g, mk, s₂, L, E, ce, rfl, rfl, hx, hce, hcv, hcl, rfl, hL, rfl, rfl⟩, ?_⟩
    show Steps p.tables e below _ (((({ U with heap := s₂.heap, slotsUsed := s₂.slotsUsed } : State).setVm s₂.vm).setTop g).pushFrame (.throwing q))
    rw [← hs₂]
    exact hsteps
end
variable {p : Program} {l : Launch} {e : Env} {R : Room} {s : State} {m : MethodId} {args : Array Value} {below : List Frame} {meth : Method} {c : Code} {T : State} {H : Heap} {locs : List Loc} {cells slots : Nat}
theorem vx_callVX (X : Stand p l e R s m args below meth c T locs cells slots) (hexec : p.tables.exec = Jvm.exec) {own C : String} {index : Nat} {y : MethodName} {bytes : ByteArray} {maxL : Nat} {ret : Option FieldType} {hh : List (Nat × Nat × Nat × Nat)}
    (hown : s.vm.findClass own = some m.cls) (hlink : (Cond.methodLink own index y).before args s = true) (hinst : (Cond.instanceMethod y).before args s = true) (hsel : (Cond.selects C y y).before args s = true)
    (hcode : (Cond.codeWith y bytes maxL ret hh).before args s = true) (hy : y.cls ≠ "java/lang/invoke/MethodHandle" ∧ y.cls ≠ "java/lang/invoke/VarHandle")
    {W9 : Nat} {Pre : Pt → Array Value → Prop} {Post : Pt → Array Value → Option Value → Pt → Prop} {PostX : Pt → Array Value → Addr → Pt → Prop} (hK : vx_Back l R p e below s args y 3 W9 Pre Post PostX)
    {b : Addr} {cellB : Cell} (hcell : T.heap[b]? = some cellB) (hobj : cellB.vm.isStatics = false) (hcls : s.vm.findClass C = some cellB.cls)
    {g : JFrame} (hg : g.method = m) (hsize : g.locals.size = c.maxLocals) {argsL rest : List Value} (hlen : ∀ sig, parseMethodDescriptor y.desc = some sig → argsL.length = sig.parameters.length)
    (hstack : g.stack = argsL.reverse ++ .ref b :: rest) (hW : 2 * g.monitorRoom + (rest.map fun v => v.category).sum ≤ W9) (hdg : decode c.code g.pc = .ok (.invokevirtual index, 3))
    (hpre : ∀ vm₁, s.WarmedH vm₁ → Pre ⟨T.setVm vm₁, locs, cells, slots⟩ (Value.ref b :: argsL).toArray) :
    (∃ (v : Option Value) (vm₁ : Vm) (B : Pt), s.WarmedH vm₁ ∧ Stand p l e R s m args below meth c B.U B.locs B.cells B.slots ∧ Post ⟨T.setVm vm₁, locs, cells, slots⟩ (Value.ref b :: argsL).toArray v B ∧
      ∀ target, Steps p.tables e below (B.U.setTop { g with pc := g.pc + 3, stack := v.toList ++ rest }) target → Steps p.tables e below (T.setTop g) target) ∨
    (∃ (q : Addr) (vm₁ : Vm) (B : Pt), s.WarmedH vm₁ ∧ Stand p l e R s m args below meth c B.U B.locs B.cells B.slots ∧ PostX ⟨T.setVm vm₁, locs, cells, slots⟩ (Value.ref b :: argsL).toArray q B ∧
      Steps p.tables e below (T.setTop g) ((B.U.setTop { g with stack := rest }).pushFrame (.throwing q))) := by
  obtain ⟨mk, methM, hnamed, hmethM, hstM, habM⟩ := Cond.instanceMethod_spec hinst
  obtain ⟨m8, methM', cM, hn8, hmethM', -, -, -, -, -, -, hsigM⟩ := Cond.codeWith_spec hcode
  cases Option.some.inj (hn8.symm.trans hnamed)
  cases hmethM.symm.trans hmethM'
  obtain ⟨c2, r2, m2, q1, q2, q3, q4, kP, hkP, hkPi⟩ := Cond.selects_spec hsel
  cases hcls.symm.trans q1
  cases (State.methodFound?_of_named hnamed hy).symm.trans q2
  cases hnamed.symm.trans q3
  have hselP : selectMethod e.platform s.vm cellB.cls mk = .method mk := by rw [Launch.admits_selectMethod X.admits]; exact q4
  obtain ⟨vm₁, X₁, hstep₁⟩ := X.invokevirtual hexec hown hlink hnamed hmethM hstM hkP hkPi hy (a := b) (cell := cellB) hcell
    (fun z h => by rw [h] at hobj; cases hobj) hselP hmethM habM hkP hkPi (g := g) hg (argsL := argsL) (rest := rest) (hlen _ hsigM) hstack hdg
  rcases hK m meth c ⟨T.setVm vm₁, locs, cells, slots⟩ { g with stack := rest } (.invokevirtual index) mk (Value.ref b :: argsL).toArray X₁ hg hsize hdg hW (X₁.named hnamed) (hpre vm₁ X₁.warmed) with ⟨v, B, X', hpost, hsteps⟩ | ⟨q, B, X', hpost, hsteps⟩
  · exact Or.inl ⟨v, vm₁, B, X₁.warmed, X', hpost, fun target h => hstep₁ _ fun acts => by rw [doInvoke_state]; exact hsteps.trans h⟩
  · exact Or.inr ⟨q, vm₁, B, X₁.warmed, X', hpost, hstep₁ _ fun acts => by rw [doInvoke_state]; exact hsteps⟩
theorem vx_callSX (X : Stand p l e R s m args below meth c T locs cells slots) (hexec : p.tables.exec = Jvm.exec) {own : String} {index : Nat} {y : MethodName} {bytes : ByteArray} {maxL : Nat} {ret : Option FieldType} {hh : List (Nat × Nat × Nat × Nat)}
    (hown : s.vm.findClass own = some m.cls) (hlink : (Cond.methodLink own index y).before args s = true) (hstat : (Cond.static y).before args s = true) (hinit : (Cond.initialized y.cls).before args s = true)
    (hcode : (Cond.codeWith y bytes maxL ret hh).before args s = true) (hy : y.cls ≠ "java/lang/invoke/MethodHandle" ∧ y.cls ≠ "java/lang/invoke/VarHandle")
    {W9 : Nat} {Pre : Pt → Array Value → Prop} {Post : Pt → Array Value → Option Value → Pt → Prop} {PostX : Pt → Array Value → Addr → Pt → Prop} (hK : vx_Back l R p e below s args y 3 W9 Pre Post PostX)
    {g : JFrame} (hg : g.method = m) (hsize : g.locals.size = c.maxLocals) {argsL rest : List Value} (hlen : ∀ sig, parseMethodDescriptor y.desc = some sig → argsL.length = sig.parameters.length)
    (hstack : g.stack = argsL.reverse ++ rest) (hW : 2 * g.monitorRoom + (rest.map fun v => v.category).sum ≤ W9) (hdg : decode c.code g.pc = .ok (.invokestatic index, 3))
    (hpre : ∀ vm₁, s.WarmedH vm₁ → Pre ⟨T.setVm vm₁, locs, cells, slots⟩ argsL.toArray) :
    (∃ (v : Option Value) (vm₁ : Vm) (B : Pt), s.WarmedH vm₁ ∧ Stand p l e R s m args below meth c B.U B.locs B.cells B.slots ∧ Post ⟨T.setVm vm₁, locs, cells, slots⟩ argsL.toArray v B ∧
      ∀ target, Steps p.tables e below (B.U.setTop { g with pc := g.pc + 3, stack := v.toList ++ rest }) target → Steps p.tables e below (T.setTop g) target) ∨
    (∃ (q : Addr) (vm₁ : Vm) (B : Pt), s.WarmedH vm₁ ∧ Stand p l e R s m args below meth c B.U B.locs B.cells B.slots ∧ PostX ⟨T.setVm vm₁, locs, cells, slots⟩ argsL.toArray q B ∧
      Steps p.tables e below (T.setTop g) ((B.U.setTop { g with stack := rest }).pushFrame (.throwing q))) := by
  obtain ⟨mk, methM, cM, hnamed, hmethM, -, -, -, -, -, -, hsigM⟩ := Cond.codeWith_spec hcode
  have hstatic : methM.isStatic = true := Cond.static_spec hnamed hmethM hstat
  obtain ⟨kP, hkP, -⟩ := className_of_methodNamed hnamed
  have hinitP : kP.init = .initialized := Cond.initialized_spec (findClass_of_methodNamed hnamed) hkP hinit
  obtain ⟨vm₁, X₁, hstep₁⟩ := X.invokestatic hexec hown hlink hnamed hmethM hstatic hkP hinitP hy (g := g) hg (argsL := argsL) (rest := rest) (hlen _ hsigM) hstack hdg
  rcases hK m meth c ⟨T.setVm vm₁, locs, cells, slots⟩ { g with stack := rest } (.invokestatic index) mk argsL.toArray X₁ hg hsize hdg hW (X₁.named hnamed) (hpre vm₁ X₁.warmed) with ⟨v, B, X', hpost, hsteps⟩ | ⟨q, B, X', hpost, hsteps⟩
  · exact Or.inl ⟨v, vm₁, B, X₁.warmed, X', hpost, fun target h => hstep₁ _ fun acts => by rw [doInvoke_state]; exact hsteps.trans h⟩
  · exact Or.inr ⟨q, vm₁, B, X₁.warmed, X', hpost, hstep₁ _ fun acts => by rw [doInvoke_state]; exact hsteps⟩
theorem vx_callVW (X : Stand p l e R s m args below meth c T locs cells slots) (hexec : p.tables.exec = Jvm.exec) {own C : String} {index : Nat} {y : MethodName} {bytes : ByteArray} {maxL : Nat} {ret : Option FieldType} {hh : List (Nat × Nat × Nat × Nat)}
    (hown : s.vm.findClass own = some m.cls) (hlink : (Cond.methodLink own index y).before args s = true) (hinst : (Cond.instanceMethod y).before args s = true) (hsel : (Cond.selects C y y).before args s = true)
    (hcode : (Cond.codeWith y bytes maxL ret hh).before args s = true) (hy : y.cls ≠ "java/lang/invoke/MethodHandle" ∧ y.cls ≠ "java/lang/invoke/VarHandle")
    {W9 : Nat} {Pre : Pt → Array Value → Prop} {Post : Pt → Array Value → Option Value → Pt → Prop} (hK : Back l R p e below s args y 3 W9 Pre Post)
    {b : Addr} {cellB : Cell} (hcell : T.heap[b]? = some cellB) (hobj : cellB.vm.isStatics = false) (hcls : s.vm.findClass C = some cellB.cls)
    {g : JFrame} (hg : g.method = m) (hsize : g.locals.size = c.maxLocals) {argsL rest : List Value} (hlen : ∀ sig, parseMethodDescriptor y.desc = some sig → argsL.length = sig.parameters.length)
    (hstack : g.stack = argsL.reverse ++ .ref b :: rest) (hW : 2 * g.monitorRoom + (rest.map fun v => v.category).sum ≤ W9) (hdg : decode c.code g.pc = .ok (.invokevirtual index, 3))
    (hpre : ∀ vm₁, s.WarmedH vm₁ → Pre ⟨T.setVm vm₁, locs, cells, slots⟩ (Value.ref b :: argsL).toArray) :
    ∃ (v : Option Value) (vm₁ : Vm) (B : Pt), s.WarmedH vm₁ ∧ Stand p l e R s m args below meth c B.U B.locs B.cells B.slots ∧ Post ⟨T.setVm vm₁, locs, cells, slots⟩ (Value.ref b :: argsL).toArray v B ∧
      ∀ target, Steps p.tables e below (B.U.setTop { g with pc := g.pc + 3, stack := v.toList ++ rest }) target → Steps p.tables e below (T.setTop g) target := by
  obtain ⟨mk, methM, hnamed, hmethM, hstM, habM⟩ := Cond.instanceMethod_spec hinst
  obtain ⟨m8, methM', cM, hn8, hmethM', -, -, -, -, -, -, hsigM⟩ := Cond.codeWith_spec hcode
  cases Option.some.inj (hn8.symm.trans hnamed)
  cases hmethM.symm.trans hmethM'
  obtain ⟨c2, r2, m2, q1, q2, q3, q4, kP, hkP, hkPi⟩ := Cond.selects_spec hsel
  cases hcls.symm.trans q1
  cases (State.methodFound?_of_named hnamed hy).symm.trans q2
  cases hnamed.symm.trans q3
  have hselP : selectMethod e.platform s.vm cellB.cls mk = .method mk := by rw [Launch.admits_selectMethod X.admits]; exact q4
  obtain ⟨vm₁, X₁, hstep₁⟩ := X.invokevirtual hexec hown hlink hnamed hmethM hstM hkP hkPi hy (a := b) (cell := cellB) hcell
    (fun z h => by rw [h] at hobj; cases hobj) hselP hmethM habM hkP hkPi (g := g) hg (argsL := argsL) (rest := rest) (hlen _ hsigM) hstack hdg
  obtain ⟨v, B, X', hpost, hsteps⟩ := hK m meth c ⟨T.setVm vm₁, locs, cells, slots⟩ { g with stack := rest } (.invokevirtual index) mk (Value.ref b :: argsL).toArray X₁ hg hsize hdg hW (X₁.named hnamed) (hpre vm₁ X₁.warmed)
  exact ⟨v, vm₁, B, X₁.warmed, X', hpost, fun target h => hstep₁ _ fun acts => by rw [doInvoke_state]; exact hsteps.trans h⟩
abbrev vx_CVW (R : Room) (s : State) (args : Array Value) (own C : String) (index : Nat) (y : MethodName) (bytes : ByteArray) (maxL : Nat) (ret : Option FieldType) (hh : List (Nat × Nat × Nat × Nat)) (ws : List Cond) (rm : Room) (mc ms n : Nat) : Prop :=
  (rm.cells = mc ∧ rm.slots = ms ∧ rm.frames + 1 ≤ R.frames ∧ 8 + (maxL + 11) + rm.locals ≤ R.locals ∧ (∀ w ∈ ws, ∀ (a' : Array Value) (U : State), s.WarmedH U.vm → w.before a' U = true) ∧ Cond.codeWith y bytes maxL ret hh ∈ ws) ∧
  (Cond.codeWith y bytes maxL ret hh).before args s = true ∧ (Cond.initialized y.cls).before args s = true ∧ (y.cls ≠ "java/lang/invoke/MethodHandle" ∧ y.cls ≠ "java/lang/invoke/VarHandle") ∧
  (∀ sig, parseMethodDescriptor y.desc = some sig → n = sig.parameters.length) ∧ (Cond.methodLink own index y).before args s = true ∧ (Cond.instanceMethod y).before args s = true ∧ (Cond.selects C y y).before args s = true
theorem vx_cwVW {own C : String} {index maxL mc ms : Nat} {y : MethodName} {bytes : ByteArray} {ret : Option FieldType} {hh : List (Nat × Nat × Nat × Nat)} {Ts ws ws' : List Cond} {rm : Room} (n : Nat) (ht : ∀ w ∈ Ts, w.before args s = true) (hT : GoodIn Ts (wsV own index C y ws)) (hw : ws = Cond.codeWith y bytes maxL ret hh :: ws') (hrc : rm.cells = mc) (hrs : rm.slots = ms)
    (hd : y.cls = C ∧ y.cls ≠ "java/lang/invoke/MethodHandle" ∧ y.cls ≠ "java/lang/invoke/VarHandle" ∧ (parseMethodDescriptor y.desc).map (fun d => d.parameters.length) = some n) (hR : rm.frames + 1 ≤ R.frames ∧ 8 + (maxL + 11) + rm.locals ≤ R.locals) :
    vx_CVW R s args own C index y bytes maxL ret hh ws rm mc ms n := by
  obtain ⟨hC, hd⟩ := hd
  subst hC
  have ok : ∀ w ∈ wsV own index y.cls y ws, w.before args s = true := fun w h => ht w (hT w h).1
  have hG : GoodIn Ts ws := fun w h => hT w (by unfold wsV; exact List.mem_append_right _ h)
  have hc : Cond.codeWith y bytes maxL ret hh ∈ ws := by rw [hw]; exact List.mem_cons_self
  refine ⟨⟨hrc, hrs, hR.1, hR.2, pay_in ht hG, hc⟩, ht _ (hG _ hc).1, ok _ (by simp [wsV]), ⟨hd.1, hd.2.1⟩, fun sig h => ?_, ok _ (by simp [wsV]), ok _ (by simp [wsV]), ok _ (by simp [wsV])⟩
  have h2 := hd.2.2
  rw [h] at h2
  exact (Option.some.inj h2).symm
theorem vx_runVW {y : MethodName} {bytes cc : ByteArray} {maxL nL mc ms n index : Nat} {ret : Option FieldType} {hh : List (Nat × Nat × Nat × Nat)} {ws : List Cond} {rm : Room} {Pc : Array Value → State → Prop} {Qc : Array Value → State → Outcome → State → Prop} {free : Addr → Prop} {Ts : List Cond} {own C : String} {b : Addr} {As rest : List Value} {g : JFrame}
    (S : CallFix p m c cc nL s args Ts own) (hM : Met l y ws rm Pc Qc mc ms free) (cw : vx_CVW R s args own C index y bytes maxL ret hh ws rm mc ms n) (hp : PreV s H C b Pc As)
    (hg : g.method = m) (hn : As.length = n) (hsize : g.locals.size = nL) (hstack : g.stack = As.reverse ++ .ref b :: rest) (hW : 2 * g.monitorRoom + (rest.map fun v => v.category).sum ≤ 8) (hdg : decode cc g.pc = .ok (.invokevirtual index, 3)) (hf : cells + mc ≤ R.cells ∧ slots + ms ≤ R.slots) :
    va_Run p l e R s m args below meth c H locs cells slots mc ms g rest (Qc (Value.ref b :: As).toArray) free := by
  obtain ⟨⟨hrc, hrs, hfr, hlo, hws, hcw⟩, hcode, hini, hy, hlen, hl, hin, hse⟩ := cw
  have hK : Back l R p e below s args y 3 8 (PreOf R mc ms Pc) (PostOf Qc mc ms free) := va_backW (hh := hh) (bytes := bytes) (maxL := maxL) (ret := ret) hM hp.1 hrc hrs hfr hlo hws hcw (fun a' U hW => word_at hW (Or.inl (by first | rfl | simp [Cond.onTables, Cond.keeps, Cond.steady])) hini)
  obtain ⟨hx, hb, hml, ho, -⟩ := S
  obtain ⟨-, ⟨cellB, hcB, hoB, hclB⟩, hPc⟩ := hp
  intro T hT X
  obtain ⟨v, vm₁, ⟨U', l2, c2, s2⟩, hW₁, X', ⟨g', mk, t, L, e1, e2, hq, h1, hL, h2, h3⟩, st⟩ := vx_callVW X hx (C := C) (hh := hh) (bytes := bytes) (maxL := maxL) (ret := ret) ho hl hin hse hcode hy hK (by rw [hT]; exact hcB) hoB hclB hg (hsize.trans hml.symm) (argsL := As) (rest := rest) (fun sig h => hn.trans (hlen sig h)) hstack hW (by rw [hb]; exact hdg)
    (fun vm₁ hW₁ => ⟨hf.1, hf.2, hPc (T.setVm vm₁) hT hW₁⟩)
  dsimp only [Pt.U, Pt.locs, Pt.cells, Pt.slots] at X' e1 e2 h1 h2 h3 st
  subst h1; subst h2; subst h3
  exact ⟨v, (T.setVm vm₁).calling g' mk (Value.ref b :: As).toArray, t, U', L, hT, X', hL, e1, e2, hq, st⟩
section
variable {y : MethodName} {bytes cc : ByteArray} {maxL nL mc ms n index : Nat} {ret : Option FieldType} {ws : List Cond} {rm : Room} {Pc : Array Value → State → Prop} {Qc : Array Value → State → Outcome → State → Prop} {XC : String → State → State → Prop} {free : Addr → Prop} {Ts : List Cond} {own C : String} {b : Addr} {As rest : List Value} {g : JFrame}
theorem vx_runVX {hh : List (Nat × Nat × Nat × Nat)} (S : CallFix p m c cc nL s args Ts own) (hM : vx_Met l y ws rm Pc Qc XC mc ms free) (cw : vx_CVW R s args own C index y bytes maxL ret hh ws rm mc ms n) (hp : PreV s H C b Pc As)
    (hg : g.method = m) (hn : As.length = n) (hsize : g.locals.size = nL) (hstack : g.stack = As.reverse ++ .ref b :: rest) (hW : 2 * g.monitorRoom + (rest.map fun v => v.category).sum ≤ 8) (hdg : decode cc g.pc = .ok (.invokevirtual index, 3)) (hf : cells + mc ≤ R.cells ∧ slots + ms ≤ R.slots) :
    vx_Run p l e R s m args below meth c H locs cells slots mc ms g rest (Qc (Value.ref b :: As).toArray) XC free := by
  obtain ⟨⟨hrc, hrs, hfr, hlo, hws, hcw⟩, hcode, hini, hy, hlen, hl, hin, hse⟩ := cw
  have hK : vx_Back l R p e below s args y 3 8 (PreOf R mc ms Pc) (PostOf Qc mc ms free) (vx_Post XC mc ms free) := vx_backW (hh := hh) (bytes := bytes) (maxL := maxL) (ret := ret) hM hp.1 hrc hrs hfr hlo hws hcw (fun a' U hW => word_at hW (Or.inl (by first | rfl | simp [Cond.onTables, Cond.keeps, Cond.steady])) hini)
  obtain ⟨hx, hb, hml, ho, -⟩ := S
  obtain ⟨-, ⟨cellB, hcB, hoB, hclB⟩, hPc⟩ := hp
  intro T hT X
  rcases vx_callVX X hx (C := C) (hh := hh) (bytes := bytes) (maxL := maxL) (ret := ret) ho hl hin hse hcode hy hK (by rw [hT]; exact hcB) hoB hclB hg (hsize.trans hml.symm) (argsL := As) (rest := rest) (fun sig h => hn.trans (hlen sig h)) hstack hW (by rw [hb]; exact hdg)
    (fun vm₁ hW₁ => ⟨hf.1, hf.2, hPc (T.setVm vm₁) hT hW₁⟩) with ⟨v, vm₁, ⟨U', l2, c2, s2⟩, hW₁, X', ⟨g', mk, t, L, e1, e2, hq, h1, hL, h2, h3⟩, st⟩ | ⟨q, vm₁, ⟨U', l2, c2, s2⟩, hW₁, X', ⟨g', mk, t, L, E, ce, e1, e2, hq, hce, hcv, hcl, h1, hL, h2, h3⟩, st⟩
  · dsimp only [Pt.U, Pt.locs, Pt.cells, Pt.slots] at X' e1 e2 h1 h2 h3 st
    subst h1; subst h2; subst h3
    exact Or.inl ⟨v, (T.setVm vm₁).calling g' mk (Value.ref b :: As).toArray, t, U', L, hT, X', hL, e1, e2, hq, st⟩
  · dsimp only [Pt.U, Pt.locs, Pt.cells, Pt.slots] at X' e1 e2 h1 h2 h3 st hcl
    subst h1; subst h2; subst h3
    exact Or.inr ⟨q, (T.setVm vm₁).calling g' mk (Value.ref b :: As).toArray, t, U', L, E, ce, hT, X', hL, e1, e2, hq, hce, hcv, vx_cls hW₁ hcl, st⟩
theorem vx_runSX {hh : List (Nat × Nat × Nat × Nat)} (S : CallFix p m c cc nL s args Ts own) (hM : vx_Met l y ws rm Pc Qc XC mc ms free) (cw : vx_CSW R s args own index y bytes maxL ret hh ws rm mc ms n) (hp : PreS s H Pc As)
    (hg : g.method = m) (hn : As.length = n) (hsize : g.locals.size = nL) (hstack : g.stack = As.reverse ++ rest) (hW : 2 * g.monitorRoom + (rest.map fun v => v.category).sum ≤ 8) (hdg : decode cc g.pc = .ok (.invokestatic index, 3)) (hf : cells + mc ≤ R.cells ∧ slots + ms ≤ R.slots) :
    vx_Run p l e R s m args below meth c H locs cells slots mc ms g rest (Qc As.toArray) XC free := by
  obtain ⟨⟨hrc, hrs, hfr, hlo, hws, hcw⟩, hcode, hini, hy, hlen, hl, hstt⟩ := cw
  have hK : vx_Back l R p e below s args y 3 8 (PreOf R mc ms Pc) (PostOf Qc mc ms free) (vx_Post XC mc ms free) := vx_backW (hh := hh) (bytes := bytes) (maxL := maxL) (ret := ret) hM hp.1 hrc hrs hfr hlo hws hcw (fun a' U hW => word_at hW (Or.inl (by first | rfl | simp [Cond.onTables, Cond.keeps, Cond.steady])) hini)
  obtain ⟨hx, hb, hml, ho, -⟩ := S
  intro T hT X
  rcases vx_callSX X hx (hh := hh) (bytes := bytes) (maxL := maxL) (ret := ret) ho hl hstt hini hcode hy hK hg (hsize.trans hml.symm) (argsL := As) (rest := rest) (fun sig h => hn.trans (hlen sig h)) hstack hW (by rw [hb]; exact hdg)
    (fun vm₁ hW₁ => ⟨hf.1, hf.2, hp.2 (T.setVm vm₁) hT hW₁⟩) with ⟨v, vm₁, ⟨U', l2, c2, s2⟩, hW₁, X', ⟨g', mk, t, L, e1, e2, hq, h1, hL, h2, h3⟩, st⟩ | ⟨q, vm₁, ⟨U', l2, c2, s2⟩, hW₁, X', ⟨g', mk, t, L, E, ce, e1, e2, hq, hce, hcv, hcl, h1, hL, h2, h3⟩, st⟩
  · dsimp only [Pt.U, Pt.locs, Pt.cells, Pt.slots] at X' e1 e2 h1 h2 h3 st
    subst h1; subst h2; subst h3
    exact Or.inl ⟨v, (T.setVm vm₁).calling g' mk As.toArray, t, U', L, hT, X', hL, e1, e2, hq, st⟩
  · dsimp only [Pt.U, Pt.locs, Pt.cells, Pt.slots] at X' e1 e2 h1 h2 h3 st hcl
    subst h1; subst h2; subst h3
    exact Or.inr ⟨q, (T.setVm vm₁).calling g' mk As.toArray, t, U', L, E, ce, hT, X', hL, e1, e2, hq, hce, hcv, vx_cls hW₁ hcl, st⟩
end
end VXH
theorem vx_ofWH {l : Launch} {y : MethodName} {ws ws' : List Cond} {rm : Room} {Pc : Array Value → State → Prop} {Qc : Array Value → State → Outcome → State → Prop} {XC : String → State → State → Prop} {mc ms : Nat} {free : Addr → Prop} {cc : ByteArray} {maxL : Nat} {ret : Option FieldType} {hh : List (Nat × Nat × Nat × Nat)}
    (hy : plainName y.cls = true) (hw : ws = Cond.codeWith y cc maxL ret hh :: ws')
    (body : ∀ p e s m args below meth c s₁, BodyLoose p l y (headSpec ws rm) cc maxL ret e s m args below meth c s₁ → c.maxLocals = maxL → Pc args s →
      W p l e (headSpec ws rm).room s m args below meth c s.heap [] 0 0 (vx_MQ below Qc XC args s mc ms free) (entryFrame m args maxL)) : vx_Met l y ws rm Pc Qc XC mc ms free := by
  refine MetFree.of_bodyS (code := cc) (maxLocals := maxL) (ret := ret) hy ?_ ?_
  · intro args s m h hn
    obtain ⟨m9, meth, c, hn9, h1, h2, h3, h4, -, h5, h6, -⟩ := Cond.codeWith_spec (atoms_spec (ws := ws) h _ (by rw [hw]; exact List.mem_cons_self))
    cases hn.symm.trans hn9
    exact ⟨meth, c, h1, h2, h3, h4, h5, h6⟩
  · intro p e s m args below meth c s₁ B hml hP _
    have hh0 : s₁.heap = s.heap := by rw [B.state]; rfl
    obtain ⟨t, a1, o, b1, b2, b3⟩ := body p e s m args below meth c s₁ B hml hP s₁ hh0 (Stand.of_body B)
    exact ⟨t, o, a1, b1, b2, b3⟩
/-! ===== END ===== -/
end
section
/-! ===== BEGIN printed: names, fields, word lists, decode rows ===== -/
def RX0 : String := "DetourLoom$Roads"
def TX0 : u_T := fun k => match k with
  | 0 => ("DetourLoom$Roads", "one", "[I", true)
  | 1 => ("DetourLoom$Roads", "other", "[I", true)
  | 2 => ("DetourLoom$Roads", "firstLength", "[I", true)
  | 3 => ("DetourLoom$Roads", "dye", "[I", true)
  | 4 => ("DetourLoom$Roads", "wear", "[I", true)
  | 5 => ("DetourLoom$Roads", "knots", "[I", true)
  | 6 => ("DetourLoom$Roads", "closed", "[I", true)
  | _ => ("DetourLoom$Roads", "count", "I", false)
def tyX0 : Nat → FieldType := fun k => match k with
  | 0 => .array .int
  | 1 => .array .int
  | 2 => .array .int
  | 3 => .array .int
  | 4 => .array .int
  | 5 => .array .int
  | 6 => .array .int
  | _ => .int
abbrev wsX00 : List Cond := u_ws RX0 TX0 8
theorem nmX0 : ∀ a, a < 8 → ∀ b, b < 8 → a ≠ b → (TX0 a).2.1 ≠ (TX0 b).2.1 := by decide +kernel
theorem tyX0_ok : ∀ k, k < 8 → parseFieldDescriptor (TX0 k).2.2.1 = some (tyX0 k) := by decide +kernel
abbrev cX0_init : ByteArray := prog_2_method_1_code
def yX0_init : MethodName := ⟨RX0, "<init>", "()V"⟩
abbrev cX0_copyFrom : ByteArray := prog_2_method_2_code
def yX0_copyFrom : MethodName := ⟨RX0, "copyFrom", "(LDetourLoom$Roads;)V"⟩
abbrev cX0_put : ByteArray := prog_2_method_3_code
def yX0_put : MethodName := ⟨RX0, "put", "(IIII)I"⟩
abbrev cX0_lengthNow : ByteArray := prog_2_method_4_code
def yX0_lengthNow : MethodName := ⟨RX0, "lengthNow", "(I)I"⟩
abbrev cX0_endFrom : ByteArray := prog_2_method_5_code
def yX0_endFrom : MethodName := ⟨RX0, "endFrom", "(II)I"⟩
abbrev cX0_reopen : ByteArray := prog_2_method_6_code
def yX0_reopen : MethodName := ⟨RX0, "reopen", "(I)V"⟩
abbrev cX0_countClosed : ByteArray := prog_2_method_7_code
def yX0_countClosed : MethodName := ⟨RX0, "countClosed", "()I"⟩
abbrev cX0_openWithMostWear : ByteArray := prog_2_method_8_code
def yX0_openWithMostWear : MethodName := ⟨RX0, "openWithMostWear", "()I"⟩
def RX1 : String := "DetourLoom$Tourists"
def TX1 : u_T := fun k => match k with
  | 0 => ("DetourLoom$Tourists", "place", "[I", true)
  | 1 => ("DetourLoom$Tourists", "road", "[I", true)
  | 2 => ("DetourLoom$Tourists", "end", "[I", true)
  | 3 => ("DetourLoom$Tourists", "toGo", "[I", true)
  | 4 => ("DetourLoom$Tourists", "goal", "[I", true)
  | 5 => ("DetourLoom$Tourists", "dye", "[I", true)
  | 6 => ("DetourLoom$Tourists", "began", "[I", true)
  | 7 => ("DetourLoom$Tourists", "shortest", "[I", true)
  | 8 => ("DetourLoom$Tourists", "took", "[I", true)
  | 9 => ("DetourLoom$Tourists", "count", "I", false)
  | _ => ("DetourLoom$Tourists", "in", "I", false)
def tyX1 : Nat → FieldType := fun k => match k with
  | 0 => .array .int
  | 1 => .array .int
  | 2 => .array .int
  | 3 => .array .int
  | 4 => .array .int
  | 5 => .array .int
  | 6 => .array .int
  | 7 => .array .int
  | 8 => .array .int
  | 9 => .int
  | _ => .int
abbrev wsX10 : List Cond := u_ws RX1 TX1 11
theorem nmX1 : ∀ a, a < 11 → ∀ b, b < 11 → a ≠ b → (TX1 a).2.1 ≠ (TX1 b).2.1 := by decide +kernel
theorem tyX1_ok : ∀ k, k < 11 → parseFieldDescriptor (TX1 k).2.2.1 = some (tyX1 k) := by decide +kernel
abbrev cX1_init : ByteArray := prog_3_method_1_code
def yX1_init : MethodName := ⟨RX1, "<init>", "()V"⟩
abbrev cX1_copyFrom : ByteArray := prog_3_method_2_code
def yX1_copyFrom : MethodName := ⟨RX1, "copyFrom", "(LDetourLoom$Tourists;)V"⟩
abbrev cX1_put : ByteArray := prog_3_method_3_code
def yX1_put : MethodName := ⟨RX1, "put", "(IIII)I"⟩
abbrev cX1_isIn : ByteArray := prog_3_method_4_code
def yX1_isIn : MethodName := ⟨RX1, "isIn", "(I)Z"⟩
abbrev cX1_take : ByteArray := prog_3_method_5_code
def yX1_take : MethodName := ⟨RX1, "take", "(IIII)V"⟩
abbrev cX1_walk : ByteArray := prog_3_method_6_code
def yX1_walk : MethodName := ⟨RX1, "walk", "(II)V"⟩
abbrev cX1_countOn : ByteArray := prog_3_method_7_code
def yX1_countOn : MethodName := ⟨RX1, "countOn", "(I)I"⟩
abbrev cX1_frayAt : ByteArray := prog_3_method_8_code
def yX1_frayAt : MethodName := ⟨RX1, "frayAt", "(II)I"⟩
abbrev cX1_frayOfAll : ByteArray := prog_3_method_9_code
def yX1_frayOfAll : MethodName := ⟨RX1, "frayOfAll", "(I)I"⟩
abbrev cX1_frayOfThoseIn : ByteArray := prog_3_method_10_code
def yX1_frayOfThoseIn : MethodName := ⟨RX1, "frayOfThoseIn", "()I"⟩
def RX2 : String := "DetourLoom$Ways"
def TX2 : u_T := fun k => match k with
  | _ => ("DetourLoom$Ways", "sums", "[I", true)
def tyX2 : Nat → FieldType := fun k => match k with
  | _ => .array .int
abbrev wsX20 : List Cond := u_ws RX2 TX2 1
theorem nmX2 : ∀ a, a < 1 → ∀ b, b < 1 → a ≠ b → (TX2 a).2.1 ≠ (TX2 b).2.1 := by decide +kernel
theorem tyX2_ok : ∀ k, k < 1 → parseFieldDescriptor (TX2 k).2.2.1 = some (tyX2 k) := by decide +kernel
abbrev cX2_init : ByteArray := prog_4_method_1_code
def yX2_init : MethodName := ⟨RX2, "<init>", "()V"⟩
abbrev cX2_copyFrom : ByteArray := prog_4_method_2_code
def yX2_copyFrom : MethodName := ⟨RX2, "copyFrom", "(LDetourLoom$Ways;)V"⟩
abbrev cX2_find : ByteArray := prog_4_method_3_code
def yX2_find : MethodName := ⟨RX2, "find", "(LDetourLoom$Roads;IZ)V"⟩
abbrev cX2_clear : ByteArray := prog_4_method_4_code
def yX2_clear : MethodName := ⟨RX2, "clear", "()V"⟩
abbrev cX2_goOver : ByteArray := prog_4_method_5_code
def yX2_goOver : MethodName := ⟨RX2, "goOver", "(II)V"⟩
abbrev cX2_sumOrNone : ByteArray := prog_4_method_6_code
def yX2_sumOrNone : MethodName := ⟨RX2, "sumOrNone", "(II)I"⟩
abbrev cX2_countParted : ByteArray := prog_4_method_7_code
def yX2_countParted : MethodName := ⟨RX2, "countParted", "(I)I"⟩
def RX3 : String := "DetourLoom$Weave"
def TX3 : u_T := fun k => match k with
  | 0 => ("DetourLoom$Weave", "roads", "LDetourLoom$Roads;", true)
  | 1 => ("DetourLoom$Weave", "tourists", "LDetourLoom$Tourists;", true)
  | 2 => ("DetourLoom$Weave", "openWays", "LDetourLoom$Ways;", true)
  | 3 => ("DetourLoom$Weave", "crossings", "I", false)
  | 4 => ("DetourLoom$Weave", "hour", "I", false)
  | _ => ("DetourLoom$Weave", "openWaysAreOld", "Z", false)
def tyX3 : Nat → FieldType := fun k => match k with
  | 0 => .object "DetourLoom$Roads"
  | 1 => .object "DetourLoom$Tourists"
  | 2 => .object "DetourLoom$Ways"
  | 3 => .int
  | 4 => .int
  | _ => .boolean
abbrev wsX30 : List Cond := u_ws RX3 TX3 6
theorem nmX3 : ∀ a, a < 6 → ∀ b, b < 6 → a ≠ b → (TX3 a).2.1 ≠ (TX3 b).2.1 := by decide +kernel
theorem tyX3_ok : ∀ k, k < 6 → parseFieldDescriptor (TX3 k).2.2.1 = some (tyX3 k) := by decide +kernel
abbrev cX3_init : ByteArray := prog_5_method_1_code
def yX3_init : MethodName := ⟨RX3, "<init>", "()V"⟩
abbrev cX3_copyFrom : ByteArray := prog_5_method_2_code
def yX3_copyFrom : MethodName := ⟨RX3, "copyFrom", "(LDetourLoom$Weave;)V"⟩
abbrev cX3_putCrossing : ByteArray := prog_5_method_3_code
def yX3_putCrossing : MethodName := ⟨RX3, "putCrossing", "()I"⟩
abbrev cX3_putRoad : ByteArray := prog_5_method_4_code
def yX3_putRoad : MethodName := ⟨RX3, "putRoad", "(IIII)I"⟩
abbrev cX3_closeRoad : ByteArray := prog_5_method_5_code
def yX3_closeRoad : MethodName := ⟨RX3, "closeRoad", "(II)V"⟩
abbrev cX3_untie : ByteArray := prog_5_method_6_code
def yX3_untie : MethodName := ⟨RX3, "untie", "(I)I"⟩
abbrev cX3_findOpenWays : ByteArray := prog_5_method_7_code
def yX3_findOpenWays : MethodName := ⟨RX3, "findOpenWays", "()V"⟩
abbrev cX3_roadToward : ByteArray := prog_5_method_8_code
def yX3_roadToward : MethodName := ⟨RX3, "roadToward", "(II)I"⟩
abbrev cX3_letHourGoBy : ByteArray := prog_5_method_9_code
def yX3_letHourGoBy : MethodName := ⟨RX3, "letHourGoBy", "()V"⟩
abbrev cX3_goOnMending : ByteArray := prog_5_method_10_code
def yX3_goOnMending : MethodName := ⟨RX3, "goOnMending", "()V"⟩
abbrev cX3_setOut : ByteArray := prog_5_method_11_code
def yX3_setOut : MethodName := ⟨RX3, "setOut", "(I)V"⟩
abbrev cX3_closeWornRoads : ByteArray := prog_5_method_12_code
def yX3_closeWornRoads : MethodName := ⟨RX3, "closeWornRoads", "()V"⟩
abbrev cX3_mixed : ByteArray := prog_5_method_13_code
def yX3_mixed : MethodName := ⟨RX3, "mixed", "(II)I"⟩
def RX4 : String := "DetourLoom"
def TX4 : u_T := fun k => match k with
  | 0 => ("DetourLoom", "now", "LDetourLoom$Weave;", true)
  | 1 => ("DetourLoom", "trial", "LDetourLoom$Weave;", true)
  | _ => ("DetourLoom", "allWays", "LDetourLoom$Ways;", true)
def tyX4 : Nat → FieldType := fun k => match k with
  | 0 => .object "DetourLoom$Weave"
  | 1 => .object "DetourLoom$Weave"
  | _ => .object "DetourLoom$Ways"
abbrev wsX40 : List Cond := u_ws RX4 TX4 3
theorem nmX4 : ∀ a, a < 3 → ∀ b, b < 3 → a ≠ b → (TX4 a).2.1 ≠ (TX4 b).2.1 := by decide +kernel
theorem tyX4_ok : ∀ k, k < 3 → parseFieldDescriptor (TX4 k).2.2.1 = some (tyX4 k) := by decide +kernel
abbrev cX4_init : ByteArray := prog_1_method_1_code
def yX4_init : MethodName := ⟨RX4, "<init>", "()V"⟩
abbrev cX4_addCrossing : ByteArray := prog_1_method_2_code
def yX4_addCrossing : MethodName := ⟨RX4, "addCrossing", "()I"⟩
abbrev cX4_addRoad : ByteArray := prog_1_method_3_code
def yX4_addRoad : MethodName := ⟨RX4, "addRoad", "(IIII)I"⟩
abbrev cX4_addTourist : ByteArray := prog_1_method_4_code
def yX4_addTourist : MethodName := ⟨RX4, "addTourist", "(II)I"⟩
abbrev cX4_mend : ByteArray := prog_1_method_5_code
def yX4_mend : MethodName := ⟨RX4, "mend", "(II)I"⟩
abbrev cX4_cutKnots : ByteArray := prog_1_method_6_code
def yX4_cutKnots : MethodName := ⟨RX4, "cutKnots", "(I)I"⟩
abbrev cX4_pass : ByteArray := prog_1_method_7_code
def yX4_pass : MethodName := ⟨RX4, "pass", "(I)I"⟩
abbrev cX4_hour : ByteArray := prog_1_method_8_code
def yX4_hour : MethodName := ⟨RX4, "hour", "()I"⟩
abbrev cX4_crossings : ByteArray := prog_1_method_9_code
def yX4_crossings : MethodName := ⟨RX4, "crossings", "()I"⟩
abbrev cX4_roads : ByteArray := prog_1_method_10_code
def yX4_roads : MethodName := ⟨RX4, "roads", "()I"⟩
abbrev cX4_tourists : ByteArray := prog_1_method_11_code
def yX4_tourists : MethodName := ⟨RX4, "tourists", "()I"⟩
abbrev cX4_arrived : ByteArray := prog_1_method_12_code
def yX4_arrived : MethodName := ⟨RX4, "arrived", "()I"⟩
abbrev cX4_closedRoads : ByteArray := prog_1_method_13_code
def yX4_closedRoads : MethodName := ⟨RX4, "closedRoads", "()I"⟩
abbrev cX4_allFrayed : ByteArray := prog_1_method_14_code
def yX4_allFrayed : MethodName := ⟨RX4, "allFrayed", "()I"⟩
abbrev cX4_lengthOf : ByteArray := prog_1_method_15_code
def yX4_lengthOf : MethodName := ⟨RX4, "lengthOf", "(I)I"⟩
abbrev cX4_wearOf : ByteArray := prog_1_method_16_code
def yX4_wearOf : MethodName := ⟨RX4, "wearOf", "(I)I"⟩
abbrev cX4_knotsOf : ByteArray := prog_1_method_17_code
def yX4_knotsOf : MethodName := ⟨RX4, "knotsOf", "(I)I"⟩
abbrev cX4_closedFor : ByteArray := prog_1_method_18_code
def yX4_closedFor : MethodName := ⟨RX4, "closedFor", "(I)I"⟩
abbrev cX4_touristsOn : ByteArray := prog_1_method_19_code
def yX4_touristsOn : MethodName := ⟨RX4, "touristsOn", "(I)I"⟩
abbrev cX4_mostWorn : ByteArray := prog_1_method_20_code
def yX4_mostWorn : MethodName := ⟨RX4, "mostWorn", "()I"⟩
abbrev cX4_openDistance : ByteArray := prog_1_method_21_code
def yX4_openDistance : MethodName := ⟨RX4, "openDistance", "(II)I"⟩
abbrev cX4_distance : ByteArray := prog_1_method_22_code
def yX4_distance : MethodName := ⟨RX4, "distance", "(II)I"⟩
abbrev cX4_nextRoad : ByteArray := prog_1_method_23_code
def yX4_nextRoad : MethodName := ⟨RX4, "nextRoad", "(II)I"⟩
abbrev cX4_partedPairs : ByteArray := prog_1_method_24_code
def yX4_partedPairs : MethodName := ⟨RX4, "partedPairs", "()I"⟩
abbrev cX4_placeOf : ByteArray := prog_1_method_25_code
def yX4_placeOf : MethodName := ⟨RX4, "placeOf", "(I)I"⟩
abbrev cX4_roadOf : ByteArray := prog_1_method_26_code
def yX4_roadOf : MethodName := ⟨RX4, "roadOf", "(I)I"⟩
abbrev cX4_dyeOf : ByteArray := prog_1_method_27_code
def yX4_dyeOf : MethodName := ⟨RX4, "dyeOf", "(I)I"⟩
abbrev cX4_frayOf : ByteArray := prog_1_method_28_code
def yX4_frayOf : MethodName := ⟨RX4, "frayOf", "(I)I"⟩
abbrev cX4_hasArrived : ByteArray := prog_1_method_29_code
def yX4_hasArrived : MethodName := ⟨RX4, "hasArrived", "(I)Z"⟩
abbrev cX4_hoursUntilArrived : ByteArray := prog_1_method_30_code
def yX4_hoursUntilArrived : MethodName := ⟨RX4, "hoursUntilArrived", "(I)I"⟩
abbrev cX4_frayedIn : ByteArray := prog_1_method_31_code
def yX4_frayedIn : MethodName := ⟨RX4, "frayedIn", "(I)I"⟩
abbrev cX4_bestToMend : ByteArray := prog_1_method_32_code
def yX4_bestToMend : MethodName := ⟨RX4, "bestToMend", "()I"⟩
abbrev cX4_meanLength : ByteArray := prog_1_method_33_code
def yX4_meanLength : MethodName := ⟨RX4, "meanLength", "()D"⟩
abbrev cX4_digest : ByteArray := prog_1_method_34_code
def yX4_digest : MethodName := ⟨RX4, "digest", "()J"⟩
abbrev cX4_digestOfRoads : ByteArray := prog_1_method_35_code
def yX4_digestOfRoads : MethodName := ⟨RX4, "digestOfRoads", "(J)J"⟩
abbrev cX4_digestOfTourists : ByteArray := prog_1_method_36_code
def yX4_digestOfTourists : MethodName := ⟨RX4, "digestOfTourists", "(J)J"⟩
abbrev cX4_woven : ByteArray := prog_1_method_37_code
def yX4_woven : MethodName := ⟨RX4, "woven", "(JJ)J"⟩
abbrev cX4_foresee : ByteArray := prog_1_method_38_code
def yX4_foresee : MethodName := ⟨RX4, "foresee", "(II)V"⟩
abbrev cX4_foreseenHoursUntilIn : ByteArray := prog_1_method_39_code
def yX4_foreseenHoursUntilIn : MethodName := ⟨RX4, "foreseenHoursUntilIn", "(I)I"⟩
abbrev cX4_requireCrossing : ByteArray := prog_1_method_40_code
def yX4_requireCrossing : MethodName := ⟨RX4, "requireCrossing", "(I)V"⟩
abbrev cX4_requireRoad : ByteArray := prog_1_method_41_code
def yX4_requireRoad : MethodName := ⟨RX4, "requireRoad", "(I)V"⟩
abbrev cX4_requireTourist : ByteArray := prog_1_method_42_code
def yX4_requireTourist : MethodName := ⟨RX4, "requireTourist", "(I)V"⟩
abbrev cX4_requirePassing : ByteArray := prog_1_method_43_code
def yX4_requirePassing : MethodName := ⟨RX4, "requirePassing", "(I)V"⟩
def RX5 : String := "DetourLoomModel"
def TX5 : u_T := fun k => match k with
  | 0 => ("DetourLoomModel", "thrown", "I", false)
  | 1 => ("DetourLoomModel", "crossings", "I", false)
  | 2 => ("DetourLoomModel", "roads", "I", false)
  | 3 => ("DetourLoomModel", "tourists", "I", false)
  | 4 => ("DetourLoomModel", "one", "[I", true)
  | 5 => ("DetourLoomModel", "other", "[I", true)
  | 6 => ("DetourLoomModel", "length", "[I", true)
  | 7 => ("DetourLoomModel", "dye", "[I", true)
  | 8 => ("DetourLoomModel", "goal", "[I", true)
  | 9 => ("DetourLoomModel", "since", "[I", true)
  | 10 => ("DetourLoomModel", "least", "[I", true)
  | 11 => ("DetourLoomModel", "now", "[I", true)
  | 12 => ("DetourLoomModel", "kept", "[I", true)
  | _ => ("DetourLoomModel", "far", "[I", true)
def tyX5 : Nat → FieldType := fun k => match k with
  | 0 => .int
  | 1 => .int
  | 2 => .int
  | 3 => .int
  | 4 => .array .int
  | 5 => .array .int
  | 6 => .array .int
  | 7 => .array .int
  | 8 => .array .int
  | 9 => .array .int
  | 10 => .array .int
  | 11 => .array .int
  | 12 => .array .int
  | _ => .array .int
abbrev wsX50 : List Cond := u_ws RX5 TX5 14
theorem nmX5 : ∀ a, a < 14 → ∀ b, b < 14 → a ≠ b → (TX5 a).2.1 ≠ (TX5 b).2.1 := by decide +kernel
theorem tyX5_ok : ∀ k, k < 14 → parseFieldDescriptor (TX5 k).2.2.1 = some (tyX5 k) := by decide +kernel
abbrev cX5_init : ByteArray := prog_7_method_1_code
def yX5_init : MethodName := ⟨RX5, "<init>", "()V"⟩
abbrev cX5_thrown : ByteArray := prog_7_method_2_code
def yX5_thrown : MethodName := ⟨RX5, "thrown", "()I"⟩
abbrev cX5_fail : ByteArray := prog_7_method_3_code
def yX5_fail : MethodName := ⟨RX5, "fail", "(I)I"⟩
abbrev cX5_told : ByteArray := prog_7_method_4_code
def yX5_told : MethodName := ⟨RX5, "told", "(I)I"⟩
abbrev cX5_isIn : ByteArray := prog_7_method_5_code
def yX5_isIn : MethodName := ⟨RX5, "isIn", "(III)Z"⟩
abbrev cX5_isCrossing : ByteArray := prog_7_method_6_code
def yX5_isCrossing : MethodName := ⟨RX5, "isCrossing", "(I)Z"⟩
abbrev cX5_isRoad : ByteArray := prog_7_method_7_code
def yX5_isRoad : MethodName := ⟨RX5, "isRoad", "(I)Z"⟩
abbrev cX5_isTourist : ByteArray := prog_7_method_8_code
def yX5_isTourist : MethodName := ⟨RX5, "isTourist", "(I)Z"⟩
abbrev cX5_ro : ByteArray := prog_7_method_9_code
def yX5_ro : MethodName := ⟨RX5, "ro", "(II)I"⟩
abbrev cX5_lay : ByteArray := prog_7_method_10_code
def yX5_lay : MethodName := ⟨RX5, "lay", "(III)V"⟩
abbrev cX5_to : ByteArray := prog_7_method_11_code
def yX5_to : MethodName := ⟨RX5, "to", "(II)I"⟩
abbrev cX5_let : ByteArray := prog_7_method_12_code
def yX5_let : MethodName := ⟨RX5, "let", "(III)V"⟩
abbrev cX5_keep : ByteArray := prog_7_method_13_code
def yX5_keep : MethodName := ⟨RX5, "keep", "()V"⟩
abbrev cX5_bringBack : ByteArray := prog_7_method_14_code
def yX5_bringBack : MethodName := ⟨RX5, "bringBack", "()V"⟩
abbrev cX5_isOpen : ByteArray := prog_7_method_15_code
def yX5_isOpen : MethodName := ⟨RX5, "isOpen", "(I)Z"⟩
abbrev cX5_longNow : ByteArray := prog_7_method_16_code
def yX5_longNow : MethodName := ⟨RX5, "longNow", "(I)I"⟩
abbrev cX5_on : ByteArray := prog_7_method_17_code
def yX5_on : MethodName := ⟨RX5, "on", "(I)I"⟩
abbrev cX5_measure : ByteArray := prog_7_method_18_code
def yX5_measure : MethodName := ⟨RX5, "measure", "(IZ)V"⟩
abbrev cX5_apart : ByteArray := prog_7_method_19_code
def yX5_apart : MethodName := ⟨RX5, "apart", "(IIZ)I"⟩
abbrev cX5_end : ByteArray := prog_7_method_20_code
def yX5_end : MethodName := ⟨RX5, "end", "(II)I"⟩
abbrev cX5_takes : ByteArray := prog_7_method_21_code
def yX5_takes : MethodName := ⟨RX5, "takes", "(II)I"⟩
abbrev cX5_mix : ByteArray := prog_7_method_22_code
def yX5_mix : MethodName := ⟨RX5, "mix", "(II)I"⟩
abbrev cX5_mendOn : ByteArray := prog_7_method_23_code
def yX5_mendOn : MethodName := ⟨RX5, "mendOn", "(I)V"⟩
abbrev cX5_goOn : ByteArray := prog_7_method_24_code
def yX5_goOn : MethodName := ⟨RX5, "goOn", "(I)V"⟩
abbrev cX5_hourOn : ByteArray := prog_7_method_25_code
def yX5_hourOn : MethodName := ⟨RX5, "hourOn", "()V"⟩
abbrev cX5_hoursOn : ByteArray := prog_7_method_26_code
def yX5_hoursOn : MethodName := ⟨RX5, "hoursOn", "(I)V"⟩
abbrev cX5_addCrossing : ByteArray := prog_7_method_27_code
def yX5_addCrossing : MethodName := ⟨RX5, "addCrossing", "()I"⟩
abbrev cX5_addRoad : ByteArray := prog_7_method_28_code
def yX5_addRoad : MethodName := ⟨RX5, "addRoad", "(IIII)I"⟩
abbrev cX5_addTourist : ByteArray := prog_7_method_29_code
def yX5_addTourist : MethodName := ⟨RX5, "addTourist", "(II)I"⟩
abbrev cX5_mend : ByteArray := prog_7_method_30_code
def yX5_mend : MethodName := ⟨RX5, "mend", "(II)I"⟩
abbrev cX5_cutKnots : ByteArray := prog_7_method_31_code
def yX5_cutKnots : MethodName := ⟨RX5, "cutKnots", "(I)I"⟩
abbrev cX5_came : ByteArray := prog_7_method_32_code
def yX5_came : MethodName := ⟨RX5, "came", "()I"⟩
abbrev cX5_pass : ByteArray := prog_7_method_33_code
def yX5_pass : MethodName := ⟨RX5, "pass", "(I)I"⟩
abbrev cX5_hour : ByteArray := prog_7_method_34_code
def yX5_hour : MethodName := ⟨RX5, "hour", "()I"⟩
abbrev cX5_crossings : ByteArray := prog_7_method_35_code
def yX5_crossings : MethodName := ⟨RX5, "crossings", "()I"⟩
abbrev cX5_roads : ByteArray := prog_7_method_36_code
def yX5_roads : MethodName := ⟨RX5, "roads", "()I"⟩
abbrev cX5_tourists : ByteArray := prog_7_method_37_code
def yX5_tourists : MethodName := ⟨RX5, "tourists", "()I"⟩
abbrev cX5_arrived : ByteArray := prog_7_method_38_code
def yX5_arrived : MethodName := ⟨RX5, "arrived", "()I"⟩
abbrev cX5_shut : ByteArray := prog_7_method_39_code
def yX5_shut : MethodName := ⟨RX5, "shut", "()I"⟩
abbrev cX5_closedRoads : ByteArray := prog_7_method_40_code
def yX5_closedRoads : MethodName := ⟨RX5, "closedRoads", "()I"⟩
abbrev cX5_fray : ByteArray := prog_7_method_41_code
def yX5_fray : MethodName := ⟨RX5, "fray", "(I)I"⟩
abbrev cX5_frays : ByteArray := prog_7_method_42_code
def yX5_frays : MethodName := ⟨RX5, "frays", "(Z)I"⟩
abbrev cX5_allFrayed : ByteArray := prog_7_method_43_code
def yX5_allFrayed : MethodName := ⟨RX5, "allFrayed", "()I"⟩
abbrev cX5_road : ByteArray := prog_7_method_44_code
def yX5_road : MethodName := ⟨RX5, "road", "(II)I"⟩
abbrev cX5_lengthOf : ByteArray := prog_7_method_45_code
def yX5_lengthOf : MethodName := ⟨RX5, "lengthOf", "(I)I"⟩
abbrev cX5_wearOf : ByteArray := prog_7_method_46_code
def yX5_wearOf : MethodName := ⟨RX5, "wearOf", "(I)I"⟩
abbrev cX5_knotsOf : ByteArray := prog_7_method_47_code
def yX5_knotsOf : MethodName := ⟨RX5, "knotsOf", "(I)I"⟩
abbrev cX5_closedFor : ByteArray := prog_7_method_48_code
def yX5_closedFor : MethodName := ⟨RX5, "closedFor", "(I)I"⟩
abbrev cX5_touristsOn : ByteArray := prog_7_method_49_code
def yX5_touristsOn : MethodName := ⟨RX5, "touristsOn", "(I)I"⟩
abbrev cX5_worn : ByteArray := prog_7_method_50_code
def yX5_worn : MethodName := ⟨RX5, "worn", "()I"⟩
abbrev cX5_mostWorn : ByteArray := prog_7_method_51_code
def yX5_mostWorn : MethodName := ⟨RX5, "mostWorn", "()I"⟩
abbrev cX5_distanceOf : ByteArray := prog_7_method_52_code
def yX5_distanceOf : MethodName := ⟨RX5, "distanceOf", "(IIZ)I"⟩
abbrev cX5_openDistance : ByteArray := prog_7_method_53_code
def yX5_openDistance : MethodName := ⟨RX5, "openDistance", "(II)I"⟩
abbrev cX5_distance : ByteArray := prog_7_method_54_code
def yX5_distance : MethodName := ⟨RX5, "distance", "(II)I"⟩
abbrev cX5_nextRoad : ByteArray := prog_7_method_55_code
def yX5_nextRoad : MethodName := ⟨RX5, "nextRoad", "(II)I"⟩
abbrev cX5_parted : ByteArray := prog_7_method_56_code
def yX5_parted : MethodName := ⟨RX5, "parted", "()I"⟩
abbrev cX5_partedPairs : ByteArray := prog_7_method_57_code
def yX5_partedPairs : MethodName := ⟨RX5, "partedPairs", "()I"⟩
abbrev cX5_tourist : ByteArray := prog_7_method_58_code
def yX5_tourist : MethodName := ⟨RX5, "tourist", "(II)I"⟩
abbrev cX5_placeOf : ByteArray := prog_7_method_59_code
def yX5_placeOf : MethodName := ⟨RX5, "placeOf", "(I)I"⟩
abbrev cX5_roadOf : ByteArray := prog_7_method_60_code
def yX5_roadOf : MethodName := ⟨RX5, "roadOf", "(I)I"⟩
abbrev cX5_dyeOf : ByteArray := prog_7_method_61_code
def yX5_dyeOf : MethodName := ⟨RX5, "dyeOf", "(I)I"⟩
abbrev cX5_frayOf : ByteArray := prog_7_method_62_code
def yX5_frayOf : MethodName := ⟨RX5, "frayOf", "(I)I"⟩
abbrev cX5_hasArrived : ByteArray := prog_7_method_63_code
def yX5_hasArrived : MethodName := ⟨RX5, "hasArrived", "(I)Z"⟩
abbrev cX5_until : ByteArray := prog_7_method_64_code
def yX5_until : MethodName := ⟨RX5, "until", "(I)I"⟩
abbrev cX5_hoursUntilArrived : ByteArray := prog_7_method_65_code
def yX5_hoursUntilArrived : MethodName := ⟨RX5, "hoursUntilArrived", "(I)I"⟩
abbrev cX5_frayedIn : ByteArray := prog_7_method_66_code
def yX5_frayedIn : MethodName := ⟨RX5, "frayedIn", "(I)I"⟩
abbrev cX5_toMend : ByteArray := prog_7_method_67_code
def yX5_toMend : MethodName := ⟨RX5, "toMend", "()I"⟩
abbrev cX5_bestToMend : ByteArray := prog_7_method_68_code
def yX5_bestToMend : MethodName := ⟨RX5, "bestToMend", "()I"⟩
abbrev cX5_meanLength : ByteArray := prog_7_method_69_code
def yX5_meanLength : MethodName := ⟨RX5, "meanLength", "()D"⟩
abbrev cX5_digest : ByteArray := prog_7_method_70_code
def yX5_digest : MethodName := ⟨RX5, "digest", "()J"⟩
def RJ9 : String := "java/lang/Math"
def TJ9 : u_T := fun k => match k with
  | _ => ("", "", "", false)
def tyJ9 : Nat → FieldType := fun k => match k with
  | _ => .int
abbrev wsJ90 : List Cond := u_ws RJ9 TJ9 0
theorem nmJ9 : ∀ a, a < 0 → ∀ b, b < 0 → a ≠ b → (TJ9 a).2.1 ≠ (TJ9 b).2.1 := by decide +kernel
theorem tyJ9_ok : ∀ k, k < 0 → parseFieldDescriptor (TJ9 k).2.2.1 = some (tyJ9 k) := by decide +kernel
abbrev cJ9_max_7cf53 : ByteArray := prog_12_method_65_code
def yJ9_max_7cf53 : MethodName := ⟨RJ9, "max", "(II)I"⟩
abbrev cJ9_min_7cf53 : ByteArray := prog_12_method_69_code
def yJ9_min_7cf53 : MethodName := ⟨RJ9, "min", "(II)I"⟩
def RJ0 : String := "java/lang/String"
def TJ0 : u_T := fun k => match k with
  | _ => ("", "", "", false)
def tyJ0 : Nat → FieldType := fun k => match k with
  | _ => .int
abbrev wsJ00 : List Cond := u_ws RJ0 TJ0 0
theorem nmJ0 : ∀ a, a < 0 → ∀ b, b < 0 → a ≠ b → (TJ0 a).2.1 ≠ (TJ0 b).2.1 := by decide +kernel
theorem tyJ0_ok : ∀ k, k < 0 → parseFieldDescriptor (TJ0 k).2.2.1 = some (tyJ0 k) := by decide +kernel
def RJ10 : String := "java/lang/System"
def TJ10 : u_T := fun k => match k with
  | _ => ("", "", "", false)
def tyJ10 : Nat → FieldType := fun k => match k with
  | _ => .int
abbrev wsJ100 : List Cond := u_ws RJ10 TJ10 0
theorem nmJ10 : ∀ a, a < 0 → ∀ b, b < 0 → a ≠ b → (TJ10 a).2.1 ≠ (TJ10 b).2.1 := by decide +kernel
theorem tyJ10_ok : ∀ k, k < 0 → parseFieldDescriptor (TJ10 k).2.2.1 = some (tyJ10 k) := by decide +kernel
def RL : String := "DetourLoomLaw"
abbrev cL_addCrossing : ByteArray := method_3_code
def yL_addCrossing : MethodName := ⟨RL, "addCrossing", "(LDetourLoom;[J)I"⟩
abbrev cL_addRoad : ByteArray := method_4_code
def yL_addRoad : MethodName := ⟨RL, "addRoad", "(LDetourLoom;IIII[J)I"⟩
abbrev cL_addTourist : ByteArray := method_5_code
def yL_addTourist : MethodName := ⟨RL, "addTourist", "(LDetourLoom;II[J)I"⟩
abbrev cL_mend : ByteArray := method_6_code
def yL_mend : MethodName := ⟨RL, "mend", "(LDetourLoom;II[J)I"⟩
abbrev cL_cutKnots : ByteArray := method_7_code
def yL_cutKnots : MethodName := ⟨RL, "cutKnots", "(LDetourLoom;I[J)I"⟩
abbrev cL_pass : ByteArray := method_8_code
def yL_pass : MethodName := ⟨RL, "pass", "(LDetourLoom;I[J)I"⟩
abbrev cL_lengthOf : ByteArray := method_9_code
def yL_lengthOf : MethodName := ⟨RL, "lengthOf", "(LDetourLoom;I[J)I"⟩
abbrev cL_wearOf : ByteArray := method_10_code
def yL_wearOf : MethodName := ⟨RL, "wearOf", "(LDetourLoom;I[J)I"⟩
abbrev cL_knotsOf : ByteArray := method_11_code
def yL_knotsOf : MethodName := ⟨RL, "knotsOf", "(LDetourLoom;I[J)I"⟩
abbrev cL_closedFor : ByteArray := method_12_code
def yL_closedFor : MethodName := ⟨RL, "closedFor", "(LDetourLoom;I[J)I"⟩
abbrev cL_touristsOn : ByteArray := method_13_code
def yL_touristsOn : MethodName := ⟨RL, "touristsOn", "(LDetourLoom;I[J)I"⟩
abbrev cL_openDistance : ByteArray := method_14_code
def yL_openDistance : MethodName := ⟨RL, "openDistance", "(LDetourLoom;II[J)I"⟩
abbrev cL_distance : ByteArray := method_15_code
def yL_distance : MethodName := ⟨RL, "distance", "(LDetourLoom;II[J)I"⟩
abbrev cL_nextRoad : ByteArray := method_16_code
def yL_nextRoad : MethodName := ⟨RL, "nextRoad", "(LDetourLoom;II[J)I"⟩
abbrev cL_placeOf : ByteArray := method_17_code
def yL_placeOf : MethodName := ⟨RL, "placeOf", "(LDetourLoom;I[J)I"⟩
abbrev cL_roadOf : ByteArray := method_18_code
def yL_roadOf : MethodName := ⟨RL, "roadOf", "(LDetourLoom;I[J)I"⟩
abbrev cL_dyeOf : ByteArray := method_19_code
def yL_dyeOf : MethodName := ⟨RL, "dyeOf", "(LDetourLoom;I[J)I"⟩
abbrev cL_frayOf : ByteArray := method_20_code
def yL_frayOf : MethodName := ⟨RL, "frayOf", "(LDetourLoom;I[J)I"⟩
abbrev cL_hasArrived : ByteArray := method_21_code
def yL_hasArrived : MethodName := ⟨RL, "hasArrived", "(LDetourLoom;I[J)I"⟩
abbrev cL_hoursUntilArrived : ByteArray := method_22_code
def yL_hoursUntilArrived : MethodName := ⟨RL, "hoursUntilArrived", "(LDetourLoom;I[J)I"⟩
abbrev cL_frayedIn : ByteArray := method_23_code
def yL_frayedIn : MethodName := ⟨RL, "frayedIn", "(LDetourLoom;I[J)I"⟩
abbrev cL_law : ByteArray := code
def yL_law : MethodName := ⟨RL, "law", "([I)Z"⟩
abbrev vwCl : List vw_C := [(RX0, TX0, 8), (RX1, TX1, 11), (RX2, TX2, 1), (RX3, TX3, 6), (RX4, TX4, 3), (RX5, TX5, 14)]
end
section
theorem dX0_init_0 : decode cX0_init 0 = .ok (.aload_n 0, 1) := by decide +kernel
theorem dX0_init_1 : decode cX0_init 1 = .ok (.invokespecial 3, 3) := by decide +kernel
theorem dX0_init_4 : decode cX0_init 4 = .ok (.aload_n 0, 1) := by decide +kernel
theorem dX0_init_5 : decode cX0_init 5 = .ok (.bipush 20, 2) := by decide +kernel
theorem dX0_init_7 : decode cX0_init 7 = .ok (.newarray .int, 2) := by decide +kernel
theorem dX0_init_9 : decode cX0_init 9 = .ok (.putfield 9, 3) := by decide +kernel
theorem dX0_init_12 : decode cX0_init 12 = .ok (.aload_n 0, 1) := by decide +kernel
theorem dX0_init_13 : decode cX0_init 13 = .ok (.bipush 20, 2) := by decide +kernel
theorem dX0_init_15 : decode cX0_init 15 = .ok (.newarray .int, 2) := by decide +kernel
theorem dX0_init_17 : decode cX0_init 17 = .ok (.putfield 15, 3) := by decide +kernel
theorem dX0_init_20 : decode cX0_init 20 = .ok (.aload_n 0, 1) := by decide +kernel
theorem dX0_init_21 : decode cX0_init 21 = .ok (.bipush 20, 2) := by decide +kernel
theorem dX0_init_23 : decode cX0_init 23 = .ok (.newarray .int, 2) := by decide +kernel
theorem dX0_init_25 : decode cX0_init 25 = .ok (.putfield 18, 3) := by decide +kernel
theorem dX0_init_28 : decode cX0_init 28 = .ok (.aload_n 0, 1) := by decide +kernel
theorem dX0_init_29 : decode cX0_init 29 = .ok (.bipush 20, 2) := by decide +kernel
theorem dX0_init_31 : decode cX0_init 31 = .ok (.newarray .int, 2) := by decide +kernel
theorem dX0_init_33 : decode cX0_init 33 = .ok (.putfield 21, 3) := by decide +kernel
theorem dX0_init_36 : decode cX0_init 36 = .ok (.aload_n 0, 1) := by decide +kernel
theorem dX0_init_37 : decode cX0_init 37 = .ok (.bipush 20, 2) := by decide +kernel
theorem dX0_init_39 : decode cX0_init 39 = .ok (.newarray .int, 2) := by decide +kernel
theorem dX0_init_41 : decode cX0_init 41 = .ok (.putfield 24, 3) := by decide +kernel
theorem dX0_init_44 : decode cX0_init 44 = .ok (.aload_n 0, 1) := by decide +kernel
theorem dX0_init_45 : decode cX0_init 45 = .ok (.bipush 20, 2) := by decide +kernel
theorem dX0_init_47 : decode cX0_init 47 = .ok (.newarray .int, 2) := by decide +kernel
theorem dX0_init_49 : decode cX0_init 49 = .ok (.putfield 27, 3) := by decide +kernel
theorem dX0_init_52 : decode cX0_init 52 = .ok (.aload_n 0, 1) := by decide +kernel
theorem dX0_init_53 : decode cX0_init 53 = .ok (.bipush 20, 2) := by decide +kernel
theorem dX0_init_55 : decode cX0_init 55 = .ok (.newarray .int, 2) := by decide +kernel
theorem dX0_init_57 : decode cX0_init 57 = .ok (.putfield 30, 3) := by decide +kernel
theorem dX0_init_60 : decode cX0_init 60 = .ok (.return_, 1) := by decide +kernel
theorem dX0_copyFrom_0 : decode cX0_copyFrom 0 = .ok (.aload_n 1, 1) := by decide +kernel
theorem dX0_copyFrom_1 : decode cX0_copyFrom 1 = .ok (.getfield 9, 3) := by decide +kernel
theorem dX0_copyFrom_4 : decode cX0_copyFrom 4 = .ok (.iconst 0, 1) := by decide +kernel
theorem dX0_copyFrom_5 : decode cX0_copyFrom 5 = .ok (.aload_n 0, 1) := by decide +kernel
theorem dX0_copyFrom_6 : decode cX0_copyFrom 6 = .ok (.getfield 9, 3) := by decide +kernel
theorem dX0_copyFrom_9 : decode cX0_copyFrom 9 = .ok (.iconst 0, 1) := by decide +kernel
theorem dX0_copyFrom_10 : decode cX0_copyFrom 10 = .ok (.bipush 20, 2) := by decide +kernel
theorem dX0_copyFrom_12 : decode cX0_copyFrom 12 = .ok (.invokestatic 33, 3) := by decide +kernel
theorem dX0_copyFrom_15 : decode cX0_copyFrom 15 = .ok (.aload_n 1, 1) := by decide +kernel
theorem dX0_copyFrom_16 : decode cX0_copyFrom 16 = .ok (.getfield 15, 3) := by decide +kernel
theorem dX0_copyFrom_19 : decode cX0_copyFrom 19 = .ok (.iconst 0, 1) := by decide +kernel
theorem dX0_copyFrom_20 : decode cX0_copyFrom 20 = .ok (.aload_n 0, 1) := by decide +kernel
theorem dX0_copyFrom_21 : decode cX0_copyFrom 21 = .ok (.getfield 15, 3) := by decide +kernel
theorem dX0_copyFrom_24 : decode cX0_copyFrom 24 = .ok (.iconst 0, 1) := by decide +kernel
theorem dX0_copyFrom_25 : decode cX0_copyFrom 25 = .ok (.bipush 20, 2) := by decide +kernel
theorem dX0_copyFrom_27 : decode cX0_copyFrom 27 = .ok (.invokestatic 33, 3) := by decide +kernel
theorem dX0_copyFrom_30 : decode cX0_copyFrom 30 = .ok (.aload_n 1, 1) := by decide +kernel
theorem dX0_copyFrom_31 : decode cX0_copyFrom 31 = .ok (.getfield 18, 3) := by decide +kernel
theorem dX0_copyFrom_34 : decode cX0_copyFrom 34 = .ok (.iconst 0, 1) := by decide +kernel
theorem dX0_copyFrom_35 : decode cX0_copyFrom 35 = .ok (.aload_n 0, 1) := by decide +kernel
theorem dX0_copyFrom_36 : decode cX0_copyFrom 36 = .ok (.getfield 18, 3) := by decide +kernel
theorem dX0_copyFrom_39 : decode cX0_copyFrom 39 = .ok (.iconst 0, 1) := by decide +kernel
theorem dX0_copyFrom_40 : decode cX0_copyFrom 40 = .ok (.bipush 20, 2) := by decide +kernel
theorem dX0_copyFrom_42 : decode cX0_copyFrom 42 = .ok (.invokestatic 33, 3) := by decide +kernel
theorem dX0_copyFrom_45 : decode cX0_copyFrom 45 = .ok (.aload_n 1, 1) := by decide +kernel
theorem dX0_copyFrom_46 : decode cX0_copyFrom 46 = .ok (.getfield 21, 3) := by decide +kernel
theorem dX0_copyFrom_49 : decode cX0_copyFrom 49 = .ok (.iconst 0, 1) := by decide +kernel
theorem dX0_copyFrom_50 : decode cX0_copyFrom 50 = .ok (.aload_n 0, 1) := by decide +kernel
theorem dX0_copyFrom_51 : decode cX0_copyFrom 51 = .ok (.getfield 21, 3) := by decide +kernel
theorem dX0_copyFrom_54 : decode cX0_copyFrom 54 = .ok (.iconst 0, 1) := by decide +kernel
theorem dX0_copyFrom_55 : decode cX0_copyFrom 55 = .ok (.bipush 20, 2) := by decide +kernel
theorem dX0_copyFrom_57 : decode cX0_copyFrom 57 = .ok (.invokestatic 33, 3) := by decide +kernel
theorem dX0_copyFrom_60 : decode cX0_copyFrom 60 = .ok (.aload_n 1, 1) := by decide +kernel
theorem dX0_copyFrom_61 : decode cX0_copyFrom 61 = .ok (.getfield 24, 3) := by decide +kernel
theorem dX0_copyFrom_64 : decode cX0_copyFrom 64 = .ok (.iconst 0, 1) := by decide +kernel
theorem dX0_copyFrom_65 : decode cX0_copyFrom 65 = .ok (.aload_n 0, 1) := by decide +kernel
theorem dX0_copyFrom_66 : decode cX0_copyFrom 66 = .ok (.getfield 24, 3) := by decide +kernel
theorem dX0_copyFrom_69 : decode cX0_copyFrom 69 = .ok (.iconst 0, 1) := by decide +kernel
theorem dX0_copyFrom_70 : decode cX0_copyFrom 70 = .ok (.bipush 20, 2) := by decide +kernel
theorem dX0_copyFrom_72 : decode cX0_copyFrom 72 = .ok (.invokestatic 33, 3) := by decide +kernel
theorem dX0_copyFrom_75 : decode cX0_copyFrom 75 = .ok (.aload_n 1, 1) := by decide +kernel
theorem dX0_copyFrom_76 : decode cX0_copyFrom 76 = .ok (.getfield 27, 3) := by decide +kernel
theorem dX0_copyFrom_79 : decode cX0_copyFrom 79 = .ok (.iconst 0, 1) := by decide +kernel
theorem dX0_copyFrom_80 : decode cX0_copyFrom 80 = .ok (.aload_n 0, 1) := by decide +kernel
theorem dX0_copyFrom_81 : decode cX0_copyFrom 81 = .ok (.getfield 27, 3) := by decide +kernel
theorem dX0_copyFrom_84 : decode cX0_copyFrom 84 = .ok (.iconst 0, 1) := by decide +kernel
theorem dX0_copyFrom_85 : decode cX0_copyFrom 85 = .ok (.bipush 20, 2) := by decide +kernel
theorem dX0_copyFrom_87 : decode cX0_copyFrom 87 = .ok (.invokestatic 33, 3) := by decide +kernel
theorem dX0_copyFrom_90 : decode cX0_copyFrom 90 = .ok (.aload_n 1, 1) := by decide +kernel
theorem dX0_copyFrom_91 : decode cX0_copyFrom 91 = .ok (.getfield 30, 3) := by decide +kernel
theorem dX0_copyFrom_94 : decode cX0_copyFrom 94 = .ok (.iconst 0, 1) := by decide +kernel
theorem dX0_copyFrom_95 : decode cX0_copyFrom 95 = .ok (.aload_n 0, 1) := by decide +kernel
theorem dX0_copyFrom_96 : decode cX0_copyFrom 96 = .ok (.getfield 30, 3) := by decide +kernel
theorem dX0_copyFrom_99 : decode cX0_copyFrom 99 = .ok (.iconst 0, 1) := by decide +kernel
theorem dX0_copyFrom_100 : decode cX0_copyFrom 100 = .ok (.bipush 20, 2) := by decide +kernel
theorem dX0_copyFrom_102 : decode cX0_copyFrom 102 = .ok (.invokestatic 33, 3) := by decide +kernel
theorem dX0_copyFrom_105 : decode cX0_copyFrom 105 = .ok (.aload_n 0, 1) := by decide +kernel
theorem dX0_copyFrom_106 : decode cX0_copyFrom 106 = .ok (.aload_n 1, 1) := by decide +kernel
theorem dX0_copyFrom_107 : decode cX0_copyFrom 107 = .ok (.getfield 39, 3) := by decide +kernel
theorem dX0_copyFrom_110 : decode cX0_copyFrom 110 = .ok (.putfield 39, 3) := by decide +kernel
theorem dX0_copyFrom_113 : decode cX0_copyFrom 113 = .ok (.return_, 1) := by decide +kernel
theorem dX0_put_0 : decode cX0_put 0 = .ok (.aload_n 0, 1) := by decide +kernel
theorem dX0_put_1 : decode cX0_put 1 = .ok (.getfield 39, 3) := by decide +kernel
theorem dX0_put_4 : decode cX0_put 4 = .ok (.istore 5, 2) := by decide +kernel
theorem dX0_put_6 : decode cX0_put 6 = .ok (.aload_n 0, 1) := by decide +kernel
theorem dX0_put_7 : decode cX0_put 7 = .ok (.getfield 9, 3) := by decide +kernel
theorem dX0_put_10 : decode cX0_put 10 = .ok (.iload 5, 2) := by decide +kernel
theorem dX0_put_12 : decode cX0_put 12 = .ok (.iload_n 1, 1) := by decide +kernel
theorem dX0_put_13 : decode cX0_put 13 = .ok (.iastore, 1) := by decide +kernel
theorem dX0_put_14 : decode cX0_put 14 = .ok (.aload_n 0, 1) := by decide +kernel
theorem dX0_put_15 : decode cX0_put 15 = .ok (.getfield 15, 3) := by decide +kernel
theorem dX0_put_18 : decode cX0_put 18 = .ok (.iload 5, 2) := by decide +kernel
theorem dX0_put_20 : decode cX0_put 20 = .ok (.iload_n 2, 1) := by decide +kernel
theorem dX0_put_21 : decode cX0_put 21 = .ok (.iastore, 1) := by decide +kernel
theorem dX0_put_22 : decode cX0_put 22 = .ok (.aload_n 0, 1) := by decide +kernel
theorem dX0_put_23 : decode cX0_put 23 = .ok (.getfield 18, 3) := by decide +kernel
theorem dX0_put_26 : decode cX0_put 26 = .ok (.iload 5, 2) := by decide +kernel
theorem dX0_put_28 : decode cX0_put 28 = .ok (.iload_n 3, 1) := by decide +kernel
theorem dX0_put_29 : decode cX0_put 29 = .ok (.iastore, 1) := by decide +kernel
theorem dX0_put_30 : decode cX0_put 30 = .ok (.aload_n 0, 1) := by decide +kernel
theorem dX0_put_31 : decode cX0_put 31 = .ok (.getfield 21, 3) := by decide +kernel
theorem dX0_put_34 : decode cX0_put 34 = .ok (.iload 5, 2) := by decide +kernel
theorem dX0_put_36 : decode cX0_put 36 = .ok (.iload 4, 2) := by decide +kernel
theorem dX0_put_38 : decode cX0_put 38 = .ok (.iastore, 1) := by decide +kernel
theorem dX0_put_39 : decode cX0_put 39 = .ok (.aload_n 0, 1) := by decide +kernel
theorem dX0_put_40 : decode cX0_put 40 = .ok (.dup, 1) := by decide +kernel
theorem dX0_put_41 : decode cX0_put 41 = .ok (.getfield 39, 3) := by decide +kernel
theorem dX0_put_44 : decode cX0_put 44 = .ok (.iconst 1, 1) := by decide +kernel
theorem dX0_put_45 : decode cX0_put 45 = .ok (.iadd, 1) := by decide +kernel
theorem dX0_put_46 : decode cX0_put 46 = .ok (.putfield 39, 3) := by decide +kernel
theorem dX0_put_49 : decode cX0_put 49 = .ok (.iload 5, 2) := by decide +kernel
theorem dX0_put_51 : decode cX0_put 51 = .ok (.ireturn, 1) := by decide +kernel
theorem dX0_lengthNow_0 : decode cX0_lengthNow 0 = .ok (.aload_n 0, 1) := by decide +kernel
theorem dX0_lengthNow_1 : decode cX0_lengthNow 1 = .ok (.getfield 18, 3) := by decide +kernel
theorem dX0_lengthNow_4 : decode cX0_lengthNow 4 = .ok (.iload_n 1, 1) := by decide +kernel
theorem dX0_lengthNow_5 : decode cX0_lengthNow 5 = .ok (.iaload, 1) := by decide +kernel
theorem dX0_lengthNow_6 : decode cX0_lengthNow 6 = .ok (.aload_n 0, 1) := by decide +kernel
theorem dX0_lengthNow_7 : decode cX0_lengthNow 7 = .ok (.getfield 27, 3) := by decide +kernel
theorem dX0_lengthNow_10 : decode cX0_lengthNow 10 = .ok (.iload_n 1, 1) := by decide +kernel
theorem dX0_lengthNow_11 : decode cX0_lengthNow 11 = .ok (.iaload, 1) := by decide +kernel
theorem dX0_lengthNow_12 : decode cX0_lengthNow 12 = .ok (.iadd, 1) := by decide +kernel
theorem dX0_lengthNow_13 : decode cX0_lengthNow 13 = .ok (.ireturn, 1) := by decide +kernel
theorem dX0_endFrom_0 : decode cX0_endFrom 0 = .ok (.aload_n 0, 1) := by decide +kernel
theorem dX0_endFrom_1 : decode cX0_endFrom 1 = .ok (.getfield 9, 3) := by decide +kernel
theorem dX0_endFrom_4 : decode cX0_endFrom 4 = .ok (.iload_n 1, 1) := by decide +kernel
theorem dX0_endFrom_5 : decode cX0_endFrom 5 = .ok (.iaload, 1) := by decide +kernel
theorem dX0_endFrom_6 : decode cX0_endFrom 6 = .ok (.iload_n 2, 1) := by decide +kernel
theorem dX0_endFrom_7 : decode cX0_endFrom 7 = .ok (.if_icmp .ne 10, 3) := by decide +kernel
theorem dX0_endFrom_10 : decode cX0_endFrom 10 = .ok (.aload_n 0, 1) := by decide +kernel
theorem dX0_endFrom_11 : decode cX0_endFrom 11 = .ok (.getfield 15, 3) := by decide +kernel
theorem dX0_endFrom_14 : decode cX0_endFrom 14 = .ok (.iload_n 1, 1) := by decide +kernel
theorem dX0_endFrom_15 : decode cX0_endFrom 15 = .ok (.iaload, 1) := by decide +kernel
theorem dX0_endFrom_16 : decode cX0_endFrom 16 = .ok (.ireturn, 1) := by decide +kernel
theorem dX0_endFrom_17 : decode cX0_endFrom 17 = .ok (.aload_n 0, 1) := by decide +kernel
theorem dX0_endFrom_18 : decode cX0_endFrom 18 = .ok (.getfield 15, 3) := by decide +kernel
theorem dX0_endFrom_21 : decode cX0_endFrom 21 = .ok (.iload_n 1, 1) := by decide +kernel
theorem dX0_endFrom_22 : decode cX0_endFrom 22 = .ok (.iaload, 1) := by decide +kernel
theorem dX0_endFrom_23 : decode cX0_endFrom 23 = .ok (.iload_n 2, 1) := by decide +kernel
theorem dX0_endFrom_24 : decode cX0_endFrom 24 = .ok (.if_icmp .ne 10, 3) := by decide +kernel
theorem dX0_endFrom_27 : decode cX0_endFrom 27 = .ok (.aload_n 0, 1) := by decide +kernel
theorem dX0_endFrom_28 : decode cX0_endFrom 28 = .ok (.getfield 9, 3) := by decide +kernel
theorem dX0_endFrom_31 : decode cX0_endFrom 31 = .ok (.iload_n 1, 1) := by decide +kernel
theorem dX0_endFrom_32 : decode cX0_endFrom 32 = .ok (.iaload, 1) := by decide +kernel
theorem dX0_endFrom_33 : decode cX0_endFrom 33 = .ok (.ireturn, 1) := by decide +kernel
theorem dX0_endFrom_34 : decode cX0_endFrom 34 = .ok (.iconst (-1), 1) := by decide +kernel
theorem dX0_endFrom_35 : decode cX0_endFrom 35 = .ok (.ireturn, 1) := by decide +kernel
theorem dX0_reopen_0 : decode cX0_reopen 0 = .ok (.aload_n 0, 1) := by decide +kernel
theorem dX0_reopen_1 : decode cX0_reopen 1 = .ok (.getfield 24, 3) := by decide +kernel
theorem dX0_reopen_4 : decode cX0_reopen 4 = .ok (.iload_n 1, 1) := by decide +kernel
theorem dX0_reopen_5 : decode cX0_reopen 5 = .ok (.iconst 0, 1) := by decide +kernel
theorem dX0_reopen_6 : decode cX0_reopen 6 = .ok (.iastore, 1) := by decide +kernel
theorem dX0_reopen_7 : decode cX0_reopen 7 = .ok (.aload_n 0, 1) := by decide +kernel
theorem dX0_reopen_8 : decode cX0_reopen 8 = .ok (.getfield 27, 3) := by decide +kernel
theorem dX0_reopen_11 : decode cX0_reopen 11 = .ok (.iload_n 1, 1) := by decide +kernel
theorem dX0_reopen_12 : decode cX0_reopen 12 = .ok (.iaload, 1) := by decide +kernel
theorem dX0_reopen_13 : decode cX0_reopen 13 = .ok (.iconst 3, 1) := by decide +kernel
theorem dX0_reopen_14 : decode cX0_reopen 14 = .ok (.if_icmp .ge 13, 3) := by decide +kernel
theorem dX0_reopen_17 : decode cX0_reopen 17 = .ok (.aload_n 0, 1) := by decide +kernel
theorem dX0_reopen_18 : decode cX0_reopen 18 = .ok (.getfield 27, 3) := by decide +kernel
theorem dX0_reopen_21 : decode cX0_reopen 21 = .ok (.iload_n 1, 1) := by decide +kernel
theorem dX0_reopen_22 : decode cX0_reopen 22 = .ok (.dup2, 1) := by decide +kernel
theorem dX0_reopen_23 : decode cX0_reopen 23 = .ok (.iaload, 1) := by decide +kernel
theorem dX0_reopen_24 : decode cX0_reopen 24 = .ok (.iconst 1, 1) := by decide +kernel
theorem dX0_reopen_25 : decode cX0_reopen 25 = .ok (.iadd, 1) := by decide +kernel
theorem dX0_reopen_26 : decode cX0_reopen 26 = .ok (.iastore, 1) := by decide +kernel
theorem dX0_reopen_27 : decode cX0_reopen 27 = .ok (.return_, 1) := by decide +kernel
theorem dX0_countClosed_0 : decode cX0_countClosed 0 = .ok (.iconst 0, 1) := by decide +kernel
theorem dX0_countClosed_1 : decode cX0_countClosed 1 = .ok (.istore_n 1, 1) := by decide +kernel
theorem dX0_countClosed_2 : decode cX0_countClosed 2 = .ok (.iconst 0, 1) := by decide +kernel
theorem dX0_countClosed_3 : decode cX0_countClosed 3 = .ok (.istore_n 2, 1) := by decide +kernel
theorem dX0_countClosed_4 : decode cX0_countClosed 4 = .ok (.iload_n 2, 1) := by decide +kernel
theorem dX0_countClosed_5 : decode cX0_countClosed 5 = .ok (.aload_n 0, 1) := by decide +kernel
theorem dX0_countClosed_6 : decode cX0_countClosed 6 = .ok (.getfield 39, 3) := by decide +kernel
theorem dX0_countClosed_9 : decode cX0_countClosed 9 = .ok (.if_icmp .ge 21, 3) := by decide +kernel
theorem dX0_countClosed_12 : decode cX0_countClosed 12 = .ok (.aload_n 0, 1) := by decide +kernel
theorem dX0_countClosed_13 : decode cX0_countClosed 13 = .ok (.getfield 30, 3) := by decide +kernel
theorem dX0_countClosed_16 : decode cX0_countClosed 16 = .ok (.iload_n 2, 1) := by decide +kernel
theorem dX0_countClosed_17 : decode cX0_countClosed 17 = .ok (.iaload, 1) := by decide +kernel
theorem dX0_countClosed_18 : decode cX0_countClosed 18 = .ok (.ifCond .le 6, 3) := by decide +kernel
theorem dX0_countClosed_21 : decode cX0_countClosed 21 = .ok (.iinc 1 1, 3) := by decide +kernel
theorem dX0_countClosed_24 : decode cX0_countClosed 24 = .ok (.iinc 2 1, 3) := by decide +kernel
theorem dX0_countClosed_27 : decode cX0_countClosed 27 = .ok (.goto (-23), 3) := by decide +kernel
theorem dX0_countClosed_30 : decode cX0_countClosed 30 = .ok (.iload_n 1, 1) := by decide +kernel
theorem dX0_countClosed_31 : decode cX0_countClosed 31 = .ok (.ireturn, 1) := by decide +kernel
theorem dX0_openWithMostWear_0 : decode cX0_openWithMostWear 0 = .ok (.iconst (-1), 1) := by decide +kernel
theorem dX0_openWithMostWear_1 : decode cX0_openWithMostWear 1 = .ok (.istore_n 1, 1) := by decide +kernel
theorem dX0_openWithMostWear_2 : decode cX0_openWithMostWear 2 = .ok (.iconst (-1), 1) := by decide +kernel
theorem dX0_openWithMostWear_3 : decode cX0_openWithMostWear 3 = .ok (.istore_n 2, 1) := by decide +kernel
theorem dX0_openWithMostWear_4 : decode cX0_openWithMostWear 4 = .ok (.iconst 0, 1) := by decide +kernel
theorem dX0_openWithMostWear_5 : decode cX0_openWithMostWear 5 = .ok (.istore_n 3, 1) := by decide +kernel
theorem dX0_openWithMostWear_6 : decode cX0_openWithMostWear 6 = .ok (.iload_n 3, 1) := by decide +kernel
theorem dX0_openWithMostWear_7 : decode cX0_openWithMostWear 7 = .ok (.aload_n 0, 1) := by decide +kernel
theorem dX0_openWithMostWear_8 : decode cX0_openWithMostWear 8 = .ok (.getfield 39, 3) := by decide +kernel
theorem dX0_openWithMostWear_11 : decode cX0_openWithMostWear 11 = .ok (.if_icmp .ge 37, 3) := by decide +kernel
theorem dX0_openWithMostWear_14 : decode cX0_openWithMostWear 14 = .ok (.aload_n 0, 1) := by decide +kernel
theorem dX0_openWithMostWear_15 : decode cX0_openWithMostWear 15 = .ok (.getfield 30, 3) := by decide +kernel
theorem dX0_openWithMostWear_18 : decode cX0_openWithMostWear 18 = .ok (.iload_n 3, 1) := by decide +kernel
theorem dX0_openWithMostWear_19 : decode cX0_openWithMostWear 19 = .ok (.iaload, 1) := by decide +kernel
theorem dX0_openWithMostWear_20 : decode cX0_openWithMostWear 20 = .ok (.ifCond .ne 22, 3) := by decide +kernel
theorem dX0_openWithMostWear_23 : decode cX0_openWithMostWear 23 = .ok (.aload_n 0, 1) := by decide +kernel
theorem dX0_openWithMostWear_24 : decode cX0_openWithMostWear 24 = .ok (.getfield 24, 3) := by decide +kernel
theorem dX0_openWithMostWear_27 : decode cX0_openWithMostWear 27 = .ok (.iload_n 3, 1) := by decide +kernel
theorem dX0_openWithMostWear_28 : decode cX0_openWithMostWear 28 = .ok (.iaload, 1) := by decide +kernel
theorem dX0_openWithMostWear_29 : decode cX0_openWithMostWear 29 = .ok (.iload_n 2, 1) := by decide +kernel
theorem dX0_openWithMostWear_30 : decode cX0_openWithMostWear 30 = .ok (.if_icmp .le 12, 3) := by decide +kernel
theorem dX0_openWithMostWear_33 : decode cX0_openWithMostWear 33 = .ok (.aload_n 0, 1) := by decide +kernel
theorem dX0_openWithMostWear_34 : decode cX0_openWithMostWear 34 = .ok (.getfield 24, 3) := by decide +kernel
theorem dX0_openWithMostWear_37 : decode cX0_openWithMostWear 37 = .ok (.iload_n 3, 1) := by decide +kernel
theorem dX0_openWithMostWear_38 : decode cX0_openWithMostWear 38 = .ok (.iaload, 1) := by decide +kernel
theorem dX0_openWithMostWear_39 : decode cX0_openWithMostWear 39 = .ok (.istore_n 2, 1) := by decide +kernel
theorem dX0_openWithMostWear_40 : decode cX0_openWithMostWear 40 = .ok (.iload_n 3, 1) := by decide +kernel
theorem dX0_openWithMostWear_41 : decode cX0_openWithMostWear 41 = .ok (.istore_n 1, 1) := by decide +kernel
theorem dX0_openWithMostWear_42 : decode cX0_openWithMostWear 42 = .ok (.iinc 3 1, 3) := by decide +kernel
theorem dX0_openWithMostWear_45 : decode cX0_openWithMostWear 45 = .ok (.goto (-39), 3) := by decide +kernel
theorem dX0_openWithMostWear_48 : decode cX0_openWithMostWear 48 = .ok (.iload_n 1, 1) := by decide +kernel
theorem dX0_openWithMostWear_49 : decode cX0_openWithMostWear 49 = .ok (.ireturn, 1) := by decide +kernel
theorem dX1_init_0 : decode cX1_init 0 = .ok (.aload_n 0, 1) := by decide +kernel
theorem dX1_init_1 : decode cX1_init 1 = .ok (.invokespecial 3, 3) := by decide +kernel
theorem dX1_init_4 : decode cX1_init 4 = .ok (.aload_n 0, 1) := by decide +kernel
theorem dX1_init_5 : decode cX1_init 5 = .ok (.bipush 12, 2) := by decide +kernel
theorem dX1_init_7 : decode cX1_init 7 = .ok (.newarray .int, 2) := by decide +kernel
theorem dX1_init_9 : decode cX1_init 9 = .ok (.putfield 9, 3) := by decide +kernel
theorem dX1_init_12 : decode cX1_init 12 = .ok (.aload_n 0, 1) := by decide +kernel
theorem dX1_init_13 : decode cX1_init 13 = .ok (.bipush 12, 2) := by decide +kernel
theorem dX1_init_15 : decode cX1_init 15 = .ok (.newarray .int, 2) := by decide +kernel
theorem dX1_init_17 : decode cX1_init 17 = .ok (.putfield 15, 3) := by decide +kernel
theorem dX1_init_20 : decode cX1_init 20 = .ok (.aload_n 0, 1) := by decide +kernel
theorem dX1_init_21 : decode cX1_init 21 = .ok (.bipush 12, 2) := by decide +kernel
theorem dX1_init_23 : decode cX1_init 23 = .ok (.newarray .int, 2) := by decide +kernel
theorem dX1_init_25 : decode cX1_init 25 = .ok (.putfield 18, 3) := by decide +kernel
theorem dX1_init_28 : decode cX1_init 28 = .ok (.aload_n 0, 1) := by decide +kernel
theorem dX1_init_29 : decode cX1_init 29 = .ok (.bipush 12, 2) := by decide +kernel
theorem dX1_init_31 : decode cX1_init 31 = .ok (.newarray .int, 2) := by decide +kernel
theorem dX1_init_33 : decode cX1_init 33 = .ok (.putfield 21, 3) := by decide +kernel
theorem dX1_init_36 : decode cX1_init 36 = .ok (.aload_n 0, 1) := by decide +kernel
theorem dX1_init_37 : decode cX1_init 37 = .ok (.bipush 12, 2) := by decide +kernel
theorem dX1_init_39 : decode cX1_init 39 = .ok (.newarray .int, 2) := by decide +kernel
theorem dX1_init_41 : decode cX1_init 41 = .ok (.putfield 24, 3) := by decide +kernel
theorem dX1_init_44 : decode cX1_init 44 = .ok (.aload_n 0, 1) := by decide +kernel
theorem dX1_init_45 : decode cX1_init 45 = .ok (.bipush 12, 2) := by decide +kernel
theorem dX1_init_47 : decode cX1_init 47 = .ok (.newarray .int, 2) := by decide +kernel
theorem dX1_init_49 : decode cX1_init 49 = .ok (.putfield 27, 3) := by decide +kernel
theorem dX1_init_52 : decode cX1_init 52 = .ok (.aload_n 0, 1) := by decide +kernel
theorem dX1_init_53 : decode cX1_init 53 = .ok (.bipush 12, 2) := by decide +kernel
theorem dX1_init_55 : decode cX1_init 55 = .ok (.newarray .int, 2) := by decide +kernel
theorem dX1_init_57 : decode cX1_init 57 = .ok (.putfield 30, 3) := by decide +kernel
theorem dX1_init_60 : decode cX1_init 60 = .ok (.aload_n 0, 1) := by decide +kernel
theorem dX1_init_61 : decode cX1_init 61 = .ok (.bipush 12, 2) := by decide +kernel
theorem dX1_init_63 : decode cX1_init 63 = .ok (.newarray .int, 2) := by decide +kernel
theorem dX1_init_65 : decode cX1_init 65 = .ok (.putfield 33, 3) := by decide +kernel
theorem dX1_init_68 : decode cX1_init 68 = .ok (.aload_n 0, 1) := by decide +kernel
theorem dX1_init_69 : decode cX1_init 69 = .ok (.bipush 12, 2) := by decide +kernel
theorem dX1_init_71 : decode cX1_init 71 = .ok (.newarray .int, 2) := by decide +kernel
theorem dX1_init_73 : decode cX1_init 73 = .ok (.putfield 36, 3) := by decide +kernel
theorem dX1_init_76 : decode cX1_init 76 = .ok (.return_, 1) := by decide +kernel
theorem dX1_copyFrom_0 : decode cX1_copyFrom 0 = .ok (.aload_n 1, 1) := by decide +kernel
theorem dX1_copyFrom_1 : decode cX1_copyFrom 1 = .ok (.getfield 9, 3) := by decide +kernel
theorem dX1_copyFrom_4 : decode cX1_copyFrom 4 = .ok (.iconst 0, 1) := by decide +kernel
theorem dX1_copyFrom_5 : decode cX1_copyFrom 5 = .ok (.aload_n 0, 1) := by decide +kernel
theorem dX1_copyFrom_6 : decode cX1_copyFrom 6 = .ok (.getfield 9, 3) := by decide +kernel
theorem dX1_copyFrom_9 : decode cX1_copyFrom 9 = .ok (.iconst 0, 1) := by decide +kernel
theorem dX1_copyFrom_10 : decode cX1_copyFrom 10 = .ok (.bipush 12, 2) := by decide +kernel
theorem dX1_copyFrom_12 : decode cX1_copyFrom 12 = .ok (.invokestatic 39, 3) := by decide +kernel
theorem dX1_copyFrom_15 : decode cX1_copyFrom 15 = .ok (.aload_n 1, 1) := by decide +kernel
theorem dX1_copyFrom_16 : decode cX1_copyFrom 16 = .ok (.getfield 15, 3) := by decide +kernel
theorem dX1_copyFrom_19 : decode cX1_copyFrom 19 = .ok (.iconst 0, 1) := by decide +kernel
theorem dX1_copyFrom_20 : decode cX1_copyFrom 20 = .ok (.aload_n 0, 1) := by decide +kernel
theorem dX1_copyFrom_21 : decode cX1_copyFrom 21 = .ok (.getfield 15, 3) := by decide +kernel
theorem dX1_copyFrom_24 : decode cX1_copyFrom 24 = .ok (.iconst 0, 1) := by decide +kernel
theorem dX1_copyFrom_25 : decode cX1_copyFrom 25 = .ok (.bipush 12, 2) := by decide +kernel
theorem dX1_copyFrom_27 : decode cX1_copyFrom 27 = .ok (.invokestatic 39, 3) := by decide +kernel
theorem dX1_copyFrom_30 : decode cX1_copyFrom 30 = .ok (.aload_n 1, 1) := by decide +kernel
theorem dX1_copyFrom_31 : decode cX1_copyFrom 31 = .ok (.getfield 18, 3) := by decide +kernel
theorem dX1_copyFrom_34 : decode cX1_copyFrom 34 = .ok (.iconst 0, 1) := by decide +kernel
theorem dX1_copyFrom_35 : decode cX1_copyFrom 35 = .ok (.aload_n 0, 1) := by decide +kernel
theorem dX1_copyFrom_36 : decode cX1_copyFrom 36 = .ok (.getfield 18, 3) := by decide +kernel
theorem dX1_copyFrom_39 : decode cX1_copyFrom 39 = .ok (.iconst 0, 1) := by decide +kernel
theorem dX1_copyFrom_40 : decode cX1_copyFrom 40 = .ok (.bipush 12, 2) := by decide +kernel
theorem dX1_copyFrom_42 : decode cX1_copyFrom 42 = .ok (.invokestatic 39, 3) := by decide +kernel
theorem dX1_copyFrom_45 : decode cX1_copyFrom 45 = .ok (.aload_n 1, 1) := by decide +kernel
theorem dX1_copyFrom_46 : decode cX1_copyFrom 46 = .ok (.getfield 21, 3) := by decide +kernel
theorem dX1_copyFrom_49 : decode cX1_copyFrom 49 = .ok (.iconst 0, 1) := by decide +kernel
theorem dX1_copyFrom_50 : decode cX1_copyFrom 50 = .ok (.aload_n 0, 1) := by decide +kernel
theorem dX1_copyFrom_51 : decode cX1_copyFrom 51 = .ok (.getfield 21, 3) := by decide +kernel
theorem dX1_copyFrom_54 : decode cX1_copyFrom 54 = .ok (.iconst 0, 1) := by decide +kernel
theorem dX1_copyFrom_55 : decode cX1_copyFrom 55 = .ok (.bipush 12, 2) := by decide +kernel
theorem dX1_copyFrom_57 : decode cX1_copyFrom 57 = .ok (.invokestatic 39, 3) := by decide +kernel
theorem dX1_copyFrom_60 : decode cX1_copyFrom 60 = .ok (.aload_n 1, 1) := by decide +kernel
theorem dX1_copyFrom_61 : decode cX1_copyFrom 61 = .ok (.getfield 24, 3) := by decide +kernel
theorem dX1_copyFrom_64 : decode cX1_copyFrom 64 = .ok (.iconst 0, 1) := by decide +kernel
theorem dX1_copyFrom_65 : decode cX1_copyFrom 65 = .ok (.aload_n 0, 1) := by decide +kernel
theorem dX1_copyFrom_66 : decode cX1_copyFrom 66 = .ok (.getfield 24, 3) := by decide +kernel
theorem dX1_copyFrom_69 : decode cX1_copyFrom 69 = .ok (.iconst 0, 1) := by decide +kernel
theorem dX1_copyFrom_70 : decode cX1_copyFrom 70 = .ok (.bipush 12, 2) := by decide +kernel
theorem dX1_copyFrom_72 : decode cX1_copyFrom 72 = .ok (.invokestatic 39, 3) := by decide +kernel
theorem dX1_copyFrom_75 : decode cX1_copyFrom 75 = .ok (.aload_n 1, 1) := by decide +kernel
theorem dX1_copyFrom_76 : decode cX1_copyFrom 76 = .ok (.getfield 27, 3) := by decide +kernel
theorem dX1_copyFrom_79 : decode cX1_copyFrom 79 = .ok (.iconst 0, 1) := by decide +kernel
theorem dX1_copyFrom_80 : decode cX1_copyFrom 80 = .ok (.aload_n 0, 1) := by decide +kernel
theorem dX1_copyFrom_81 : decode cX1_copyFrom 81 = .ok (.getfield 27, 3) := by decide +kernel
theorem dX1_copyFrom_84 : decode cX1_copyFrom 84 = .ok (.iconst 0, 1) := by decide +kernel
theorem dX1_copyFrom_85 : decode cX1_copyFrom 85 = .ok (.bipush 12, 2) := by decide +kernel
theorem dX1_copyFrom_87 : decode cX1_copyFrom 87 = .ok (.invokestatic 39, 3) := by decide +kernel
theorem dX1_copyFrom_90 : decode cX1_copyFrom 90 = .ok (.aload_n 1, 1) := by decide +kernel
theorem dX1_copyFrom_91 : decode cX1_copyFrom 91 = .ok (.getfield 30, 3) := by decide +kernel
theorem dX1_copyFrom_94 : decode cX1_copyFrom 94 = .ok (.iconst 0, 1) := by decide +kernel
theorem dX1_copyFrom_95 : decode cX1_copyFrom 95 = .ok (.aload_n 0, 1) := by decide +kernel
theorem dX1_copyFrom_96 : decode cX1_copyFrom 96 = .ok (.getfield 30, 3) := by decide +kernel
theorem dX1_copyFrom_99 : decode cX1_copyFrom 99 = .ok (.iconst 0, 1) := by decide +kernel
theorem dX1_copyFrom_100 : decode cX1_copyFrom 100 = .ok (.bipush 12, 2) := by decide +kernel
theorem dX1_copyFrom_102 : decode cX1_copyFrom 102 = .ok (.invokestatic 39, 3) := by decide +kernel
theorem dX1_copyFrom_105 : decode cX1_copyFrom 105 = .ok (.aload_n 1, 1) := by decide +kernel
theorem dX1_copyFrom_106 : decode cX1_copyFrom 106 = .ok (.getfield 33, 3) := by decide +kernel
theorem dX1_copyFrom_109 : decode cX1_copyFrom 109 = .ok (.iconst 0, 1) := by decide +kernel
theorem dX1_copyFrom_110 : decode cX1_copyFrom 110 = .ok (.aload_n 0, 1) := by decide +kernel
theorem dX1_copyFrom_111 : decode cX1_copyFrom 111 = .ok (.getfield 33, 3) := by decide +kernel
theorem dX1_copyFrom_114 : decode cX1_copyFrom 114 = .ok (.iconst 0, 1) := by decide +kernel
theorem dX1_copyFrom_115 : decode cX1_copyFrom 115 = .ok (.bipush 12, 2) := by decide +kernel
theorem dX1_copyFrom_117 : decode cX1_copyFrom 117 = .ok (.invokestatic 39, 3) := by decide +kernel
theorem dX1_copyFrom_120 : decode cX1_copyFrom 120 = .ok (.aload_n 1, 1) := by decide +kernel
theorem dX1_copyFrom_121 : decode cX1_copyFrom 121 = .ok (.getfield 36, 3) := by decide +kernel
theorem dX1_copyFrom_124 : decode cX1_copyFrom 124 = .ok (.iconst 0, 1) := by decide +kernel
theorem dX1_copyFrom_125 : decode cX1_copyFrom 125 = .ok (.aload_n 0, 1) := by decide +kernel
theorem dX1_copyFrom_126 : decode cX1_copyFrom 126 = .ok (.getfield 36, 3) := by decide +kernel
theorem dX1_copyFrom_129 : decode cX1_copyFrom 129 = .ok (.iconst 0, 1) := by decide +kernel
theorem dX1_copyFrom_130 : decode cX1_copyFrom 130 = .ok (.bipush 12, 2) := by decide +kernel
theorem dX1_copyFrom_132 : decode cX1_copyFrom 132 = .ok (.invokestatic 39, 3) := by decide +kernel
theorem dX1_copyFrom_135 : decode cX1_copyFrom 135 = .ok (.aload_n 0, 1) := by decide +kernel
theorem dX1_copyFrom_136 : decode cX1_copyFrom 136 = .ok (.aload_n 1, 1) := by decide +kernel
theorem dX1_copyFrom_137 : decode cX1_copyFrom 137 = .ok (.getfield 45, 3) := by decide +kernel
theorem dX1_copyFrom_140 : decode cX1_copyFrom 140 = .ok (.putfield 45, 3) := by decide +kernel
theorem dX1_copyFrom_143 : decode cX1_copyFrom 143 = .ok (.aload_n 0, 1) := by decide +kernel
theorem dX1_copyFrom_144 : decode cX1_copyFrom 144 = .ok (.aload_n 1, 1) := by decide +kernel
theorem dX1_copyFrom_145 : decode cX1_copyFrom 145 = .ok (.getfield 49, 3) := by decide +kernel
theorem dX1_copyFrom_148 : decode cX1_copyFrom 148 = .ok (.putfield 49, 3) := by decide +kernel
theorem dX1_copyFrom_151 : decode cX1_copyFrom 151 = .ok (.return_, 1) := by decide +kernel
theorem dX1_put_0 : decode cX1_put 0 = .ok (.aload_n 0, 1) := by decide +kernel
theorem dX1_put_1 : decode cX1_put 1 = .ok (.getfield 45, 3) := by decide +kernel
theorem dX1_put_4 : decode cX1_put 4 = .ok (.istore 5, 2) := by decide +kernel
theorem dX1_put_6 : decode cX1_put 6 = .ok (.aload_n 0, 1) := by decide +kernel
theorem dX1_put_7 : decode cX1_put 7 = .ok (.getfield 9, 3) := by decide +kernel
theorem dX1_put_10 : decode cX1_put 10 = .ok (.iload 5, 2) := by decide +kernel
theorem dX1_put_12 : decode cX1_put 12 = .ok (.iload_n 1, 1) := by decide +kernel
theorem dX1_put_13 : decode cX1_put 13 = .ok (.iastore, 1) := by decide +kernel
theorem dX1_put_14 : decode cX1_put 14 = .ok (.aload_n 0, 1) := by decide +kernel
theorem dX1_put_15 : decode cX1_put 15 = .ok (.getfield 15, 3) := by decide +kernel
theorem dX1_put_18 : decode cX1_put 18 = .ok (.iload 5, 2) := by decide +kernel
theorem dX1_put_20 : decode cX1_put 20 = .ok (.iconst (-1), 1) := by decide +kernel
theorem dX1_put_21 : decode cX1_put 21 = .ok (.iastore, 1) := by decide +kernel
theorem dX1_put_22 : decode cX1_put 22 = .ok (.aload_n 0, 1) := by decide +kernel
theorem dX1_put_23 : decode cX1_put 23 = .ok (.getfield 24, 3) := by decide +kernel
theorem dX1_put_26 : decode cX1_put 26 = .ok (.iload 5, 2) := by decide +kernel
theorem dX1_put_28 : decode cX1_put 28 = .ok (.iload_n 2, 1) := by decide +kernel
theorem dX1_put_29 : decode cX1_put 29 = .ok (.iastore, 1) := by decide +kernel
theorem dX1_put_30 : decode cX1_put 30 = .ok (.aload_n 0, 1) := by decide +kernel
theorem dX1_put_31 : decode cX1_put 31 = .ok (.getfield 27, 3) := by decide +kernel
theorem dX1_put_34 : decode cX1_put 34 = .ok (.iload 5, 2) := by decide +kernel
theorem dX1_put_36 : decode cX1_put 36 = .ok (.iconst 0, 1) := by decide +kernel
theorem dX1_put_37 : decode cX1_put 37 = .ok (.iastore, 1) := by decide +kernel
theorem dX1_put_38 : decode cX1_put 38 = .ok (.aload_n 0, 1) := by decide +kernel
theorem dX1_put_39 : decode cX1_put 39 = .ok (.getfield 30, 3) := by decide +kernel
theorem dX1_put_42 : decode cX1_put 42 = .ok (.iload 5, 2) := by decide +kernel
theorem dX1_put_44 : decode cX1_put 44 = .ok (.iload 4, 2) := by decide +kernel
theorem dX1_put_46 : decode cX1_put 46 = .ok (.iastore, 1) := by decide +kernel
theorem dX1_put_47 : decode cX1_put 47 = .ok (.aload_n 0, 1) := by decide +kernel
theorem dX1_put_48 : decode cX1_put 48 = .ok (.getfield 33, 3) := by decide +kernel
theorem dX1_put_51 : decode cX1_put 51 = .ok (.iload 5, 2) := by decide +kernel
theorem dX1_put_53 : decode cX1_put 53 = .ok (.iload_n 3, 1) := by decide +kernel
theorem dX1_put_54 : decode cX1_put 54 = .ok (.iastore, 1) := by decide +kernel
theorem dX1_put_55 : decode cX1_put 55 = .ok (.aload_n 0, 1) := by decide +kernel
theorem dX1_put_56 : decode cX1_put 56 = .ok (.getfield 36, 3) := by decide +kernel
theorem dX1_put_59 : decode cX1_put 59 = .ok (.iload 5, 2) := by decide +kernel
theorem dX1_put_61 : decode cX1_put 61 = .ok (.iconst (-1), 1) := by decide +kernel
theorem dX1_put_62 : decode cX1_put 62 = .ok (.iastore, 1) := by decide +kernel
theorem dX1_put_63 : decode cX1_put 63 = .ok (.aload_n 0, 1) := by decide +kernel
theorem dX1_put_64 : decode cX1_put 64 = .ok (.dup, 1) := by decide +kernel
theorem dX1_put_65 : decode cX1_put 65 = .ok (.getfield 45, 3) := by decide +kernel
theorem dX1_put_68 : decode cX1_put 68 = .ok (.iconst 1, 1) := by decide +kernel
theorem dX1_put_69 : decode cX1_put 69 = .ok (.iadd, 1) := by decide +kernel
theorem dX1_put_70 : decode cX1_put 70 = .ok (.putfield 45, 3) := by decide +kernel
theorem dX1_put_73 : decode cX1_put 73 = .ok (.iload 5, 2) := by decide +kernel
theorem dX1_put_75 : decode cX1_put 75 = .ok (.ireturn, 1) := by decide +kernel
theorem dX1_isIn_0 : decode cX1_isIn 0 = .ok (.aload_n 0, 1) := by decide +kernel
theorem dX1_isIn_1 : decode cX1_isIn 1 = .ok (.getfield 36, 3) := by decide +kernel
theorem dX1_isIn_4 : decode cX1_isIn 4 = .ok (.iload_n 1, 1) := by decide +kernel
theorem dX1_isIn_5 : decode cX1_isIn 5 = .ok (.iaload, 1) := by decide +kernel
theorem dX1_isIn_6 : decode cX1_isIn 6 = .ok (.ifCond .lt 7, 3) := by decide +kernel
theorem dX1_isIn_9 : decode cX1_isIn 9 = .ok (.iconst 1, 1) := by decide +kernel
theorem dX1_isIn_10 : decode cX1_isIn 10 = .ok (.goto 4, 3) := by decide +kernel
theorem dX1_isIn_13 : decode cX1_isIn 13 = .ok (.iconst 0, 1) := by decide +kernel
theorem dX1_isIn_14 : decode cX1_isIn 14 = .ok (.ireturn, 1) := by decide +kernel
theorem dX1_take_0 : decode cX1_take 0 = .ok (.aload_n 0, 1) := by decide +kernel
theorem dX1_take_1 : decode cX1_take 1 = .ok (.getfield 9, 3) := by decide +kernel
theorem dX1_take_4 : decode cX1_take 4 = .ok (.iload_n 1, 1) := by decide +kernel
theorem dX1_take_5 : decode cX1_take 5 = .ok (.iconst (-1), 1) := by decide +kernel
theorem dX1_take_6 : decode cX1_take 6 = .ok (.iastore, 1) := by decide +kernel
theorem dX1_take_7 : decode cX1_take 7 = .ok (.aload_n 0, 1) := by decide +kernel
theorem dX1_take_8 : decode cX1_take 8 = .ok (.getfield 15, 3) := by decide +kernel
theorem dX1_take_11 : decode cX1_take 11 = .ok (.iload_n 1, 1) := by decide +kernel
theorem dX1_take_12 : decode cX1_take 12 = .ok (.iload_n 2, 1) := by decide +kernel
theorem dX1_take_13 : decode cX1_take 13 = .ok (.iastore, 1) := by decide +kernel
theorem dX1_take_14 : decode cX1_take 14 = .ok (.aload_n 0, 1) := by decide +kernel
theorem dX1_take_15 : decode cX1_take 15 = .ok (.getfield 18, 3) := by decide +kernel
theorem dX1_take_18 : decode cX1_take 18 = .ok (.iload_n 1, 1) := by decide +kernel
theorem dX1_take_19 : decode cX1_take 19 = .ok (.iload_n 3, 1) := by decide +kernel
theorem dX1_take_20 : decode cX1_take 20 = .ok (.iastore, 1) := by decide +kernel
theorem dX1_take_21 : decode cX1_take 21 = .ok (.aload_n 0, 1) := by decide +kernel
theorem dX1_take_22 : decode cX1_take 22 = .ok (.getfield 21, 3) := by decide +kernel
theorem dX1_take_25 : decode cX1_take 25 = .ok (.iload_n 1, 1) := by decide +kernel
theorem dX1_take_26 : decode cX1_take 26 = .ok (.iload 4, 2) := by decide +kernel
theorem dX1_take_28 : decode cX1_take 28 = .ok (.iastore, 1) := by decide +kernel
theorem dX1_take_29 : decode cX1_take 29 = .ok (.return_, 1) := by decide +kernel
theorem dX1_walk_0 : decode cX1_walk 0 = .ok (.aload_n 0, 1) := by decide +kernel
theorem dX1_walk_1 : decode cX1_walk 1 = .ok (.getfield 15, 3) := by decide +kernel
theorem dX1_walk_4 : decode cX1_walk 4 = .ok (.iload_n 1, 1) := by decide +kernel
theorem dX1_walk_5 : decode cX1_walk 5 = .ok (.iaload, 1) := by decide +kernel
theorem dX1_walk_6 : decode cX1_walk 6 = .ok (.ifCond .ge 4, 3) := by decide +kernel
theorem dX1_walk_9 : decode cX1_walk 9 = .ok (.return_, 1) := by decide +kernel
theorem dX1_walk_10 : decode cX1_walk 10 = .ok (.aload_n 0, 1) := by decide +kernel
theorem dX1_walk_11 : decode cX1_walk 11 = .ok (.getfield 21, 3) := by decide +kernel
theorem dX1_walk_14 : decode cX1_walk 14 = .ok (.iload_n 1, 1) := by decide +kernel
theorem dX1_walk_15 : decode cX1_walk 15 = .ok (.dup2, 1) := by decide +kernel
theorem dX1_walk_16 : decode cX1_walk 16 = .ok (.iaload, 1) := by decide +kernel
theorem dX1_walk_17 : decode cX1_walk 17 = .ok (.iconst 1, 1) := by decide +kernel
theorem dX1_walk_18 : decode cX1_walk 18 = .ok (.isub, 1) := by decide +kernel
theorem dX1_walk_19 : decode cX1_walk 19 = .ok (.iastore, 1) := by decide +kernel
theorem dX1_walk_20 : decode cX1_walk 20 = .ok (.aload_n 0, 1) := by decide +kernel
theorem dX1_walk_21 : decode cX1_walk 21 = .ok (.getfield 21, 3) := by decide +kernel
theorem dX1_walk_24 : decode cX1_walk 24 = .ok (.iload_n 1, 1) := by decide +kernel
theorem dX1_walk_25 : decode cX1_walk 25 = .ok (.iaload, 1) := by decide +kernel
theorem dX1_walk_26 : decode cX1_walk 26 = .ok (.ifCond .le 4, 3) := by decide +kernel
theorem dX1_walk_29 : decode cX1_walk 29 = .ok (.return_, 1) := by decide +kernel
theorem dX1_walk_30 : decode cX1_walk 30 = .ok (.aload_n 0, 1) := by decide +kernel
theorem dX1_walk_31 : decode cX1_walk 31 = .ok (.getfield 9, 3) := by decide +kernel
theorem dX1_walk_34 : decode cX1_walk 34 = .ok (.iload_n 1, 1) := by decide +kernel
theorem dX1_walk_35 : decode cX1_walk 35 = .ok (.aload_n 0, 1) := by decide +kernel
theorem dX1_walk_36 : decode cX1_walk 36 = .ok (.getfield 18, 3) := by decide +kernel
theorem dX1_walk_39 : decode cX1_walk 39 = .ok (.iload_n 1, 1) := by decide +kernel
theorem dX1_walk_40 : decode cX1_walk 40 = .ok (.iaload, 1) := by decide +kernel
theorem dX1_walk_41 : decode cX1_walk 41 = .ok (.iastore, 1) := by decide +kernel
theorem dX1_walk_42 : decode cX1_walk 42 = .ok (.aload_n 0, 1) := by decide +kernel
theorem dX1_walk_43 : decode cX1_walk 43 = .ok (.getfield 15, 3) := by decide +kernel
theorem dX1_walk_46 : decode cX1_walk 46 = .ok (.iload_n 1, 1) := by decide +kernel
theorem dX1_walk_47 : decode cX1_walk 47 = .ok (.iconst (-1), 1) := by decide +kernel
theorem dX1_walk_48 : decode cX1_walk 48 = .ok (.iastore, 1) := by decide +kernel
theorem dX1_walk_49 : decode cX1_walk 49 = .ok (.aload_n 0, 1) := by decide +kernel
theorem dX1_walk_50 : decode cX1_walk 50 = .ok (.getfield 9, 3) := by decide +kernel
theorem dX1_walk_53 : decode cX1_walk 53 = .ok (.iload_n 1, 1) := by decide +kernel
theorem dX1_walk_54 : decode cX1_walk 54 = .ok (.iaload, 1) := by decide +kernel
theorem dX1_walk_55 : decode cX1_walk 55 = .ok (.aload_n 0, 1) := by decide +kernel
theorem dX1_walk_56 : decode cX1_walk 56 = .ok (.getfield 24, 3) := by decide +kernel
theorem dX1_walk_59 : decode cX1_walk 59 = .ok (.iload_n 1, 1) := by decide +kernel
theorem dX1_walk_60 : decode cX1_walk 60 = .ok (.iaload, 1) := by decide +kernel
theorem dX1_walk_61 : decode cX1_walk 61 = .ok (.if_icmp .ne 29, 3) := by decide +kernel
theorem dX1_walk_64 : decode cX1_walk 64 = .ok (.aload_n 0, 1) := by decide +kernel
theorem dX1_walk_65 : decode cX1_walk 65 = .ok (.getfield 36, 3) := by decide +kernel
theorem dX1_walk_68 : decode cX1_walk 68 = .ok (.iload_n 1, 1) := by decide +kernel
theorem dX1_walk_69 : decode cX1_walk 69 = .ok (.iload_n 2, 1) := by decide +kernel
theorem dX1_walk_70 : decode cX1_walk 70 = .ok (.iconst 1, 1) := by decide +kernel
theorem dX1_walk_71 : decode cX1_walk 71 = .ok (.iadd, 1) := by decide +kernel
theorem dX1_walk_72 : decode cX1_walk 72 = .ok (.aload_n 0, 1) := by decide +kernel
theorem dX1_walk_73 : decode cX1_walk 73 = .ok (.getfield 30, 3) := by decide +kernel
theorem dX1_walk_76 : decode cX1_walk 76 = .ok (.iload_n 1, 1) := by decide +kernel
theorem dX1_walk_77 : decode cX1_walk 77 = .ok (.iaload, 1) := by decide +kernel
theorem dX1_walk_78 : decode cX1_walk 78 = .ok (.isub, 1) := by decide +kernel
theorem dX1_walk_79 : decode cX1_walk 79 = .ok (.iastore, 1) := by decide +kernel
theorem dX1_walk_80 : decode cX1_walk 80 = .ok (.aload_n 0, 1) := by decide +kernel
theorem dX1_walk_81 : decode cX1_walk 81 = .ok (.dup, 1) := by decide +kernel
theorem dX1_walk_82 : decode cX1_walk 82 = .ok (.getfield 49, 3) := by decide +kernel
theorem dX1_walk_85 : decode cX1_walk 85 = .ok (.iconst 1, 1) := by decide +kernel
theorem dX1_walk_86 : decode cX1_walk 86 = .ok (.iadd, 1) := by decide +kernel
theorem dX1_walk_87 : decode cX1_walk 87 = .ok (.putfield 49, 3) := by decide +kernel
theorem dX1_walk_90 : decode cX1_walk 90 = .ok (.return_, 1) := by decide +kernel
theorem dX1_countOn_0 : decode cX1_countOn 0 = .ok (.iconst 0, 1) := by decide +kernel
theorem dX1_countOn_1 : decode cX1_countOn 1 = .ok (.istore_n 2, 1) := by decide +kernel
theorem dX1_countOn_2 : decode cX1_countOn 2 = .ok (.iconst 0, 1) := by decide +kernel
theorem dX1_countOn_3 : decode cX1_countOn 3 = .ok (.istore_n 3, 1) := by decide +kernel
theorem dX1_countOn_4 : decode cX1_countOn 4 = .ok (.iload_n 3, 1) := by decide +kernel
theorem dX1_countOn_5 : decode cX1_countOn 5 = .ok (.aload_n 0, 1) := by decide +kernel
theorem dX1_countOn_6 : decode cX1_countOn 6 = .ok (.getfield 45, 3) := by decide +kernel
theorem dX1_countOn_9 : decode cX1_countOn 9 = .ok (.if_icmp .ge 22, 3) := by decide +kernel
theorem dX1_countOn_12 : decode cX1_countOn 12 = .ok (.aload_n 0, 1) := by decide +kernel
theorem dX1_countOn_13 : decode cX1_countOn 13 = .ok (.getfield 15, 3) := by decide +kernel
theorem dX1_countOn_16 : decode cX1_countOn 16 = .ok (.iload_n 3, 1) := by decide +kernel
theorem dX1_countOn_17 : decode cX1_countOn 17 = .ok (.iaload, 1) := by decide +kernel
theorem dX1_countOn_18 : decode cX1_countOn 18 = .ok (.iload_n 1, 1) := by decide +kernel
theorem dX1_countOn_19 : decode cX1_countOn 19 = .ok (.if_icmp .ne 6, 3) := by decide +kernel
theorem dX1_countOn_22 : decode cX1_countOn 22 = .ok (.iinc 2 1, 3) := by decide +kernel
theorem dX1_countOn_25 : decode cX1_countOn 25 = .ok (.iinc 3 1, 3) := by decide +kernel
theorem dX1_countOn_28 : decode cX1_countOn 28 = .ok (.goto (-24), 3) := by decide +kernel
theorem dX1_countOn_31 : decode cX1_countOn 31 = .ok (.iload_n 2, 1) := by decide +kernel
theorem dX1_countOn_32 : decode cX1_countOn 32 = .ok (.ireturn, 1) := by decide +kernel
theorem dX1_frayAt_0 : decode cX1_frayAt 0 = .ok (.aload_n 0, 1) := by decide +kernel
theorem dX1_frayAt_1 : decode cX1_frayAt 1 = .ok (.iload_n 1, 1) := by decide +kernel
theorem dX1_frayAt_2 : decode cX1_frayAt 2 = .ok (.invokevirtual 52, 3) := by decide +kernel
theorem dX1_frayAt_5 : decode cX1_frayAt 5 = .ok (.ifCond .eq 12, 3) := by decide +kernel
theorem dX1_frayAt_8 : decode cX1_frayAt 8 = .ok (.aload_n 0, 1) := by decide +kernel
theorem dX1_frayAt_9 : decode cX1_frayAt 9 = .ok (.getfield 36, 3) := by decide +kernel
theorem dX1_frayAt_12 : decode cX1_frayAt 12 = .ok (.iload_n 1, 1) := by decide +kernel
theorem dX1_frayAt_13 : decode cX1_frayAt 13 = .ok (.iaload, 1) := by decide +kernel
theorem dX1_frayAt_14 : decode cX1_frayAt 14 = .ok (.goto 11, 3) := by decide +kernel
theorem dX1_frayAt_17 : decode cX1_frayAt 17 = .ok (.iload_n 2, 1) := by decide +kernel
theorem dX1_frayAt_18 : decode cX1_frayAt 18 = .ok (.aload_n 0, 1) := by decide +kernel
theorem dX1_frayAt_19 : decode cX1_frayAt 19 = .ok (.getfield 30, 3) := by decide +kernel
theorem dX1_frayAt_22 : decode cX1_frayAt 22 = .ok (.iload_n 1, 1) := by decide +kernel
theorem dX1_frayAt_23 : decode cX1_frayAt 23 = .ok (.iaload, 1) := by decide +kernel
theorem dX1_frayAt_24 : decode cX1_frayAt 24 = .ok (.isub, 1) := by decide +kernel
theorem dX1_frayAt_25 : decode cX1_frayAt 25 = .ok (.istore_n 3, 1) := by decide +kernel
theorem dX1_frayAt_26 : decode cX1_frayAt 26 = .ok (.iconst 0, 1) := by decide +kernel
theorem dX1_frayAt_27 : decode cX1_frayAt 27 = .ok (.iload_n 3, 1) := by decide +kernel
theorem dX1_frayAt_28 : decode cX1_frayAt 28 = .ok (.aload_n 0, 1) := by decide +kernel
theorem dX1_frayAt_29 : decode cX1_frayAt 29 = .ok (.getfield 33, 3) := by decide +kernel
theorem dX1_frayAt_32 : decode cX1_frayAt 32 = .ok (.iload_n 1, 1) := by decide +kernel
theorem dX1_frayAt_33 : decode cX1_frayAt 33 = .ok (.iaload, 1) := by decide +kernel
theorem dX1_frayAt_34 : decode cX1_frayAt 34 = .ok (.isub, 1) := by decide +kernel
theorem dX1_frayAt_35 : decode cX1_frayAt 35 = .ok (.invokestatic 56, 3) := by decide +kernel
theorem dX1_frayAt_38 : decode cX1_frayAt 38 = .ok (.ireturn, 1) := by decide +kernel
theorem dX1_frayOfAll_0 : decode cX1_frayOfAll 0 = .ok (.iconst 0, 1) := by decide +kernel
theorem dX1_frayOfAll_1 : decode cX1_frayOfAll 1 = .ok (.istore_n 2, 1) := by decide +kernel
theorem dX1_frayOfAll_2 : decode cX1_frayOfAll 2 = .ok (.iconst 0, 1) := by decide +kernel
theorem dX1_frayOfAll_3 : decode cX1_frayOfAll 3 = .ok (.istore_n 3, 1) := by decide +kernel
theorem dX1_frayOfAll_4 : decode cX1_frayOfAll 4 = .ok (.iload_n 3, 1) := by decide +kernel
theorem dX1_frayOfAll_5 : decode cX1_frayOfAll 5 = .ok (.aload_n 0, 1) := by decide +kernel
theorem dX1_frayOfAll_6 : decode cX1_frayOfAll 6 = .ok (.getfield 45, 3) := by decide +kernel
theorem dX1_frayOfAll_9 : decode cX1_frayOfAll 9 = .ok (.if_icmp .ge 18, 3) := by decide +kernel
theorem dX1_frayOfAll_12 : decode cX1_frayOfAll 12 = .ok (.iload_n 2, 1) := by decide +kernel
theorem dX1_frayOfAll_13 : decode cX1_frayOfAll 13 = .ok (.aload_n 0, 1) := by decide +kernel
theorem dX1_frayOfAll_14 : decode cX1_frayOfAll 14 = .ok (.iload_n 3, 1) := by decide +kernel
theorem dX1_frayOfAll_15 : decode cX1_frayOfAll 15 = .ok (.iload_n 1, 1) := by decide +kernel
theorem dX1_frayOfAll_16 : decode cX1_frayOfAll 16 = .ok (.invokevirtual 62, 3) := by decide +kernel
theorem dX1_frayOfAll_19 : decode cX1_frayOfAll 19 = .ok (.iadd, 1) := by decide +kernel
theorem dX1_frayOfAll_20 : decode cX1_frayOfAll 20 = .ok (.istore_n 2, 1) := by decide +kernel
theorem dX1_frayOfAll_21 : decode cX1_frayOfAll 21 = .ok (.iinc 3 1, 3) := by decide +kernel
theorem dX1_frayOfAll_24 : decode cX1_frayOfAll 24 = .ok (.goto (-20), 3) := by decide +kernel
theorem dX1_frayOfAll_27 : decode cX1_frayOfAll 27 = .ok (.iload_n 2, 1) := by decide +kernel
theorem dX1_frayOfAll_28 : decode cX1_frayOfAll 28 = .ok (.ireturn, 1) := by decide +kernel
theorem dX1_frayOfThoseIn_0 : decode cX1_frayOfThoseIn 0 = .ok (.iconst 0, 1) := by decide +kernel
theorem dX1_frayOfThoseIn_1 : decode cX1_frayOfThoseIn 1 = .ok (.istore_n 1, 1) := by decide +kernel
theorem dX1_frayOfThoseIn_2 : decode cX1_frayOfThoseIn 2 = .ok (.iconst 0, 1) := by decide +kernel
theorem dX1_frayOfThoseIn_3 : decode cX1_frayOfThoseIn 3 = .ok (.istore_n 2, 1) := by decide +kernel
theorem dX1_frayOfThoseIn_4 : decode cX1_frayOfThoseIn 4 = .ok (.iload_n 2, 1) := by decide +kernel
theorem dX1_frayOfThoseIn_5 : decode cX1_frayOfThoseIn 5 = .ok (.aload_n 0, 1) := by decide +kernel
theorem dX1_frayOfThoseIn_6 : decode cX1_frayOfThoseIn 6 = .ok (.getfield 45, 3) := by decide +kernel
theorem dX1_frayOfThoseIn_9 : decode cX1_frayOfThoseIn 9 = .ok (.if_icmp .ge 37, 3) := by decide +kernel
theorem dX1_frayOfThoseIn_12 : decode cX1_frayOfThoseIn 12 = .ok (.aload_n 0, 1) := by decide +kernel
theorem dX1_frayOfThoseIn_13 : decode cX1_frayOfThoseIn 13 = .ok (.iload_n 2, 1) := by decide +kernel
theorem dX1_frayOfThoseIn_14 : decode cX1_frayOfThoseIn 14 = .ok (.invokevirtual 52, 3) := by decide +kernel
theorem dX1_frayOfThoseIn_17 : decode cX1_frayOfThoseIn 17 = .ok (.ifCond .eq 23, 3) := by decide +kernel
theorem dX1_frayOfThoseIn_20 : decode cX1_frayOfThoseIn 20 = .ok (.iload_n 1, 1) := by decide +kernel
theorem dX1_frayOfThoseIn_21 : decode cX1_frayOfThoseIn 21 = .ok (.iconst 0, 1) := by decide +kernel
theorem dX1_frayOfThoseIn_22 : decode cX1_frayOfThoseIn 22 = .ok (.aload_n 0, 1) := by decide +kernel
theorem dX1_frayOfThoseIn_23 : decode cX1_frayOfThoseIn 23 = .ok (.getfield 36, 3) := by decide +kernel
theorem dX1_frayOfThoseIn_26 : decode cX1_frayOfThoseIn 26 = .ok (.iload_n 2, 1) := by decide +kernel
theorem dX1_frayOfThoseIn_27 : decode cX1_frayOfThoseIn 27 = .ok (.iaload, 1) := by decide +kernel
theorem dX1_frayOfThoseIn_28 : decode cX1_frayOfThoseIn 28 = .ok (.aload_n 0, 1) := by decide +kernel
theorem dX1_frayOfThoseIn_29 : decode cX1_frayOfThoseIn 29 = .ok (.getfield 33, 3) := by decide +kernel
theorem dX1_frayOfThoseIn_32 : decode cX1_frayOfThoseIn 32 = .ok (.iload_n 2, 1) := by decide +kernel
theorem dX1_frayOfThoseIn_33 : decode cX1_frayOfThoseIn 33 = .ok (.iaload, 1) := by decide +kernel
theorem dX1_frayOfThoseIn_34 : decode cX1_frayOfThoseIn 34 = .ok (.isub, 1) := by decide +kernel
theorem dX1_frayOfThoseIn_35 : decode cX1_frayOfThoseIn 35 = .ok (.invokestatic 56, 3) := by decide +kernel
theorem dX1_frayOfThoseIn_38 : decode cX1_frayOfThoseIn 38 = .ok (.iadd, 1) := by decide +kernel
theorem dX1_frayOfThoseIn_39 : decode cX1_frayOfThoseIn 39 = .ok (.istore_n 1, 1) := by decide +kernel
theorem dX1_frayOfThoseIn_40 : decode cX1_frayOfThoseIn 40 = .ok (.iinc 2 1, 3) := by decide +kernel
theorem dX1_frayOfThoseIn_43 : decode cX1_frayOfThoseIn 43 = .ok (.goto (-39), 3) := by decide +kernel
theorem dX1_frayOfThoseIn_46 : decode cX1_frayOfThoseIn 46 = .ok (.iload_n 1, 1) := by decide +kernel
theorem dX1_frayOfThoseIn_47 : decode cX1_frayOfThoseIn 47 = .ok (.ireturn, 1) := by decide +kernel
theorem dX2_init_0 : decode cX2_init 0 = .ok (.aload_n 0, 1) := by decide +kernel
theorem dX2_init_1 : decode cX2_init 1 = .ok (.invokespecial 3, 3) := by decide +kernel
theorem dX2_init_4 : decode cX2_init 4 = .ok (.aload_n 0, 1) := by decide +kernel
theorem dX2_init_5 : decode cX2_init 5 = .ok (.bipush 100, 2) := by decide +kernel
theorem dX2_init_7 : decode cX2_init 7 = .ok (.newarray .int, 2) := by decide +kernel
theorem dX2_init_9 : decode cX2_init 9 = .ok (.putfield 9, 3) := by decide +kernel
theorem dX2_init_12 : decode cX2_init 12 = .ok (.return_, 1) := by decide +kernel
theorem dX2_copyFrom_0 : decode cX2_copyFrom 0 = .ok (.aload_n 1, 1) := by decide +kernel
theorem dX2_copyFrom_1 : decode cX2_copyFrom 1 = .ok (.getfield 9, 3) := by decide +kernel
theorem dX2_copyFrom_4 : decode cX2_copyFrom 4 = .ok (.iconst 0, 1) := by decide +kernel
theorem dX2_copyFrom_5 : decode cX2_copyFrom 5 = .ok (.aload_n 0, 1) := by decide +kernel
theorem dX2_copyFrom_6 : decode cX2_copyFrom 6 = .ok (.getfield 9, 3) := by decide +kernel
theorem dX2_copyFrom_9 : decode cX2_copyFrom 9 = .ok (.iconst 0, 1) := by decide +kernel
theorem dX2_copyFrom_10 : decode cX2_copyFrom 10 = .ok (.bipush 100, 2) := by decide +kernel
theorem dX2_copyFrom_12 : decode cX2_copyFrom 12 = .ok (.invokestatic 15, 3) := by decide +kernel
theorem dX2_copyFrom_15 : decode cX2_copyFrom 15 = .ok (.return_, 1) := by decide +kernel
theorem dX2_find_0 : decode cX2_find 0 = .ok (.aload_n 0, 1) := by decide +kernel
theorem dX2_find_1 : decode cX2_find 1 = .ok (.invokevirtual 21, 3) := by decide +kernel
theorem dX2_find_4 : decode cX2_find 4 = .ok (.iconst 0, 1) := by decide +kernel
theorem dX2_find_5 : decode cX2_find 5 = .ok (.istore 4, 2) := by decide +kernel
theorem dX2_find_7 : decode cX2_find 7 = .ok (.iload 4, 2) := by decide +kernel
theorem dX2_find_9 : decode cX2_find 9 = .ok (.aload_n 1, 1) := by decide +kernel
theorem dX2_find_10 : decode cX2_find 10 = .ok (.getfield 24, 3) := by decide +kernel
theorem dX2_find_13 : decode cX2_find 13 = .ok (.if_icmp .ge 97, 3) := by decide +kernel
theorem dX2_find_16 : decode cX2_find 16 = .ok (.aload_n 1, 1) := by decide +kernel
theorem dX2_find_17 : decode cX2_find 17 = .ok (.getfield 30, 3) := by decide +kernel
theorem dX2_find_20 : decode cX2_find 20 = .ok (.iload 4, 2) := by decide +kernel
theorem dX2_find_22 : decode cX2_find 22 = .ok (.iaload, 1) := by decide +kernel
theorem dX2_find_23 : decode cX2_find 23 = .ok (.bipush 10, 2) := by decide +kernel
theorem dX2_find_25 : decode cX2_find 25 = .ok (.imul, 1) := by decide +kernel
theorem dX2_find_26 : decode cX2_find 26 = .ok (.aload_n 1, 1) := by decide +kernel
theorem dX2_find_27 : decode cX2_find 27 = .ok (.getfield 33, 3) := by decide +kernel
theorem dX2_find_30 : decode cX2_find 30 = .ok (.iload 4, 2) := by decide +kernel
theorem dX2_find_32 : decode cX2_find 32 = .ok (.iaload, 1) := by decide +kernel
theorem dX2_find_33 : decode cX2_find 33 = .ok (.iadd, 1) := by decide +kernel
theorem dX2_find_34 : decode cX2_find 34 = .ok (.istore 5, 2) := by decide +kernel
theorem dX2_find_36 : decode cX2_find 36 = .ok (.aload_n 1, 1) := by decide +kernel
theorem dX2_find_37 : decode cX2_find 37 = .ok (.iload 4, 2) := by decide +kernel
theorem dX2_find_39 : decode cX2_find 39 = .ok (.invokevirtual 36, 3) := by decide +kernel
theorem dX2_find_42 : decode cX2_find 42 = .ok (.istore 6, 2) := by decide +kernel
theorem dX2_find_44 : decode cX2_find 44 = .ok (.iload 6, 2) := by decide +kernel
theorem dX2_find_46 : decode cX2_find 46 = .ok (.aload_n 0, 1) := by decide +kernel
theorem dX2_find_47 : decode cX2_find 47 = .ok (.getfield 9, 3) := by decide +kernel
theorem dX2_find_50 : decode cX2_find 50 = .ok (.iload 5, 2) := by decide +kernel
theorem dX2_find_52 : decode cX2_find 52 = .ok (.iaload, 1) := by decide +kernel
theorem dX2_find_53 : decode cX2_find 53 = .ok (.if_icmp .ge 51, 3) := by decide +kernel
theorem dX2_find_56 : decode cX2_find 56 = .ok (.iload_n 3, 1) := by decide +kernel
theorem dX2_find_57 : decode cX2_find 57 = .ok (.ifCond .eq 13, 3) := by decide +kernel
theorem dX2_find_60 : decode cX2_find 60 = .ok (.aload_n 1, 1) := by decide +kernel
theorem dX2_find_61 : decode cX2_find 61 = .ok (.getfield 40, 3) := by decide +kernel
theorem dX2_find_64 : decode cX2_find 64 = .ok (.iload 4, 2) := by decide +kernel
theorem dX2_find_66 : decode cX2_find 66 = .ok (.iaload, 1) := by decide +kernel
theorem dX2_find_67 : decode cX2_find 67 = .ok (.ifCond .ne 37, 3) := by decide +kernel
theorem dX2_find_70 : decode cX2_find 70 = .ok (.aload_n 0, 1) := by decide +kernel
theorem dX2_find_71 : decode cX2_find 71 = .ok (.getfield 9, 3) := by decide +kernel
theorem dX2_find_74 : decode cX2_find 74 = .ok (.iload 5, 2) := by decide +kernel
theorem dX2_find_76 : decode cX2_find 76 = .ok (.iload 6, 2) := by decide +kernel
theorem dX2_find_78 : decode cX2_find 78 = .ok (.iastore, 1) := by decide +kernel
theorem dX2_find_79 : decode cX2_find 79 = .ok (.aload_n 0, 1) := by decide +kernel
theorem dX2_find_80 : decode cX2_find 80 = .ok (.getfield 9, 3) := by decide +kernel
theorem dX2_find_83 : decode cX2_find 83 = .ok (.aload_n 1, 1) := by decide +kernel
theorem dX2_find_84 : decode cX2_find 84 = .ok (.getfield 33, 3) := by decide +kernel
theorem dX2_find_87 : decode cX2_find 87 = .ok (.iload 4, 2) := by decide +kernel
theorem dX2_find_89 : decode cX2_find 89 = .ok (.iaload, 1) := by decide +kernel
theorem dX2_find_90 : decode cX2_find 90 = .ok (.bipush 10, 2) := by decide +kernel
theorem dX2_find_92 : decode cX2_find 92 = .ok (.imul, 1) := by decide +kernel
theorem dX2_find_93 : decode cX2_find 93 = .ok (.aload_n 1, 1) := by decide +kernel
theorem dX2_find_94 : decode cX2_find 94 = .ok (.getfield 30, 3) := by decide +kernel
theorem dX2_find_97 : decode cX2_find 97 = .ok (.iload 4, 2) := by decide +kernel
theorem dX2_find_99 : decode cX2_find 99 = .ok (.iaload, 1) := by decide +kernel
theorem dX2_find_100 : decode cX2_find 100 = .ok (.iadd, 1) := by decide +kernel
theorem dX2_find_101 : decode cX2_find 101 = .ok (.iload 6, 2) := by decide +kernel
theorem dX2_find_103 : decode cX2_find 103 = .ok (.iastore, 1) := by decide +kernel
theorem dX2_find_104 : decode cX2_find 104 = .ok (.iinc 4 1, 3) := by decide +kernel
theorem dX2_find_107 : decode cX2_find 107 = .ok (.goto (-100), 3) := by decide +kernel
theorem dX2_find_110 : decode cX2_find 110 = .ok (.iconst 0, 1) := by decide +kernel
theorem dX2_find_111 : decode cX2_find 111 = .ok (.istore 4, 2) := by decide +kernel
theorem dX2_find_113 : decode cX2_find 113 = .ok (.iload 4, 2) := by decide +kernel
theorem dX2_find_115 : decode cX2_find 115 = .ok (.iload_n 2, 1) := by decide +kernel
theorem dX2_find_116 : decode cX2_find 116 = .ok (.if_icmp .ge 16, 3) := by decide +kernel
theorem dX2_find_119 : decode cX2_find 119 = .ok (.aload_n 0, 1) := by decide +kernel
theorem dX2_find_120 : decode cX2_find 120 = .ok (.iload 4, 2) := by decide +kernel
theorem dX2_find_122 : decode cX2_find 122 = .ok (.iload_n 2, 1) := by decide +kernel
theorem dX2_find_123 : decode cX2_find 123 = .ok (.invokevirtual 43, 3) := by decide +kernel
theorem dX2_find_126 : decode cX2_find 126 = .ok (.iinc 4 1, 3) := by decide +kernel
theorem dX2_find_129 : decode cX2_find 129 = .ok (.goto (-16), 3) := by decide +kernel
theorem dX2_find_132 : decode cX2_find 132 = .ok (.return_, 1) := by decide +kernel
theorem dX2_clear_0 : decode cX2_clear 0 = .ok (.iconst 0, 1) := by decide +kernel
theorem dX2_clear_1 : decode cX2_clear 1 = .ok (.istore_n 1, 1) := by decide +kernel
theorem dX2_clear_2 : decode cX2_clear 2 = .ok (.iload_n 1, 1) := by decide +kernel
theorem dX2_clear_3 : decode cX2_clear 3 = .ok (.bipush 10, 2) := by decide +kernel
theorem dX2_clear_5 : decode cX2_clear 5 = .ok (.if_icmp .ge 45, 3) := by decide +kernel
theorem dX2_clear_8 : decode cX2_clear 8 = .ok (.iconst 0, 1) := by decide +kernel
theorem dX2_clear_9 : decode cX2_clear 9 = .ok (.istore_n 2, 1) := by decide +kernel
theorem dX2_clear_10 : decode cX2_clear 10 = .ok (.iload_n 2, 1) := by decide +kernel
theorem dX2_clear_11 : decode cX2_clear 11 = .ok (.bipush 10, 2) := by decide +kernel
theorem dX2_clear_13 : decode cX2_clear 13 = .ok (.if_icmp .ge 31, 3) := by decide +kernel
theorem dX2_clear_16 : decode cX2_clear 16 = .ok (.aload_n 0, 1) := by decide +kernel
theorem dX2_clear_17 : decode cX2_clear 17 = .ok (.getfield 9, 3) := by decide +kernel
theorem dX2_clear_20 : decode cX2_clear 20 = .ok (.iload_n 1, 1) := by decide +kernel
theorem dX2_clear_21 : decode cX2_clear 21 = .ok (.bipush 10, 2) := by decide +kernel
theorem dX2_clear_23 : decode cX2_clear 23 = .ok (.imul, 1) := by decide +kernel
theorem dX2_clear_24 : decode cX2_clear 24 = .ok (.iload_n 2, 1) := by decide +kernel
theorem dX2_clear_25 : decode cX2_clear 25 = .ok (.iadd, 1) := by decide +kernel
theorem dX2_clear_26 : decode cX2_clear 26 = .ok (.iload_n 1, 1) := by decide +kernel
theorem dX2_clear_27 : decode cX2_clear 27 = .ok (.iload_n 2, 1) := by decide +kernel
theorem dX2_clear_28 : decode cX2_clear 28 = .ok (.if_icmp .ne 7, 3) := by decide +kernel
theorem dX2_clear_31 : decode cX2_clear 31 = .ok (.iconst 0, 1) := by decide +kernel
theorem dX2_clear_32 : decode cX2_clear 32 = .ok (.goto 5, 3) := by decide +kernel
theorem dX2_clear_35 : decode cX2_clear 35 = .ok (.ldc 47, 2) := by decide +kernel
theorem dX2_clear_37 : decode cX2_clear 37 = .ok (.iastore, 1) := by decide +kernel
theorem dX2_clear_38 : decode cX2_clear 38 = .ok (.iinc 2 1, 3) := by decide +kernel
theorem dX2_clear_41 : decode cX2_clear 41 = .ok (.goto (-31), 3) := by decide +kernel
theorem dX2_clear_44 : decode cX2_clear 44 = .ok (.iinc 1 1, 3) := by decide +kernel
theorem dX2_clear_47 : decode cX2_clear 47 = .ok (.goto (-45), 3) := by decide +kernel
theorem dX2_clear_50 : decode cX2_clear 50 = .ok (.return_, 1) := by decide +kernel
theorem dX2_goOver_0 : decode cX2_goOver 0 = .ok (.iconst 1, 1) := by decide +kernel
theorem dX2_goOver_1 : decode cX2_goOver 1 = .ok (.istore_n 3, 1) := by decide +kernel
theorem dX2_goOver_2 : decode cX2_goOver 2 = .ok (.iload_n 3, 1) := by decide +kernel
theorem dX2_goOver_3 : decode cX2_goOver 3 = .ok (.iload_n 2, 1) := by decide +kernel
theorem dX2_goOver_4 : decode cX2_goOver 4 = .ok (.if_icmp .ge 106, 3) := by decide +kernel
theorem dX2_goOver_7 : decode cX2_goOver 7 = .ok (.aload_n 0, 1) := by decide +kernel
theorem dX2_goOver_8 : decode cX2_goOver 8 = .ok (.getfield 9, 3) := by decide +kernel
theorem dX2_goOver_11 : decode cX2_goOver 11 = .ok (.iload_n 3, 1) := by decide +kernel
theorem dX2_goOver_12 : decode cX2_goOver 12 = .ok (.bipush 10, 2) := by decide +kernel
theorem dX2_goOver_14 : decode cX2_goOver 14 = .ok (.imul, 1) := by decide +kernel
theorem dX2_goOver_15 : decode cX2_goOver 15 = .ok (.iload_n 1, 1) := by decide +kernel
theorem dX2_goOver_16 : decode cX2_goOver 16 = .ok (.iadd, 1) := by decide +kernel
theorem dX2_goOver_17 : decode cX2_goOver 17 = .ok (.iaload, 1) := by decide +kernel
theorem dX2_goOver_18 : decode cX2_goOver 18 = .ok (.istore 4, 2) := by decide +kernel
theorem dX2_goOver_20 : decode cX2_goOver 20 = .ok (.iconst 0, 1) := by decide +kernel
theorem dX2_goOver_21 : decode cX2_goOver 21 = .ok (.istore 5, 2) := by decide +kernel
theorem dX2_goOver_23 : decode cX2_goOver 23 = .ok (.iload 4, 2) := by decide +kernel
theorem dX2_goOver_25 : decode cX2_goOver 25 = .ok (.ldc 47, 2) := by decide +kernel
theorem dX2_goOver_27 : decode cX2_goOver 27 = .ok (.if_icmp .ge 77, 3) := by decide +kernel
theorem dX2_goOver_30 : decode cX2_goOver 30 = .ok (.iload 5, 2) := by decide +kernel
theorem dX2_goOver_32 : decode cX2_goOver 32 = .ok (.iload_n 3, 1) := by decide +kernel
theorem dX2_goOver_33 : decode cX2_goOver 33 = .ok (.if_icmp .ge 71, 3) := by decide +kernel
theorem dX2_goOver_36 : decode cX2_goOver 36 = .ok (.iload 4, 2) := by decide +kernel
theorem dX2_goOver_38 : decode cX2_goOver 38 = .ok (.aload_n 0, 1) := by decide +kernel
theorem dX2_goOver_39 : decode cX2_goOver 39 = .ok (.getfield 9, 3) := by decide +kernel
theorem dX2_goOver_42 : decode cX2_goOver 42 = .ok (.iload_n 1, 1) := by decide +kernel
theorem dX2_goOver_43 : decode cX2_goOver 43 = .ok (.bipush 10, 2) := by decide +kernel
theorem dX2_goOver_45 : decode cX2_goOver 45 = .ok (.imul, 1) := by decide +kernel
theorem dX2_goOver_46 : decode cX2_goOver 46 = .ok (.iload 5, 2) := by decide +kernel
theorem dX2_goOver_48 : decode cX2_goOver 48 = .ok (.iadd, 1) := by decide +kernel
theorem dX2_goOver_49 : decode cX2_goOver 49 = .ok (.iaload, 1) := by decide +kernel
theorem dX2_goOver_50 : decode cX2_goOver 50 = .ok (.iadd, 1) := by decide +kernel
theorem dX2_goOver_51 : decode cX2_goOver 51 = .ok (.istore 6, 2) := by decide +kernel
theorem dX2_goOver_53 : decode cX2_goOver 53 = .ok (.iload 6, 2) := by decide +kernel
theorem dX2_goOver_55 : decode cX2_goOver 55 = .ok (.aload_n 0, 1) := by decide +kernel
theorem dX2_goOver_56 : decode cX2_goOver 56 = .ok (.getfield 9, 3) := by decide +kernel
theorem dX2_goOver_59 : decode cX2_goOver 59 = .ok (.iload_n 3, 1) := by decide +kernel
theorem dX2_goOver_60 : decode cX2_goOver 60 = .ok (.bipush 10, 2) := by decide +kernel
theorem dX2_goOver_62 : decode cX2_goOver 62 = .ok (.imul, 1) := by decide +kernel
theorem dX2_goOver_63 : decode cX2_goOver 63 = .ok (.iload 5, 2) := by decide +kernel
theorem dX2_goOver_65 : decode cX2_goOver 65 = .ok (.iadd, 1) := by decide +kernel
theorem dX2_goOver_66 : decode cX2_goOver 66 = .ok (.iaload, 1) := by decide +kernel
theorem dX2_goOver_67 : decode cX2_goOver 67 = .ok (.if_icmp .ge 31, 3) := by decide +kernel
theorem dX2_goOver_70 : decode cX2_goOver 70 = .ok (.aload_n 0, 1) := by decide +kernel
theorem dX2_goOver_71 : decode cX2_goOver 71 = .ok (.getfield 9, 3) := by decide +kernel
theorem dX2_goOver_74 : decode cX2_goOver 74 = .ok (.iload_n 3, 1) := by decide +kernel
theorem dX2_goOver_75 : decode cX2_goOver 75 = .ok (.bipush 10, 2) := by decide +kernel
theorem dX2_goOver_77 : decode cX2_goOver 77 = .ok (.imul, 1) := by decide +kernel
theorem dX2_goOver_78 : decode cX2_goOver 78 = .ok (.iload 5, 2) := by decide +kernel
theorem dX2_goOver_80 : decode cX2_goOver 80 = .ok (.iadd, 1) := by decide +kernel
theorem dX2_goOver_81 : decode cX2_goOver 81 = .ok (.iload 6, 2) := by decide +kernel
theorem dX2_goOver_83 : decode cX2_goOver 83 = .ok (.iastore, 1) := by decide +kernel
theorem dX2_goOver_84 : decode cX2_goOver 84 = .ok (.aload_n 0, 1) := by decide +kernel
theorem dX2_goOver_85 : decode cX2_goOver 85 = .ok (.getfield 9, 3) := by decide +kernel
theorem dX2_goOver_88 : decode cX2_goOver 88 = .ok (.iload 5, 2) := by decide +kernel
theorem dX2_goOver_90 : decode cX2_goOver 90 = .ok (.bipush 10, 2) := by decide +kernel
theorem dX2_goOver_92 : decode cX2_goOver 92 = .ok (.imul, 1) := by decide +kernel
theorem dX2_goOver_93 : decode cX2_goOver 93 = .ok (.iload_n 3, 1) := by decide +kernel
theorem dX2_goOver_94 : decode cX2_goOver 94 = .ok (.iadd, 1) := by decide +kernel
theorem dX2_goOver_95 : decode cX2_goOver 95 = .ok (.iload 6, 2) := by decide +kernel
theorem dX2_goOver_97 : decode cX2_goOver 97 = .ok (.iastore, 1) := by decide +kernel
theorem dX2_goOver_98 : decode cX2_goOver 98 = .ok (.iinc 5 1, 3) := by decide +kernel
theorem dX2_goOver_101 : decode cX2_goOver 101 = .ok (.goto (-78), 3) := by decide +kernel
theorem dX2_goOver_104 : decode cX2_goOver 104 = .ok (.iinc 3 1, 3) := by decide +kernel
theorem dX2_goOver_107 : decode cX2_goOver 107 = .ok (.goto (-105), 3) := by decide +kernel
theorem dX2_goOver_110 : decode cX2_goOver 110 = .ok (.return_, 1) := by decide +kernel
theorem dX2_sumOrNone_0 : decode cX2_sumOrNone 0 = .ok (.aload_n 0, 1) := by decide +kernel
theorem dX2_sumOrNone_1 : decode cX2_sumOrNone 1 = .ok (.getfield 9, 3) := by decide +kernel
theorem dX2_sumOrNone_4 : decode cX2_sumOrNone 4 = .ok (.iload_n 1, 1) := by decide +kernel
theorem dX2_sumOrNone_5 : decode cX2_sumOrNone 5 = .ok (.bipush 10, 2) := by decide +kernel
theorem dX2_sumOrNone_7 : decode cX2_sumOrNone 7 = .ok (.imul, 1) := by decide +kernel
theorem dX2_sumOrNone_8 : decode cX2_sumOrNone 8 = .ok (.iload_n 2, 1) := by decide +kernel
theorem dX2_sumOrNone_9 : decode cX2_sumOrNone 9 = .ok (.iadd, 1) := by decide +kernel
theorem dX2_sumOrNone_10 : decode cX2_sumOrNone 10 = .ok (.iaload, 1) := by decide +kernel
theorem dX2_sumOrNone_11 : decode cX2_sumOrNone 11 = .ok (.istore_n 3, 1) := by decide +kernel
theorem dX2_sumOrNone_12 : decode cX2_sumOrNone 12 = .ok (.iload_n 3, 1) := by decide +kernel
theorem dX2_sumOrNone_13 : decode cX2_sumOrNone 13 = .ok (.ldc 47, 2) := by decide +kernel
theorem dX2_sumOrNone_15 : decode cX2_sumOrNone 15 = .ok (.if_icmp .ge 7, 3) := by decide +kernel
theorem dX2_sumOrNone_18 : decode cX2_sumOrNone 18 = .ok (.iload_n 3, 1) := by decide +kernel
theorem dX2_sumOrNone_19 : decode cX2_sumOrNone 19 = .ok (.goto 4, 3) := by decide +kernel
theorem dX2_sumOrNone_22 : decode cX2_sumOrNone 22 = .ok (.iconst (-1), 1) := by decide +kernel
theorem dX2_sumOrNone_23 : decode cX2_sumOrNone 23 = .ok (.ireturn, 1) := by decide +kernel
theorem dX2_countParted_0 : decode cX2_countParted 0 = .ok (.iconst 0, 1) := by decide +kernel
theorem dX2_countParted_1 : decode cX2_countParted 1 = .ok (.istore_n 2, 1) := by decide +kernel
theorem dX2_countParted_2 : decode cX2_countParted 2 = .ok (.iconst 1, 1) := by decide +kernel
theorem dX2_countParted_3 : decode cX2_countParted 3 = .ok (.istore_n 3, 1) := by decide +kernel
theorem dX2_countParted_4 : decode cX2_countParted 4 = .ok (.iload_n 3, 1) := by decide +kernel
theorem dX2_countParted_5 : decode cX2_countParted 5 = .ok (.iload_n 1, 1) := by decide +kernel
theorem dX2_countParted_6 : decode cX2_countParted 6 = .ok (.if_icmp .ge 44, 3) := by decide +kernel
theorem dX2_countParted_9 : decode cX2_countParted 9 = .ok (.iconst 0, 1) := by decide +kernel
theorem dX2_countParted_10 : decode cX2_countParted 10 = .ok (.istore 4, 2) := by decide +kernel
theorem dX2_countParted_12 : decode cX2_countParted 12 = .ok (.iload 4, 2) := by decide +kernel
theorem dX2_countParted_14 : decode cX2_countParted 14 = .ok (.iload_n 3, 1) := by decide +kernel
theorem dX2_countParted_15 : decode cX2_countParted 15 = .ok (.if_icmp .ge 29, 3) := by decide +kernel
theorem dX2_countParted_18 : decode cX2_countParted 18 = .ok (.aload_n 0, 1) := by decide +kernel
theorem dX2_countParted_19 : decode cX2_countParted 19 = .ok (.getfield 9, 3) := by decide +kernel
theorem dX2_countParted_22 : decode cX2_countParted 22 = .ok (.iload_n 3, 1) := by decide +kernel
theorem dX2_countParted_23 : decode cX2_countParted 23 = .ok (.bipush 10, 2) := by decide +kernel
theorem dX2_countParted_25 : decode cX2_countParted 25 = .ok (.imul, 1) := by decide +kernel
theorem dX2_countParted_26 : decode cX2_countParted 26 = .ok (.iload 4, 2) := by decide +kernel
theorem dX2_countParted_28 : decode cX2_countParted 28 = .ok (.iadd, 1) := by decide +kernel
theorem dX2_countParted_29 : decode cX2_countParted 29 = .ok (.iaload, 1) := by decide +kernel
theorem dX2_countParted_30 : decode cX2_countParted 30 = .ok (.ldc 47, 2) := by decide +kernel
theorem dX2_countParted_32 : decode cX2_countParted 32 = .ok (.if_icmp .lt 6, 3) := by decide +kernel
theorem dX2_countParted_35 : decode cX2_countParted 35 = .ok (.iinc 2 1, 3) := by decide +kernel
theorem dX2_countParted_38 : decode cX2_countParted 38 = .ok (.iinc 4 1, 3) := by decide +kernel
theorem dX2_countParted_41 : decode cX2_countParted 41 = .ok (.goto (-29), 3) := by decide +kernel
theorem dX2_countParted_44 : decode cX2_countParted 44 = .ok (.iinc 3 1, 3) := by decide +kernel
theorem dX2_countParted_47 : decode cX2_countParted 47 = .ok (.goto (-43), 3) := by decide +kernel
theorem dX2_countParted_50 : decode cX2_countParted 50 = .ok (.iload_n 2, 1) := by decide +kernel
theorem dX2_countParted_51 : decode cX2_countParted 51 = .ok (.ireturn, 1) := by decide +kernel
theorem dX3_init_0 : decode cX3_init 0 = .ok (.aload_n 0, 1) := by decide +kernel
theorem dX3_init_1 : decode cX3_init 1 = .ok (.invokespecial 3, 3) := by decide +kernel
theorem dX3_init_4 : decode cX3_init 4 = .ok (.aload_n 0, 1) := by decide +kernel
theorem dX3_init_5 : decode cX3_init 5 = .ok (.new 9, 3) := by decide +kernel
theorem dX3_init_8 : decode cX3_init 8 = .ok (.dup, 1) := by decide +kernel
theorem dX3_init_9 : decode cX3_init 9 = .ok (.invokespecial 11, 3) := by decide +kernel
theorem dX3_init_12 : decode cX3_init 12 = .ok (.putfield 12, 3) := by decide +kernel
theorem dX3_init_15 : decode cX3_init 15 = .ok (.aload_n 0, 1) := by decide +kernel
theorem dX3_init_16 : decode cX3_init 16 = .ok (.new 18, 3) := by decide +kernel
theorem dX3_init_19 : decode cX3_init 19 = .ok (.dup, 1) := by decide +kernel
theorem dX3_init_20 : decode cX3_init 20 = .ok (.invokespecial 20, 3) := by decide +kernel
theorem dX3_init_23 : decode cX3_init 23 = .ok (.putfield 21, 3) := by decide +kernel
theorem dX3_init_26 : decode cX3_init 26 = .ok (.aload_n 0, 1) := by decide +kernel
theorem dX3_init_27 : decode cX3_init 27 = .ok (.new 25, 3) := by decide +kernel
theorem dX3_init_30 : decode cX3_init 30 = .ok (.dup, 1) := by decide +kernel
theorem dX3_init_31 : decode cX3_init 31 = .ok (.invokespecial 27, 3) := by decide +kernel
theorem dX3_init_34 : decode cX3_init 34 = .ok (.putfield 28, 3) := by decide +kernel
theorem dX3_init_37 : decode cX3_init 37 = .ok (.return_, 1) := by decide +kernel
theorem dX3_copyFrom_0 : decode cX3_copyFrom 0 = .ok (.aload_n 0, 1) := by decide +kernel
theorem dX3_copyFrom_1 : decode cX3_copyFrom 1 = .ok (.getfield 12, 3) := by decide +kernel
theorem dX3_copyFrom_4 : decode cX3_copyFrom 4 = .ok (.aload_n 1, 1) := by decide +kernel
theorem dX3_copyFrom_5 : decode cX3_copyFrom 5 = .ok (.getfield 12, 3) := by decide +kernel
theorem dX3_copyFrom_8 : decode cX3_copyFrom 8 = .ok (.invokevirtual 32, 3) := by decide +kernel
theorem dX3_copyFrom_11 : decode cX3_copyFrom 11 = .ok (.aload_n 0, 1) := by decide +kernel
theorem dX3_copyFrom_12 : decode cX3_copyFrom 12 = .ok (.getfield 21, 3) := by decide +kernel
theorem dX3_copyFrom_15 : decode cX3_copyFrom 15 = .ok (.aload_n 1, 1) := by decide +kernel
theorem dX3_copyFrom_16 : decode cX3_copyFrom 16 = .ok (.getfield 21, 3) := by decide +kernel
theorem dX3_copyFrom_19 : decode cX3_copyFrom 19 = .ok (.invokevirtual 36, 3) := by decide +kernel
theorem dX3_copyFrom_22 : decode cX3_copyFrom 22 = .ok (.aload_n 0, 1) := by decide +kernel
theorem dX3_copyFrom_23 : decode cX3_copyFrom 23 = .ok (.getfield 28, 3) := by decide +kernel
theorem dX3_copyFrom_26 : decode cX3_copyFrom 26 = .ok (.aload_n 1, 1) := by decide +kernel
theorem dX3_copyFrom_27 : decode cX3_copyFrom 27 = .ok (.getfield 28, 3) := by decide +kernel
theorem dX3_copyFrom_30 : decode cX3_copyFrom 30 = .ok (.invokevirtual 39, 3) := by decide +kernel
theorem dX3_copyFrom_33 : decode cX3_copyFrom 33 = .ok (.aload_n 0, 1) := by decide +kernel
theorem dX3_copyFrom_34 : decode cX3_copyFrom 34 = .ok (.aload_n 1, 1) := by decide +kernel
theorem dX3_copyFrom_35 : decode cX3_copyFrom 35 = .ok (.getfield 42, 3) := by decide +kernel
theorem dX3_copyFrom_38 : decode cX3_copyFrom 38 = .ok (.putfield 42, 3) := by decide +kernel
theorem dX3_copyFrom_41 : decode cX3_copyFrom 41 = .ok (.aload_n 0, 1) := by decide +kernel
theorem dX3_copyFrom_42 : decode cX3_copyFrom 42 = .ok (.aload_n 1, 1) := by decide +kernel
theorem dX3_copyFrom_43 : decode cX3_copyFrom 43 = .ok (.getfield 46, 3) := by decide +kernel
theorem dX3_copyFrom_46 : decode cX3_copyFrom 46 = .ok (.putfield 46, 3) := by decide +kernel
theorem dX3_copyFrom_49 : decode cX3_copyFrom 49 = .ok (.aload_n 0, 1) := by decide +kernel
theorem dX3_copyFrom_50 : decode cX3_copyFrom 50 = .ok (.aload_n 1, 1) := by decide +kernel
theorem dX3_copyFrom_51 : decode cX3_copyFrom 51 = .ok (.getfield 49, 3) := by decide +kernel
theorem dX3_copyFrom_54 : decode cX3_copyFrom 54 = .ok (.putfield 49, 3) := by decide +kernel
theorem dX3_copyFrom_57 : decode cX3_copyFrom 57 = .ok (.return_, 1) := by decide +kernel
theorem dX3_putCrossing_0 : decode cX3_putCrossing 0 = .ok (.aload_n 0, 1) := by decide +kernel
theorem dX3_putCrossing_1 : decode cX3_putCrossing 1 = .ok (.iconst 1, 1) := by decide +kernel
theorem dX3_putCrossing_2 : decode cX3_putCrossing 2 = .ok (.putfield 49, 3) := by decide +kernel
theorem dX3_putCrossing_5 : decode cX3_putCrossing 5 = .ok (.aload_n 0, 1) := by decide +kernel
theorem dX3_putCrossing_6 : decode cX3_putCrossing 6 = .ok (.dup, 1) := by decide +kernel
theorem dX3_putCrossing_7 : decode cX3_putCrossing 7 = .ok (.getfield 42, 3) := by decide +kernel
theorem dX3_putCrossing_10 : decode cX3_putCrossing 10 = .ok (.iconst 1, 1) := by decide +kernel
theorem dX3_putCrossing_11 : decode cX3_putCrossing 11 = .ok (.iadd, 1) := by decide +kernel
theorem dX3_putCrossing_12 : decode cX3_putCrossing 12 = .ok (.putfield 42, 3) := by decide +kernel
theorem dX3_putCrossing_15 : decode cX3_putCrossing 15 = .ok (.aload_n 0, 1) := by decide +kernel
theorem dX3_putCrossing_16 : decode cX3_putCrossing 16 = .ok (.getfield 42, 3) := by decide +kernel
theorem dX3_putCrossing_19 : decode cX3_putCrossing 19 = .ok (.iconst 1, 1) := by decide +kernel
theorem dX3_putCrossing_20 : decode cX3_putCrossing 20 = .ok (.isub, 1) := by decide +kernel
theorem dX3_putCrossing_21 : decode cX3_putCrossing 21 = .ok (.ireturn, 1) := by decide +kernel
theorem dX3_putRoad_0 : decode cX3_putRoad 0 = .ok (.aload_n 0, 1) := by decide +kernel
theorem dX3_putRoad_1 : decode cX3_putRoad 1 = .ok (.iconst 1, 1) := by decide +kernel
theorem dX3_putRoad_2 : decode cX3_putRoad 2 = .ok (.putfield 49, 3) := by decide +kernel
theorem dX3_putRoad_5 : decode cX3_putRoad 5 = .ok (.aload_n 0, 1) := by decide +kernel
theorem dX3_putRoad_6 : decode cX3_putRoad 6 = .ok (.getfield 12, 3) := by decide +kernel
theorem dX3_putRoad_9 : decode cX3_putRoad 9 = .ok (.iload_n 1, 1) := by decide +kernel
theorem dX3_putRoad_10 : decode cX3_putRoad 10 = .ok (.iload_n 2, 1) := by decide +kernel
theorem dX3_putRoad_11 : decode cX3_putRoad 11 = .ok (.iload_n 3, 1) := by decide +kernel
theorem dX3_putRoad_12 : decode cX3_putRoad 12 = .ok (.iload 4, 2) := by decide +kernel
theorem dX3_putRoad_14 : decode cX3_putRoad 14 = .ok (.invokevirtual 53, 3) := by decide +kernel
theorem dX3_putRoad_17 : decode cX3_putRoad 17 = .ok (.ireturn, 1) := by decide +kernel
theorem dX3_closeRoad_0 : decode cX3_closeRoad 0 = .ok (.aload_n 0, 1) := by decide +kernel
theorem dX3_closeRoad_1 : decode cX3_closeRoad 1 = .ok (.iconst 1, 1) := by decide +kernel
theorem dX3_closeRoad_2 : decode cX3_closeRoad 2 = .ok (.putfield 49, 3) := by decide +kernel
theorem dX3_closeRoad_5 : decode cX3_closeRoad 5 = .ok (.aload_n 0, 1) := by decide +kernel
theorem dX3_closeRoad_6 : decode cX3_closeRoad 6 = .ok (.getfield 12, 3) := by decide +kernel
theorem dX3_closeRoad_9 : decode cX3_closeRoad 9 = .ok (.getfield 57, 3) := by decide +kernel
theorem dX3_closeRoad_12 : decode cX3_closeRoad 12 = .ok (.iload_n 1, 1) := by decide +kernel
theorem dX3_closeRoad_13 : decode cX3_closeRoad 13 = .ok (.iload_n 2, 1) := by decide +kernel
theorem dX3_closeRoad_14 : decode cX3_closeRoad 14 = .ok (.iastore, 1) := by decide +kernel
theorem dX3_closeRoad_15 : decode cX3_closeRoad 15 = .ok (.return_, 1) := by decide +kernel
theorem dX3_untie_0 : decode cX3_untie 0 = .ok (.aload_n 0, 1) := by decide +kernel
theorem dX3_untie_1 : decode cX3_untie 1 = .ok (.iconst 1, 1) := by decide +kernel
theorem dX3_untie_2 : decode cX3_untie 2 = .ok (.putfield 49, 3) := by decide +kernel
theorem dX3_untie_5 : decode cX3_untie 5 = .ok (.aload_n 0, 1) := by decide +kernel
theorem dX3_untie_6 : decode cX3_untie 6 = .ok (.getfield 12, 3) := by decide +kernel
theorem dX3_untie_9 : decode cX3_untie 9 = .ok (.getfield 61, 3) := by decide +kernel
theorem dX3_untie_12 : decode cX3_untie 12 = .ok (.iload_n 1, 1) := by decide +kernel
theorem dX3_untie_13 : decode cX3_untie 13 = .ok (.iaload, 1) := by decide +kernel
theorem dX3_untie_14 : decode cX3_untie 14 = .ok (.istore_n 2, 1) := by decide +kernel
theorem dX3_untie_15 : decode cX3_untie 15 = .ok (.aload_n 0, 1) := by decide +kernel
theorem dX3_untie_16 : decode cX3_untie 16 = .ok (.getfield 12, 3) := by decide +kernel
theorem dX3_untie_19 : decode cX3_untie 19 = .ok (.getfield 61, 3) := by decide +kernel
theorem dX3_untie_22 : decode cX3_untie 22 = .ok (.iload_n 1, 1) := by decide +kernel
theorem dX3_untie_23 : decode cX3_untie 23 = .ok (.iconst 0, 1) := by decide +kernel
theorem dX3_untie_24 : decode cX3_untie 24 = .ok (.iastore, 1) := by decide +kernel
theorem dX3_untie_25 : decode cX3_untie 25 = .ok (.iload_n 2, 1) := by decide +kernel
theorem dX3_untie_26 : decode cX3_untie 26 = .ok (.ireturn, 1) := by decide +kernel
theorem dX3_findOpenWays_0 : decode cX3_findOpenWays 0 = .ok (.aload_n 0, 1) := by decide +kernel
theorem dX3_findOpenWays_1 : decode cX3_findOpenWays 1 = .ok (.getfield 49, 3) := by decide +kernel
theorem dX3_findOpenWays_4 : decode cX3_findOpenWays 4 = .ok (.ifCond .eq 24, 3) := by decide +kernel
theorem dX3_findOpenWays_7 : decode cX3_findOpenWays 7 = .ok (.aload_n 0, 1) := by decide +kernel
theorem dX3_findOpenWays_8 : decode cX3_findOpenWays 8 = .ok (.getfield 28, 3) := by decide +kernel
theorem dX3_findOpenWays_11 : decode cX3_findOpenWays 11 = .ok (.aload_n 0, 1) := by decide +kernel
theorem dX3_findOpenWays_12 : decode cX3_findOpenWays 12 = .ok (.getfield 12, 3) := by decide +kernel
theorem dX3_findOpenWays_15 : decode cX3_findOpenWays 15 = .ok (.aload_n 0, 1) := by decide +kernel
theorem dX3_findOpenWays_16 : decode cX3_findOpenWays 16 = .ok (.getfield 42, 3) := by decide +kernel
theorem dX3_findOpenWays_19 : decode cX3_findOpenWays 19 = .ok (.iconst 1, 1) := by decide +kernel
theorem dX3_findOpenWays_20 : decode cX3_findOpenWays 20 = .ok (.invokevirtual 64, 3) := by decide +kernel
theorem dX3_findOpenWays_23 : decode cX3_findOpenWays 23 = .ok (.aload_n 0, 1) := by decide +kernel
theorem dX3_findOpenWays_24 : decode cX3_findOpenWays 24 = .ok (.iconst 0, 1) := by decide +kernel
theorem dX3_findOpenWays_25 : decode cX3_findOpenWays 25 = .ok (.putfield 49, 3) := by decide +kernel
theorem dX3_findOpenWays_28 : decode cX3_findOpenWays 28 = .ok (.return_, 1) := by decide +kernel
theorem dX3_roadToward_0 : decode cX3_roadToward 0 = .ok (.iconst (-1), 1) := by decide +kernel
theorem dX3_roadToward_1 : decode cX3_roadToward 1 = .ok (.istore_n 3, 1) := by decide +kernel
theorem dX3_roadToward_2 : decode cX3_roadToward 2 = .ok (.ldc 68, 2) := by decide +kernel
theorem dX3_roadToward_4 : decode cX3_roadToward 4 = .ok (.istore 4, 2) := by decide +kernel
theorem dX3_roadToward_6 : decode cX3_roadToward 6 = .ok (.iconst 0, 1) := by decide +kernel
theorem dX3_roadToward_7 : decode cX3_roadToward 7 = .ok (.istore 5, 2) := by decide +kernel
theorem dX3_roadToward_9 : decode cX3_roadToward 9 = .ok (.iload 5, 2) := by decide +kernel
theorem dX3_roadToward_11 : decode cX3_roadToward 11 = .ok (.aload_n 0, 1) := by decide +kernel
theorem dX3_roadToward_12 : decode cX3_roadToward 12 = .ok (.getfield 12, 3) := by decide +kernel
theorem dX3_roadToward_15 : decode cX3_roadToward 15 = .ok (.getfield 69, 3) := by decide +kernel
theorem dX3_roadToward_18 : decode cX3_roadToward 18 = .ok (.if_icmp .ge 84, 3) := by decide +kernel
theorem dX3_roadToward_21 : decode cX3_roadToward 21 = .ok (.aload_n 0, 1) := by decide +kernel
theorem dX3_roadToward_22 : decode cX3_roadToward 22 = .ok (.getfield 12, 3) := by decide +kernel
theorem dX3_roadToward_25 : decode cX3_roadToward 25 = .ok (.getfield 57, 3) := by decide +kernel
theorem dX3_roadToward_28 : decode cX3_roadToward 28 = .ok (.iload 5, 2) := by decide +kernel
theorem dX3_roadToward_30 : decode cX3_roadToward 30 = .ok (.iaload, 1) := by decide +kernel
theorem dX3_roadToward_31 : decode cX3_roadToward 31 = .ok (.ifCond .le 7, 3) := by decide +kernel
theorem dX3_roadToward_34 : decode cX3_roadToward 34 = .ok (.iconst (-1), 1) := by decide +kernel
theorem dX3_roadToward_35 : decode cX3_roadToward 35 = .ok (.goto 13, 3) := by decide +kernel
theorem dX3_roadToward_38 : decode cX3_roadToward 38 = .ok (.aload_n 0, 1) := by decide +kernel
theorem dX3_roadToward_39 : decode cX3_roadToward 39 = .ok (.getfield 12, 3) := by decide +kernel
theorem dX3_roadToward_42 : decode cX3_roadToward 42 = .ok (.iload 5, 2) := by decide +kernel
theorem dX3_roadToward_44 : decode cX3_roadToward 44 = .ok (.iload_n 1, 1) := by decide +kernel
theorem dX3_roadToward_45 : decode cX3_roadToward 45 = .ok (.invokevirtual 72, 3) := by decide +kernel
theorem dX3_roadToward_48 : decode cX3_roadToward 48 = .ok (.istore 6, 2) := by decide +kernel
theorem dX3_roadToward_50 : decode cX3_roadToward 50 = .ok (.iload 6, 2) := by decide +kernel
theorem dX3_roadToward_52 : decode cX3_roadToward 52 = .ok (.ifCond .lt 44, 3) := by decide +kernel
theorem dX3_roadToward_55 : decode cX3_roadToward 55 = .ok (.aload_n 0, 1) := by decide +kernel
theorem dX3_roadToward_56 : decode cX3_roadToward 56 = .ok (.getfield 12, 3) := by decide +kernel
theorem dX3_roadToward_59 : decode cX3_roadToward 59 = .ok (.iload 5, 2) := by decide +kernel
theorem dX3_roadToward_61 : decode cX3_roadToward 61 = .ok (.invokevirtual 76, 3) := by decide +kernel
theorem dX3_roadToward_64 : decode cX3_roadToward 64 = .ok (.aload_n 0, 1) := by decide +kernel
theorem dX3_roadToward_65 : decode cX3_roadToward 65 = .ok (.getfield 28, 3) := by decide +kernel
theorem dX3_roadToward_68 : decode cX3_roadToward 68 = .ok (.getfield 80, 3) := by decide +kernel
theorem dX3_roadToward_71 : decode cX3_roadToward 71 = .ok (.iload 6, 2) := by decide +kernel
theorem dX3_roadToward_73 : decode cX3_roadToward 73 = .ok (.bipush 10, 2) := by decide +kernel
theorem dX3_roadToward_75 : decode cX3_roadToward 75 = .ok (.imul, 1) := by decide +kernel
theorem dX3_roadToward_76 : decode cX3_roadToward 76 = .ok (.iload_n 2, 1) := by decide +kernel
theorem dX3_roadToward_77 : decode cX3_roadToward 77 = .ok (.iadd, 1) := by decide +kernel
theorem dX3_roadToward_78 : decode cX3_roadToward 78 = .ok (.iaload, 1) := by decide +kernel
theorem dX3_roadToward_79 : decode cX3_roadToward 79 = .ok (.iadd, 1) := by decide +kernel
theorem dX3_roadToward_80 : decode cX3_roadToward 80 = .ok (.istore 7, 2) := by decide +kernel
theorem dX3_roadToward_82 : decode cX3_roadToward 82 = .ok (.iload 7, 2) := by decide +kernel
theorem dX3_roadToward_84 : decode cX3_roadToward 84 = .ok (.iload 4, 2) := by decide +kernel
theorem dX3_roadToward_86 : decode cX3_roadToward 86 = .ok (.if_icmp .ge 10, 3) := by decide +kernel
theorem dX3_roadToward_89 : decode cX3_roadToward 89 = .ok (.iload 7, 2) := by decide +kernel
theorem dX3_roadToward_91 : decode cX3_roadToward 91 = .ok (.istore 4, 2) := by decide +kernel
theorem dX3_roadToward_93 : decode cX3_roadToward 93 = .ok (.iload 5, 2) := by decide +kernel
theorem dX3_roadToward_95 : decode cX3_roadToward 95 = .ok (.istore_n 3, 1) := by decide +kernel
theorem dX3_roadToward_96 : decode cX3_roadToward 96 = .ok (.iinc 5 1, 3) := by decide +kernel
theorem dX3_roadToward_99 : decode cX3_roadToward 99 = .ok (.goto (-90), 3) := by decide +kernel
theorem dX3_roadToward_102 : decode cX3_roadToward 102 = .ok (.iload_n 3, 1) := by decide +kernel
theorem dX3_roadToward_103 : decode cX3_roadToward 103 = .ok (.ireturn, 1) := by decide +kernel
theorem dX3_letHourGoBy_0 : decode cX3_letHourGoBy 0 = .ok (.aload_n 0, 1) := by decide +kernel
theorem dX3_letHourGoBy_1 : decode cX3_letHourGoBy 1 = .ok (.invokevirtual 83, 3) := by decide +kernel
theorem dX3_letHourGoBy_4 : decode cX3_letHourGoBy 4 = .ok (.aload_n 0, 1) := by decide +kernel
theorem dX3_letHourGoBy_5 : decode cX3_letHourGoBy 5 = .ok (.invokevirtual 86, 3) := by decide +kernel
theorem dX3_letHourGoBy_8 : decode cX3_letHourGoBy 8 = .ok (.iconst 0, 1) := by decide +kernel
theorem dX3_letHourGoBy_9 : decode cX3_letHourGoBy 9 = .ok (.istore_n 1, 1) := by decide +kernel
theorem dX3_letHourGoBy_10 : decode cX3_letHourGoBy 10 = .ok (.iload_n 1, 1) := by decide +kernel
theorem dX3_letHourGoBy_11 : decode cX3_letHourGoBy 11 = .ok (.aload_n 0, 1) := by decide +kernel
theorem dX3_letHourGoBy_12 : decode cX3_letHourGoBy 12 = .ok (.getfield 21, 3) := by decide +kernel
theorem dX3_letHourGoBy_15 : decode cX3_letHourGoBy 15 = .ok (.getfield 89, 3) := by decide +kernel
theorem dX3_letHourGoBy_18 : decode cX3_letHourGoBy 18 = .ok (.if_icmp .ge 37, 3) := by decide +kernel
theorem dX3_letHourGoBy_21 : decode cX3_letHourGoBy 21 = .ok (.aload_n 0, 1) := by decide +kernel
theorem dX3_letHourGoBy_22 : decode cX3_letHourGoBy 22 = .ok (.getfield 21, 3) := by decide +kernel
theorem dX3_letHourGoBy_25 : decode cX3_letHourGoBy 25 = .ok (.iload_n 1, 1) := by decide +kernel
theorem dX3_letHourGoBy_26 : decode cX3_letHourGoBy 26 = .ok (.invokevirtual 90, 3) := by decide +kernel
theorem dX3_letHourGoBy_29 : decode cX3_letHourGoBy 29 = .ok (.ifCond .ne 20, 3) := by decide +kernel
theorem dX3_letHourGoBy_32 : decode cX3_letHourGoBy 32 = .ok (.aload_n 0, 1) := by decide +kernel
theorem dX3_letHourGoBy_33 : decode cX3_letHourGoBy 33 = .ok (.iload_n 1, 1) := by decide +kernel
theorem dX3_letHourGoBy_34 : decode cX3_letHourGoBy 34 = .ok (.invokevirtual 94, 3) := by decide +kernel
theorem dX3_letHourGoBy_37 : decode cX3_letHourGoBy 37 = .ok (.aload_n 0, 1) := by decide +kernel
theorem dX3_letHourGoBy_38 : decode cX3_letHourGoBy 38 = .ok (.getfield 21, 3) := by decide +kernel
theorem dX3_letHourGoBy_41 : decode cX3_letHourGoBy 41 = .ok (.iload_n 1, 1) := by decide +kernel
theorem dX3_letHourGoBy_42 : decode cX3_letHourGoBy 42 = .ok (.aload_n 0, 1) := by decide +kernel
theorem dX3_letHourGoBy_43 : decode cX3_letHourGoBy 43 = .ok (.getfield 46, 3) := by decide +kernel
theorem dX3_letHourGoBy_46 : decode cX3_letHourGoBy 46 = .ok (.invokevirtual 98, 3) := by decide +kernel
theorem dX3_letHourGoBy_49 : decode cX3_letHourGoBy 49 = .ok (.iinc 1 1, 3) := by decide +kernel
theorem dX3_letHourGoBy_52 : decode cX3_letHourGoBy 52 = .ok (.goto (-42), 3) := by decide +kernel
theorem dX3_letHourGoBy_55 : decode cX3_letHourGoBy 55 = .ok (.aload_n 0, 1) := by decide +kernel
theorem dX3_letHourGoBy_56 : decode cX3_letHourGoBy 56 = .ok (.invokevirtual 102, 3) := by decide +kernel
theorem dX3_letHourGoBy_59 : decode cX3_letHourGoBy 59 = .ok (.aload_n 0, 1) := by decide +kernel
theorem dX3_letHourGoBy_60 : decode cX3_letHourGoBy 60 = .ok (.dup, 1) := by decide +kernel
theorem dX3_letHourGoBy_61 : decode cX3_letHourGoBy 61 = .ok (.getfield 46, 3) := by decide +kernel
theorem dX3_letHourGoBy_64 : decode cX3_letHourGoBy 64 = .ok (.iconst 1, 1) := by decide +kernel
theorem dX3_letHourGoBy_65 : decode cX3_letHourGoBy 65 = .ok (.iadd, 1) := by decide +kernel
theorem dX3_letHourGoBy_66 : decode cX3_letHourGoBy 66 = .ok (.putfield 46, 3) := by decide +kernel
theorem dX3_letHourGoBy_69 : decode cX3_letHourGoBy 69 = .ok (.return_, 1) := by decide +kernel
theorem dX3_goOnMending_0 : decode cX3_goOnMending 0 = .ok (.iconst 0, 1) := by decide +kernel
theorem dX3_goOnMending_1 : decode cX3_goOnMending 1 = .ok (.istore_n 1, 1) := by decide +kernel
theorem dX3_goOnMending_2 : decode cX3_goOnMending 2 = .ok (.iload_n 1, 1) := by decide +kernel
theorem dX3_goOnMending_3 : decode cX3_goOnMending 3 = .ok (.aload_n 0, 1) := by decide +kernel
theorem dX3_goOnMending_4 : decode cX3_goOnMending 4 = .ok (.getfield 12, 3) := by decide +kernel
theorem dX3_goOnMending_7 : decode cX3_goOnMending 7 = .ok (.getfield 69, 3) := by decide +kernel
theorem dX3_goOnMending_10 : decode cX3_goOnMending 10 = .ok (.if_icmp .ge 59, 3) := by decide +kernel
theorem dX3_goOnMending_13 : decode cX3_goOnMending 13 = .ok (.aload_n 0, 1) := by decide +kernel
theorem dX3_goOnMending_14 : decode cX3_goOnMending 14 = .ok (.getfield 12, 3) := by decide +kernel
theorem dX3_goOnMending_17 : decode cX3_goOnMending 17 = .ok (.getfield 57, 3) := by decide +kernel
theorem dX3_goOnMending_20 : decode cX3_goOnMending 20 = .ok (.iload_n 1, 1) := by decide +kernel
theorem dX3_goOnMending_21 : decode cX3_goOnMending 21 = .ok (.iaload, 1) := by decide +kernel
theorem dX3_goOnMending_22 : decode cX3_goOnMending 22 = .ok (.ifCond .le 41, 3) := by decide +kernel
theorem dX3_goOnMending_25 : decode cX3_goOnMending 25 = .ok (.aload_n 0, 1) := by decide +kernel
theorem dX3_goOnMending_26 : decode cX3_goOnMending 26 = .ok (.getfield 12, 3) := by decide +kernel
theorem dX3_goOnMending_29 : decode cX3_goOnMending 29 = .ok (.getfield 57, 3) := by decide +kernel
theorem dX3_goOnMending_32 : decode cX3_goOnMending 32 = .ok (.iload_n 1, 1) := by decide +kernel
theorem dX3_goOnMending_33 : decode cX3_goOnMending 33 = .ok (.dup2, 1) := by decide +kernel
theorem dX3_goOnMending_34 : decode cX3_goOnMending 34 = .ok (.iaload, 1) := by decide +kernel
theorem dX3_goOnMending_35 : decode cX3_goOnMending 35 = .ok (.iconst 1, 1) := by decide +kernel
theorem dX3_goOnMending_36 : decode cX3_goOnMending 36 = .ok (.isub, 1) := by decide +kernel
theorem dX3_goOnMending_37 : decode cX3_goOnMending 37 = .ok (.iastore, 1) := by decide +kernel
theorem dX3_goOnMending_38 : decode cX3_goOnMending 38 = .ok (.aload_n 0, 1) := by decide +kernel
theorem dX3_goOnMending_39 : decode cX3_goOnMending 39 = .ok (.getfield 12, 3) := by decide +kernel
theorem dX3_goOnMending_42 : decode cX3_goOnMending 42 = .ok (.getfield 57, 3) := by decide +kernel
theorem dX3_goOnMending_45 : decode cX3_goOnMending 45 = .ok (.iload_n 1, 1) := by decide +kernel
theorem dX3_goOnMending_46 : decode cX3_goOnMending 46 = .ok (.iaload, 1) := by decide +kernel
theorem dX3_goOnMending_47 : decode cX3_goOnMending 47 = .ok (.ifCond .ne 16, 3) := by decide +kernel
theorem dX3_goOnMending_50 : decode cX3_goOnMending 50 = .ok (.aload_n 0, 1) := by decide +kernel
theorem dX3_goOnMending_51 : decode cX3_goOnMending 51 = .ok (.getfield 12, 3) := by decide +kernel
theorem dX3_goOnMending_54 : decode cX3_goOnMending 54 = .ok (.iload_n 1, 1) := by decide +kernel
theorem dX3_goOnMending_55 : decode cX3_goOnMending 55 = .ok (.invokevirtual 105, 3) := by decide +kernel
theorem dX3_goOnMending_58 : decode cX3_goOnMending 58 = .ok (.aload_n 0, 1) := by decide +kernel
theorem dX3_goOnMending_59 : decode cX3_goOnMending 59 = .ok (.iconst 1, 1) := by decide +kernel
theorem dX3_goOnMending_60 : decode cX3_goOnMending 60 = .ok (.putfield 49, 3) := by decide +kernel
theorem dX3_goOnMending_63 : decode cX3_goOnMending 63 = .ok (.iinc 1 1, 3) := by decide +kernel
theorem dX3_goOnMending_66 : decode cX3_goOnMending 66 = .ok (.goto (-64), 3) := by decide +kernel
theorem dX3_goOnMending_69 : decode cX3_goOnMending 69 = .ok (.return_, 1) := by decide +kernel
theorem dX3_setOut_0 : decode cX3_setOut 0 = .ok (.aload_n 0, 1) := by decide +kernel
theorem dX3_setOut_1 : decode cX3_setOut 1 = .ok (.getfield 21, 3) := by decide +kernel
theorem dX3_setOut_4 : decode cX3_setOut 4 = .ok (.getfield 108, 3) := by decide +kernel
theorem dX3_setOut_7 : decode cX3_setOut 7 = .ok (.iload_n 1, 1) := by decide +kernel
theorem dX3_setOut_8 : decode cX3_setOut 8 = .ok (.iaload, 1) := by decide +kernel
theorem dX3_setOut_9 : decode cX3_setOut 9 = .ok (.istore_n 2, 1) := by decide +kernel
theorem dX3_setOut_10 : decode cX3_setOut 10 = .ok (.iload_n 2, 1) := by decide +kernel
theorem dX3_setOut_11 : decode cX3_setOut 11 = .ok (.ifCond .ge 4, 3) := by decide +kernel
theorem dX3_setOut_14 : decode cX3_setOut 14 = .ok (.return_, 1) := by decide +kernel
theorem dX3_setOut_15 : decode cX3_setOut 15 = .ok (.aload_n 0, 1) := by decide +kernel
theorem dX3_setOut_16 : decode cX3_setOut 16 = .ok (.iload_n 2, 1) := by decide +kernel
theorem dX3_setOut_17 : decode cX3_setOut 17 = .ok (.aload_n 0, 1) := by decide +kernel
theorem dX3_setOut_18 : decode cX3_setOut 18 = .ok (.getfield 21, 3) := by decide +kernel
theorem dX3_setOut_21 : decode cX3_setOut 21 = .ok (.getfield 111, 3) := by decide +kernel
theorem dX3_setOut_24 : decode cX3_setOut 24 = .ok (.iload_n 1, 1) := by decide +kernel
theorem dX3_setOut_25 : decode cX3_setOut 25 = .ok (.iaload, 1) := by decide +kernel
theorem dX3_setOut_26 : decode cX3_setOut 26 = .ok (.invokevirtual 114, 3) := by decide +kernel
theorem dX3_setOut_29 : decode cX3_setOut 29 = .ok (.istore_n 3, 1) := by decide +kernel
theorem dX3_setOut_30 : decode cX3_setOut 30 = .ok (.iload_n 3, 1) := by decide +kernel
theorem dX3_setOut_31 : decode cX3_setOut 31 = .ok (.ifCond .lt 72, 3) := by decide +kernel
theorem dX3_setOut_34 : decode cX3_setOut 34 = .ok (.aload_n 0, 1) := by decide +kernel
theorem dX3_setOut_35 : decode cX3_setOut 35 = .ok (.getfield 21, 3) := by decide +kernel
theorem dX3_setOut_38 : decode cX3_setOut 38 = .ok (.iload_n 1, 1) := by decide +kernel
theorem dX3_setOut_39 : decode cX3_setOut 39 = .ok (.iload_n 3, 1) := by decide +kernel
theorem dX3_setOut_40 : decode cX3_setOut 40 = .ok (.aload_n 0, 1) := by decide +kernel
theorem dX3_setOut_41 : decode cX3_setOut 41 = .ok (.getfield 12, 3) := by decide +kernel
theorem dX3_setOut_44 : decode cX3_setOut 44 = .ok (.iload_n 3, 1) := by decide +kernel
theorem dX3_setOut_45 : decode cX3_setOut 45 = .ok (.iload_n 2, 1) := by decide +kernel
theorem dX3_setOut_46 : decode cX3_setOut 46 = .ok (.invokevirtual 72, 3) := by decide +kernel
theorem dX3_setOut_49 : decode cX3_setOut 49 = .ok (.aload_n 0, 1) := by decide +kernel
theorem dX3_setOut_50 : decode cX3_setOut 50 = .ok (.getfield 12, 3) := by decide +kernel
theorem dX3_setOut_53 : decode cX3_setOut 53 = .ok (.iload_n 3, 1) := by decide +kernel
theorem dX3_setOut_54 : decode cX3_setOut 54 = .ok (.invokevirtual 76, 3) := by decide +kernel
theorem dX3_setOut_57 : decode cX3_setOut 57 = .ok (.invokevirtual 117, 3) := by decide +kernel
theorem dX3_setOut_60 : decode cX3_setOut 60 = .ok (.aload_n 0, 1) := by decide +kernel
theorem dX3_setOut_61 : decode cX3_setOut 61 = .ok (.getfield 21, 3) := by decide +kernel
theorem dX3_setOut_64 : decode cX3_setOut 64 = .ok (.getfield 121, 3) := by decide +kernel
theorem dX3_setOut_67 : decode cX3_setOut 67 = .ok (.iload_n 1, 1) := by decide +kernel
theorem dX3_setOut_68 : decode cX3_setOut 68 = .ok (.aload_n 0, 1) := by decide +kernel
theorem dX3_setOut_69 : decode cX3_setOut 69 = .ok (.getfield 21, 3) := by decide +kernel
theorem dX3_setOut_72 : decode cX3_setOut 72 = .ok (.getfield 121, 3) := by decide +kernel
theorem dX3_setOut_75 : decode cX3_setOut 75 = .ok (.iload_n 1, 1) := by decide +kernel
theorem dX3_setOut_76 : decode cX3_setOut 76 = .ok (.iaload, 1) := by decide +kernel
theorem dX3_setOut_77 : decode cX3_setOut 77 = .ok (.aload_n 0, 1) := by decide +kernel
theorem dX3_setOut_78 : decode cX3_setOut 78 = .ok (.getfield 12, 3) := by decide +kernel
theorem dX3_setOut_81 : decode cX3_setOut 81 = .ok (.getfield 124, 3) := by decide +kernel
theorem dX3_setOut_84 : decode cX3_setOut 84 = .ok (.iload_n 3, 1) := by decide +kernel
theorem dX3_setOut_85 : decode cX3_setOut 85 = .ok (.iaload, 1) := by decide +kernel
theorem dX3_setOut_86 : decode cX3_setOut 86 = .ok (.invokestatic 125, 3) := by decide +kernel
theorem dX3_setOut_89 : decode cX3_setOut 89 = .ok (.iastore, 1) := by decide +kernel
theorem dX3_setOut_90 : decode cX3_setOut 90 = .ok (.aload_n 0, 1) := by decide +kernel
theorem dX3_setOut_91 : decode cX3_setOut 91 = .ok (.getfield 12, 3) := by decide +kernel
theorem dX3_setOut_94 : decode cX3_setOut 94 = .ok (.getfield 128, 3) := by decide +kernel
theorem dX3_setOut_97 : decode cX3_setOut 97 = .ok (.iload_n 3, 1) := by decide +kernel
theorem dX3_setOut_98 : decode cX3_setOut 98 = .ok (.dup2, 1) := by decide +kernel
theorem dX3_setOut_99 : decode cX3_setOut 99 = .ok (.iaload, 1) := by decide +kernel
theorem dX3_setOut_100 : decode cX3_setOut 100 = .ok (.iconst 1, 1) := by decide +kernel
theorem dX3_setOut_101 : decode cX3_setOut 101 = .ok (.iadd, 1) := by decide +kernel
theorem dX3_setOut_102 : decode cX3_setOut 102 = .ok (.iastore, 1) := by decide +kernel
theorem dX3_setOut_103 : decode cX3_setOut 103 = .ok (.return_, 1) := by decide +kernel
theorem dX3_closeWornRoads_0 : decode cX3_closeWornRoads 0 = .ok (.iconst 0, 1) := by decide +kernel
theorem dX3_closeWornRoads_1 : decode cX3_closeWornRoads 1 = .ok (.istore_n 1, 1) := by decide +kernel
theorem dX3_closeWornRoads_2 : decode cX3_closeWornRoads 2 = .ok (.iload_n 1, 1) := by decide +kernel
theorem dX3_closeWornRoads_3 : decode cX3_closeWornRoads 3 = .ok (.aload_n 0, 1) := by decide +kernel
theorem dX3_closeWornRoads_4 : decode cX3_closeWornRoads 4 = .ok (.getfield 12, 3) := by decide +kernel
theorem dX3_closeWornRoads_7 : decode cX3_closeWornRoads 7 = .ok (.getfield 69, 3) := by decide +kernel
theorem dX3_closeWornRoads_10 : decode cX3_closeWornRoads 10 = .ok (.if_icmp .ge 51, 3) := by decide +kernel
theorem dX3_closeWornRoads_13 : decode cX3_closeWornRoads 13 = .ok (.aload_n 0, 1) := by decide +kernel
theorem dX3_closeWornRoads_14 : decode cX3_closeWornRoads 14 = .ok (.getfield 12, 3) := by decide +kernel
theorem dX3_closeWornRoads_17 : decode cX3_closeWornRoads 17 = .ok (.getfield 57, 3) := by decide +kernel
theorem dX3_closeWornRoads_20 : decode cX3_closeWornRoads 20 = .ok (.iload_n 1, 1) := by decide +kernel
theorem dX3_closeWornRoads_21 : decode cX3_closeWornRoads 21 = .ok (.iaload, 1) := by decide +kernel
theorem dX3_closeWornRoads_22 : decode cX3_closeWornRoads 22 = .ok (.ifCond .ne 33, 3) := by decide +kernel
theorem dX3_closeWornRoads_25 : decode cX3_closeWornRoads 25 = .ok (.aload_n 0, 1) := by decide +kernel
theorem dX3_closeWornRoads_26 : decode cX3_closeWornRoads 26 = .ok (.getfield 12, 3) := by decide +kernel
theorem dX3_closeWornRoads_29 : decode cX3_closeWornRoads 29 = .ok (.getfield 128, 3) := by decide +kernel
theorem dX3_closeWornRoads_32 : decode cX3_closeWornRoads 32 = .ok (.iload_n 1, 1) := by decide +kernel
theorem dX3_closeWornRoads_33 : decode cX3_closeWornRoads 33 = .ok (.iaload, 1) := by decide +kernel
theorem dX3_closeWornRoads_34 : decode cX3_closeWornRoads 34 = .ok (.iconst 5, 1) := by decide +kernel
theorem dX3_closeWornRoads_35 : decode cX3_closeWornRoads 35 = .ok (.if_icmp .lt 20, 3) := by decide +kernel
theorem dX3_closeWornRoads_38 : decode cX3_closeWornRoads 38 = .ok (.aload_n 0, 1) := by decide +kernel
theorem dX3_closeWornRoads_39 : decode cX3_closeWornRoads 39 = .ok (.getfield 21, 3) := by decide +kernel
theorem dX3_closeWornRoads_42 : decode cX3_closeWornRoads 42 = .ok (.iload_n 1, 1) := by decide +kernel
theorem dX3_closeWornRoads_43 : decode cX3_closeWornRoads 43 = .ok (.invokevirtual 131, 3) := by decide +kernel
theorem dX3_closeWornRoads_46 : decode cX3_closeWornRoads 46 = .ok (.ifCond .ne 9, 3) := by decide +kernel
theorem dX3_closeWornRoads_49 : decode cX3_closeWornRoads 49 = .ok (.aload_n 0, 1) := by decide +kernel
theorem dX3_closeWornRoads_50 : decode cX3_closeWornRoads 50 = .ok (.iload_n 1, 1) := by decide +kernel
theorem dX3_closeWornRoads_51 : decode cX3_closeWornRoads 51 = .ok (.iconst 4, 1) := by decide +kernel
theorem dX3_closeWornRoads_52 : decode cX3_closeWornRoads 52 = .ok (.invokevirtual 134, 3) := by decide +kernel
theorem dX3_closeWornRoads_55 : decode cX3_closeWornRoads 55 = .ok (.iinc 1 1, 3) := by decide +kernel
theorem dX3_closeWornRoads_58 : decode cX3_closeWornRoads 58 = .ok (.goto (-56), 3) := by decide +kernel
theorem dX3_closeWornRoads_61 : decode cX3_closeWornRoads 61 = .ok (.return_, 1) := by decide +kernel
theorem dX3_mixed_0 : decode cX3_mixed 0 = .ok (.iload_n 0, 1) := by decide +kernel
theorem dX3_mixed_1 : decode cX3_mixed 1 = .ok (.ifCond .eq 8, 3) := by decide +kernel
theorem dX3_mixed_4 : decode cX3_mixed 4 = .ok (.iload_n 0, 1) := by decide +kernel
theorem dX3_mixed_5 : decode cX3_mixed 5 = .ok (.iload_n 1, 1) := by decide +kernel
theorem dX3_mixed_6 : decode cX3_mixed 6 = .ok (.if_icmp .ne 5, 3) := by decide +kernel
theorem dX3_mixed_9 : decode cX3_mixed 9 = .ok (.iload_n 1, 1) := by decide +kernel
theorem dX3_mixed_10 : decode cX3_mixed 10 = .ok (.ireturn, 1) := by decide +kernel
theorem dX3_mixed_11 : decode cX3_mixed 11 = .ok (.iload_n 1, 1) := by decide +kernel
theorem dX3_mixed_12 : decode cX3_mixed 12 = .ok (.ifCond .ne 5, 3) := by decide +kernel
theorem dX3_mixed_15 : decode cX3_mixed 15 = .ok (.iload_n 0, 1) := by decide +kernel
theorem dX3_mixed_16 : decode cX3_mixed 16 = .ok (.ireturn, 1) := by decide +kernel
theorem dX3_mixed_17 : decode cX3_mixed 17 = .ok (.bipush 6, 2) := by decide +kernel
theorem dX3_mixed_19 : decode cX3_mixed 19 = .ok (.iload_n 0, 1) := by decide +kernel
theorem dX3_mixed_20 : decode cX3_mixed 20 = .ok (.isub, 1) := by decide +kernel
theorem dX3_mixed_21 : decode cX3_mixed 21 = .ok (.iload_n 1, 1) := by decide +kernel
theorem dX3_mixed_22 : decode cX3_mixed 22 = .ok (.isub, 1) := by decide +kernel
theorem dX3_mixed_23 : decode cX3_mixed 23 = .ok (.ireturn, 1) := by decide +kernel
end
section
theorem dX4_init_0 : decode cX4_init 0 = .ok (.aload_n 0, 1) := by decide +kernel
theorem dX4_init_1 : decode cX4_init 1 = .ok (.invokespecial 1, 3) := by decide +kernel
theorem dX4_init_4 : decode cX4_init 4 = .ok (.aload_n 0, 1) := by decide +kernel
theorem dX4_init_5 : decode cX4_init 5 = .ok (.new 7, 3) := by decide +kernel
theorem dX4_init_8 : decode cX4_init 8 = .ok (.dup, 1) := by decide +kernel
theorem dX4_init_9 : decode cX4_init 9 = .ok (.invokespecial 9, 3) := by decide +kernel
theorem dX4_init_12 : decode cX4_init 12 = .ok (.putfield 10, 3) := by decide +kernel
theorem dX4_init_15 : decode cX4_init 15 = .ok (.aload_n 0, 1) := by decide +kernel
theorem dX4_init_16 : decode cX4_init 16 = .ok (.new 7, 3) := by decide +kernel
theorem dX4_init_19 : decode cX4_init 19 = .ok (.dup, 1) := by decide +kernel
theorem dX4_init_20 : decode cX4_init 20 = .ok (.invokespecial 9, 3) := by decide +kernel
theorem dX4_init_23 : decode cX4_init 23 = .ok (.putfield 16, 3) := by decide +kernel
theorem dX4_init_26 : decode cX4_init 26 = .ok (.aload_n 0, 1) := by decide +kernel
theorem dX4_init_27 : decode cX4_init 27 = .ok (.new 19, 3) := by decide +kernel
theorem dX4_init_30 : decode cX4_init 30 = .ok (.dup, 1) := by decide +kernel
theorem dX4_init_31 : decode cX4_init 31 = .ok (.invokespecial 21, 3) := by decide +kernel
theorem dX4_init_34 : decode cX4_init 34 = .ok (.putfield 22, 3) := by decide +kernel
theorem dX4_init_37 : decode cX4_init 37 = .ok (.return_, 1) := by decide +kernel
theorem dX4_addCrossing_0 : decode cX4_addCrossing 0 = .ok (.aload_n 0, 1) := by decide +kernel
theorem dX4_addCrossing_1 : decode cX4_addCrossing 1 = .ok (.getfield 10, 3) := by decide +kernel
theorem dX4_addCrossing_4 : decode cX4_addCrossing 4 = .ok (.getfield 26, 3) := by decide +kernel
theorem dX4_addCrossing_7 : decode cX4_addCrossing 7 = .ok (.bipush 10, 2) := by decide +kernel
theorem dX4_addCrossing_9 : decode cX4_addCrossing 9 = .ok (.if_icmp .lt 13, 3) := by decide +kernel
theorem dX4_addCrossing_12 : decode cX4_addCrossing 12 = .ok (.new 30, 3) := by decide +kernel
theorem dX4_addCrossing_15 : decode cX4_addCrossing 15 = .ok (.dup, 1) := by decide +kernel
theorem dX4_addCrossing_16 : decode cX4_addCrossing 16 = .ok (.ldc 32, 2) := by decide +kernel
theorem dX4_addCrossing_18 : decode cX4_addCrossing 18 = .ok (.invokespecial 34, 3) := by decide +kernel
theorem dX4_addCrossing_21 : decode cX4_addCrossing 21 = .ok (.athrow, 1) := by decide +kernel
theorem dX4_addCrossing_22 : decode cX4_addCrossing 22 = .ok (.aload_n 0, 1) := by decide +kernel
theorem dX4_addCrossing_23 : decode cX4_addCrossing 23 = .ok (.getfield 10, 3) := by decide +kernel
theorem dX4_addCrossing_26 : decode cX4_addCrossing 26 = .ok (.invokevirtual 37, 3) := by decide +kernel
theorem dX4_addCrossing_29 : decode cX4_addCrossing 29 = .ok (.ireturn, 1) := by decide +kernel
theorem dX4_addRoad_0 : decode cX4_addRoad 0 = .ok (.aload_n 0, 1) := by decide +kernel
theorem dX4_addRoad_1 : decode cX4_addRoad 1 = .ok (.iload_n 1, 1) := by decide +kernel
theorem dX4_addRoad_2 : decode cX4_addRoad 2 = .ok (.invokevirtual 41, 3) := by decide +kernel
theorem dX4_addRoad_5 : decode cX4_addRoad 5 = .ok (.aload_n 0, 1) := by decide +kernel
theorem dX4_addRoad_6 : decode cX4_addRoad 6 = .ok (.iload_n 2, 1) := by decide +kernel
theorem dX4_addRoad_7 : decode cX4_addRoad 7 = .ok (.invokevirtual 41, 3) := by decide +kernel
theorem dX4_addRoad_10 : decode cX4_addRoad 10 = .ok (.iload_n 1, 1) := by decide +kernel
theorem dX4_addRoad_11 : decode cX4_addRoad 11 = .ok (.iload_n 2, 1) := by decide +kernel
theorem dX4_addRoad_12 : decode cX4_addRoad 12 = .ok (.if_icmp .ne 13, 3) := by decide +kernel
theorem dX4_addRoad_15 : decode cX4_addRoad 15 = .ok (.new 45, 3) := by decide +kernel
theorem dX4_addRoad_18 : decode cX4_addRoad 18 = .ok (.dup, 1) := by decide +kernel
theorem dX4_addRoad_19 : decode cX4_addRoad 19 = .ok (.ldc 47, 2) := by decide +kernel
theorem dX4_addRoad_21 : decode cX4_addRoad 21 = .ok (.invokespecial 49, 3) := by decide +kernel
theorem dX4_addRoad_24 : decode cX4_addRoad 24 = .ok (.athrow, 1) := by decide +kernel
theorem dX4_addRoad_25 : decode cX4_addRoad 25 = .ok (.iload_n 3, 1) := by decide +kernel
theorem dX4_addRoad_26 : decode cX4_addRoad 26 = .ok (.iconst 1, 1) := by decide +kernel
theorem dX4_addRoad_27 : decode cX4_addRoad 27 = .ok (.if_icmp .lt 9, 3) := by decide +kernel
theorem dX4_addRoad_30 : decode cX4_addRoad 30 = .ok (.iload_n 3, 1) := by decide +kernel
theorem dX4_addRoad_31 : decode cX4_addRoad 31 = .ok (.bipush 9, 2) := by decide +kernel
theorem dX4_addRoad_33 : decode cX4_addRoad 33 = .ok (.if_icmp .le 13, 3) := by decide +kernel
theorem dX4_addRoad_36 : decode cX4_addRoad 36 = .ok (.new 45, 3) := by decide +kernel
theorem dX4_addRoad_39 : decode cX4_addRoad 39 = .ok (.dup, 1) := by decide +kernel
theorem dX4_addRoad_40 : decode cX4_addRoad 40 = .ok (.ldc 50, 2) := by decide +kernel
theorem dX4_addRoad_42 : decode cX4_addRoad 42 = .ok (.invokespecial 49, 3) := by decide +kernel
theorem dX4_addRoad_45 : decode cX4_addRoad 45 = .ok (.athrow, 1) := by decide +kernel
theorem dX4_addRoad_46 : decode cX4_addRoad 46 = .ok (.iload 4, 2) := by decide +kernel
theorem dX4_addRoad_48 : decode cX4_addRoad 48 = .ok (.ifCond .lt 9, 3) := by decide +kernel
theorem dX4_addRoad_51 : decode cX4_addRoad 51 = .ok (.iload 4, 2) := by decide +kernel
theorem dX4_addRoad_53 : decode cX4_addRoad 53 = .ok (.iconst 3, 1) := by decide +kernel
theorem dX4_addRoad_54 : decode cX4_addRoad 54 = .ok (.if_icmp .le 13, 3) := by decide +kernel
theorem dX4_addRoad_57 : decode cX4_addRoad 57 = .ok (.new 45, 3) := by decide +kernel
theorem dX4_addRoad_60 : decode cX4_addRoad 60 = .ok (.dup, 1) := by decide +kernel
theorem dX4_addRoad_61 : decode cX4_addRoad 61 = .ok (.ldc 52, 2) := by decide +kernel
theorem dX4_addRoad_63 : decode cX4_addRoad 63 = .ok (.invokespecial 49, 3) := by decide +kernel
theorem dX4_addRoad_66 : decode cX4_addRoad 66 = .ok (.athrow, 1) := by decide +kernel
theorem dX4_addRoad_67 : decode cX4_addRoad 67 = .ok (.aload_n 0, 1) := by decide +kernel
theorem dX4_addRoad_68 : decode cX4_addRoad 68 = .ok (.getfield 10, 3) := by decide +kernel
theorem dX4_addRoad_71 : decode cX4_addRoad 71 = .ok (.getfield 54, 3) := by decide +kernel
theorem dX4_addRoad_74 : decode cX4_addRoad 74 = .ok (.getfield 58, 3) := by decide +kernel
theorem dX4_addRoad_77 : decode cX4_addRoad 77 = .ok (.bipush 20, 2) := by decide +kernel
theorem dX4_addRoad_79 : decode cX4_addRoad 79 = .ok (.if_icmp .lt 13, 3) := by decide +kernel
theorem dX4_addRoad_82 : decode cX4_addRoad 82 = .ok (.new 30, 3) := by decide +kernel
theorem dX4_addRoad_85 : decode cX4_addRoad 85 = .ok (.dup, 1) := by decide +kernel
theorem dX4_addRoad_86 : decode cX4_addRoad 86 = .ok (.ldc 63, 2) := by decide +kernel
theorem dX4_addRoad_88 : decode cX4_addRoad 88 = .ok (.invokespecial 34, 3) := by decide +kernel
theorem dX4_addRoad_91 : decode cX4_addRoad 91 = .ok (.athrow, 1) := by decide +kernel
theorem dX4_addRoad_92 : decode cX4_addRoad 92 = .ok (.aload_n 0, 1) := by decide +kernel
theorem dX4_addRoad_93 : decode cX4_addRoad 93 = .ok (.getfield 10, 3) := by decide +kernel
theorem dX4_addRoad_96 : decode cX4_addRoad 96 = .ok (.iload_n 1, 1) := by decide +kernel
theorem dX4_addRoad_97 : decode cX4_addRoad 97 = .ok (.iload_n 2, 1) := by decide +kernel
theorem dX4_addRoad_98 : decode cX4_addRoad 98 = .ok (.iload_n 3, 1) := by decide +kernel
theorem dX4_addRoad_99 : decode cX4_addRoad 99 = .ok (.iload 4, 2) := by decide +kernel
theorem dX4_addRoad_101 : decode cX4_addRoad 101 = .ok (.invokevirtual 65, 3) := by decide +kernel
theorem dX4_addRoad_104 : decode cX4_addRoad 104 = .ok (.ireturn, 1) := by decide +kernel
theorem dX4_addTourist_0 : decode cX4_addTourist 0 = .ok (.aload_n 0, 1) := by decide +kernel
theorem dX4_addTourist_1 : decode cX4_addTourist 1 = .ok (.iload_n 1, 1) := by decide +kernel
theorem dX4_addTourist_2 : decode cX4_addTourist 2 = .ok (.invokevirtual 41, 3) := by decide +kernel
theorem dX4_addTourist_5 : decode cX4_addTourist 5 = .ok (.aload_n 0, 1) := by decide +kernel
theorem dX4_addTourist_6 : decode cX4_addTourist 6 = .ok (.iload_n 2, 1) := by decide +kernel
theorem dX4_addTourist_7 : decode cX4_addTourist 7 = .ok (.invokevirtual 41, 3) := by decide +kernel
theorem dX4_addTourist_10 : decode cX4_addTourist 10 = .ok (.iload_n 1, 1) := by decide +kernel
theorem dX4_addTourist_11 : decode cX4_addTourist 11 = .ok (.iload_n 2, 1) := by decide +kernel
theorem dX4_addTourist_12 : decode cX4_addTourist 12 = .ok (.if_icmp .ne 13, 3) := by decide +kernel
theorem dX4_addTourist_15 : decode cX4_addTourist 15 = .ok (.new 45, 3) := by decide +kernel
theorem dX4_addTourist_18 : decode cX4_addTourist 18 = .ok (.dup, 1) := by decide +kernel
theorem dX4_addTourist_19 : decode cX4_addTourist 19 = .ok (.ldc 47, 2) := by decide +kernel
theorem dX4_addTourist_21 : decode cX4_addTourist 21 = .ok (.invokespecial 49, 3) := by decide +kernel
theorem dX4_addTourist_24 : decode cX4_addTourist 24 = .ok (.athrow, 1) := by decide +kernel
theorem dX4_addTourist_25 : decode cX4_addTourist 25 = .ok (.aload_n 0, 1) := by decide +kernel
theorem dX4_addTourist_26 : decode cX4_addTourist 26 = .ok (.getfield 10, 3) := by decide +kernel
theorem dX4_addTourist_29 : decode cX4_addTourist 29 = .ok (.getfield 69, 3) := by decide +kernel
theorem dX4_addTourist_32 : decode cX4_addTourist 32 = .ok (.getfield 73, 3) := by decide +kernel
theorem dX4_addTourist_35 : decode cX4_addTourist 35 = .ok (.bipush 12, 2) := by decide +kernel
theorem dX4_addTourist_37 : decode cX4_addTourist 37 = .ok (.if_icmp .lt 13, 3) := by decide +kernel
theorem dX4_addTourist_40 : decode cX4_addTourist 40 = .ok (.new 30, 3) := by decide +kernel
theorem dX4_addTourist_43 : decode cX4_addTourist 43 = .ok (.dup, 1) := by decide +kernel
theorem dX4_addTourist_44 : decode cX4_addTourist 44 = .ok (.ldc 76, 2) := by decide +kernel
theorem dX4_addTourist_46 : decode cX4_addTourist 46 = .ok (.invokespecial 34, 3) := by decide +kernel
theorem dX4_addTourist_49 : decode cX4_addTourist 49 = .ok (.athrow, 1) := by decide +kernel
theorem dX4_addTourist_50 : decode cX4_addTourist 50 = .ok (.aload_n 0, 1) := by decide +kernel
theorem dX4_addTourist_51 : decode cX4_addTourist 51 = .ok (.iload_n 1, 1) := by decide +kernel
theorem dX4_addTourist_52 : decode cX4_addTourist 52 = .ok (.iload_n 2, 1) := by decide +kernel
theorem dX4_addTourist_53 : decode cX4_addTourist 53 = .ok (.invokevirtual 78, 3) := by decide +kernel
theorem dX4_addTourist_56 : decode cX4_addTourist 56 = .ok (.istore_n 3, 1) := by decide +kernel
theorem dX4_addTourist_57 : decode cX4_addTourist 57 = .ok (.iload_n 3, 1) := by decide +kernel
theorem dX4_addTourist_58 : decode cX4_addTourist 58 = .ok (.ifCond .ge 13, 3) := by decide +kernel
theorem dX4_addTourist_61 : decode cX4_addTourist 61 = .ok (.new 30, 3) := by decide +kernel
theorem dX4_addTourist_64 : decode cX4_addTourist 64 = .ok (.dup, 1) := by decide +kernel
theorem dX4_addTourist_65 : decode cX4_addTourist 65 = .ok (.ldc 82, 2) := by decide +kernel
theorem dX4_addTourist_67 : decode cX4_addTourist 67 = .ok (.invokespecial 34, 3) := by decide +kernel
theorem dX4_addTourist_70 : decode cX4_addTourist 70 = .ok (.athrow, 1) := by decide +kernel
theorem dX4_addTourist_71 : decode cX4_addTourist 71 = .ok (.aload_n 0, 1) := by decide +kernel
theorem dX4_addTourist_72 : decode cX4_addTourist 72 = .ok (.getfield 10, 3) := by decide +kernel
theorem dX4_addTourist_75 : decode cX4_addTourist 75 = .ok (.getfield 69, 3) := by decide +kernel
theorem dX4_addTourist_78 : decode cX4_addTourist 78 = .ok (.iload_n 1, 1) := by decide +kernel
theorem dX4_addTourist_79 : decode cX4_addTourist 79 = .ok (.iload_n 2, 1) := by decide +kernel
theorem dX4_addTourist_80 : decode cX4_addTourist 80 = .ok (.iload_n 3, 1) := by decide +kernel
theorem dX4_addTourist_81 : decode cX4_addTourist 81 = .ok (.aload_n 0, 1) := by decide +kernel
theorem dX4_addTourist_82 : decode cX4_addTourist 82 = .ok (.getfield 10, 3) := by decide +kernel
theorem dX4_addTourist_85 : decode cX4_addTourist 85 = .ok (.getfield 84, 3) := by decide +kernel
theorem dX4_addTourist_88 : decode cX4_addTourist 88 = .ok (.invokevirtual 87, 3) := by decide +kernel
theorem dX4_addTourist_91 : decode cX4_addTourist 91 = .ok (.ireturn, 1) := by decide +kernel
theorem dX4_mend_0 : decode cX4_mend 0 = .ok (.aload_n 0, 1) := by decide +kernel
theorem dX4_mend_1 : decode cX4_mend 1 = .ok (.iload_n 1, 1) := by decide +kernel
theorem dX4_mend_2 : decode cX4_mend 2 = .ok (.invokevirtual 90, 3) := by decide +kernel
theorem dX4_mend_5 : decode cX4_mend 5 = .ok (.iload_n 2, 1) := by decide +kernel
theorem dX4_mend_6 : decode cX4_mend 6 = .ok (.iconst 1, 1) := by decide +kernel
theorem dX4_mend_7 : decode cX4_mend 7 = .ok (.if_icmp .lt 9, 3) := by decide +kernel
theorem dX4_mend_10 : decode cX4_mend 10 = .ok (.iload_n 2, 1) := by decide +kernel
theorem dX4_mend_11 : decode cX4_mend 11 = .ok (.bipush 20, 2) := by decide +kernel
theorem dX4_mend_13 : decode cX4_mend 13 = .ok (.if_icmp .le 13, 3) := by decide +kernel
theorem dX4_mend_16 : decode cX4_mend 16 = .ok (.new 45, 3) := by decide +kernel
theorem dX4_mend_19 : decode cX4_mend 19 = .ok (.dup, 1) := by decide +kernel
theorem dX4_mend_20 : decode cX4_mend 20 = .ok (.ldc 93, 2) := by decide +kernel
theorem dX4_mend_22 : decode cX4_mend 22 = .ok (.invokespecial 49, 3) := by decide +kernel
theorem dX4_mend_25 : decode cX4_mend 25 = .ok (.athrow, 1) := by decide +kernel
theorem dX4_mend_26 : decode cX4_mend 26 = .ok (.aload_n 0, 1) := by decide +kernel
theorem dX4_mend_27 : decode cX4_mend 27 = .ok (.getfield 10, 3) := by decide +kernel
theorem dX4_mend_30 : decode cX4_mend 30 = .ok (.getfield 54, 3) := by decide +kernel
theorem dX4_mend_33 : decode cX4_mend 33 = .ok (.getfield 95, 3) := by decide +kernel
theorem dX4_mend_36 : decode cX4_mend 36 = .ok (.iload_n 1, 1) := by decide +kernel
theorem dX4_mend_37 : decode cX4_mend 37 = .ok (.iaload, 1) := by decide +kernel
theorem dX4_mend_38 : decode cX4_mend 38 = .ok (.ifCond .le 13, 3) := by decide +kernel
theorem dX4_mend_41 : decode cX4_mend 41 = .ok (.new 30, 3) := by decide +kernel
theorem dX4_mend_44 : decode cX4_mend 44 = .ok (.dup, 1) := by decide +kernel
theorem dX4_mend_45 : decode cX4_mend 45 = .ok (.ldc 99, 2) := by decide +kernel
theorem dX4_mend_47 : decode cX4_mend 47 = .ok (.invokespecial 34, 3) := by decide +kernel
theorem dX4_mend_50 : decode cX4_mend 50 = .ok (.athrow, 1) := by decide +kernel
theorem dX4_mend_51 : decode cX4_mend 51 = .ok (.aload_n 0, 1) := by decide +kernel
theorem dX4_mend_52 : decode cX4_mend 52 = .ok (.getfield 10, 3) := by decide +kernel
theorem dX4_mend_55 : decode cX4_mend 55 = .ok (.iload_n 1, 1) := by decide +kernel
theorem dX4_mend_56 : decode cX4_mend 56 = .ok (.iload_n 2, 1) := by decide +kernel
theorem dX4_mend_57 : decode cX4_mend 57 = .ok (.invokevirtual 101, 3) := by decide +kernel
theorem dX4_mend_60 : decode cX4_mend 60 = .ok (.aload_n 0, 1) := by decide +kernel
theorem dX4_mend_61 : decode cX4_mend 61 = .ok (.getfield 10, 3) := by decide +kernel
theorem dX4_mend_64 : decode cX4_mend 64 = .ok (.getfield 54, 3) := by decide +kernel
theorem dX4_mend_67 : decode cX4_mend 67 = .ok (.getfield 105, 3) := by decide +kernel
theorem dX4_mend_70 : decode cX4_mend 70 = .ok (.iload_n 1, 1) := by decide +kernel
theorem dX4_mend_71 : decode cX4_mend 71 = .ok (.iaload, 1) := by decide +kernel
theorem dX4_mend_72 : decode cX4_mend 72 = .ok (.ireturn, 1) := by decide +kernel
theorem dX4_cutKnots_0 : decode cX4_cutKnots 0 = .ok (.aload_n 0, 1) := by decide +kernel
theorem dX4_cutKnots_1 : decode cX4_cutKnots 1 = .ok (.iload_n 1, 1) := by decide +kernel
theorem dX4_cutKnots_2 : decode cX4_cutKnots 2 = .ok (.invokevirtual 90, 3) := by decide +kernel
theorem dX4_cutKnots_5 : decode cX4_cutKnots 5 = .ok (.aload_n 0, 1) := by decide +kernel
theorem dX4_cutKnots_6 : decode cX4_cutKnots 6 = .ok (.getfield 10, 3) := by decide +kernel
theorem dX4_cutKnots_9 : decode cX4_cutKnots 9 = .ok (.getfield 54, 3) := by decide +kernel
theorem dX4_cutKnots_12 : decode cX4_cutKnots 12 = .ok (.getfield 95, 3) := by decide +kernel
theorem dX4_cutKnots_15 : decode cX4_cutKnots 15 = .ok (.iload_n 1, 1) := by decide +kernel
theorem dX4_cutKnots_16 : decode cX4_cutKnots 16 = .ok (.iaload, 1) := by decide +kernel
theorem dX4_cutKnots_17 : decode cX4_cutKnots 17 = .ok (.ifCond .le 13, 3) := by decide +kernel
theorem dX4_cutKnots_20 : decode cX4_cutKnots 20 = .ok (.new 30, 3) := by decide +kernel
theorem dX4_cutKnots_23 : decode cX4_cutKnots 23 = .ok (.dup, 1) := by decide +kernel
theorem dX4_cutKnots_24 : decode cX4_cutKnots 24 = .ok (.ldc 99, 2) := by decide +kernel
theorem dX4_cutKnots_26 : decode cX4_cutKnots 26 = .ok (.invokespecial 34, 3) := by decide +kernel
theorem dX4_cutKnots_29 : decode cX4_cutKnots 29 = .ok (.athrow, 1) := by decide +kernel
theorem dX4_cutKnots_30 : decode cX4_cutKnots 30 = .ok (.aload_n 0, 1) := by decide +kernel
theorem dX4_cutKnots_31 : decode cX4_cutKnots 31 = .ok (.getfield 10, 3) := by decide +kernel
theorem dX4_cutKnots_34 : decode cX4_cutKnots 34 = .ok (.getfield 69, 3) := by decide +kernel
theorem dX4_cutKnots_37 : decode cX4_cutKnots 37 = .ok (.iload_n 1, 1) := by decide +kernel
theorem dX4_cutKnots_38 : decode cX4_cutKnots 38 = .ok (.invokevirtual 108, 3) := by decide +kernel
theorem dX4_cutKnots_41 : decode cX4_cutKnots 41 = .ok (.ifCond .le 13, 3) := by decide +kernel
theorem dX4_cutKnots_44 : decode cX4_cutKnots 44 = .ok (.new 30, 3) := by decide +kernel
theorem dX4_cutKnots_47 : decode cX4_cutKnots 47 = .ok (.dup, 1) := by decide +kernel
theorem dX4_cutKnots_48 : decode cX4_cutKnots 48 = .ok (.ldc 112, 2) := by decide +kernel
theorem dX4_cutKnots_50 : decode cX4_cutKnots 50 = .ok (.invokespecial 34, 3) := by decide +kernel
theorem dX4_cutKnots_53 : decode cX4_cutKnots 53 = .ok (.athrow, 1) := by decide +kernel
theorem dX4_cutKnots_54 : decode cX4_cutKnots 54 = .ok (.aload_n 0, 1) := by decide +kernel
theorem dX4_cutKnots_55 : decode cX4_cutKnots 55 = .ok (.getfield 10, 3) := by decide +kernel
theorem dX4_cutKnots_58 : decode cX4_cutKnots 58 = .ok (.iload_n 1, 1) := by decide +kernel
theorem dX4_cutKnots_59 : decode cX4_cutKnots 59 = .ok (.invokevirtual 114, 3) := by decide +kernel
theorem dX4_cutKnots_62 : decode cX4_cutKnots 62 = .ok (.ireturn, 1) := by decide +kernel
theorem dX4_pass_0 : decode cX4_pass 0 = .ok (.aload_n 0, 1) := by decide +kernel
theorem dX4_pass_1 : decode cX4_pass 1 = .ok (.iload_n 1, 1) := by decide +kernel
theorem dX4_pass_2 : decode cX4_pass 2 = .ok (.invokevirtual 117, 3) := by decide +kernel
theorem dX4_pass_5 : decode cX4_pass 5 = .ok (.aload_n 0, 1) := by decide +kernel
theorem dX4_pass_6 : decode cX4_pass 6 = .ok (.getfield 10, 3) := by decide +kernel
theorem dX4_pass_9 : decode cX4_pass 9 = .ok (.getfield 69, 3) := by decide +kernel
theorem dX4_pass_12 : decode cX4_pass 12 = .ok (.getfield 120, 3) := by decide +kernel
theorem dX4_pass_15 : decode cX4_pass 15 = .ok (.istore_n 2, 1) := by decide +kernel
theorem dX4_pass_16 : decode cX4_pass 16 = .ok (.iconst 0, 1) := by decide +kernel
theorem dX4_pass_17 : decode cX4_pass 17 = .ok (.istore_n 3, 1) := by decide +kernel
theorem dX4_pass_18 : decode cX4_pass 18 = .ok (.iload_n 3, 1) := by decide +kernel
theorem dX4_pass_19 : decode cX4_pass 19 = .ok (.iload_n 1, 1) := by decide +kernel
theorem dX4_pass_20 : decode cX4_pass 20 = .ok (.if_icmp .ge 16, 3) := by decide +kernel
theorem dX4_pass_23 : decode cX4_pass 23 = .ok (.aload_n 0, 1) := by decide +kernel
theorem dX4_pass_24 : decode cX4_pass 24 = .ok (.getfield 10, 3) := by decide +kernel
theorem dX4_pass_27 : decode cX4_pass 27 = .ok (.invokevirtual 123, 3) := by decide +kernel
theorem dX4_pass_30 : decode cX4_pass 30 = .ok (.iinc 3 1, 3) := by decide +kernel
theorem dX4_pass_33 : decode cX4_pass 33 = .ok (.goto (-15), 3) := by decide +kernel
theorem dX4_pass_36 : decode cX4_pass 36 = .ok (.aload_n 0, 1) := by decide +kernel
theorem dX4_pass_37 : decode cX4_pass 37 = .ok (.getfield 10, 3) := by decide +kernel
theorem dX4_pass_40 : decode cX4_pass 40 = .ok (.getfield 69, 3) := by decide +kernel
theorem dX4_pass_43 : decode cX4_pass 43 = .ok (.getfield 120, 3) := by decide +kernel
theorem dX4_pass_46 : decode cX4_pass 46 = .ok (.iload_n 2, 1) := by decide +kernel
theorem dX4_pass_47 : decode cX4_pass 47 = .ok (.isub, 1) := by decide +kernel
theorem dX4_pass_48 : decode cX4_pass 48 = .ok (.ireturn, 1) := by decide +kernel
theorem dX4_hour_0 : decode cX4_hour 0 = .ok (.aload_n 0, 1) := by decide +kernel
theorem dX4_hour_1 : decode cX4_hour 1 = .ok (.getfield 10, 3) := by decide +kernel
theorem dX4_hour_4 : decode cX4_hour 4 = .ok (.getfield 84, 3) := by decide +kernel
theorem dX4_hour_7 : decode cX4_hour 7 = .ok (.ireturn, 1) := by decide +kernel
theorem dX4_crossings_0 : decode cX4_crossings 0 = .ok (.aload_n 0, 1) := by decide +kernel
theorem dX4_crossings_1 : decode cX4_crossings 1 = .ok (.getfield 10, 3) := by decide +kernel
theorem dX4_crossings_4 : decode cX4_crossings 4 = .ok (.getfield 26, 3) := by decide +kernel
theorem dX4_crossings_7 : decode cX4_crossings 7 = .ok (.ireturn, 1) := by decide +kernel
theorem dX4_roads_0 : decode cX4_roads 0 = .ok (.aload_n 0, 1) := by decide +kernel
theorem dX4_roads_1 : decode cX4_roads 1 = .ok (.getfield 10, 3) := by decide +kernel
theorem dX4_roads_4 : decode cX4_roads 4 = .ok (.getfield 54, 3) := by decide +kernel
theorem dX4_roads_7 : decode cX4_roads 7 = .ok (.getfield 58, 3) := by decide +kernel
theorem dX4_roads_10 : decode cX4_roads 10 = .ok (.ireturn, 1) := by decide +kernel
theorem dX4_tourists_0 : decode cX4_tourists 0 = .ok (.aload_n 0, 1) := by decide +kernel
theorem dX4_tourists_1 : decode cX4_tourists 1 = .ok (.getfield 10, 3) := by decide +kernel
theorem dX4_tourists_4 : decode cX4_tourists 4 = .ok (.getfield 69, 3) := by decide +kernel
theorem dX4_tourists_7 : decode cX4_tourists 7 = .ok (.getfield 73, 3) := by decide +kernel
theorem dX4_tourists_10 : decode cX4_tourists 10 = .ok (.ireturn, 1) := by decide +kernel
theorem dX4_arrived_0 : decode cX4_arrived 0 = .ok (.aload_n 0, 1) := by decide +kernel
theorem dX4_arrived_1 : decode cX4_arrived 1 = .ok (.getfield 10, 3) := by decide +kernel
theorem dX4_arrived_4 : decode cX4_arrived 4 = .ok (.getfield 69, 3) := by decide +kernel
theorem dX4_arrived_7 : decode cX4_arrived 7 = .ok (.getfield 120, 3) := by decide +kernel
theorem dX4_arrived_10 : decode cX4_arrived 10 = .ok (.ireturn, 1) := by decide +kernel
theorem dX4_closedRoads_0 : decode cX4_closedRoads 0 = .ok (.aload_n 0, 1) := by decide +kernel
theorem dX4_closedRoads_1 : decode cX4_closedRoads 1 = .ok (.getfield 10, 3) := by decide +kernel
theorem dX4_closedRoads_4 : decode cX4_closedRoads 4 = .ok (.getfield 54, 3) := by decide +kernel
theorem dX4_closedRoads_7 : decode cX4_closedRoads 7 = .ok (.invokevirtual 126, 3) := by decide +kernel
theorem dX4_closedRoads_10 : decode cX4_closedRoads 10 = .ok (.ireturn, 1) := by decide +kernel
theorem dX4_allFrayed_0 : decode cX4_allFrayed 0 = .ok (.aload_n 0, 1) := by decide +kernel
theorem dX4_allFrayed_1 : decode cX4_allFrayed 1 = .ok (.getfield 10, 3) := by decide +kernel
theorem dX4_allFrayed_4 : decode cX4_allFrayed 4 = .ok (.getfield 69, 3) := by decide +kernel
theorem dX4_allFrayed_7 : decode cX4_allFrayed 7 = .ok (.invokevirtual 129, 3) := by decide +kernel
theorem dX4_allFrayed_10 : decode cX4_allFrayed 10 = .ok (.ireturn, 1) := by decide +kernel
theorem dX4_lengthOf_0 : decode cX4_lengthOf 0 = .ok (.aload_n 0, 1) := by decide +kernel
theorem dX4_lengthOf_1 : decode cX4_lengthOf 1 = .ok (.iload_n 1, 1) := by decide +kernel
theorem dX4_lengthOf_2 : decode cX4_lengthOf 2 = .ok (.invokevirtual 90, 3) := by decide +kernel
theorem dX4_lengthOf_5 : decode cX4_lengthOf 5 = .ok (.aload_n 0, 1) := by decide +kernel
theorem dX4_lengthOf_6 : decode cX4_lengthOf 6 = .ok (.getfield 10, 3) := by decide +kernel
theorem dX4_lengthOf_9 : decode cX4_lengthOf 9 = .ok (.getfield 54, 3) := by decide +kernel
theorem dX4_lengthOf_12 : decode cX4_lengthOf 12 = .ok (.iload_n 1, 1) := by decide +kernel
theorem dX4_lengthOf_13 : decode cX4_lengthOf 13 = .ok (.invokevirtual 132, 3) := by decide +kernel
theorem dX4_lengthOf_16 : decode cX4_lengthOf 16 = .ok (.ireturn, 1) := by decide +kernel
theorem dX4_wearOf_0 : decode cX4_wearOf 0 = .ok (.aload_n 0, 1) := by decide +kernel
theorem dX4_wearOf_1 : decode cX4_wearOf 1 = .ok (.iload_n 1, 1) := by decide +kernel
theorem dX4_wearOf_2 : decode cX4_wearOf 2 = .ok (.invokevirtual 90, 3) := by decide +kernel
theorem dX4_wearOf_5 : decode cX4_wearOf 5 = .ok (.aload_n 0, 1) := by decide +kernel
theorem dX4_wearOf_6 : decode cX4_wearOf 6 = .ok (.getfield 10, 3) := by decide +kernel
theorem dX4_wearOf_9 : decode cX4_wearOf 9 = .ok (.getfield 54, 3) := by decide +kernel
theorem dX4_wearOf_12 : decode cX4_wearOf 12 = .ok (.getfield 105, 3) := by decide +kernel
theorem dX4_wearOf_15 : decode cX4_wearOf 15 = .ok (.iload_n 1, 1) := by decide +kernel
theorem dX4_wearOf_16 : decode cX4_wearOf 16 = .ok (.iaload, 1) := by decide +kernel
theorem dX4_wearOf_17 : decode cX4_wearOf 17 = .ok (.ireturn, 1) := by decide +kernel
theorem dX4_knotsOf_0 : decode cX4_knotsOf 0 = .ok (.aload_n 0, 1) := by decide +kernel
theorem dX4_knotsOf_1 : decode cX4_knotsOf 1 = .ok (.iload_n 1, 1) := by decide +kernel
theorem dX4_knotsOf_2 : decode cX4_knotsOf 2 = .ok (.invokevirtual 90, 3) := by decide +kernel
theorem dX4_knotsOf_5 : decode cX4_knotsOf 5 = .ok (.aload_n 0, 1) := by decide +kernel
theorem dX4_knotsOf_6 : decode cX4_knotsOf 6 = .ok (.getfield 10, 3) := by decide +kernel
theorem dX4_knotsOf_9 : decode cX4_knotsOf 9 = .ok (.getfield 54, 3) := by decide +kernel
theorem dX4_knotsOf_12 : decode cX4_knotsOf 12 = .ok (.getfield 135, 3) := by decide +kernel
theorem dX4_knotsOf_15 : decode cX4_knotsOf 15 = .ok (.iload_n 1, 1) := by decide +kernel
theorem dX4_knotsOf_16 : decode cX4_knotsOf 16 = .ok (.iaload, 1) := by decide +kernel
theorem dX4_knotsOf_17 : decode cX4_knotsOf 17 = .ok (.ireturn, 1) := by decide +kernel
theorem dX4_closedFor_0 : decode cX4_closedFor 0 = .ok (.aload_n 0, 1) := by decide +kernel
theorem dX4_closedFor_1 : decode cX4_closedFor 1 = .ok (.iload_n 1, 1) := by decide +kernel
theorem dX4_closedFor_2 : decode cX4_closedFor 2 = .ok (.invokevirtual 90, 3) := by decide +kernel
theorem dX4_closedFor_5 : decode cX4_closedFor 5 = .ok (.aload_n 0, 1) := by decide +kernel
theorem dX4_closedFor_6 : decode cX4_closedFor 6 = .ok (.getfield 10, 3) := by decide +kernel
theorem dX4_closedFor_9 : decode cX4_closedFor 9 = .ok (.getfield 54, 3) := by decide +kernel
theorem dX4_closedFor_12 : decode cX4_closedFor 12 = .ok (.getfield 95, 3) := by decide +kernel
theorem dX4_closedFor_15 : decode cX4_closedFor 15 = .ok (.iload_n 1, 1) := by decide +kernel
theorem dX4_closedFor_16 : decode cX4_closedFor 16 = .ok (.iaload, 1) := by decide +kernel
theorem dX4_closedFor_17 : decode cX4_closedFor 17 = .ok (.ireturn, 1) := by decide +kernel
theorem dX4_touristsOn_0 : decode cX4_touristsOn 0 = .ok (.aload_n 0, 1) := by decide +kernel
theorem dX4_touristsOn_1 : decode cX4_touristsOn 1 = .ok (.iload_n 1, 1) := by decide +kernel
theorem dX4_touristsOn_2 : decode cX4_touristsOn 2 = .ok (.invokevirtual 90, 3) := by decide +kernel
theorem dX4_touristsOn_5 : decode cX4_touristsOn 5 = .ok (.aload_n 0, 1) := by decide +kernel
theorem dX4_touristsOn_6 : decode cX4_touristsOn 6 = .ok (.getfield 10, 3) := by decide +kernel
theorem dX4_touristsOn_9 : decode cX4_touristsOn 9 = .ok (.getfield 69, 3) := by decide +kernel
theorem dX4_touristsOn_12 : decode cX4_touristsOn 12 = .ok (.iload_n 1, 1) := by decide +kernel
theorem dX4_touristsOn_13 : decode cX4_touristsOn 13 = .ok (.invokevirtual 108, 3) := by decide +kernel
theorem dX4_touristsOn_16 : decode cX4_touristsOn 16 = .ok (.ireturn, 1) := by decide +kernel
theorem dX4_mostWorn_0 : decode cX4_mostWorn 0 = .ok (.aload_n 0, 1) := by decide +kernel
theorem dX4_mostWorn_1 : decode cX4_mostWorn 1 = .ok (.getfield 10, 3) := by decide +kernel
theorem dX4_mostWorn_4 : decode cX4_mostWorn 4 = .ok (.getfield 54, 3) := by decide +kernel
theorem dX4_mostWorn_7 : decode cX4_mostWorn 7 = .ok (.invokevirtual 138, 3) := by decide +kernel
theorem dX4_mostWorn_10 : decode cX4_mostWorn 10 = .ok (.ireturn, 1) := by decide +kernel
theorem dX4_openDistance_0 : decode cX4_openDistance 0 = .ok (.aload_n 0, 1) := by decide +kernel
theorem dX4_openDistance_1 : decode cX4_openDistance 1 = .ok (.iload_n 1, 1) := by decide +kernel
theorem dX4_openDistance_2 : decode cX4_openDistance 2 = .ok (.invokevirtual 41, 3) := by decide +kernel
theorem dX4_openDistance_5 : decode cX4_openDistance 5 = .ok (.aload_n 0, 1) := by decide +kernel
theorem dX4_openDistance_6 : decode cX4_openDistance 6 = .ok (.iload_n 2, 1) := by decide +kernel
theorem dX4_openDistance_7 : decode cX4_openDistance 7 = .ok (.invokevirtual 41, 3) := by decide +kernel
theorem dX4_openDistance_10 : decode cX4_openDistance 10 = .ok (.aload_n 0, 1) := by decide +kernel
theorem dX4_openDistance_11 : decode cX4_openDistance 11 = .ok (.getfield 10, 3) := by decide +kernel
theorem dX4_openDistance_14 : decode cX4_openDistance 14 = .ok (.invokevirtual 141, 3) := by decide +kernel
theorem dX4_openDistance_17 : decode cX4_openDistance 17 = .ok (.aload_n 0, 1) := by decide +kernel
theorem dX4_openDistance_18 : decode cX4_openDistance 18 = .ok (.getfield 10, 3) := by decide +kernel
theorem dX4_openDistance_21 : decode cX4_openDistance 21 = .ok (.getfield 144, 3) := by decide +kernel
theorem dX4_openDistance_24 : decode cX4_openDistance 24 = .ok (.iload_n 1, 1) := by decide +kernel
theorem dX4_openDistance_25 : decode cX4_openDistance 25 = .ok (.iload_n 2, 1) := by decide +kernel
theorem dX4_openDistance_26 : decode cX4_openDistance 26 = .ok (.invokevirtual 147, 3) := by decide +kernel
theorem dX4_openDistance_29 : decode cX4_openDistance 29 = .ok (.ireturn, 1) := by decide +kernel
theorem dX4_distance_0 : decode cX4_distance 0 = .ok (.aload_n 0, 1) := by decide +kernel
theorem dX4_distance_1 : decode cX4_distance 1 = .ok (.iload_n 1, 1) := by decide +kernel
theorem dX4_distance_2 : decode cX4_distance 2 = .ok (.invokevirtual 41, 3) := by decide +kernel
theorem dX4_distance_5 : decode cX4_distance 5 = .ok (.aload_n 0, 1) := by decide +kernel
theorem dX4_distance_6 : decode cX4_distance 6 = .ok (.iload_n 2, 1) := by decide +kernel
theorem dX4_distance_7 : decode cX4_distance 7 = .ok (.invokevirtual 41, 3) := by decide +kernel
theorem dX4_distance_10 : decode cX4_distance 10 = .ok (.aload_n 0, 1) := by decide +kernel
theorem dX4_distance_11 : decode cX4_distance 11 = .ok (.getfield 22, 3) := by decide +kernel
theorem dX4_distance_14 : decode cX4_distance 14 = .ok (.aload_n 0, 1) := by decide +kernel
theorem dX4_distance_15 : decode cX4_distance 15 = .ok (.getfield 10, 3) := by decide +kernel
theorem dX4_distance_18 : decode cX4_distance 18 = .ok (.getfield 54, 3) := by decide +kernel
theorem dX4_distance_21 : decode cX4_distance 21 = .ok (.aload_n 0, 1) := by decide +kernel
theorem dX4_distance_22 : decode cX4_distance 22 = .ok (.getfield 10, 3) := by decide +kernel
theorem dX4_distance_25 : decode cX4_distance 25 = .ok (.getfield 26, 3) := by decide +kernel
theorem dX4_distance_28 : decode cX4_distance 28 = .ok (.iconst 0, 1) := by decide +kernel
theorem dX4_distance_29 : decode cX4_distance 29 = .ok (.invokevirtual 150, 3) := by decide +kernel
theorem dX4_distance_32 : decode cX4_distance 32 = .ok (.aload_n 0, 1) := by decide +kernel
theorem dX4_distance_33 : decode cX4_distance 33 = .ok (.getfield 22, 3) := by decide +kernel
theorem dX4_distance_36 : decode cX4_distance 36 = .ok (.iload_n 1, 1) := by decide +kernel
theorem dX4_distance_37 : decode cX4_distance 37 = .ok (.iload_n 2, 1) := by decide +kernel
theorem dX4_distance_38 : decode cX4_distance 38 = .ok (.invokevirtual 147, 3) := by decide +kernel
theorem dX4_distance_41 : decode cX4_distance 41 = .ok (.ireturn, 1) := by decide +kernel
theorem dX4_nextRoad_0 : decode cX4_nextRoad 0 = .ok (.aload_n 0, 1) := by decide +kernel
theorem dX4_nextRoad_1 : decode cX4_nextRoad 1 = .ok (.iload_n 1, 1) := by decide +kernel
theorem dX4_nextRoad_2 : decode cX4_nextRoad 2 = .ok (.invokevirtual 41, 3) := by decide +kernel
theorem dX4_nextRoad_5 : decode cX4_nextRoad 5 = .ok (.aload_n 0, 1) := by decide +kernel
theorem dX4_nextRoad_6 : decode cX4_nextRoad 6 = .ok (.iload_n 2, 1) := by decide +kernel
theorem dX4_nextRoad_7 : decode cX4_nextRoad 7 = .ok (.invokevirtual 41, 3) := by decide +kernel
theorem dX4_nextRoad_10 : decode cX4_nextRoad 10 = .ok (.iload_n 1, 1) := by decide +kernel
theorem dX4_nextRoad_11 : decode cX4_nextRoad 11 = .ok (.iload_n 2, 1) := by decide +kernel
theorem dX4_nextRoad_12 : decode cX4_nextRoad 12 = .ok (.if_icmp .ne 5, 3) := by decide +kernel
theorem dX4_nextRoad_15 : decode cX4_nextRoad 15 = .ok (.iconst (-1), 1) := by decide +kernel
theorem dX4_nextRoad_16 : decode cX4_nextRoad 16 = .ok (.ireturn, 1) := by decide +kernel
theorem dX4_nextRoad_17 : decode cX4_nextRoad 17 = .ok (.aload_n 0, 1) := by decide +kernel
theorem dX4_nextRoad_18 : decode cX4_nextRoad 18 = .ok (.getfield 10, 3) := by decide +kernel
theorem dX4_nextRoad_21 : decode cX4_nextRoad 21 = .ok (.invokevirtual 141, 3) := by decide +kernel
theorem dX4_nextRoad_24 : decode cX4_nextRoad 24 = .ok (.aload_n 0, 1) := by decide +kernel
theorem dX4_nextRoad_25 : decode cX4_nextRoad 25 = .ok (.getfield 10, 3) := by decide +kernel
theorem dX4_nextRoad_28 : decode cX4_nextRoad 28 = .ok (.iload_n 1, 1) := by decide +kernel
theorem dX4_nextRoad_29 : decode cX4_nextRoad 29 = .ok (.iload_n 2, 1) := by decide +kernel
theorem dX4_nextRoad_30 : decode cX4_nextRoad 30 = .ok (.invokevirtual 154, 3) := by decide +kernel
theorem dX4_nextRoad_33 : decode cX4_nextRoad 33 = .ok (.ireturn, 1) := by decide +kernel
theorem dX4_partedPairs_0 : decode cX4_partedPairs 0 = .ok (.aload_n 0, 1) := by decide +kernel
theorem dX4_partedPairs_1 : decode cX4_partedPairs 1 = .ok (.getfield 10, 3) := by decide +kernel
theorem dX4_partedPairs_4 : decode cX4_partedPairs 4 = .ok (.invokevirtual 141, 3) := by decide +kernel
theorem dX4_partedPairs_7 : decode cX4_partedPairs 7 = .ok (.aload_n 0, 1) := by decide +kernel
theorem dX4_partedPairs_8 : decode cX4_partedPairs 8 = .ok (.getfield 10, 3) := by decide +kernel
theorem dX4_partedPairs_11 : decode cX4_partedPairs 11 = .ok (.getfield 144, 3) := by decide +kernel
theorem dX4_partedPairs_14 : decode cX4_partedPairs 14 = .ok (.aload_n 0, 1) := by decide +kernel
theorem dX4_partedPairs_15 : decode cX4_partedPairs 15 = .ok (.getfield 10, 3) := by decide +kernel
theorem dX4_partedPairs_18 : decode cX4_partedPairs 18 = .ok (.getfield 26, 3) := by decide +kernel
theorem dX4_partedPairs_21 : decode cX4_partedPairs 21 = .ok (.invokevirtual 157, 3) := by decide +kernel
theorem dX4_partedPairs_24 : decode cX4_partedPairs 24 = .ok (.ireturn, 1) := by decide +kernel
theorem dX4_placeOf_0 : decode cX4_placeOf 0 = .ok (.aload_n 0, 1) := by decide +kernel
theorem dX4_placeOf_1 : decode cX4_placeOf 1 = .ok (.iload_n 1, 1) := by decide +kernel
theorem dX4_placeOf_2 : decode cX4_placeOf 2 = .ok (.invokevirtual 160, 3) := by decide +kernel
theorem dX4_placeOf_5 : decode cX4_placeOf 5 = .ok (.aload_n 0, 1) := by decide +kernel
theorem dX4_placeOf_6 : decode cX4_placeOf 6 = .ok (.getfield 10, 3) := by decide +kernel
theorem dX4_placeOf_9 : decode cX4_placeOf 9 = .ok (.getfield 69, 3) := by decide +kernel
theorem dX4_placeOf_12 : decode cX4_placeOf 12 = .ok (.getfield 163, 3) := by decide +kernel
theorem dX4_placeOf_15 : decode cX4_placeOf 15 = .ok (.iload_n 1, 1) := by decide +kernel
theorem dX4_placeOf_16 : decode cX4_placeOf 16 = .ok (.iaload, 1) := by decide +kernel
theorem dX4_placeOf_17 : decode cX4_placeOf 17 = .ok (.ireturn, 1) := by decide +kernel
theorem dX4_roadOf_0 : decode cX4_roadOf 0 = .ok (.aload_n 0, 1) := by decide +kernel
theorem dX4_roadOf_1 : decode cX4_roadOf 1 = .ok (.iload_n 1, 1) := by decide +kernel
theorem dX4_roadOf_2 : decode cX4_roadOf 2 = .ok (.invokevirtual 160, 3) := by decide +kernel
theorem dX4_roadOf_5 : decode cX4_roadOf 5 = .ok (.aload_n 0, 1) := by decide +kernel
theorem dX4_roadOf_6 : decode cX4_roadOf 6 = .ok (.getfield 10, 3) := by decide +kernel
theorem dX4_roadOf_9 : decode cX4_roadOf 9 = .ok (.getfield 69, 3) := by decide +kernel
theorem dX4_roadOf_12 : decode cX4_roadOf 12 = .ok (.getfield 166, 3) := by decide +kernel
theorem dX4_roadOf_15 : decode cX4_roadOf 15 = .ok (.iload_n 1, 1) := by decide +kernel
theorem dX4_roadOf_16 : decode cX4_roadOf 16 = .ok (.iaload, 1) := by decide +kernel
theorem dX4_roadOf_17 : decode cX4_roadOf 17 = .ok (.ireturn, 1) := by decide +kernel
theorem dX4_dyeOf_0 : decode cX4_dyeOf 0 = .ok (.aload_n 0, 1) := by decide +kernel
theorem dX4_dyeOf_1 : decode cX4_dyeOf 1 = .ok (.iload_n 1, 1) := by decide +kernel
theorem dX4_dyeOf_2 : decode cX4_dyeOf 2 = .ok (.invokevirtual 160, 3) := by decide +kernel
theorem dX4_dyeOf_5 : decode cX4_dyeOf 5 = .ok (.aload_n 0, 1) := by decide +kernel
theorem dX4_dyeOf_6 : decode cX4_dyeOf 6 = .ok (.getfield 10, 3) := by decide +kernel
theorem dX4_dyeOf_9 : decode cX4_dyeOf 9 = .ok (.getfield 69, 3) := by decide +kernel
theorem dX4_dyeOf_12 : decode cX4_dyeOf 12 = .ok (.getfield 169, 3) := by decide +kernel
theorem dX4_dyeOf_15 : decode cX4_dyeOf 15 = .ok (.iload_n 1, 1) := by decide +kernel
theorem dX4_dyeOf_16 : decode cX4_dyeOf 16 = .ok (.iaload, 1) := by decide +kernel
theorem dX4_dyeOf_17 : decode cX4_dyeOf 17 = .ok (.ireturn, 1) := by decide +kernel
theorem dX4_frayOf_0 : decode cX4_frayOf 0 = .ok (.aload_n 0, 1) := by decide +kernel
theorem dX4_frayOf_1 : decode cX4_frayOf 1 = .ok (.iload_n 1, 1) := by decide +kernel
theorem dX4_frayOf_2 : decode cX4_frayOf 2 = .ok (.invokevirtual 160, 3) := by decide +kernel
theorem dX4_frayOf_5 : decode cX4_frayOf 5 = .ok (.aload_n 0, 1) := by decide +kernel
theorem dX4_frayOf_6 : decode cX4_frayOf 6 = .ok (.getfield 10, 3) := by decide +kernel
theorem dX4_frayOf_9 : decode cX4_frayOf 9 = .ok (.getfield 69, 3) := by decide +kernel
theorem dX4_frayOf_12 : decode cX4_frayOf 12 = .ok (.iload_n 1, 1) := by decide +kernel
theorem dX4_frayOf_13 : decode cX4_frayOf 13 = .ok (.aload_n 0, 1) := by decide +kernel
theorem dX4_frayOf_14 : decode cX4_frayOf 14 = .ok (.getfield 10, 3) := by decide +kernel
theorem dX4_frayOf_17 : decode cX4_frayOf 17 = .ok (.getfield 84, 3) := by decide +kernel
theorem dX4_frayOf_20 : decode cX4_frayOf 20 = .ok (.invokevirtual 172, 3) := by decide +kernel
theorem dX4_frayOf_23 : decode cX4_frayOf 23 = .ok (.ireturn, 1) := by decide +kernel
theorem dX4_hasArrived_0 : decode cX4_hasArrived 0 = .ok (.aload_n 0, 1) := by decide +kernel
theorem dX4_hasArrived_1 : decode cX4_hasArrived 1 = .ok (.iload_n 1, 1) := by decide +kernel
theorem dX4_hasArrived_2 : decode cX4_hasArrived 2 = .ok (.invokevirtual 160, 3) := by decide +kernel
theorem dX4_hasArrived_5 : decode cX4_hasArrived 5 = .ok (.aload_n 0, 1) := by decide +kernel
theorem dX4_hasArrived_6 : decode cX4_hasArrived 6 = .ok (.getfield 10, 3) := by decide +kernel
theorem dX4_hasArrived_9 : decode cX4_hasArrived 9 = .ok (.getfield 69, 3) := by decide +kernel
theorem dX4_hasArrived_12 : decode cX4_hasArrived 12 = .ok (.iload_n 1, 1) := by decide +kernel
theorem dX4_hasArrived_13 : decode cX4_hasArrived 13 = .ok (.invokevirtual 175, 3) := by decide +kernel
theorem dX4_hasArrived_16 : decode cX4_hasArrived 16 = .ok (.ireturn, 1) := by decide +kernel
theorem dX4_hoursUntilArrived_0 : decode cX4_hoursUntilArrived 0 = .ok (.aload_n 0, 1) := by decide +kernel
theorem dX4_hoursUntilArrived_1 : decode cX4_hoursUntilArrived 1 = .ok (.iload_n 1, 1) := by decide +kernel
theorem dX4_hoursUntilArrived_2 : decode cX4_hoursUntilArrived 2 = .ok (.invokevirtual 160, 3) := by decide +kernel
theorem dX4_hoursUntilArrived_5 : decode cX4_hoursUntilArrived 5 = .ok (.aload_n 0, 1) := by decide +kernel
theorem dX4_hoursUntilArrived_6 : decode cX4_hoursUntilArrived 6 = .ok (.iconst (-1), 1) := by decide +kernel
theorem dX4_hoursUntilArrived_7 : decode cX4_hoursUntilArrived 7 = .ok (.bipush 100, 2) := by decide +kernel
theorem dX4_hoursUntilArrived_9 : decode cX4_hoursUntilArrived 9 = .ok (.invokevirtual 179, 3) := by decide +kernel
theorem dX4_hoursUntilArrived_12 : decode cX4_hoursUntilArrived 12 = .ok (.aload_n 0, 1) := by decide +kernel
theorem dX4_hoursUntilArrived_13 : decode cX4_hoursUntilArrived 13 = .ok (.iload_n 1, 1) := by decide +kernel
theorem dX4_hoursUntilArrived_14 : decode cX4_hoursUntilArrived 14 = .ok (.invokevirtual 182, 3) := by decide +kernel
theorem dX4_hoursUntilArrived_17 : decode cX4_hoursUntilArrived 17 = .ok (.ireturn, 1) := by decide +kernel
theorem dX4_frayedIn_0 : decode cX4_frayedIn 0 = .ok (.aload_n 0, 1) := by decide +kernel
theorem dX4_frayedIn_1 : decode cX4_frayedIn 1 = .ok (.iload_n 1, 1) := by decide +kernel
theorem dX4_frayedIn_2 : decode cX4_frayedIn 2 = .ok (.invokevirtual 117, 3) := by decide +kernel
theorem dX4_frayedIn_5 : decode cX4_frayedIn 5 = .ok (.aload_n 0, 1) := by decide +kernel
theorem dX4_frayedIn_6 : decode cX4_frayedIn 6 = .ok (.iconst (-1), 1) := by decide +kernel
theorem dX4_frayedIn_7 : decode cX4_frayedIn 7 = .ok (.iload_n 1, 1) := by decide +kernel
theorem dX4_frayedIn_8 : decode cX4_frayedIn 8 = .ok (.invokevirtual 179, 3) := by decide +kernel
theorem dX4_frayedIn_11 : decode cX4_frayedIn 11 = .ok (.aload_n 0, 1) := by decide +kernel
theorem dX4_frayedIn_12 : decode cX4_frayedIn 12 = .ok (.getfield 16, 3) := by decide +kernel
theorem dX4_frayedIn_15 : decode cX4_frayedIn 15 = .ok (.getfield 69, 3) := by decide +kernel
theorem dX4_frayedIn_18 : decode cX4_frayedIn 18 = .ok (.invokevirtual 129, 3) := by decide +kernel
theorem dX4_frayedIn_21 : decode cX4_frayedIn 21 = .ok (.ireturn, 1) := by decide +kernel
theorem dX4_bestToMend_0 : decode cX4_bestToMend 0 = .ok (.iconst (-1), 1) := by decide +kernel
theorem dX4_bestToMend_1 : decode cX4_bestToMend 1 = .ok (.istore_n 1, 1) := by decide +kernel
theorem dX4_bestToMend_2 : decode cX4_bestToMend 2 = .ok (.aload_n 0, 1) := by decide +kernel
theorem dX4_bestToMend_3 : decode cX4_bestToMend 3 = .ok (.getfield 10, 3) := by decide +kernel
theorem dX4_bestToMend_6 : decode cX4_bestToMend 6 = .ok (.getfield 84, 3) := by decide +kernel
theorem dX4_bestToMend_9 : decode cX4_bestToMend 9 = .ok (.bipush 24, 2) := by decide +kernel
theorem dX4_bestToMend_11 : decode cX4_bestToMend 11 = .ok (.iadd, 1) := by decide +kernel
theorem dX4_bestToMend_12 : decode cX4_bestToMend 12 = .ok (.istore_n 2, 1) := by decide +kernel
theorem dX4_bestToMend_13 : decode cX4_bestToMend 13 = .ok (.aload_n 0, 1) := by decide +kernel
theorem dX4_bestToMend_14 : decode cX4_bestToMend 14 = .ok (.iconst (-1), 1) := by decide +kernel
theorem dX4_bestToMend_15 : decode cX4_bestToMend 15 = .ok (.bipush 24, 2) := by decide +kernel
theorem dX4_bestToMend_17 : decode cX4_bestToMend 17 = .ok (.invokevirtual 179, 3) := by decide +kernel
theorem dX4_bestToMend_20 : decode cX4_bestToMend 20 = .ok (.aload_n 0, 1) := by decide +kernel
theorem dX4_bestToMend_21 : decode cX4_bestToMend 21 = .ok (.getfield 16, 3) := by decide +kernel
theorem dX4_bestToMend_24 : decode cX4_bestToMend 24 = .ok (.getfield 69, 3) := by decide +kernel
theorem dX4_bestToMend_27 : decode cX4_bestToMend 27 = .ok (.iload_n 2, 1) := by decide +kernel
theorem dX4_bestToMend_28 : decode cX4_bestToMend 28 = .ok (.invokevirtual 185, 3) := by decide +kernel
theorem dX4_bestToMend_31 : decode cX4_bestToMend 31 = .ok (.istore_n 3, 1) := by decide +kernel
theorem dX4_bestToMend_32 : decode cX4_bestToMend 32 = .ok (.iconst 0, 1) := by decide +kernel
theorem dX4_bestToMend_33 : decode cX4_bestToMend 33 = .ok (.istore 4, 2) := by decide +kernel
theorem dX4_bestToMend_35 : decode cX4_bestToMend 35 = .ok (.iload 4, 2) := by decide +kernel
theorem dX4_bestToMend_37 : decode cX4_bestToMend 37 = .ok (.aload_n 0, 1) := by decide +kernel
theorem dX4_bestToMend_38 : decode cX4_bestToMend 38 = .ok (.getfield 10, 3) := by decide +kernel
theorem dX4_bestToMend_41 : decode cX4_bestToMend 41 = .ok (.getfield 54, 3) := by decide +kernel
theorem dX4_bestToMend_44 : decode cX4_bestToMend 44 = .ok (.getfield 58, 3) := by decide +kernel
theorem dX4_bestToMend_47 : decode cX4_bestToMend 47 = .ok (.if_icmp .ge 58, 3) := by decide +kernel
theorem dX4_bestToMend_50 : decode cX4_bestToMend 50 = .ok (.aload_n 0, 1) := by decide +kernel
theorem dX4_bestToMend_51 : decode cX4_bestToMend 51 = .ok (.getfield 10, 3) := by decide +kernel
theorem dX4_bestToMend_54 : decode cX4_bestToMend 54 = .ok (.getfield 54, 3) := by decide +kernel
theorem dX4_bestToMend_57 : decode cX4_bestToMend 57 = .ok (.getfield 95, 3) := by decide +kernel
theorem dX4_bestToMend_60 : decode cX4_bestToMend 60 = .ok (.iload 4, 2) := by decide +kernel
theorem dX4_bestToMend_62 : decode cX4_bestToMend 62 = .ok (.iaload, 1) := by decide +kernel
theorem dX4_bestToMend_63 : decode cX4_bestToMend 63 = .ok (.ifCond .ne 36, 3) := by decide +kernel
theorem dX4_bestToMend_66 : decode cX4_bestToMend 66 = .ok (.aload_n 0, 1) := by decide +kernel
theorem dX4_bestToMend_67 : decode cX4_bestToMend 67 = .ok (.iload 4, 2) := by decide +kernel
theorem dX4_bestToMend_69 : decode cX4_bestToMend 69 = .ok (.bipush 24, 2) := by decide +kernel
theorem dX4_bestToMend_71 : decode cX4_bestToMend 71 = .ok (.invokevirtual 179, 3) := by decide +kernel
theorem dX4_bestToMend_74 : decode cX4_bestToMend 74 = .ok (.aload_n 0, 1) := by decide +kernel
theorem dX4_bestToMend_75 : decode cX4_bestToMend 75 = .ok (.getfield 16, 3) := by decide +kernel
theorem dX4_bestToMend_78 : decode cX4_bestToMend 78 = .ok (.getfield 69, 3) := by decide +kernel
theorem dX4_bestToMend_81 : decode cX4_bestToMend 81 = .ok (.iload_n 2, 1) := by decide +kernel
theorem dX4_bestToMend_82 : decode cX4_bestToMend 82 = .ok (.invokevirtual 185, 3) := by decide +kernel
theorem dX4_bestToMend_85 : decode cX4_bestToMend 85 = .ok (.istore 5, 2) := by decide +kernel
theorem dX4_bestToMend_87 : decode cX4_bestToMend 87 = .ok (.iload 5, 2) := by decide +kernel
theorem dX4_bestToMend_89 : decode cX4_bestToMend 89 = .ok (.iload_n 3, 1) := by decide +kernel
theorem dX4_bestToMend_90 : decode cX4_bestToMend 90 = .ok (.if_icmp .ge 9, 3) := by decide +kernel
theorem dX4_bestToMend_93 : decode cX4_bestToMend 93 = .ok (.iload 5, 2) := by decide +kernel
theorem dX4_bestToMend_95 : decode cX4_bestToMend 95 = .ok (.istore_n 3, 1) := by decide +kernel
theorem dX4_bestToMend_96 : decode cX4_bestToMend 96 = .ok (.iload 4, 2) := by decide +kernel
theorem dX4_bestToMend_98 : decode cX4_bestToMend 98 = .ok (.istore_n 1, 1) := by decide +kernel
theorem dX4_bestToMend_99 : decode cX4_bestToMend 99 = .ok (.iinc 4 1, 3) := by decide +kernel
theorem dX4_bestToMend_102 : decode cX4_bestToMend 102 = .ok (.goto (-67), 3) := by decide +kernel
theorem dX4_bestToMend_105 : decode cX4_bestToMend 105 = .ok (.iload_n 1, 1) := by decide +kernel
theorem dX4_bestToMend_106 : decode cX4_bestToMend 106 = .ok (.ireturn, 1) := by decide +kernel
theorem dX4_meanLength_0 : decode cX4_meanLength 0 = .ok (.aload_n 0, 1) := by decide +kernel
theorem dX4_meanLength_1 : decode cX4_meanLength 1 = .ok (.getfield 10, 3) := by decide +kernel
theorem dX4_meanLength_4 : decode cX4_meanLength 4 = .ok (.getfield 54, 3) := by decide +kernel
theorem dX4_meanLength_7 : decode cX4_meanLength 7 = .ok (.getfield 58, 3) := by decide +kernel
theorem dX4_meanLength_10 : decode cX4_meanLength 10 = .ok (.istore_n 1, 1) := by decide +kernel
theorem dX4_meanLength_11 : decode cX4_meanLength 11 = .ok (.iload_n 1, 1) := by decide +kernel
theorem dX4_meanLength_12 : decode cX4_meanLength 12 = .ok (.ifCond .ne 5, 3) := by decide +kernel
theorem dX4_meanLength_15 : decode cX4_meanLength 15 = .ok (.dconst 0, 1) := by decide +kernel
theorem dX4_meanLength_16 : decode cX4_meanLength 16 = .ok (.dreturn, 1) := by decide +kernel
theorem dX4_meanLength_17 : decode cX4_meanLength 17 = .ok (.iconst 0, 1) := by decide +kernel
theorem dX4_meanLength_18 : decode cX4_meanLength 18 = .ok (.istore_n 2, 1) := by decide +kernel
theorem dX4_meanLength_19 : decode cX4_meanLength 19 = .ok (.iconst 0, 1) := by decide +kernel
theorem dX4_meanLength_20 : decode cX4_meanLength 20 = .ok (.istore_n 3, 1) := by decide +kernel
theorem dX4_meanLength_21 : decode cX4_meanLength 21 = .ok (.iload_n 3, 1) := by decide +kernel
theorem dX4_meanLength_22 : decode cX4_meanLength 22 = .ok (.iload_n 1, 1) := by decide +kernel
theorem dX4_meanLength_23 : decode cX4_meanLength 23 = .ok (.if_icmp .ge 23, 3) := by decide +kernel
theorem dX4_meanLength_26 : decode cX4_meanLength 26 = .ok (.iload_n 2, 1) := by decide +kernel
theorem dX4_meanLength_27 : decode cX4_meanLength 27 = .ok (.aload_n 0, 1) := by decide +kernel
theorem dX4_meanLength_28 : decode cX4_meanLength 28 = .ok (.getfield 10, 3) := by decide +kernel
theorem dX4_meanLength_31 : decode cX4_meanLength 31 = .ok (.getfield 54, 3) := by decide +kernel
theorem dX4_meanLength_34 : decode cX4_meanLength 34 = .ok (.iload_n 3, 1) := by decide +kernel
theorem dX4_meanLength_35 : decode cX4_meanLength 35 = .ok (.invokevirtual 132, 3) := by decide +kernel
theorem dX4_meanLength_38 : decode cX4_meanLength 38 = .ok (.iadd, 1) := by decide +kernel
theorem dX4_meanLength_39 : decode cX4_meanLength 39 = .ok (.istore_n 2, 1) := by decide +kernel
theorem dX4_meanLength_40 : decode cX4_meanLength 40 = .ok (.iinc 3 1, 3) := by decide +kernel
theorem dX4_meanLength_43 : decode cX4_meanLength 43 = .ok (.goto (-22), 3) := by decide +kernel
theorem dX4_meanLength_46 : decode cX4_meanLength 46 = .ok (.iload_n 2, 1) := by decide +kernel
theorem dX4_meanLength_47 : decode cX4_meanLength 47 = .ok (.i2d, 1) := by decide +kernel
theorem dX4_meanLength_48 : decode cX4_meanLength 48 = .ok (.iload_n 1, 1) := by decide +kernel
theorem dX4_meanLength_49 : decode cX4_meanLength 49 = .ok (.i2d, 1) := by decide +kernel
theorem dX4_meanLength_50 : decode cX4_meanLength 50 = .ok (.ddiv, 1) := by decide +kernel
theorem dX4_meanLength_51 : decode cX4_meanLength 51 = .ok (.dreturn, 1) := by decide +kernel
theorem dX4_digest_0 : decode cX4_digest 0 = .ok (.ldc2_w 188, 3) := by decide +kernel
theorem dX4_digest_3 : decode cX4_digest 3 = .ok (.lstore_n 1, 1) := by decide +kernel
theorem dX4_digest_4 : decode cX4_digest 4 = .ok (.lload_n 1, 1) := by decide +kernel
theorem dX4_digest_5 : decode cX4_digest 5 = .ok (.aload_n 0, 1) := by decide +kernel
theorem dX4_digest_6 : decode cX4_digest 6 = .ok (.invokevirtual 190, 3) := by decide +kernel
theorem dX4_digest_9 : decode cX4_digest 9 = .ok (.i2l, 1) := by decide +kernel
theorem dX4_digest_10 : decode cX4_digest 10 = .ok (.invokestatic 192, 3) := by decide +kernel
theorem dX4_digest_13 : decode cX4_digest 13 = .ok (.lstore_n 1, 1) := by decide +kernel
theorem dX4_digest_14 : decode cX4_digest 14 = .ok (.lload_n 1, 1) := by decide +kernel
theorem dX4_digest_15 : decode cX4_digest 15 = .ok (.aload_n 0, 1) := by decide +kernel
theorem dX4_digest_16 : decode cX4_digest 16 = .ok (.invokevirtual 196, 3) := by decide +kernel
theorem dX4_digest_19 : decode cX4_digest 19 = .ok (.i2l, 1) := by decide +kernel
theorem dX4_digest_20 : decode cX4_digest 20 = .ok (.invokestatic 192, 3) := by decide +kernel
theorem dX4_digest_23 : decode cX4_digest 23 = .ok (.lstore_n 1, 1) := by decide +kernel
theorem dX4_digest_24 : decode cX4_digest 24 = .ok (.lload_n 1, 1) := by decide +kernel
theorem dX4_digest_25 : decode cX4_digest 25 = .ok (.aload_n 0, 1) := by decide +kernel
theorem dX4_digest_26 : decode cX4_digest 26 = .ok (.invokevirtual 198, 3) := by decide +kernel
theorem dX4_digest_29 : decode cX4_digest 29 = .ok (.i2l, 1) := by decide +kernel
theorem dX4_digest_30 : decode cX4_digest 30 = .ok (.invokestatic 192, 3) := by decide +kernel
theorem dX4_digest_33 : decode cX4_digest 33 = .ok (.lstore_n 1, 1) := by decide +kernel
theorem dX4_digest_34 : decode cX4_digest 34 = .ok (.lload_n 1, 1) := by decide +kernel
theorem dX4_digest_35 : decode cX4_digest 35 = .ok (.aload_n 0, 1) := by decide +kernel
theorem dX4_digest_36 : decode cX4_digest 36 = .ok (.invokevirtual 200, 3) := by decide +kernel
theorem dX4_digest_39 : decode cX4_digest 39 = .ok (.i2l, 1) := by decide +kernel
theorem dX4_digest_40 : decode cX4_digest 40 = .ok (.invokestatic 192, 3) := by decide +kernel
theorem dX4_digest_43 : decode cX4_digest 43 = .ok (.lstore_n 1, 1) := by decide +kernel
theorem dX4_digest_44 : decode cX4_digest 44 = .ok (.lload_n 1, 1) := by decide +kernel
theorem dX4_digest_45 : decode cX4_digest 45 = .ok (.aload_n 0, 1) := by decide +kernel
theorem dX4_digest_46 : decode cX4_digest 46 = .ok (.invokevirtual 202, 3) := by decide +kernel
theorem dX4_digest_49 : decode cX4_digest 49 = .ok (.i2l, 1) := by decide +kernel
theorem dX4_digest_50 : decode cX4_digest 50 = .ok (.invokestatic 192, 3) := by decide +kernel
theorem dX4_digest_53 : decode cX4_digest 53 = .ok (.lstore_n 1, 1) := by decide +kernel
theorem dX4_digest_54 : decode cX4_digest 54 = .ok (.lload_n 1, 1) := by decide +kernel
theorem dX4_digest_55 : decode cX4_digest 55 = .ok (.aload_n 0, 1) := by decide +kernel
theorem dX4_digest_56 : decode cX4_digest 56 = .ok (.invokevirtual 205, 3) := by decide +kernel
theorem dX4_digest_59 : decode cX4_digest 59 = .ok (.i2l, 1) := by decide +kernel
theorem dX4_digest_60 : decode cX4_digest 60 = .ok (.invokestatic 192, 3) := by decide +kernel
theorem dX4_digest_63 : decode cX4_digest 63 = .ok (.lstore_n 1, 1) := by decide +kernel
theorem dX4_digest_64 : decode cX4_digest 64 = .ok (.lload_n 1, 1) := by decide +kernel
theorem dX4_digest_65 : decode cX4_digest 65 = .ok (.aload_n 0, 1) := by decide +kernel
theorem dX4_digest_66 : decode cX4_digest 66 = .ok (.invokevirtual 208, 3) := by decide +kernel
theorem dX4_digest_69 : decode cX4_digest 69 = .ok (.i2l, 1) := by decide +kernel
theorem dX4_digest_70 : decode cX4_digest 70 = .ok (.invokestatic 192, 3) := by decide +kernel
theorem dX4_digest_73 : decode cX4_digest 73 = .ok (.lstore_n 1, 1) := by decide +kernel
theorem dX4_digest_74 : decode cX4_digest 74 = .ok (.lload_n 1, 1) := by decide +kernel
theorem dX4_digest_75 : decode cX4_digest 75 = .ok (.aload_n 0, 1) := by decide +kernel
theorem dX4_digest_76 : decode cX4_digest 76 = .ok (.invokevirtual 211, 3) := by decide +kernel
theorem dX4_digest_79 : decode cX4_digest 79 = .ok (.i2l, 1) := by decide +kernel
theorem dX4_digest_80 : decode cX4_digest 80 = .ok (.invokestatic 192, 3) := by decide +kernel
theorem dX4_digest_83 : decode cX4_digest 83 = .ok (.lstore_n 1, 1) := by decide +kernel
theorem dX4_digest_84 : decode cX4_digest 84 = .ok (.lload_n 1, 1) := by decide +kernel
theorem dX4_digest_85 : decode cX4_digest 85 = .ok (.aload_n 0, 1) := by decide +kernel
theorem dX4_digest_86 : decode cX4_digest 86 = .ok (.invokevirtual 214, 3) := by decide +kernel
theorem dX4_digest_89 : decode cX4_digest 89 = .ok (.i2l, 1) := by decide +kernel
theorem dX4_digest_90 : decode cX4_digest 90 = .ok (.invokestatic 192, 3) := by decide +kernel
theorem dX4_digest_93 : decode cX4_digest 93 = .ok (.lstore_n 1, 1) := by decide +kernel
theorem dX4_digest_94 : decode cX4_digest 94 = .ok (.lload_n 1, 1) := by decide +kernel
theorem dX4_digest_95 : decode cX4_digest 95 = .ok (.aload_n 0, 1) := by decide +kernel
theorem dX4_digest_96 : decode cX4_digest 96 = .ok (.invokevirtual 217, 3) := by decide +kernel
theorem dX4_digest_99 : decode cX4_digest 99 = .ok (.i2l, 1) := by decide +kernel
theorem dX4_digest_100 : decode cX4_digest 100 = .ok (.invokestatic 192, 3) := by decide +kernel
theorem dX4_digest_103 : decode cX4_digest 103 = .ok (.lstore_n 1, 1) := by decide +kernel
theorem dX4_digest_104 : decode cX4_digest 104 = .ok (.aload_n 0, 1) := by decide +kernel
theorem dX4_digest_105 : decode cX4_digest 105 = .ok (.lload_n 1, 1) := by decide +kernel
theorem dX4_digest_106 : decode cX4_digest 106 = .ok (.invokevirtual 220, 3) := by decide +kernel
theorem dX4_digest_109 : decode cX4_digest 109 = .ok (.lstore_n 1, 1) := by decide +kernel
theorem dX4_digest_110 : decode cX4_digest 110 = .ok (.aload_n 0, 1) := by decide +kernel
theorem dX4_digest_111 : decode cX4_digest 111 = .ok (.lload_n 1, 1) := by decide +kernel
theorem dX4_digest_112 : decode cX4_digest 112 = .ok (.invokevirtual 224, 3) := by decide +kernel
theorem dX4_digest_115 : decode cX4_digest 115 = .ok (.lreturn, 1) := by decide +kernel
theorem dX4_digestOfRoads_0 : decode cX4_digestOfRoads 0 = .ok (.lload_n 1, 1) := by decide +kernel
theorem dX4_digestOfRoads_1 : decode cX4_digestOfRoads 1 = .ok (.lstore_n 3, 1) := by decide +kernel
theorem dX4_digestOfRoads_2 : decode cX4_digestOfRoads 2 = .ok (.iconst 0, 1) := by decide +kernel
theorem dX4_digestOfRoads_3 : decode cX4_digestOfRoads 3 = .ok (.istore 5, 2) := by decide +kernel
theorem dX4_digestOfRoads_5 : decode cX4_digestOfRoads 5 = .ok (.iload 5, 2) := by decide +kernel
theorem dX4_digestOfRoads_7 : decode cX4_digestOfRoads 7 = .ok (.aload_n 0, 1) := by decide +kernel
theorem dX4_digestOfRoads_8 : decode cX4_digestOfRoads 8 = .ok (.getfield 10, 3) := by decide +kernel
theorem dX4_digestOfRoads_11 : decode cX4_digestOfRoads 11 = .ok (.getfield 54, 3) := by decide +kernel
theorem dX4_digestOfRoads_14 : decode cX4_digestOfRoads 14 = .ok (.getfield 58, 3) := by decide +kernel
theorem dX4_digestOfRoads_17 : decode cX4_digestOfRoads 17 = .ok (.if_icmp .ge 102, 3) := by decide +kernel
theorem dX4_digestOfRoads_20 : decode cX4_digestOfRoads 20 = .ok (.lload_n 3, 1) := by decide +kernel
theorem dX4_digestOfRoads_21 : decode cX4_digestOfRoads 21 = .ok (.aload_n 0, 1) := by decide +kernel
theorem dX4_digestOfRoads_22 : decode cX4_digestOfRoads 22 = .ok (.getfield 10, 3) := by decide +kernel
theorem dX4_digestOfRoads_25 : decode cX4_digestOfRoads 25 = .ok (.getfield 54, 3) := by decide +kernel
theorem dX4_digestOfRoads_28 : decode cX4_digestOfRoads 28 = .ok (.iload 5, 2) := by decide +kernel
theorem dX4_digestOfRoads_30 : decode cX4_digestOfRoads 30 = .ok (.invokevirtual 132, 3) := by decide +kernel
theorem dX4_digestOfRoads_33 : decode cX4_digestOfRoads 33 = .ok (.i2l, 1) := by decide +kernel
theorem dX4_digestOfRoads_34 : decode cX4_digestOfRoads 34 = .ok (.invokestatic 192, 3) := by decide +kernel
theorem dX4_digestOfRoads_37 : decode cX4_digestOfRoads 37 = .ok (.lstore_n 3, 1) := by decide +kernel
theorem dX4_digestOfRoads_38 : decode cX4_digestOfRoads 38 = .ok (.lload_n 3, 1) := by decide +kernel
theorem dX4_digestOfRoads_39 : decode cX4_digestOfRoads 39 = .ok (.aload_n 0, 1) := by decide +kernel
theorem dX4_digestOfRoads_40 : decode cX4_digestOfRoads 40 = .ok (.getfield 10, 3) := by decide +kernel
theorem dX4_digestOfRoads_43 : decode cX4_digestOfRoads 43 = .ok (.getfield 54, 3) := by decide +kernel
theorem dX4_digestOfRoads_46 : decode cX4_digestOfRoads 46 = .ok (.getfield 105, 3) := by decide +kernel
theorem dX4_digestOfRoads_49 : decode cX4_digestOfRoads 49 = .ok (.iload 5, 2) := by decide +kernel
theorem dX4_digestOfRoads_51 : decode cX4_digestOfRoads 51 = .ok (.iaload, 1) := by decide +kernel
theorem dX4_digestOfRoads_52 : decode cX4_digestOfRoads 52 = .ok (.i2l, 1) := by decide +kernel
theorem dX4_digestOfRoads_53 : decode cX4_digestOfRoads 53 = .ok (.invokestatic 192, 3) := by decide +kernel
theorem dX4_digestOfRoads_56 : decode cX4_digestOfRoads 56 = .ok (.lstore_n 3, 1) := by decide +kernel
theorem dX4_digestOfRoads_57 : decode cX4_digestOfRoads 57 = .ok (.lload_n 3, 1) := by decide +kernel
theorem dX4_digestOfRoads_58 : decode cX4_digestOfRoads 58 = .ok (.aload_n 0, 1) := by decide +kernel
theorem dX4_digestOfRoads_59 : decode cX4_digestOfRoads 59 = .ok (.getfield 10, 3) := by decide +kernel
theorem dX4_digestOfRoads_62 : decode cX4_digestOfRoads 62 = .ok (.getfield 54, 3) := by decide +kernel
theorem dX4_digestOfRoads_65 : decode cX4_digestOfRoads 65 = .ok (.getfield 135, 3) := by decide +kernel
theorem dX4_digestOfRoads_68 : decode cX4_digestOfRoads 68 = .ok (.iload 5, 2) := by decide +kernel
theorem dX4_digestOfRoads_70 : decode cX4_digestOfRoads 70 = .ok (.iaload, 1) := by decide +kernel
theorem dX4_digestOfRoads_71 : decode cX4_digestOfRoads 71 = .ok (.i2l, 1) := by decide +kernel
theorem dX4_digestOfRoads_72 : decode cX4_digestOfRoads 72 = .ok (.invokestatic 192, 3) := by decide +kernel
theorem dX4_digestOfRoads_75 : decode cX4_digestOfRoads 75 = .ok (.lstore_n 3, 1) := by decide +kernel
theorem dX4_digestOfRoads_76 : decode cX4_digestOfRoads 76 = .ok (.lload_n 3, 1) := by decide +kernel
theorem dX4_digestOfRoads_77 : decode cX4_digestOfRoads 77 = .ok (.aload_n 0, 1) := by decide +kernel
theorem dX4_digestOfRoads_78 : decode cX4_digestOfRoads 78 = .ok (.getfield 10, 3) := by decide +kernel
theorem dX4_digestOfRoads_81 : decode cX4_digestOfRoads 81 = .ok (.getfield 54, 3) := by decide +kernel
theorem dX4_digestOfRoads_84 : decode cX4_digestOfRoads 84 = .ok (.getfield 95, 3) := by decide +kernel
theorem dX4_digestOfRoads_87 : decode cX4_digestOfRoads 87 = .ok (.iload 5, 2) := by decide +kernel
theorem dX4_digestOfRoads_89 : decode cX4_digestOfRoads 89 = .ok (.iaload, 1) := by decide +kernel
theorem dX4_digestOfRoads_90 : decode cX4_digestOfRoads 90 = .ok (.i2l, 1) := by decide +kernel
theorem dX4_digestOfRoads_91 : decode cX4_digestOfRoads 91 = .ok (.invokestatic 192, 3) := by decide +kernel
theorem dX4_digestOfRoads_94 : decode cX4_digestOfRoads 94 = .ok (.lstore_n 3, 1) := by decide +kernel
theorem dX4_digestOfRoads_95 : decode cX4_digestOfRoads 95 = .ok (.lload_n 3, 1) := by decide +kernel
theorem dX4_digestOfRoads_96 : decode cX4_digestOfRoads 96 = .ok (.aload_n 0, 1) := by decide +kernel
theorem dX4_digestOfRoads_97 : decode cX4_digestOfRoads 97 = .ok (.getfield 10, 3) := by decide +kernel
theorem dX4_digestOfRoads_100 : decode cX4_digestOfRoads 100 = .ok (.getfield 69, 3) := by decide +kernel
theorem dX4_digestOfRoads_103 : decode cX4_digestOfRoads 103 = .ok (.iload 5, 2) := by decide +kernel
theorem dX4_digestOfRoads_105 : decode cX4_digestOfRoads 105 = .ok (.invokevirtual 108, 3) := by decide +kernel
theorem dX4_digestOfRoads_108 : decode cX4_digestOfRoads 108 = .ok (.i2l, 1) := by decide +kernel
theorem dX4_digestOfRoads_109 : decode cX4_digestOfRoads 109 = .ok (.invokestatic 192, 3) := by decide +kernel
theorem dX4_digestOfRoads_112 : decode cX4_digestOfRoads 112 = .ok (.lstore_n 3, 1) := by decide +kernel
theorem dX4_digestOfRoads_113 : decode cX4_digestOfRoads 113 = .ok (.iinc 5 1, 3) := by decide +kernel
theorem dX4_digestOfRoads_116 : decode cX4_digestOfRoads 116 = .ok (.goto (-111), 3) := by decide +kernel
theorem dX4_digestOfRoads_119 : decode cX4_digestOfRoads 119 = .ok (.lload_n 3, 1) := by decide +kernel
theorem dX4_digestOfRoads_120 : decode cX4_digestOfRoads 120 = .ok (.lreturn, 1) := by decide +kernel
theorem dX4_digestOfTourists_0 : decode cX4_digestOfTourists 0 = .ok (.lload_n 1, 1) := by decide +kernel
theorem dX4_digestOfTourists_1 : decode cX4_digestOfTourists 1 = .ok (.lstore_n 3, 1) := by decide +kernel
theorem dX4_digestOfTourists_2 : decode cX4_digestOfTourists 2 = .ok (.aload_n 0, 1) := by decide +kernel
theorem dX4_digestOfTourists_3 : decode cX4_digestOfTourists 3 = .ok (.iconst (-1), 1) := by decide +kernel
theorem dX4_digestOfTourists_4 : decode cX4_digestOfTourists 4 = .ok (.bipush 100, 2) := by decide +kernel
theorem dX4_digestOfTourists_6 : decode cX4_digestOfTourists 6 = .ok (.invokevirtual 179, 3) := by decide +kernel
theorem dX4_digestOfTourists_9 : decode cX4_digestOfTourists 9 = .ok (.iconst 0, 1) := by decide +kernel
theorem dX4_digestOfTourists_10 : decode cX4_digestOfTourists 10 = .ok (.istore 5, 2) := by decide +kernel
theorem dX4_digestOfTourists_12 : decode cX4_digestOfTourists 12 = .ok (.iload 5, 2) := by decide +kernel
theorem dX4_digestOfTourists_14 : decode cX4_digestOfTourists 14 = .ok (.aload_n 0, 1) := by decide +kernel
theorem dX4_digestOfTourists_15 : decode cX4_digestOfTourists 15 = .ok (.getfield 10, 3) := by decide +kernel
theorem dX4_digestOfTourists_18 : decode cX4_digestOfTourists 18 = .ok (.getfield 69, 3) := by decide +kernel
theorem dX4_digestOfTourists_21 : decode cX4_digestOfTourists 21 = .ok (.getfield 73, 3) := by decide +kernel
theorem dX4_digestOfTourists_24 : decode cX4_digestOfTourists 24 = .ok (.if_icmp .ge 128, 3) := by decide +kernel
theorem dX4_digestOfTourists_27 : decode cX4_digestOfTourists 27 = .ok (.lload_n 3, 1) := by decide +kernel
theorem dX4_digestOfTourists_28 : decode cX4_digestOfTourists 28 = .ok (.aload_n 0, 1) := by decide +kernel
theorem dX4_digestOfTourists_29 : decode cX4_digestOfTourists 29 = .ok (.getfield 10, 3) := by decide +kernel
theorem dX4_digestOfTourists_32 : decode cX4_digestOfTourists 32 = .ok (.getfield 69, 3) := by decide +kernel
theorem dX4_digestOfTourists_35 : decode cX4_digestOfTourists 35 = .ok (.getfield 163, 3) := by decide +kernel
theorem dX4_digestOfTourists_38 : decode cX4_digestOfTourists 38 = .ok (.iload 5, 2) := by decide +kernel
theorem dX4_digestOfTourists_40 : decode cX4_digestOfTourists 40 = .ok (.iaload, 1) := by decide +kernel
theorem dX4_digestOfTourists_41 : decode cX4_digestOfTourists 41 = .ok (.i2l, 1) := by decide +kernel
theorem dX4_digestOfTourists_42 : decode cX4_digestOfTourists 42 = .ok (.invokestatic 192, 3) := by decide +kernel
theorem dX4_digestOfTourists_45 : decode cX4_digestOfTourists 45 = .ok (.lstore_n 3, 1) := by decide +kernel
theorem dX4_digestOfTourists_46 : decode cX4_digestOfTourists 46 = .ok (.lload_n 3, 1) := by decide +kernel
theorem dX4_digestOfTourists_47 : decode cX4_digestOfTourists 47 = .ok (.aload_n 0, 1) := by decide +kernel
theorem dX4_digestOfTourists_48 : decode cX4_digestOfTourists 48 = .ok (.getfield 10, 3) := by decide +kernel
theorem dX4_digestOfTourists_51 : decode cX4_digestOfTourists 51 = .ok (.getfield 69, 3) := by decide +kernel
theorem dX4_digestOfTourists_54 : decode cX4_digestOfTourists 54 = .ok (.getfield 166, 3) := by decide +kernel
theorem dX4_digestOfTourists_57 : decode cX4_digestOfTourists 57 = .ok (.iload 5, 2) := by decide +kernel
theorem dX4_digestOfTourists_59 : decode cX4_digestOfTourists 59 = .ok (.iaload, 1) := by decide +kernel
theorem dX4_digestOfTourists_60 : decode cX4_digestOfTourists 60 = .ok (.i2l, 1) := by decide +kernel
theorem dX4_digestOfTourists_61 : decode cX4_digestOfTourists 61 = .ok (.invokestatic 192, 3) := by decide +kernel
theorem dX4_digestOfTourists_64 : decode cX4_digestOfTourists 64 = .ok (.lstore_n 3, 1) := by decide +kernel
theorem dX4_digestOfTourists_65 : decode cX4_digestOfTourists 65 = .ok (.lload_n 3, 1) := by decide +kernel
theorem dX4_digestOfTourists_66 : decode cX4_digestOfTourists 66 = .ok (.aload_n 0, 1) := by decide +kernel
theorem dX4_digestOfTourists_67 : decode cX4_digestOfTourists 67 = .ok (.getfield 10, 3) := by decide +kernel
theorem dX4_digestOfTourists_70 : decode cX4_digestOfTourists 70 = .ok (.getfield 69, 3) := by decide +kernel
theorem dX4_digestOfTourists_73 : decode cX4_digestOfTourists 73 = .ok (.getfield 169, 3) := by decide +kernel
theorem dX4_digestOfTourists_76 : decode cX4_digestOfTourists 76 = .ok (.iload 5, 2) := by decide +kernel
theorem dX4_digestOfTourists_78 : decode cX4_digestOfTourists 78 = .ok (.iaload, 1) := by decide +kernel
theorem dX4_digestOfTourists_79 : decode cX4_digestOfTourists 79 = .ok (.i2l, 1) := by decide +kernel
theorem dX4_digestOfTourists_80 : decode cX4_digestOfTourists 80 = .ok (.invokestatic 192, 3) := by decide +kernel
theorem dX4_digestOfTourists_83 : decode cX4_digestOfTourists 83 = .ok (.lstore_n 3, 1) := by decide +kernel
theorem dX4_digestOfTourists_84 : decode cX4_digestOfTourists 84 = .ok (.lload_n 3, 1) := by decide +kernel
theorem dX4_digestOfTourists_85 : decode cX4_digestOfTourists 85 = .ok (.aload_n 0, 1) := by decide +kernel
theorem dX4_digestOfTourists_86 : decode cX4_digestOfTourists 86 = .ok (.getfield 10, 3) := by decide +kernel
theorem dX4_digestOfTourists_89 : decode cX4_digestOfTourists 89 = .ok (.getfield 69, 3) := by decide +kernel
theorem dX4_digestOfTourists_92 : decode cX4_digestOfTourists 92 = .ok (.iload 5, 2) := by decide +kernel
theorem dX4_digestOfTourists_94 : decode cX4_digestOfTourists 94 = .ok (.aload_n 0, 1) := by decide +kernel
theorem dX4_digestOfTourists_95 : decode cX4_digestOfTourists 95 = .ok (.getfield 10, 3) := by decide +kernel
theorem dX4_digestOfTourists_98 : decode cX4_digestOfTourists 98 = .ok (.getfield 84, 3) := by decide +kernel
theorem dX4_digestOfTourists_101 : decode cX4_digestOfTourists 101 = .ok (.invokevirtual 172, 3) := by decide +kernel
theorem dX4_digestOfTourists_104 : decode cX4_digestOfTourists 104 = .ok (.i2l, 1) := by decide +kernel
theorem dX4_digestOfTourists_105 : decode cX4_digestOfTourists 105 = .ok (.invokestatic 192, 3) := by decide +kernel
theorem dX4_digestOfTourists_108 : decode cX4_digestOfTourists 108 = .ok (.lstore_n 3, 1) := by decide +kernel
theorem dX4_digestOfTourists_109 : decode cX4_digestOfTourists 109 = .ok (.lload_n 3, 1) := by decide +kernel
theorem dX4_digestOfTourists_110 : decode cX4_digestOfTourists 110 = .ok (.aload_n 0, 1) := by decide +kernel
theorem dX4_digestOfTourists_111 : decode cX4_digestOfTourists 111 = .ok (.getfield 10, 3) := by decide +kernel
theorem dX4_digestOfTourists_114 : decode cX4_digestOfTourists 114 = .ok (.getfield 69, 3) := by decide +kernel
theorem dX4_digestOfTourists_117 : decode cX4_digestOfTourists 117 = .ok (.iload 5, 2) := by decide +kernel
theorem dX4_digestOfTourists_119 : decode cX4_digestOfTourists 119 = .ok (.invokevirtual 175, 3) := by decide +kernel
theorem dX4_digestOfTourists_122 : decode cX4_digestOfTourists 122 = .ok (.ifCond .eq 7, 3) := by decide +kernel
theorem dX4_digestOfTourists_125 : decode cX4_digestOfTourists 125 = .ok (.lconst 1, 1) := by decide +kernel
theorem dX4_digestOfTourists_126 : decode cX4_digestOfTourists 126 = .ok (.goto 4, 3) := by decide +kernel
theorem dX4_digestOfTourists_129 : decode cX4_digestOfTourists 129 = .ok (.lconst 0, 1) := by decide +kernel
theorem dX4_digestOfTourists_130 : decode cX4_digestOfTourists 130 = .ok (.invokestatic 192, 3) := by decide +kernel
theorem dX4_digestOfTourists_133 : decode cX4_digestOfTourists 133 = .ok (.lstore_n 3, 1) := by decide +kernel
theorem dX4_digestOfTourists_134 : decode cX4_digestOfTourists 134 = .ok (.lload_n 3, 1) := by decide +kernel
theorem dX4_digestOfTourists_135 : decode cX4_digestOfTourists 135 = .ok (.aload_n 0, 1) := by decide +kernel
theorem dX4_digestOfTourists_136 : decode cX4_digestOfTourists 136 = .ok (.iload 5, 2) := by decide +kernel
theorem dX4_digestOfTourists_138 : decode cX4_digestOfTourists 138 = .ok (.invokevirtual 182, 3) := by decide +kernel
theorem dX4_digestOfTourists_141 : decode cX4_digestOfTourists 141 = .ok (.i2l, 1) := by decide +kernel
theorem dX4_digestOfTourists_142 : decode cX4_digestOfTourists 142 = .ok (.invokestatic 192, 3) := by decide +kernel
theorem dX4_digestOfTourists_145 : decode cX4_digestOfTourists 145 = .ok (.lstore_n 3, 1) := by decide +kernel
theorem dX4_digestOfTourists_146 : decode cX4_digestOfTourists 146 = .ok (.iinc 5 1, 3) := by decide +kernel
theorem dX4_digestOfTourists_149 : decode cX4_digestOfTourists 149 = .ok (.goto (-137), 3) := by decide +kernel
theorem dX4_digestOfTourists_152 : decode cX4_digestOfTourists 152 = .ok (.lload_n 3, 1) := by decide +kernel
theorem dX4_digestOfTourists_153 : decode cX4_digestOfTourists 153 = .ok (.lreturn, 1) := by decide +kernel
theorem dX4_woven_0 : decode cX4_woven 0 = .ok (.lload_n 0, 1) := by decide +kernel
theorem dX4_woven_1 : decode cX4_woven 1 = .ok (.ldc2_w 227, 3) := by decide +kernel
theorem dX4_woven_4 : decode cX4_woven 4 = .ok (.lmul, 1) := by decide +kernel
theorem dX4_woven_5 : decode cX4_woven 5 = .ok (.lload_n 2, 1) := by decide +kernel
theorem dX4_woven_6 : decode cX4_woven 6 = .ok (.ladd, 1) := by decide +kernel
theorem dX4_woven_7 : decode cX4_woven 7 = .ok (.lreturn, 1) := by decide +kernel
theorem dX4_foresee_0 : decode cX4_foresee 0 = .ok (.aload_n 0, 1) := by decide +kernel
theorem dX4_foresee_1 : decode cX4_foresee 1 = .ok (.getfield 16, 3) := by decide +kernel
theorem dX4_foresee_4 : decode cX4_foresee 4 = .ok (.aload_n 0, 1) := by decide +kernel
theorem dX4_foresee_5 : decode cX4_foresee 5 = .ok (.getfield 10, 3) := by decide +kernel
theorem dX4_foresee_8 : decode cX4_foresee 8 = .ok (.invokevirtual 229, 3) := by decide +kernel
theorem dX4_foresee_11 : decode cX4_foresee 11 = .ok (.iload_n 1, 1) := by decide +kernel
theorem dX4_foresee_12 : decode cX4_foresee 12 = .ok (.ifCond .lt 12, 3) := by decide +kernel
theorem dX4_foresee_15 : decode cX4_foresee 15 = .ok (.aload_n 0, 1) := by decide +kernel
theorem dX4_foresee_16 : decode cX4_foresee 16 = .ok (.getfield 16, 3) := by decide +kernel
theorem dX4_foresee_19 : decode cX4_foresee 19 = .ok (.iload_n 1, 1) := by decide +kernel
theorem dX4_foresee_20 : decode cX4_foresee 20 = .ok (.iconst 4, 1) := by decide +kernel
theorem dX4_foresee_21 : decode cX4_foresee 21 = .ok (.invokevirtual 101, 3) := by decide +kernel
theorem dX4_foresee_24 : decode cX4_foresee 24 = .ok (.iconst 0, 1) := by decide +kernel
theorem dX4_foresee_25 : decode cX4_foresee 25 = .ok (.istore_n 3, 1) := by decide +kernel
theorem dX4_foresee_26 : decode cX4_foresee 26 = .ok (.iload_n 3, 1) := by decide +kernel
theorem dX4_foresee_27 : decode cX4_foresee 27 = .ok (.iload_n 2, 1) := by decide +kernel
theorem dX4_foresee_28 : decode cX4_foresee 28 = .ok (.if_icmp .ge 39, 3) := by decide +kernel
theorem dX4_foresee_31 : decode cX4_foresee 31 = .ok (.aload_n 0, 1) := by decide +kernel
theorem dX4_foresee_32 : decode cX4_foresee 32 = .ok (.getfield 16, 3) := by decide +kernel
theorem dX4_foresee_35 : decode cX4_foresee 35 = .ok (.getfield 69, 3) := by decide +kernel
theorem dX4_foresee_38 : decode cX4_foresee 38 = .ok (.getfield 120, 3) := by decide +kernel
theorem dX4_foresee_41 : decode cX4_foresee 41 = .ok (.aload_n 0, 1) := by decide +kernel
theorem dX4_foresee_42 : decode cX4_foresee 42 = .ok (.getfield 16, 3) := by decide +kernel
theorem dX4_foresee_45 : decode cX4_foresee 45 = .ok (.getfield 69, 3) := by decide +kernel
theorem dX4_foresee_48 : decode cX4_foresee 48 = .ok (.getfield 73, 3) := by decide +kernel
theorem dX4_foresee_51 : decode cX4_foresee 51 = .ok (.if_icmp .ge 16, 3) := by decide +kernel
theorem dX4_foresee_54 : decode cX4_foresee 54 = .ok (.aload_n 0, 1) := by decide +kernel
theorem dX4_foresee_55 : decode cX4_foresee 55 = .ok (.getfield 16, 3) := by decide +kernel
theorem dX4_foresee_58 : decode cX4_foresee 58 = .ok (.invokevirtual 123, 3) := by decide +kernel
theorem dX4_foresee_61 : decode cX4_foresee 61 = .ok (.iinc 3 1, 3) := by decide +kernel
theorem dX4_foresee_64 : decode cX4_foresee 64 = .ok (.goto (-38), 3) := by decide +kernel
theorem dX4_foresee_67 : decode cX4_foresee 67 = .ok (.return_, 1) := by decide +kernel
theorem dX4_foreseenHoursUntilIn_0 : decode cX4_foreseenHoursUntilIn 0 = .ok (.aload_n 0, 1) := by decide +kernel
theorem dX4_foreseenHoursUntilIn_1 : decode cX4_foreseenHoursUntilIn 1 = .ok (.getfield 10, 3) := by decide +kernel
theorem dX4_foreseenHoursUntilIn_4 : decode cX4_foreseenHoursUntilIn 4 = .ok (.getfield 69, 3) := by decide +kernel
theorem dX4_foreseenHoursUntilIn_7 : decode cX4_foreseenHoursUntilIn 7 = .ok (.iload_n 1, 1) := by decide +kernel
theorem dX4_foreseenHoursUntilIn_8 : decode cX4_foreseenHoursUntilIn 8 = .ok (.invokevirtual 175, 3) := by decide +kernel
theorem dX4_foreseenHoursUntilIn_11 : decode cX4_foreseenHoursUntilIn 11 = .ok (.ifCond .eq 5, 3) := by decide +kernel
theorem dX4_foreseenHoursUntilIn_14 : decode cX4_foreseenHoursUntilIn 14 = .ok (.iconst 0, 1) := by decide +kernel
theorem dX4_foreseenHoursUntilIn_15 : decode cX4_foreseenHoursUntilIn 15 = .ok (.ireturn, 1) := by decide +kernel
theorem dX4_foreseenHoursUntilIn_16 : decode cX4_foreseenHoursUntilIn 16 = .ok (.aload_n 0, 1) := by decide +kernel
theorem dX4_foreseenHoursUntilIn_17 : decode cX4_foreseenHoursUntilIn 17 = .ok (.getfield 16, 3) := by decide +kernel
theorem dX4_foreseenHoursUntilIn_20 : decode cX4_foreseenHoursUntilIn 20 = .ok (.getfield 69, 3) := by decide +kernel
theorem dX4_foreseenHoursUntilIn_23 : decode cX4_foreseenHoursUntilIn 23 = .ok (.iload_n 1, 1) := by decide +kernel
theorem dX4_foreseenHoursUntilIn_24 : decode cX4_foreseenHoursUntilIn 24 = .ok (.invokevirtual 175, 3) := by decide +kernel
theorem dX4_foreseenHoursUntilIn_27 : decode cX4_foreseenHoursUntilIn 27 = .ok (.ifCond .ne 5, 3) := by decide +kernel
theorem dX4_foreseenHoursUntilIn_30 : decode cX4_foreseenHoursUntilIn 30 = .ok (.iconst (-1), 1) := by decide +kernel
theorem dX4_foreseenHoursUntilIn_31 : decode cX4_foreseenHoursUntilIn 31 = .ok (.ireturn, 1) := by decide +kernel
theorem dX4_foreseenHoursUntilIn_32 : decode cX4_foreseenHoursUntilIn 32 = .ok (.aload_n 0, 1) := by decide +kernel
theorem dX4_foreseenHoursUntilIn_33 : decode cX4_foreseenHoursUntilIn 33 = .ok (.getfield 16, 3) := by decide +kernel
theorem dX4_foreseenHoursUntilIn_36 : decode cX4_foreseenHoursUntilIn 36 = .ok (.getfield 69, 3) := by decide +kernel
theorem dX4_foreseenHoursUntilIn_39 : decode cX4_foreseenHoursUntilIn 39 = .ok (.getfield 233, 3) := by decide +kernel
theorem dX4_foreseenHoursUntilIn_42 : decode cX4_foreseenHoursUntilIn 42 = .ok (.iload_n 1, 1) := by decide +kernel
theorem dX4_foreseenHoursUntilIn_43 : decode cX4_foreseenHoursUntilIn 43 = .ok (.iaload, 1) := by decide +kernel
theorem dX4_foreseenHoursUntilIn_44 : decode cX4_foreseenHoursUntilIn 44 = .ok (.aload_n 0, 1) := by decide +kernel
theorem dX4_foreseenHoursUntilIn_45 : decode cX4_foreseenHoursUntilIn 45 = .ok (.getfield 16, 3) := by decide +kernel
theorem dX4_foreseenHoursUntilIn_48 : decode cX4_foreseenHoursUntilIn 48 = .ok (.getfield 69, 3) := by decide +kernel
theorem dX4_foreseenHoursUntilIn_51 : decode cX4_foreseenHoursUntilIn 51 = .ok (.getfield 236, 3) := by decide +kernel
theorem dX4_foreseenHoursUntilIn_54 : decode cX4_foreseenHoursUntilIn 54 = .ok (.iload_n 1, 1) := by decide +kernel
theorem dX4_foreseenHoursUntilIn_55 : decode cX4_foreseenHoursUntilIn 55 = .ok (.iaload, 1) := by decide +kernel
theorem dX4_foreseenHoursUntilIn_56 : decode cX4_foreseenHoursUntilIn 56 = .ok (.iadd, 1) := by decide +kernel
theorem dX4_foreseenHoursUntilIn_57 : decode cX4_foreseenHoursUntilIn 57 = .ok (.aload_n 0, 1) := by decide +kernel
theorem dX4_foreseenHoursUntilIn_58 : decode cX4_foreseenHoursUntilIn 58 = .ok (.getfield 10, 3) := by decide +kernel
theorem dX4_foreseenHoursUntilIn_61 : decode cX4_foreseenHoursUntilIn 61 = .ok (.getfield 84, 3) := by decide +kernel
theorem dX4_foreseenHoursUntilIn_64 : decode cX4_foreseenHoursUntilIn 64 = .ok (.isub, 1) := by decide +kernel
theorem dX4_foreseenHoursUntilIn_65 : decode cX4_foreseenHoursUntilIn 65 = .ok (.ireturn, 1) := by decide +kernel
theorem dX4_requireCrossing_0 : decode cX4_requireCrossing 0 = .ok (.iload_n 1, 1) := by decide +kernel
theorem dX4_requireCrossing_1 : decode cX4_requireCrossing 1 = .ok (.ifCond .lt 14, 3) := by decide +kernel
theorem dX4_requireCrossing_4 : decode cX4_requireCrossing 4 = .ok (.iload_n 1, 1) := by decide +kernel
theorem dX4_requireCrossing_5 : decode cX4_requireCrossing 5 = .ok (.aload_n 0, 1) := by decide +kernel
theorem dX4_requireCrossing_6 : decode cX4_requireCrossing 6 = .ok (.getfield 10, 3) := by decide +kernel
theorem dX4_requireCrossing_9 : decode cX4_requireCrossing 9 = .ok (.getfield 26, 3) := by decide +kernel
theorem dX4_requireCrossing_12 : decode cX4_requireCrossing 12 = .ok (.if_icmp .lt 13, 3) := by decide +kernel
theorem dX4_requireCrossing_15 : decode cX4_requireCrossing 15 = .ok (.new 239, 3) := by decide +kernel
theorem dX4_requireCrossing_18 : decode cX4_requireCrossing 18 = .ok (.dup, 1) := by decide +kernel
theorem dX4_requireCrossing_19 : decode cX4_requireCrossing 19 = .ok (.ldc 241, 2) := by decide +kernel
theorem dX4_requireCrossing_21 : decode cX4_requireCrossing 21 = .ok (.invokespecial 243, 3) := by decide +kernel
theorem dX4_requireCrossing_24 : decode cX4_requireCrossing 24 = .ok (.athrow, 1) := by decide +kernel
theorem dX4_requireCrossing_25 : decode cX4_requireCrossing 25 = .ok (.return_, 1) := by decide +kernel
theorem dX4_requireRoad_0 : decode cX4_requireRoad 0 = .ok (.iload_n 1, 1) := by decide +kernel
theorem dX4_requireRoad_1 : decode cX4_requireRoad 1 = .ok (.ifCond .lt 17, 3) := by decide +kernel
theorem dX4_requireRoad_4 : decode cX4_requireRoad 4 = .ok (.iload_n 1, 1) := by decide +kernel
theorem dX4_requireRoad_5 : decode cX4_requireRoad 5 = .ok (.aload_n 0, 1) := by decide +kernel
theorem dX4_requireRoad_6 : decode cX4_requireRoad 6 = .ok (.getfield 10, 3) := by decide +kernel
theorem dX4_requireRoad_9 : decode cX4_requireRoad 9 = .ok (.getfield 54, 3) := by decide +kernel
theorem dX4_requireRoad_12 : decode cX4_requireRoad 12 = .ok (.getfield 58, 3) := by decide +kernel
theorem dX4_requireRoad_15 : decode cX4_requireRoad 15 = .ok (.if_icmp .lt 13, 3) := by decide +kernel
theorem dX4_requireRoad_18 : decode cX4_requireRoad 18 = .ok (.new 239, 3) := by decide +kernel
theorem dX4_requireRoad_21 : decode cX4_requireRoad 21 = .ok (.dup, 1) := by decide +kernel
theorem dX4_requireRoad_22 : decode cX4_requireRoad 22 = .ok (.ldc 244, 2) := by decide +kernel
theorem dX4_requireRoad_24 : decode cX4_requireRoad 24 = .ok (.invokespecial 243, 3) := by decide +kernel
theorem dX4_requireRoad_27 : decode cX4_requireRoad 27 = .ok (.athrow, 1) := by decide +kernel
theorem dX4_requireRoad_28 : decode cX4_requireRoad 28 = .ok (.return_, 1) := by decide +kernel
theorem dX4_requireTourist_0 : decode cX4_requireTourist 0 = .ok (.iload_n 1, 1) := by decide +kernel
theorem dX4_requireTourist_1 : decode cX4_requireTourist 1 = .ok (.ifCond .lt 17, 3) := by decide +kernel
theorem dX4_requireTourist_4 : decode cX4_requireTourist 4 = .ok (.iload_n 1, 1) := by decide +kernel
theorem dX4_requireTourist_5 : decode cX4_requireTourist 5 = .ok (.aload_n 0, 1) := by decide +kernel
theorem dX4_requireTourist_6 : decode cX4_requireTourist 6 = .ok (.getfield 10, 3) := by decide +kernel
theorem dX4_requireTourist_9 : decode cX4_requireTourist 9 = .ok (.getfield 69, 3) := by decide +kernel
theorem dX4_requireTourist_12 : decode cX4_requireTourist 12 = .ok (.getfield 73, 3) := by decide +kernel
theorem dX4_requireTourist_15 : decode cX4_requireTourist 15 = .ok (.if_icmp .lt 13, 3) := by decide +kernel
theorem dX4_requireTourist_18 : decode cX4_requireTourist 18 = .ok (.new 239, 3) := by decide +kernel
theorem dX4_requireTourist_21 : decode cX4_requireTourist 21 = .ok (.dup, 1) := by decide +kernel
theorem dX4_requireTourist_22 : decode cX4_requireTourist 22 = .ok (.ldc 246, 2) := by decide +kernel
theorem dX4_requireTourist_24 : decode cX4_requireTourist 24 = .ok (.invokespecial 243, 3) := by decide +kernel
theorem dX4_requireTourist_27 : decode cX4_requireTourist 27 = .ok (.athrow, 1) := by decide +kernel
theorem dX4_requireTourist_28 : decode cX4_requireTourist 28 = .ok (.return_, 1) := by decide +kernel
theorem dX4_requirePassing_0 : decode cX4_requirePassing 0 = .ok (.iload_n 1, 1) := by decide +kernel
theorem dX4_requirePassing_1 : decode cX4_requirePassing 1 = .ok (.iconst 1, 1) := by decide +kernel
theorem dX4_requirePassing_2 : decode cX4_requirePassing 2 = .ok (.if_icmp .lt 9, 3) := by decide +kernel
theorem dX4_requirePassing_5 : decode cX4_requirePassing 5 = .ok (.iload_n 1, 1) := by decide +kernel
theorem dX4_requirePassing_6 : decode cX4_requirePassing 6 = .ok (.bipush 50, 2) := by decide +kernel
theorem dX4_requirePassing_8 : decode cX4_requirePassing 8 = .ok (.if_icmp .le 13, 3) := by decide +kernel
theorem dX4_requirePassing_11 : decode cX4_requirePassing 11 = .ok (.new 45, 3) := by decide +kernel
theorem dX4_requirePassing_14 : decode cX4_requirePassing 14 = .ok (.dup, 1) := by decide +kernel
theorem dX4_requirePassing_15 : decode cX4_requirePassing 15 = .ok (.ldc 248, 2) := by decide +kernel
theorem dX4_requirePassing_17 : decode cX4_requirePassing 17 = .ok (.invokespecial 49, 3) := by decide +kernel
theorem dX4_requirePassing_20 : decode cX4_requirePassing 20 = .ok (.athrow, 1) := by decide +kernel
theorem dX4_requirePassing_21 : decode cX4_requirePassing 21 = .ok (.return_, 1) := by decide +kernel
end
section
theorem dX5_init_0 : decode cX5_init 0 = .ok (.aload_n 0, 1) := by decide +kernel
theorem dX5_init_1 : decode cX5_init 1 = .ok (.invokespecial 1, 3) := by decide +kernel
theorem dX5_init_4 : decode cX5_init 4 = .ok (.aload_n 0, 1) := by decide +kernel
theorem dX5_init_5 : decode cX5_init 5 = .ok (.bipush 20, 2) := by decide +kernel
theorem dX5_init_7 : decode cX5_init 7 = .ok (.newarray .int, 2) := by decide +kernel
theorem dX5_init_9 : decode cX5_init 9 = .ok (.putfield 9, 3) := by decide +kernel
theorem dX5_init_12 : decode cX5_init 12 = .ok (.aload_n 0, 1) := by decide +kernel
theorem dX5_init_13 : decode cX5_init 13 = .ok (.bipush 20, 2) := by decide +kernel
theorem dX5_init_15 : decode cX5_init 15 = .ok (.newarray .int, 2) := by decide +kernel
theorem dX5_init_17 : decode cX5_init 17 = .ok (.putfield 13, 3) := by decide +kernel
theorem dX5_init_20 : decode cX5_init 20 = .ok (.aload_n 0, 1) := by decide +kernel
theorem dX5_init_21 : decode cX5_init 21 = .ok (.bipush 20, 2) := by decide +kernel
theorem dX5_init_23 : decode cX5_init 23 = .ok (.newarray .int, 2) := by decide +kernel
theorem dX5_init_25 : decode cX5_init 25 = .ok (.putfield 16, 3) := by decide +kernel
theorem dX5_init_28 : decode cX5_init 28 = .ok (.aload_n 0, 1) := by decide +kernel
theorem dX5_init_29 : decode cX5_init 29 = .ok (.bipush 20, 2) := by decide +kernel
theorem dX5_init_31 : decode cX5_init 31 = .ok (.newarray .int, 2) := by decide +kernel
theorem dX5_init_33 : decode cX5_init 33 = .ok (.putfield 19, 3) := by decide +kernel
theorem dX5_init_36 : decode cX5_init 36 = .ok (.aload_n 0, 1) := by decide +kernel
theorem dX5_init_37 : decode cX5_init 37 = .ok (.bipush 12, 2) := by decide +kernel
theorem dX5_init_39 : decode cX5_init 39 = .ok (.newarray .int, 2) := by decide +kernel
theorem dX5_init_41 : decode cX5_init 41 = .ok (.putfield 22, 3) := by decide +kernel
theorem dX5_init_44 : decode cX5_init 44 = .ok (.aload_n 0, 1) := by decide +kernel
theorem dX5_init_45 : decode cX5_init 45 = .ok (.bipush 12, 2) := by decide +kernel
theorem dX5_init_47 : decode cX5_init 47 = .ok (.newarray .int, 2) := by decide +kernel
theorem dX5_init_49 : decode cX5_init 49 = .ok (.putfield 25, 3) := by decide +kernel
theorem dX5_init_52 : decode cX5_init 52 = .ok (.aload_n 0, 1) := by decide +kernel
theorem dX5_init_53 : decode cX5_init 53 = .ok (.bipush 12, 2) := by decide +kernel
theorem dX5_init_55 : decode cX5_init 55 = .ok (.newarray .int, 2) := by decide +kernel
theorem dX5_init_57 : decode cX5_init 57 = .ok (.putfield 28, 3) := by decide +kernel
theorem dX5_init_60 : decode cX5_init 60 = .ok (.aload_n 0, 1) := by decide +kernel
theorem dX5_init_61 : decode cX5_init 61 = .ok (.sipush 133, 3) := by decide +kernel
theorem dX5_init_64 : decode cX5_init 64 = .ok (.newarray .int, 2) := by decide +kernel
theorem dX5_init_66 : decode cX5_init 66 = .ok (.putfield 31, 3) := by decide +kernel
theorem dX5_init_69 : decode cX5_init 69 = .ok (.aload_n 0, 1) := by decide +kernel
theorem dX5_init_70 : decode cX5_init 70 = .ok (.sipush 133, 3) := by decide +kernel
theorem dX5_init_73 : decode cX5_init 73 = .ok (.newarray .int, 2) := by decide +kernel
theorem dX5_init_75 : decode cX5_init 75 = .ok (.putfield 34, 3) := by decide +kernel
theorem dX5_init_78 : decode cX5_init 78 = .ok (.aload_n 0, 1) := by decide +kernel
theorem dX5_init_79 : decode cX5_init 79 = .ok (.bipush 10, 2) := by decide +kernel
theorem dX5_init_81 : decode cX5_init 81 = .ok (.newarray .int, 2) := by decide +kernel
theorem dX5_init_83 : decode cX5_init 83 = .ok (.putfield 37, 3) := by decide +kernel
theorem dX5_init_86 : decode cX5_init 86 = .ok (.return_, 1) := by decide +kernel
theorem dX5_thrown_0 : decode cX5_thrown 0 = .ok (.aload_n 0, 1) := by decide +kernel
theorem dX5_thrown_1 : decode cX5_thrown 1 = .ok (.getfield 40, 3) := by decide +kernel
theorem dX5_thrown_4 : decode cX5_thrown 4 = .ok (.ireturn, 1) := by decide +kernel
theorem dX5_fail_0 : decode cX5_fail 0 = .ok (.aload_n 0, 1) := by decide +kernel
theorem dX5_fail_1 : decode cX5_fail 1 = .ok (.iload_n 1, 1) := by decide +kernel
theorem dX5_fail_2 : decode cX5_fail 2 = .ok (.putfield 40, 3) := by decide +kernel
theorem dX5_fail_5 : decode cX5_fail 5 = .ok (.iconst 0, 1) := by decide +kernel
theorem dX5_fail_6 : decode cX5_fail 6 = .ok (.ireturn, 1) := by decide +kernel
theorem dX5_told_0 : decode cX5_told 0 = .ok (.aload_n 0, 1) := by decide +kernel
theorem dX5_told_1 : decode cX5_told 1 = .ok (.iconst 0, 1) := by decide +kernel
theorem dX5_told_2 : decode cX5_told 2 = .ok (.putfield 40, 3) := by decide +kernel
theorem dX5_told_5 : decode cX5_told 5 = .ok (.iload_n 1, 1) := by decide +kernel
theorem dX5_told_6 : decode cX5_told 6 = .ok (.ireturn, 1) := by decide +kernel
theorem dX5_isIn_0 : decode cX5_isIn 0 = .ok (.iload_n 0, 1) := by decide +kernel
theorem dX5_isIn_1 : decode cX5_isIn 1 = .ok (.iload_n 1, 1) := by decide +kernel
theorem dX5_isIn_2 : decode cX5_isIn 2 = .ok (.if_icmp .lt 12, 3) := by decide +kernel
theorem dX5_isIn_5 : decode cX5_isIn 5 = .ok (.iload_n 0, 1) := by decide +kernel
theorem dX5_isIn_6 : decode cX5_isIn 6 = .ok (.iload_n 2, 1) := by decide +kernel
theorem dX5_isIn_7 : decode cX5_isIn 7 = .ok (.if_icmp .gt 7, 3) := by decide +kernel
theorem dX5_isIn_10 : decode cX5_isIn 10 = .ok (.iconst 1, 1) := by decide +kernel
theorem dX5_isIn_11 : decode cX5_isIn 11 = .ok (.goto 4, 3) := by decide +kernel
theorem dX5_isIn_14 : decode cX5_isIn 14 = .ok (.iconst 0, 1) := by decide +kernel
theorem dX5_isIn_15 : decode cX5_isIn 15 = .ok (.ireturn, 1) := by decide +kernel
theorem dX5_isCrossing_0 : decode cX5_isCrossing 0 = .ok (.iload_n 1, 1) := by decide +kernel
theorem dX5_isCrossing_1 : decode cX5_isCrossing 1 = .ok (.iconst 0, 1) := by decide +kernel
theorem dX5_isCrossing_2 : decode cX5_isCrossing 2 = .ok (.aload_n 0, 1) := by decide +kernel
theorem dX5_isCrossing_3 : decode cX5_isCrossing 3 = .ok (.getfield 44, 3) := by decide +kernel
theorem dX5_isCrossing_6 : decode cX5_isCrossing 6 = .ok (.iconst 1, 1) := by decide +kernel
theorem dX5_isCrossing_7 : decode cX5_isCrossing 7 = .ok (.isub, 1) := by decide +kernel
theorem dX5_isCrossing_8 : decode cX5_isCrossing 8 = .ok (.invokestatic 47, 3) := by decide +kernel
theorem dX5_isCrossing_11 : decode cX5_isCrossing 11 = .ok (.ireturn, 1) := by decide +kernel
theorem dX5_isRoad_0 : decode cX5_isRoad 0 = .ok (.iload_n 1, 1) := by decide +kernel
theorem dX5_isRoad_1 : decode cX5_isRoad 1 = .ok (.iconst 0, 1) := by decide +kernel
theorem dX5_isRoad_2 : decode cX5_isRoad 2 = .ok (.aload_n 0, 1) := by decide +kernel
theorem dX5_isRoad_3 : decode cX5_isRoad 3 = .ok (.getfield 51, 3) := by decide +kernel
theorem dX5_isRoad_6 : decode cX5_isRoad 6 = .ok (.iconst 1, 1) := by decide +kernel
theorem dX5_isRoad_7 : decode cX5_isRoad 7 = .ok (.isub, 1) := by decide +kernel
theorem dX5_isRoad_8 : decode cX5_isRoad 8 = .ok (.invokestatic 47, 3) := by decide +kernel
theorem dX5_isRoad_11 : decode cX5_isRoad 11 = .ok (.ireturn, 1) := by decide +kernel
theorem dX5_isTourist_0 : decode cX5_isTourist 0 = .ok (.iload_n 1, 1) := by decide +kernel
theorem dX5_isTourist_1 : decode cX5_isTourist 1 = .ok (.iconst 0, 1) := by decide +kernel
theorem dX5_isTourist_2 : decode cX5_isTourist 2 = .ok (.aload_n 0, 1) := by decide +kernel
theorem dX5_isTourist_3 : decode cX5_isTourist 3 = .ok (.getfield 54, 3) := by decide +kernel
theorem dX5_isTourist_6 : decode cX5_isTourist 6 = .ok (.iconst 1, 1) := by decide +kernel
theorem dX5_isTourist_7 : decode cX5_isTourist 7 = .ok (.isub, 1) := by decide +kernel
theorem dX5_isTourist_8 : decode cX5_isTourist 8 = .ok (.invokestatic 47, 3) := by decide +kernel
theorem dX5_isTourist_11 : decode cX5_isTourist 11 = .ok (.ireturn, 1) := by decide +kernel
theorem dX5_ro_0 : decode cX5_ro 0 = .ok (.aload_n 0, 1) := by decide +kernel
theorem dX5_ro_1 : decode cX5_ro 1 = .ok (.getfield 31, 3) := by decide +kernel
theorem dX5_ro_4 : decode cX5_ro 4 = .ok (.iconst 1, 1) := by decide +kernel
theorem dX5_ro_5 : decode cX5_ro 5 = .ok (.iconst 3, 1) := by decide +kernel
theorem dX5_ro_6 : decode cX5_ro 6 = .ok (.iload_n 1, 1) := by decide +kernel
theorem dX5_ro_7 : decode cX5_ro 7 = .ok (.imul, 1) := by decide +kernel
theorem dX5_ro_8 : decode cX5_ro 8 = .ok (.iadd, 1) := by decide +kernel
theorem dX5_ro_9 : decode cX5_ro 9 = .ok (.iload_n 2, 1) := by decide +kernel
theorem dX5_ro_10 : decode cX5_ro 10 = .ok (.iadd, 1) := by decide +kernel
theorem dX5_ro_11 : decode cX5_ro 11 = .ok (.iaload, 1) := by decide +kernel
theorem dX5_ro_12 : decode cX5_ro 12 = .ok (.ireturn, 1) := by decide +kernel
theorem dX5_lay_0 : decode cX5_lay 0 = .ok (.aload_n 0, 1) := by decide +kernel
theorem dX5_lay_1 : decode cX5_lay 1 = .ok (.getfield 31, 3) := by decide +kernel
theorem dX5_lay_4 : decode cX5_lay 4 = .ok (.iconst 1, 1) := by decide +kernel
theorem dX5_lay_5 : decode cX5_lay 5 = .ok (.iconst 3, 1) := by decide +kernel
theorem dX5_lay_6 : decode cX5_lay 6 = .ok (.iload_n 1, 1) := by decide +kernel
theorem dX5_lay_7 : decode cX5_lay 7 = .ok (.imul, 1) := by decide +kernel
theorem dX5_lay_8 : decode cX5_lay 8 = .ok (.iadd, 1) := by decide +kernel
theorem dX5_lay_9 : decode cX5_lay 9 = .ok (.iload_n 2, 1) := by decide +kernel
theorem dX5_lay_10 : decode cX5_lay 10 = .ok (.iadd, 1) := by decide +kernel
theorem dX5_lay_11 : decode cX5_lay 11 = .ok (.iload_n 3, 1) := by decide +kernel
theorem dX5_lay_12 : decode cX5_lay 12 = .ok (.iastore, 1) := by decide +kernel
theorem dX5_lay_13 : decode cX5_lay 13 = .ok (.return_, 1) := by decide +kernel
theorem dX5_to_0 : decode cX5_to 0 = .ok (.aload_n 0, 1) := by decide +kernel
theorem dX5_to_1 : decode cX5_to 1 = .ok (.getfield 31, 3) := by decide +kernel
theorem dX5_to_4 : decode cX5_to 4 = .ok (.bipush 61, 2) := by decide +kernel
theorem dX5_to_6 : decode cX5_to 6 = .ok (.bipush 6, 2) := by decide +kernel
theorem dX5_to_8 : decode cX5_to 8 = .ok (.iload_n 1, 1) := by decide +kernel
theorem dX5_to_9 : decode cX5_to 9 = .ok (.imul, 1) := by decide +kernel
theorem dX5_to_10 : decode cX5_to 10 = .ok (.iadd, 1) := by decide +kernel
theorem dX5_to_11 : decode cX5_to 11 = .ok (.iload_n 2, 1) := by decide +kernel
theorem dX5_to_12 : decode cX5_to 12 = .ok (.iadd, 1) := by decide +kernel
theorem dX5_to_13 : decode cX5_to 13 = .ok (.iaload, 1) := by decide +kernel
theorem dX5_to_14 : decode cX5_to 14 = .ok (.ireturn, 1) := by decide +kernel
theorem dX5_let_0 : decode cX5_let 0 = .ok (.aload_n 0, 1) := by decide +kernel
theorem dX5_let_1 : decode cX5_let 1 = .ok (.getfield 31, 3) := by decide +kernel
theorem dX5_let_4 : decode cX5_let 4 = .ok (.bipush 61, 2) := by decide +kernel
theorem dX5_let_6 : decode cX5_let 6 = .ok (.bipush 6, 2) := by decide +kernel
theorem dX5_let_8 : decode cX5_let 8 = .ok (.iload_n 1, 1) := by decide +kernel
theorem dX5_let_9 : decode cX5_let 9 = .ok (.imul, 1) := by decide +kernel
theorem dX5_let_10 : decode cX5_let 10 = .ok (.iadd, 1) := by decide +kernel
theorem dX5_let_11 : decode cX5_let 11 = .ok (.iload_n 2, 1) := by decide +kernel
theorem dX5_let_12 : decode cX5_let 12 = .ok (.iadd, 1) := by decide +kernel
theorem dX5_let_13 : decode cX5_let 13 = .ok (.iload_n 3, 1) := by decide +kernel
theorem dX5_let_14 : decode cX5_let 14 = .ok (.iastore, 1) := by decide +kernel
theorem dX5_let_15 : decode cX5_let 15 = .ok (.return_, 1) := by decide +kernel
theorem dX5_keep_0 : decode cX5_keep 0 = .ok (.aload_n 0, 1) := by decide +kernel
theorem dX5_keep_1 : decode cX5_keep 1 = .ok (.getfield 31, 3) := by decide +kernel
theorem dX5_keep_4 : decode cX5_keep 4 = .ok (.iconst 0, 1) := by decide +kernel
theorem dX5_keep_5 : decode cX5_keep 5 = .ok (.aload_n 0, 1) := by decide +kernel
theorem dX5_keep_6 : decode cX5_keep 6 = .ok (.getfield 34, 3) := by decide +kernel
theorem dX5_keep_9 : decode cX5_keep 9 = .ok (.iconst 0, 1) := by decide +kernel
theorem dX5_keep_10 : decode cX5_keep 10 = .ok (.sipush 133, 3) := by decide +kernel
theorem dX5_keep_13 : decode cX5_keep 13 = .ok (.invokestatic 57, 3) := by decide +kernel
theorem dX5_keep_16 : decode cX5_keep 16 = .ok (.return_, 1) := by decide +kernel
theorem dX5_bringBack_0 : decode cX5_bringBack 0 = .ok (.aload_n 0, 1) := by decide +kernel
theorem dX5_bringBack_1 : decode cX5_bringBack 1 = .ok (.getfield 34, 3) := by decide +kernel
theorem dX5_bringBack_4 : decode cX5_bringBack 4 = .ok (.iconst 0, 1) := by decide +kernel
theorem dX5_bringBack_5 : decode cX5_bringBack 5 = .ok (.aload_n 0, 1) := by decide +kernel
theorem dX5_bringBack_6 : decode cX5_bringBack 6 = .ok (.getfield 31, 3) := by decide +kernel
theorem dX5_bringBack_9 : decode cX5_bringBack 9 = .ok (.iconst 0, 1) := by decide +kernel
theorem dX5_bringBack_10 : decode cX5_bringBack 10 = .ok (.sipush 133, 3) := by decide +kernel
theorem dX5_bringBack_13 : decode cX5_bringBack 13 = .ok (.invokestatic 57, 3) := by decide +kernel
theorem dX5_bringBack_16 : decode cX5_bringBack 16 = .ok (.return_, 1) := by decide +kernel
theorem dX5_isOpen_0 : decode cX5_isOpen 0 = .ok (.aload_n 0, 1) := by decide +kernel
theorem dX5_isOpen_1 : decode cX5_isOpen 1 = .ok (.iload_n 1, 1) := by decide +kernel
theorem dX5_isOpen_2 : decode cX5_isOpen 2 = .ok (.iconst 0, 1) := by decide +kernel
theorem dX5_isOpen_3 : decode cX5_isOpen 3 = .ok (.invokevirtual 63, 3) := by decide +kernel
theorem dX5_isOpen_6 : decode cX5_isOpen 6 = .ok (.ifCond .ne 7, 3) := by decide +kernel
theorem dX5_isOpen_9 : decode cX5_isOpen 9 = .ok (.iconst 1, 1) := by decide +kernel
theorem dX5_isOpen_10 : decode cX5_isOpen 10 = .ok (.goto 4, 3) := by decide +kernel
theorem dX5_isOpen_13 : decode cX5_isOpen 13 = .ok (.iconst 0, 1) := by decide +kernel
theorem dX5_isOpen_14 : decode cX5_isOpen 14 = .ok (.ireturn, 1) := by decide +kernel
theorem dX5_longNow_0 : decode cX5_longNow 0 = .ok (.aload_n 0, 1) := by decide +kernel
theorem dX5_longNow_1 : decode cX5_longNow 1 = .ok (.getfield 16, 3) := by decide +kernel
theorem dX5_longNow_4 : decode cX5_longNow 4 = .ok (.iload_n 1, 1) := by decide +kernel
theorem dX5_longNow_5 : decode cX5_longNow 5 = .ok (.iaload, 1) := by decide +kernel
theorem dX5_longNow_6 : decode cX5_longNow 6 = .ok (.aload_n 0, 1) := by decide +kernel
theorem dX5_longNow_7 : decode cX5_longNow 7 = .ok (.iload_n 1, 1) := by decide +kernel
theorem dX5_longNow_8 : decode cX5_longNow 8 = .ok (.iconst 2, 1) := by decide +kernel
theorem dX5_longNow_9 : decode cX5_longNow 9 = .ok (.invokevirtual 63, 3) := by decide +kernel
theorem dX5_longNow_12 : decode cX5_longNow 12 = .ok (.iadd, 1) := by decide +kernel
theorem dX5_longNow_13 : decode cX5_longNow 13 = .ok (.ireturn, 1) := by decide +kernel
theorem dX5_on_0 : decode cX5_on 0 = .ok (.iconst 0, 1) := by decide +kernel
theorem dX5_on_1 : decode cX5_on 1 = .ok (.istore_n 2, 1) := by decide +kernel
theorem dX5_on_2 : decode cX5_on 2 = .ok (.iconst 0, 1) := by decide +kernel
theorem dX5_on_3 : decode cX5_on 3 = .ok (.istore_n 3, 1) := by decide +kernel
theorem dX5_on_4 : decode cX5_on 4 = .ok (.iload_n 3, 1) := by decide +kernel
theorem dX5_on_5 : decode cX5_on 5 = .ok (.aload_n 0, 1) := by decide +kernel
theorem dX5_on_6 : decode cX5_on 6 = .ok (.getfield 54, 3) := by decide +kernel
theorem dX5_on_9 : decode cX5_on 9 = .ok (.if_icmp .ge 27, 3) := by decide +kernel
theorem dX5_on_12 : decode cX5_on 12 = .ok (.iload_n 2, 1) := by decide +kernel
theorem dX5_on_13 : decode cX5_on 13 = .ok (.aload_n 0, 1) := by decide +kernel
theorem dX5_on_14 : decode cX5_on 14 = .ok (.iload_n 3, 1) := by decide +kernel
theorem dX5_on_15 : decode cX5_on 15 = .ok (.iconst 1, 1) := by decide +kernel
theorem dX5_on_16 : decode cX5_on 16 = .ok (.invokevirtual 67, 3) := by decide +kernel
theorem dX5_on_19 : decode cX5_on 19 = .ok (.iload_n 1, 1) := by decide +kernel
theorem dX5_on_20 : decode cX5_on 20 = .ok (.if_icmp .ne 7, 3) := by decide +kernel
theorem dX5_on_23 : decode cX5_on 23 = .ok (.iconst 1, 1) := by decide +kernel
theorem dX5_on_24 : decode cX5_on 24 = .ok (.goto 4, 3) := by decide +kernel
theorem dX5_on_27 : decode cX5_on 27 = .ok (.iconst 0, 1) := by decide +kernel
theorem dX5_on_28 : decode cX5_on 28 = .ok (.iadd, 1) := by decide +kernel
theorem dX5_on_29 : decode cX5_on 29 = .ok (.istore_n 2, 1) := by decide +kernel
theorem dX5_on_30 : decode cX5_on 30 = .ok (.iinc 3 1, 3) := by decide +kernel
theorem dX5_on_33 : decode cX5_on 33 = .ok (.goto (-29), 3) := by decide +kernel
theorem dX5_on_36 : decode cX5_on 36 = .ok (.iload_n 2, 1) := by decide +kernel
theorem dX5_on_37 : decode cX5_on 37 = .ok (.ireturn, 1) := by decide +kernel
theorem dX5_measure_0 : decode cX5_measure 0 = .ok (.iconst 0, 1) := by decide +kernel
theorem dX5_measure_1 : decode cX5_measure 1 = .ok (.istore_n 3, 1) := by decide +kernel
theorem dX5_measure_2 : decode cX5_measure 2 = .ok (.iload_n 3, 1) := by decide +kernel
theorem dX5_measure_3 : decode cX5_measure 3 = .ok (.aload_n 0, 1) := by decide +kernel
theorem dX5_measure_4 : decode cX5_measure 4 = .ok (.getfield 44, 3) := by decide +kernel
theorem dX5_measure_7 : decode cX5_measure 7 = .ok (.if_icmp .ge 27, 3) := by decide +kernel
theorem dX5_measure_10 : decode cX5_measure 10 = .ok (.aload_n 0, 1) := by decide +kernel
theorem dX5_measure_11 : decode cX5_measure 11 = .ok (.getfield 37, 3) := by decide +kernel
theorem dX5_measure_14 : decode cX5_measure 14 = .ok (.iload_n 3, 1) := by decide +kernel
theorem dX5_measure_15 : decode cX5_measure 15 = .ok (.iload_n 3, 1) := by decide +kernel
theorem dX5_measure_16 : decode cX5_measure 16 = .ok (.iload_n 1, 1) := by decide +kernel
theorem dX5_measure_17 : decode cX5_measure 17 = .ok (.if_icmp .ne 7, 3) := by decide +kernel
theorem dX5_measure_20 : decode cX5_measure 20 = .ok (.iconst 0, 1) := by decide +kernel
theorem dX5_measure_21 : decode cX5_measure 21 = .ok (.goto 6, 3) := by decide +kernel
theorem dX5_measure_24 : decode cX5_measure 24 = .ok (.sipush 9999, 3) := by decide +kernel
theorem dX5_measure_27 : decode cX5_measure 27 = .ok (.iastore, 1) := by decide +kernel
theorem dX5_measure_28 : decode cX5_measure 28 = .ok (.iinc 3 1, 3) := by decide +kernel
theorem dX5_measure_31 : decode cX5_measure 31 = .ok (.goto (-29), 3) := by decide +kernel
theorem dX5_measure_34 : decode cX5_measure 34 = .ok (.iconst 1, 1) := by decide +kernel
theorem dX5_measure_35 : decode cX5_measure 35 = .ok (.istore_n 3, 1) := by decide +kernel
theorem dX5_measure_36 : decode cX5_measure 36 = .ok (.iload_n 3, 1) := by decide +kernel
theorem dX5_measure_37 : decode cX5_measure 37 = .ok (.ifCond .eq 150, 3) := by decide +kernel
theorem dX5_measure_40 : decode cX5_measure 40 = .ok (.iconst 0, 1) := by decide +kernel
theorem dX5_measure_41 : decode cX5_measure 41 = .ok (.istore_n 3, 1) := by decide +kernel
theorem dX5_measure_42 : decode cX5_measure 42 = .ok (.iconst 0, 1) := by decide +kernel
theorem dX5_measure_43 : decode cX5_measure 43 = .ok (.istore 4, 2) := by decide +kernel
theorem dX5_measure_45 : decode cX5_measure 45 = .ok (.iload 4, 2) := by decide +kernel
theorem dX5_measure_47 : decode cX5_measure 47 = .ok (.aload_n 0, 1) := by decide +kernel
theorem dX5_measure_48 : decode cX5_measure 48 = .ok (.getfield 51, 3) := by decide +kernel
theorem dX5_measure_51 : decode cX5_measure 51 = .ok (.if_icmp .ge 133, 3) := by decide +kernel
theorem dX5_measure_54 : decode cX5_measure 54 = .ok (.iload_n 2, 1) := by decide +kernel
theorem dX5_measure_55 : decode cX5_measure 55 = .ok (.ifCond .ne 15, 3) := by decide +kernel
theorem dX5_measure_58 : decode cX5_measure 58 = .ok (.aload_n 0, 1) := by decide +kernel
theorem dX5_measure_59 : decode cX5_measure 59 = .ok (.iload 4, 2) := by decide +kernel
theorem dX5_measure_61 : decode cX5_measure 61 = .ok (.invokevirtual 70, 3) := by decide +kernel
theorem dX5_measure_64 : decode cX5_measure 64 = .ok (.ifCond .ne 6, 3) := by decide +kernel
theorem dX5_measure_67 : decode cX5_measure 67 = .ok (.goto 111, 3) := by decide +kernel
theorem dX5_measure_70 : decode cX5_measure 70 = .ok (.aload_n 0, 1) := by decide +kernel
theorem dX5_measure_71 : decode cX5_measure 71 = .ok (.iload 4, 2) := by decide +kernel
theorem dX5_measure_73 : decode cX5_measure 73 = .ok (.invokevirtual 74, 3) := by decide +kernel
theorem dX5_measure_76 : decode cX5_measure 76 = .ok (.aload_n 0, 1) := by decide +kernel
theorem dX5_measure_77 : decode cX5_measure 77 = .ok (.getfield 37, 3) := by decide +kernel
theorem dX5_measure_80 : decode cX5_measure 80 = .ok (.aload_n 0, 1) := by decide +kernel
theorem dX5_measure_81 : decode cX5_measure 81 = .ok (.getfield 9, 3) := by decide +kernel
theorem dX5_measure_84 : decode cX5_measure 84 = .ok (.iload 4, 2) := by decide +kernel
theorem dX5_measure_86 : decode cX5_measure 86 = .ok (.iaload, 1) := by decide +kernel
theorem dX5_measure_87 : decode cX5_measure 87 = .ok (.iaload, 1) := by decide +kernel
theorem dX5_measure_88 : decode cX5_measure 88 = .ok (.aload_n 0, 1) := by decide +kernel
theorem dX5_measure_89 : decode cX5_measure 89 = .ok (.getfield 37, 3) := by decide +kernel
theorem dX5_measure_92 : decode cX5_measure 92 = .ok (.aload_n 0, 1) := by decide +kernel
theorem dX5_measure_93 : decode cX5_measure 93 = .ok (.getfield 13, 3) := by decide +kernel
theorem dX5_measure_96 : decode cX5_measure 96 = .ok (.iload 4, 2) := by decide +kernel
theorem dX5_measure_98 : decode cX5_measure 98 = .ok (.iaload, 1) := by decide +kernel
theorem dX5_measure_99 : decode cX5_measure 99 = .ok (.iaload, 1) := by decide +kernel
theorem dX5_measure_100 : decode cX5_measure 100 = .ok (.invokestatic 78, 3) := by decide +kernel
theorem dX5_measure_103 : decode cX5_measure 103 = .ok (.iadd, 1) := by decide +kernel
theorem dX5_measure_104 : decode cX5_measure 104 = .ok (.istore 5, 2) := by decide +kernel
theorem dX5_measure_106 : decode cX5_measure 106 = .ok (.aload_n 0, 1) := by decide +kernel
theorem dX5_measure_107 : decode cX5_measure 107 = .ok (.getfield 37, 3) := by decide +kernel
theorem dX5_measure_110 : decode cX5_measure 110 = .ok (.aload_n 0, 1) := by decide +kernel
theorem dX5_measure_111 : decode cX5_measure 111 = .ok (.getfield 9, 3) := by decide +kernel
theorem dX5_measure_114 : decode cX5_measure 114 = .ok (.iload 4, 2) := by decide +kernel
theorem dX5_measure_116 : decode cX5_measure 116 = .ok (.iaload, 1) := by decide +kernel
theorem dX5_measure_117 : decode cX5_measure 117 = .ok (.iaload, 1) := by decide +kernel
theorem dX5_measure_118 : decode cX5_measure 118 = .ok (.aload_n 0, 1) := by decide +kernel
theorem dX5_measure_119 : decode cX5_measure 119 = .ok (.getfield 37, 3) := by decide +kernel
theorem dX5_measure_122 : decode cX5_measure 122 = .ok (.aload_n 0, 1) := by decide +kernel
theorem dX5_measure_123 : decode cX5_measure 123 = .ok (.getfield 13, 3) := by decide +kernel
theorem dX5_measure_126 : decode cX5_measure 126 = .ok (.iload 4, 2) := by decide +kernel
theorem dX5_measure_128 : decode cX5_measure 128 = .ok (.iaload, 1) := by decide +kernel
theorem dX5_measure_129 : decode cX5_measure 129 = .ok (.iaload, 1) := by decide +kernel
theorem dX5_measure_130 : decode cX5_measure 130 = .ok (.if_icmp .le 13, 3) := by decide +kernel
theorem dX5_measure_133 : decode cX5_measure 133 = .ok (.aload_n 0, 1) := by decide +kernel
theorem dX5_measure_134 : decode cX5_measure 134 = .ok (.getfield 9, 3) := by decide +kernel
theorem dX5_measure_137 : decode cX5_measure 137 = .ok (.iload 4, 2) := by decide +kernel
theorem dX5_measure_139 : decode cX5_measure 139 = .ok (.iaload, 1) := by decide +kernel
theorem dX5_measure_140 : decode cX5_measure 140 = .ok (.goto 10, 3) := by decide +kernel
theorem dX5_measure_143 : decode cX5_measure 143 = .ok (.aload_n 0, 1) := by decide +kernel
theorem dX5_measure_144 : decode cX5_measure 144 = .ok (.getfield 13, 3) := by decide +kernel
theorem dX5_measure_147 : decode cX5_measure 147 = .ok (.iload 4, 2) := by decide +kernel
theorem dX5_measure_149 : decode cX5_measure 149 = .ok (.iaload, 1) := by decide +kernel
theorem dX5_measure_150 : decode cX5_measure 150 = .ok (.istore 6, 2) := by decide +kernel
theorem dX5_measure_152 : decode cX5_measure 152 = .ok (.iload 5, 2) := by decide +kernel
theorem dX5_measure_154 : decode cX5_measure 154 = .ok (.aload_n 0, 1) := by decide +kernel
theorem dX5_measure_155 : decode cX5_measure 155 = .ok (.getfield 37, 3) := by decide +kernel
theorem dX5_measure_158 : decode cX5_measure 158 = .ok (.iload 6, 2) := by decide +kernel
theorem dX5_measure_160 : decode cX5_measure 160 = .ok (.iaload, 1) := by decide +kernel
theorem dX5_measure_161 : decode cX5_measure 161 = .ok (.if_icmp .lt 6, 3) := by decide +kernel
theorem dX5_measure_164 : decode cX5_measure 164 = .ok (.goto 14, 3) := by decide +kernel
theorem dX5_measure_167 : decode cX5_measure 167 = .ok (.aload_n 0, 1) := by decide +kernel
theorem dX5_measure_168 : decode cX5_measure 168 = .ok (.getfield 37, 3) := by decide +kernel
theorem dX5_measure_171 : decode cX5_measure 171 = .ok (.iload 6, 2) := by decide +kernel
theorem dX5_measure_173 : decode cX5_measure 173 = .ok (.iload 5, 2) := by decide +kernel
theorem dX5_measure_175 : decode cX5_measure 175 = .ok (.iastore, 1) := by decide +kernel
theorem dX5_measure_176 : decode cX5_measure 176 = .ok (.iconst 1, 1) := by decide +kernel
theorem dX5_measure_177 : decode cX5_measure 177 = .ok (.istore_n 3, 1) := by decide +kernel
theorem dX5_measure_178 : decode cX5_measure 178 = .ok (.iinc 4 1, 3) := by decide +kernel
theorem dX5_measure_181 : decode cX5_measure 181 = .ok (.goto (-136), 3) := by decide +kernel
theorem dX5_measure_184 : decode cX5_measure 184 = .ok (.goto (-148), 3) := by decide +kernel
theorem dX5_measure_187 : decode cX5_measure 187 = .ok (.return_, 1) := by decide +kernel
theorem dX5_apart_0 : decode cX5_apart 0 = .ok (.aload_n 0, 1) := by decide +kernel
theorem dX5_apart_1 : decode cX5_apart 1 = .ok (.iload_n 2, 1) := by decide +kernel
theorem dX5_apart_2 : decode cX5_apart 2 = .ok (.iload_n 3, 1) := by decide +kernel
theorem dX5_apart_3 : decode cX5_apart 3 = .ok (.invokevirtual 83, 3) := by decide +kernel
theorem dX5_apart_6 : decode cX5_apart 6 = .ok (.aload_n 0, 1) := by decide +kernel
theorem dX5_apart_7 : decode cX5_apart 7 = .ok (.getfield 37, 3) := by decide +kernel
theorem dX5_apart_10 : decode cX5_apart 10 = .ok (.iload_n 1, 1) := by decide +kernel
theorem dX5_apart_11 : decode cX5_apart 11 = .ok (.iaload, 1) := by decide +kernel
theorem dX5_apart_12 : decode cX5_apart 12 = .ok (.sipush 9999, 3) := by decide +kernel
theorem dX5_apart_15 : decode cX5_apart 15 = .ok (.if_icmp .lt 7, 3) := by decide +kernel
theorem dX5_apart_18 : decode cX5_apart 18 = .ok (.iconst (-1), 1) := by decide +kernel
theorem dX5_apart_19 : decode cX5_apart 19 = .ok (.goto 9, 3) := by decide +kernel
theorem dX5_apart_22 : decode cX5_apart 22 = .ok (.aload_n 0, 1) := by decide +kernel
theorem dX5_apart_23 : decode cX5_apart 23 = .ok (.getfield 37, 3) := by decide +kernel
theorem dX5_apart_26 : decode cX5_apart 26 = .ok (.iload_n 1, 1) := by decide +kernel
theorem dX5_apart_27 : decode cX5_apart 27 = .ok (.iaload, 1) := by decide +kernel
theorem dX5_apart_28 : decode cX5_apart 28 = .ok (.ireturn, 1) := by decide +kernel
theorem dX5_end_0 : decode cX5_end 0 = .ok (.aload_n 0, 1) := by decide +kernel
theorem dX5_end_1 : decode cX5_end 1 = .ok (.getfield 9, 3) := by decide +kernel
theorem dX5_end_4 : decode cX5_end 4 = .ok (.iload_n 1, 1) := by decide +kernel
theorem dX5_end_5 : decode cX5_end 5 = .ok (.iaload, 1) := by decide +kernel
theorem dX5_end_6 : decode cX5_end 6 = .ok (.iload_n 2, 1) := by decide +kernel
theorem dX5_end_7 : decode cX5_end 7 = .ok (.if_icmp .ne 12, 3) := by decide +kernel
theorem dX5_end_10 : decode cX5_end 10 = .ok (.aload_n 0, 1) := by decide +kernel
theorem dX5_end_11 : decode cX5_end 11 = .ok (.getfield 13, 3) := by decide +kernel
theorem dX5_end_14 : decode cX5_end 14 = .ok (.iload_n 1, 1) := by decide +kernel
theorem dX5_end_15 : decode cX5_end 15 = .ok (.iaload, 1) := by decide +kernel
theorem dX5_end_16 : decode cX5_end 16 = .ok (.goto 9, 3) := by decide +kernel
theorem dX5_end_19 : decode cX5_end 19 = .ok (.aload_n 0, 1) := by decide +kernel
theorem dX5_end_20 : decode cX5_end 20 = .ok (.getfield 9, 3) := by decide +kernel
theorem dX5_end_23 : decode cX5_end 23 = .ok (.iload_n 1, 1) := by decide +kernel
theorem dX5_end_24 : decode cX5_end 24 = .ok (.iaload, 1) := by decide +kernel
theorem dX5_end_25 : decode cX5_end 25 = .ok (.ireturn, 1) := by decide +kernel
theorem dX5_takes_0 : decode cX5_takes 0 = .ok (.iload_n 1, 1) := by decide +kernel
theorem dX5_takes_1 : decode cX5_takes 1 = .ok (.iload_n 2, 1) := by decide +kernel
theorem dX5_takes_2 : decode cX5_takes 2 = .ok (.if_icmp .ne 5, 3) := by decide +kernel
theorem dX5_takes_5 : decode cX5_takes 5 = .ok (.iconst (-1), 1) := by decide +kernel
theorem dX5_takes_6 : decode cX5_takes 6 = .ok (.ireturn, 1) := by decide +kernel
theorem dX5_takes_7 : decode cX5_takes 7 = .ok (.aload_n 0, 1) := by decide +kernel
theorem dX5_takes_8 : decode cX5_takes 8 = .ok (.iload_n 2, 1) := by decide +kernel
theorem dX5_takes_9 : decode cX5_takes 9 = .ok (.iconst 0, 1) := by decide +kernel
theorem dX5_takes_10 : decode cX5_takes 10 = .ok (.invokevirtual 83, 3) := by decide +kernel
theorem dX5_takes_13 : decode cX5_takes 13 = .ok (.iconst (-1), 1) := by decide +kernel
theorem dX5_takes_14 : decode cX5_takes 14 = .ok (.istore_n 3, 1) := by decide +kernel
theorem dX5_takes_15 : decode cX5_takes 15 = .ok (.sipush 9999, 3) := by decide +kernel
theorem dX5_takes_18 : decode cX5_takes 18 = .ok (.istore 4, 2) := by decide +kernel
theorem dX5_takes_20 : decode cX5_takes 20 = .ok (.iconst 0, 1) := by decide +kernel
theorem dX5_takes_21 : decode cX5_takes 21 = .ok (.istore 5, 2) := by decide +kernel
theorem dX5_takes_23 : decode cX5_takes 23 = .ok (.iload 5, 2) := by decide +kernel
theorem dX5_takes_25 : decode cX5_takes 25 = .ok (.aload_n 0, 1) := by decide +kernel
theorem dX5_takes_26 : decode cX5_takes 26 = .ok (.getfield 51, 3) := by decide +kernel
theorem dX5_takes_29 : decode cX5_takes 29 = .ok (.if_icmp .ge 81, 3) := by decide +kernel
theorem dX5_takes_32 : decode cX5_takes 32 = .ok (.aload_n 0, 1) := by decide +kernel
theorem dX5_takes_33 : decode cX5_takes 33 = .ok (.iload 5, 2) := by decide +kernel
theorem dX5_takes_35 : decode cX5_takes 35 = .ok (.invokevirtual 70, 3) := by decide +kernel
theorem dX5_takes_38 : decode cX5_takes 38 = .ok (.ifCond .eq 66, 3) := by decide +kernel
theorem dX5_takes_41 : decode cX5_takes 41 = .ok (.aload_n 0, 1) := by decide +kernel
theorem dX5_takes_42 : decode cX5_takes 42 = .ok (.getfield 9, 3) := by decide +kernel
theorem dX5_takes_45 : decode cX5_takes 45 = .ok (.iload 5, 2) := by decide +kernel
theorem dX5_takes_47 : decode cX5_takes 47 = .ok (.iaload, 1) := by decide +kernel
theorem dX5_takes_48 : decode cX5_takes 48 = .ok (.iload_n 1, 1) := by decide +kernel
theorem dX5_takes_49 : decode cX5_takes 49 = .ok (.if_icmp .eq 17, 3) := by decide +kernel
theorem dX5_takes_52 : decode cX5_takes 52 = .ok (.aload_n 0, 1) := by decide +kernel
theorem dX5_takes_53 : decode cX5_takes 53 = .ok (.getfield 13, 3) := by decide +kernel
theorem dX5_takes_56 : decode cX5_takes 56 = .ok (.iload 5, 2) := by decide +kernel
theorem dX5_takes_58 : decode cX5_takes 58 = .ok (.iaload, 1) := by decide +kernel
theorem dX5_takes_59 : decode cX5_takes 59 = .ok (.iload_n 1, 1) := by decide +kernel
theorem dX5_takes_60 : decode cX5_takes 60 = .ok (.if_icmp .eq 6, 3) := by decide +kernel
theorem dX5_takes_63 : decode cX5_takes 63 = .ok (.goto 41, 3) := by decide +kernel
theorem dX5_takes_66 : decode cX5_takes 66 = .ok (.aload_n 0, 1) := by decide +kernel
theorem dX5_takes_67 : decode cX5_takes 67 = .ok (.iload 5, 2) := by decide +kernel
theorem dX5_takes_69 : decode cX5_takes 69 = .ok (.invokevirtual 74, 3) := by decide +kernel
theorem dX5_takes_72 : decode cX5_takes 72 = .ok (.aload_n 0, 1) := by decide +kernel
theorem dX5_takes_73 : decode cX5_takes 73 = .ok (.getfield 37, 3) := by decide +kernel
theorem dX5_takes_76 : decode cX5_takes 76 = .ok (.aload_n 0, 1) := by decide +kernel
theorem dX5_takes_77 : decode cX5_takes 77 = .ok (.iload 5, 2) := by decide +kernel
theorem dX5_takes_79 : decode cX5_takes 79 = .ok (.iload_n 1, 1) := by decide +kernel
theorem dX5_takes_80 : decode cX5_takes 80 = .ok (.invokevirtual 87, 3) := by decide +kernel
theorem dX5_takes_83 : decode cX5_takes 83 = .ok (.iaload, 1) := by decide +kernel
theorem dX5_takes_84 : decode cX5_takes 84 = .ok (.iadd, 1) := by decide +kernel
theorem dX5_takes_85 : decode cX5_takes 85 = .ok (.istore 6, 2) := by decide +kernel
theorem dX5_takes_87 : decode cX5_takes 87 = .ok (.iload 6, 2) := by decide +kernel
theorem dX5_takes_89 : decode cX5_takes 89 = .ok (.iload 4, 2) := by decide +kernel
theorem dX5_takes_91 : decode cX5_takes 91 = .ok (.if_icmp .lt 6, 3) := by decide +kernel
theorem dX5_takes_94 : decode cX5_takes 94 = .ok (.goto 10, 3) := by decide +kernel
theorem dX5_takes_97 : decode cX5_takes 97 = .ok (.iload 5, 2) := by decide +kernel
theorem dX5_takes_99 : decode cX5_takes 99 = .ok (.istore_n 3, 1) := by decide +kernel
theorem dX5_takes_100 : decode cX5_takes 100 = .ok (.iload 6, 2) := by decide +kernel
theorem dX5_takes_102 : decode cX5_takes 102 = .ok (.istore 4, 2) := by decide +kernel
theorem dX5_takes_104 : decode cX5_takes 104 = .ok (.iinc 5 1, 3) := by decide +kernel
theorem dX5_takes_107 : decode cX5_takes 107 = .ok (.goto (-84), 3) := by decide +kernel
theorem dX5_takes_110 : decode cX5_takes 110 = .ok (.iload_n 3, 1) := by decide +kernel
theorem dX5_takes_111 : decode cX5_takes 111 = .ok (.ireturn, 1) := by decide +kernel
theorem dX5_mix_0 : decode cX5_mix 0 = .ok (.iload_n 0, 1) := by decide +kernel
theorem dX5_mix_1 : decode cX5_mix 1 = .ok (.ifCond .eq 8, 3) := by decide +kernel
theorem dX5_mix_4 : decode cX5_mix 4 = .ok (.iload_n 0, 1) := by decide +kernel
theorem dX5_mix_5 : decode cX5_mix 5 = .ok (.iload_n 1, 1) := by decide +kernel
theorem dX5_mix_6 : decode cX5_mix 6 = .ok (.if_icmp .ne 7, 3) := by decide +kernel
theorem dX5_mix_9 : decode cX5_mix 9 = .ok (.iload_n 1, 1) := by decide +kernel
theorem dX5_mix_10 : decode cX5_mix 10 = .ok (.goto 17, 3) := by decide +kernel
theorem dX5_mix_13 : decode cX5_mix 13 = .ok (.iload_n 1, 1) := by decide +kernel
theorem dX5_mix_14 : decode cX5_mix 14 = .ok (.ifCond .ne 7, 3) := by decide +kernel
theorem dX5_mix_17 : decode cX5_mix 17 = .ok (.iload_n 0, 1) := by decide +kernel
theorem dX5_mix_18 : decode cX5_mix 18 = .ok (.goto 9, 3) := by decide +kernel
theorem dX5_mix_21 : decode cX5_mix 21 = .ok (.bipush 6, 2) := by decide +kernel
theorem dX5_mix_23 : decode cX5_mix 23 = .ok (.iload_n 0, 1) := by decide +kernel
theorem dX5_mix_24 : decode cX5_mix 24 = .ok (.isub, 1) := by decide +kernel
theorem dX5_mix_25 : decode cX5_mix 25 = .ok (.iload_n 1, 1) := by decide +kernel
theorem dX5_mix_26 : decode cX5_mix 26 = .ok (.isub, 1) := by decide +kernel
theorem dX5_mix_27 : decode cX5_mix 27 = .ok (.ireturn, 1) := by decide +kernel
theorem dX5_mendOn_0 : decode cX5_mendOn 0 = .ok (.aload_n 0, 1) := by decide +kernel
theorem dX5_mendOn_1 : decode cX5_mendOn 1 = .ok (.iload_n 1, 1) := by decide +kernel
theorem dX5_mendOn_2 : decode cX5_mendOn 2 = .ok (.invokevirtual 70, 3) := by decide +kernel
theorem dX5_mendOn_5 : decode cX5_mendOn 5 = .ok (.ifCond .eq 4, 3) := by decide +kernel
theorem dX5_mendOn_8 : decode cX5_mendOn 8 = .ok (.return_, 1) := by decide +kernel
theorem dX5_mendOn_9 : decode cX5_mendOn 9 = .ok (.aload_n 0, 1) := by decide +kernel
theorem dX5_mendOn_10 : decode cX5_mendOn 10 = .ok (.iload_n 1, 1) := by decide +kernel
theorem dX5_mendOn_11 : decode cX5_mendOn 11 = .ok (.iconst 0, 1) := by decide +kernel
theorem dX5_mendOn_12 : decode cX5_mendOn 12 = .ok (.aload_n 0, 1) := by decide +kernel
theorem dX5_mendOn_13 : decode cX5_mendOn 13 = .ok (.iload_n 1, 1) := by decide +kernel
theorem dX5_mendOn_14 : decode cX5_mendOn 14 = .ok (.iconst 0, 1) := by decide +kernel
theorem dX5_mendOn_15 : decode cX5_mendOn 15 = .ok (.invokevirtual 63, 3) := by decide +kernel
theorem dX5_mendOn_18 : decode cX5_mendOn 18 = .ok (.iconst 1, 1) := by decide +kernel
theorem dX5_mendOn_19 : decode cX5_mendOn 19 = .ok (.isub, 1) := by decide +kernel
theorem dX5_mendOn_20 : decode cX5_mendOn 20 = .ok (.invokevirtual 90, 3) := by decide +kernel
theorem dX5_mendOn_23 : decode cX5_mendOn 23 = .ok (.aload_n 0, 1) := by decide +kernel
theorem dX5_mendOn_24 : decode cX5_mendOn 24 = .ok (.iload_n 1, 1) := by decide +kernel
theorem dX5_mendOn_25 : decode cX5_mendOn 25 = .ok (.invokevirtual 70, 3) := by decide +kernel
theorem dX5_mendOn_28 : decode cX5_mendOn 28 = .ok (.ifCond .ne 4, 3) := by decide +kernel
theorem dX5_mendOn_31 : decode cX5_mendOn 31 = .ok (.return_, 1) := by decide +kernel
theorem dX5_mendOn_32 : decode cX5_mendOn 32 = .ok (.aload_n 0, 1) := by decide +kernel
theorem dX5_mendOn_33 : decode cX5_mendOn 33 = .ok (.iload_n 1, 1) := by decide +kernel
theorem dX5_mendOn_34 : decode cX5_mendOn 34 = .ok (.iconst 1, 1) := by decide +kernel
theorem dX5_mendOn_35 : decode cX5_mendOn 35 = .ok (.iconst 0, 1) := by decide +kernel
theorem dX5_mendOn_36 : decode cX5_mendOn 36 = .ok (.invokevirtual 90, 3) := by decide +kernel
theorem dX5_mendOn_39 : decode cX5_mendOn 39 = .ok (.aload_n 0, 1) := by decide +kernel
theorem dX5_mendOn_40 : decode cX5_mendOn 40 = .ok (.iload_n 1, 1) := by decide +kernel
theorem dX5_mendOn_41 : decode cX5_mendOn 41 = .ok (.iconst 2, 1) := by decide +kernel
theorem dX5_mendOn_42 : decode cX5_mendOn 42 = .ok (.iconst 3, 1) := by decide +kernel
theorem dX5_mendOn_43 : decode cX5_mendOn 43 = .ok (.aload_n 0, 1) := by decide +kernel
theorem dX5_mendOn_44 : decode cX5_mendOn 44 = .ok (.iload_n 1, 1) := by decide +kernel
theorem dX5_mendOn_45 : decode cX5_mendOn 45 = .ok (.iconst 2, 1) := by decide +kernel
theorem dX5_mendOn_46 : decode cX5_mendOn 46 = .ok (.invokevirtual 63, 3) := by decide +kernel
theorem dX5_mendOn_49 : decode cX5_mendOn 49 = .ok (.iconst 1, 1) := by decide +kernel
theorem dX5_mendOn_50 : decode cX5_mendOn 50 = .ok (.iadd, 1) := by decide +kernel
theorem dX5_mendOn_51 : decode cX5_mendOn 51 = .ok (.invokestatic 78, 3) := by decide +kernel
theorem dX5_mendOn_54 : decode cX5_mendOn 54 = .ok (.invokevirtual 90, 3) := by decide +kernel
theorem dX5_mendOn_57 : decode cX5_mendOn 57 = .ok (.return_, 1) := by decide +kernel
theorem dX5_goOn_0 : decode cX5_goOn 0 = .ok (.aload_n 0, 1) := by decide +kernel
theorem dX5_goOn_1 : decode cX5_goOn 1 = .ok (.iload_n 1, 1) := by decide +kernel
theorem dX5_goOn_2 : decode cX5_goOn 2 = .ok (.iconst 4, 1) := by decide +kernel
theorem dX5_goOn_3 : decode cX5_goOn 3 = .ok (.invokevirtual 67, 3) := by decide +kernel
theorem dX5_goOn_6 : decode cX5_goOn 6 = .ok (.iconst (-1), 1) := by decide +kernel
theorem dX5_goOn_7 : decode cX5_goOn 7 = .ok (.if_icmp .eq 4, 3) := by decide +kernel
theorem dX5_goOn_10 : decode cX5_goOn 10 = .ok (.return_, 1) := by decide +kernel
theorem dX5_goOn_11 : decode cX5_goOn 11 = .ok (.aload_n 0, 1) := by decide +kernel
theorem dX5_goOn_12 : decode cX5_goOn 12 = .ok (.iload_n 1, 1) := by decide +kernel
theorem dX5_goOn_13 : decode cX5_goOn 13 = .ok (.iconst 1, 1) := by decide +kernel
theorem dX5_goOn_14 : decode cX5_goOn 14 = .ok (.invokevirtual 67, 3) := by decide +kernel
theorem dX5_goOn_17 : decode cX5_goOn 17 = .ok (.iconst (-1), 1) := by decide +kernel
theorem dX5_goOn_18 : decode cX5_goOn 18 = .ok (.if_icmp .ne 100, 3) := by decide +kernel
theorem dX5_goOn_21 : decode cX5_goOn 21 = .ok (.aload_n 0, 1) := by decide +kernel
theorem dX5_goOn_22 : decode cX5_goOn 22 = .ok (.iload_n 1, 1) := by decide +kernel
theorem dX5_goOn_23 : decode cX5_goOn 23 = .ok (.iconst 0, 1) := by decide +kernel
theorem dX5_goOn_24 : decode cX5_goOn 24 = .ok (.invokevirtual 67, 3) := by decide +kernel
theorem dX5_goOn_27 : decode cX5_goOn 27 = .ok (.istore_n 2, 1) := by decide +kernel
theorem dX5_goOn_28 : decode cX5_goOn 28 = .ok (.aload_n 0, 1) := by decide +kernel
theorem dX5_goOn_29 : decode cX5_goOn 29 = .ok (.iload_n 2, 1) := by decide +kernel
theorem dX5_goOn_30 : decode cX5_goOn 30 = .ok (.aload_n 0, 1) := by decide +kernel
theorem dX5_goOn_31 : decode cX5_goOn 31 = .ok (.getfield 22, 3) := by decide +kernel
theorem dX5_goOn_34 : decode cX5_goOn 34 = .ok (.iload_n 1, 1) := by decide +kernel
theorem dX5_goOn_35 : decode cX5_goOn 35 = .ok (.iaload, 1) := by decide +kernel
theorem dX5_goOn_36 : decode cX5_goOn 36 = .ok (.invokevirtual 94, 3) := by decide +kernel
theorem dX5_goOn_39 : decode cX5_goOn 39 = .ok (.istore_n 3, 1) := by decide +kernel
theorem dX5_goOn_40 : decode cX5_goOn 40 = .ok (.iload_n 3, 1) := by decide +kernel
theorem dX5_goOn_41 : decode cX5_goOn 41 = .ok (.iconst (-1), 1) := by decide +kernel
theorem dX5_goOn_42 : decode cX5_goOn 42 = .ok (.if_icmp .ne 4, 3) := by decide +kernel
theorem dX5_goOn_45 : decode cX5_goOn 45 = .ok (.return_, 1) := by decide +kernel
theorem dX5_goOn_46 : decode cX5_goOn 46 = .ok (.aload_n 0, 1) := by decide +kernel
theorem dX5_goOn_47 : decode cX5_goOn 47 = .ok (.iload_n 1, 1) := by decide +kernel
theorem dX5_goOn_48 : decode cX5_goOn 48 = .ok (.iconst 0, 1) := by decide +kernel
theorem dX5_goOn_49 : decode cX5_goOn 49 = .ok (.iconst (-1), 1) := by decide +kernel
theorem dX5_goOn_50 : decode cX5_goOn 50 = .ok (.invokevirtual 97, 3) := by decide +kernel
theorem dX5_goOn_53 : decode cX5_goOn 53 = .ok (.aload_n 0, 1) := by decide +kernel
theorem dX5_goOn_54 : decode cX5_goOn 54 = .ok (.iload_n 1, 1) := by decide +kernel
theorem dX5_goOn_55 : decode cX5_goOn 55 = .ok (.iconst 1, 1) := by decide +kernel
theorem dX5_goOn_56 : decode cX5_goOn 56 = .ok (.iload_n 3, 1) := by decide +kernel
theorem dX5_goOn_57 : decode cX5_goOn 57 = .ok (.invokevirtual 97, 3) := by decide +kernel
theorem dX5_goOn_60 : decode cX5_goOn 60 = .ok (.aload_n 0, 1) := by decide +kernel
theorem dX5_goOn_61 : decode cX5_goOn 61 = .ok (.iload_n 1, 1) := by decide +kernel
theorem dX5_goOn_62 : decode cX5_goOn 62 = .ok (.iconst 2, 1) := by decide +kernel
theorem dX5_goOn_63 : decode cX5_goOn 63 = .ok (.aload_n 0, 1) := by decide +kernel
theorem dX5_goOn_64 : decode cX5_goOn 64 = .ok (.iload_n 3, 1) := by decide +kernel
theorem dX5_goOn_65 : decode cX5_goOn 65 = .ok (.invokevirtual 74, 3) := by decide +kernel
theorem dX5_goOn_68 : decode cX5_goOn 68 = .ok (.invokevirtual 97, 3) := by decide +kernel
theorem dX5_goOn_71 : decode cX5_goOn 71 = .ok (.aload_n 0, 1) := by decide +kernel
theorem dX5_goOn_72 : decode cX5_goOn 72 = .ok (.iload_n 1, 1) := by decide +kernel
theorem dX5_goOn_73 : decode cX5_goOn 73 = .ok (.iconst 5, 1) := by decide +kernel
theorem dX5_goOn_74 : decode cX5_goOn 74 = .ok (.aload_n 0, 1) := by decide +kernel
theorem dX5_goOn_75 : decode cX5_goOn 75 = .ok (.iload_n 3, 1) := by decide +kernel
theorem dX5_goOn_76 : decode cX5_goOn 76 = .ok (.iload_n 2, 1) := by decide +kernel
theorem dX5_goOn_77 : decode cX5_goOn 77 = .ok (.invokevirtual 87, 3) := by decide +kernel
theorem dX5_goOn_80 : decode cX5_goOn 80 = .ok (.invokevirtual 97, 3) := by decide +kernel
theorem dX5_goOn_83 : decode cX5_goOn 83 = .ok (.aload_n 0, 1) := by decide +kernel
theorem dX5_goOn_84 : decode cX5_goOn 84 = .ok (.iload_n 1, 1) := by decide +kernel
theorem dX5_goOn_85 : decode cX5_goOn 85 = .ok (.iconst 3, 1) := by decide +kernel
theorem dX5_goOn_86 : decode cX5_goOn 86 = .ok (.aload_n 0, 1) := by decide +kernel
theorem dX5_goOn_87 : decode cX5_goOn 87 = .ok (.iload_n 1, 1) := by decide +kernel
theorem dX5_goOn_88 : decode cX5_goOn 88 = .ok (.iconst 3, 1) := by decide +kernel
theorem dX5_goOn_89 : decode cX5_goOn 89 = .ok (.invokevirtual 67, 3) := by decide +kernel
theorem dX5_goOn_92 : decode cX5_goOn 92 = .ok (.aload_n 0, 1) := by decide +kernel
theorem dX5_goOn_93 : decode cX5_goOn 93 = .ok (.getfield 19, 3) := by decide +kernel
theorem dX5_goOn_96 : decode cX5_goOn 96 = .ok (.iload_n 3, 1) := by decide +kernel
theorem dX5_goOn_97 : decode cX5_goOn 97 = .ok (.iaload, 1) := by decide +kernel
theorem dX5_goOn_98 : decode cX5_goOn 98 = .ok (.invokestatic 100, 3) := by decide +kernel
theorem dX5_goOn_101 : decode cX5_goOn 101 = .ok (.invokevirtual 97, 3) := by decide +kernel
theorem dX5_goOn_104 : decode cX5_goOn 104 = .ok (.aload_n 0, 1) := by decide +kernel
theorem dX5_goOn_105 : decode cX5_goOn 105 = .ok (.iload_n 3, 1) := by decide +kernel
theorem dX5_goOn_106 : decode cX5_goOn 106 = .ok (.iconst 1, 1) := by decide +kernel
theorem dX5_goOn_107 : decode cX5_goOn 107 = .ok (.aload_n 0, 1) := by decide +kernel
theorem dX5_goOn_108 : decode cX5_goOn 108 = .ok (.iload_n 3, 1) := by decide +kernel
theorem dX5_goOn_109 : decode cX5_goOn 109 = .ok (.iconst 1, 1) := by decide +kernel
theorem dX5_goOn_110 : decode cX5_goOn 110 = .ok (.invokevirtual 63, 3) := by decide +kernel
theorem dX5_goOn_113 : decode cX5_goOn 113 = .ok (.iconst 1, 1) := by decide +kernel
theorem dX5_goOn_114 : decode cX5_goOn 114 = .ok (.iadd, 1) := by decide +kernel
theorem dX5_goOn_115 : decode cX5_goOn 115 = .ok (.invokevirtual 90, 3) := by decide +kernel
theorem dX5_goOn_118 : decode cX5_goOn 118 = .ok (.aload_n 0, 1) := by decide +kernel
theorem dX5_goOn_119 : decode cX5_goOn 119 = .ok (.iload_n 1, 1) := by decide +kernel
theorem dX5_goOn_120 : decode cX5_goOn 120 = .ok (.iconst 2, 1) := by decide +kernel
theorem dX5_goOn_121 : decode cX5_goOn 121 = .ok (.aload_n 0, 1) := by decide +kernel
theorem dX5_goOn_122 : decode cX5_goOn 122 = .ok (.iload_n 1, 1) := by decide +kernel
theorem dX5_goOn_123 : decode cX5_goOn 123 = .ok (.iconst 2, 1) := by decide +kernel
theorem dX5_goOn_124 : decode cX5_goOn 124 = .ok (.invokevirtual 67, 3) := by decide +kernel
theorem dX5_goOn_127 : decode cX5_goOn 127 = .ok (.iconst 1, 1) := by decide +kernel
theorem dX5_goOn_128 : decode cX5_goOn 128 = .ok (.isub, 1) := by decide +kernel
theorem dX5_goOn_129 : decode cX5_goOn 129 = .ok (.invokevirtual 97, 3) := by decide +kernel
theorem dX5_goOn_132 : decode cX5_goOn 132 = .ok (.aload_n 0, 1) := by decide +kernel
theorem dX5_goOn_133 : decode cX5_goOn 133 = .ok (.iload_n 1, 1) := by decide +kernel
theorem dX5_goOn_134 : decode cX5_goOn 134 = .ok (.iconst 2, 1) := by decide +kernel
theorem dX5_goOn_135 : decode cX5_goOn 135 = .ok (.invokevirtual 67, 3) := by decide +kernel
theorem dX5_goOn_138 : decode cX5_goOn 138 = .ok (.ifCond .le 4, 3) := by decide +kernel
theorem dX5_goOn_141 : decode cX5_goOn 141 = .ok (.return_, 1) := by decide +kernel
theorem dX5_goOn_142 : decode cX5_goOn 142 = .ok (.aload_n 0, 1) := by decide +kernel
theorem dX5_goOn_143 : decode cX5_goOn 143 = .ok (.iload_n 1, 1) := by decide +kernel
theorem dX5_goOn_144 : decode cX5_goOn 144 = .ok (.iconst 0, 1) := by decide +kernel
theorem dX5_goOn_145 : decode cX5_goOn 145 = .ok (.aload_n 0, 1) := by decide +kernel
theorem dX5_goOn_146 : decode cX5_goOn 146 = .ok (.iload_n 1, 1) := by decide +kernel
theorem dX5_goOn_147 : decode cX5_goOn 147 = .ok (.iconst 5, 1) := by decide +kernel
theorem dX5_goOn_148 : decode cX5_goOn 148 = .ok (.invokevirtual 67, 3) := by decide +kernel
theorem dX5_goOn_151 : decode cX5_goOn 151 = .ok (.invokevirtual 97, 3) := by decide +kernel
theorem dX5_goOn_154 : decode cX5_goOn 154 = .ok (.aload_n 0, 1) := by decide +kernel
theorem dX5_goOn_155 : decode cX5_goOn 155 = .ok (.iload_n 1, 1) := by decide +kernel
theorem dX5_goOn_156 : decode cX5_goOn 156 = .ok (.iconst 1, 1) := by decide +kernel
theorem dX5_goOn_157 : decode cX5_goOn 157 = .ok (.iconst (-1), 1) := by decide +kernel
theorem dX5_goOn_158 : decode cX5_goOn 158 = .ok (.invokevirtual 97, 3) := by decide +kernel
theorem dX5_goOn_161 : decode cX5_goOn 161 = .ok (.aload_n 0, 1) := by decide +kernel
theorem dX5_goOn_162 : decode cX5_goOn 162 = .ok (.iload_n 1, 1) := by decide +kernel
theorem dX5_goOn_163 : decode cX5_goOn 163 = .ok (.iconst 5, 1) := by decide +kernel
theorem dX5_goOn_164 : decode cX5_goOn 164 = .ok (.invokevirtual 67, 3) := by decide +kernel
theorem dX5_goOn_167 : decode cX5_goOn 167 = .ok (.aload_n 0, 1) := by decide +kernel
theorem dX5_goOn_168 : decode cX5_goOn 168 = .ok (.getfield 22, 3) := by decide +kernel
theorem dX5_goOn_171 : decode cX5_goOn 171 = .ok (.iload_n 1, 1) := by decide +kernel
theorem dX5_goOn_172 : decode cX5_goOn 172 = .ok (.iaload, 1) := by decide +kernel
theorem dX5_goOn_173 : decode cX5_goOn 173 = .ok (.if_icmp .ne 17, 3) := by decide +kernel
theorem dX5_goOn_176 : decode cX5_goOn 176 = .ok (.aload_n 0, 1) := by decide +kernel
theorem dX5_goOn_177 : decode cX5_goOn 177 = .ok (.iload_n 1, 1) := by decide +kernel
theorem dX5_goOn_178 : decode cX5_goOn 178 = .ok (.iconst 4, 1) := by decide +kernel
theorem dX5_goOn_179 : decode cX5_goOn 179 = .ok (.aload_n 0, 1) := by decide +kernel
theorem dX5_goOn_180 : decode cX5_goOn 180 = .ok (.getfield 31, 3) := by decide +kernel
theorem dX5_goOn_183 : decode cX5_goOn 183 = .ok (.iconst 0, 1) := by decide +kernel
theorem dX5_goOn_184 : decode cX5_goOn 184 = .ok (.iaload, 1) := by decide +kernel
theorem dX5_goOn_185 : decode cX5_goOn 185 = .ok (.iconst 1, 1) := by decide +kernel
theorem dX5_goOn_186 : decode cX5_goOn 186 = .ok (.iadd, 1) := by decide +kernel
theorem dX5_goOn_187 : decode cX5_goOn 187 = .ok (.invokevirtual 97, 3) := by decide +kernel
theorem dX5_goOn_190 : decode cX5_goOn 190 = .ok (.return_, 1) := by decide +kernel
theorem dX5_hourOn_0 : decode cX5_hourOn 0 = .ok (.iconst 0, 1) := by decide +kernel
theorem dX5_hourOn_1 : decode cX5_hourOn 1 = .ok (.istore_n 1, 1) := by decide +kernel
theorem dX5_hourOn_2 : decode cX5_hourOn 2 = .ok (.iload_n 1, 1) := by decide +kernel
theorem dX5_hourOn_3 : decode cX5_hourOn 3 = .ok (.aload_n 0, 1) := by decide +kernel
theorem dX5_hourOn_4 : decode cX5_hourOn 4 = .ok (.getfield 51, 3) := by decide +kernel
theorem dX5_hourOn_7 : decode cX5_hourOn 7 = .ok (.if_icmp .ge 14, 3) := by decide +kernel
theorem dX5_hourOn_10 : decode cX5_hourOn 10 = .ok (.aload_n 0, 1) := by decide +kernel
theorem dX5_hourOn_11 : decode cX5_hourOn 11 = .ok (.iload_n 1, 1) := by decide +kernel
theorem dX5_hourOn_12 : decode cX5_hourOn 12 = .ok (.invokevirtual 103, 3) := by decide +kernel
theorem dX5_hourOn_15 : decode cX5_hourOn 15 = .ok (.iinc 1 1, 3) := by decide +kernel
theorem dX5_hourOn_18 : decode cX5_hourOn 18 = .ok (.goto (-16), 3) := by decide +kernel
theorem dX5_hourOn_21 : decode cX5_hourOn 21 = .ok (.iconst 0, 1) := by decide +kernel
theorem dX5_hourOn_22 : decode cX5_hourOn 22 = .ok (.istore_n 1, 1) := by decide +kernel
theorem dX5_hourOn_23 : decode cX5_hourOn 23 = .ok (.iload_n 1, 1) := by decide +kernel
theorem dX5_hourOn_24 : decode cX5_hourOn 24 = .ok (.aload_n 0, 1) := by decide +kernel
theorem dX5_hourOn_25 : decode cX5_hourOn 25 = .ok (.getfield 54, 3) := by decide +kernel
theorem dX5_hourOn_28 : decode cX5_hourOn 28 = .ok (.if_icmp .ge 14, 3) := by decide +kernel
theorem dX5_hourOn_31 : decode cX5_hourOn 31 = .ok (.aload_n 0, 1) := by decide +kernel
theorem dX5_hourOn_32 : decode cX5_hourOn 32 = .ok (.iload_n 1, 1) := by decide +kernel
theorem dX5_hourOn_33 : decode cX5_hourOn 33 = .ok (.invokevirtual 107, 3) := by decide +kernel
theorem dX5_hourOn_36 : decode cX5_hourOn 36 = .ok (.iinc 1 1, 3) := by decide +kernel
theorem dX5_hourOn_39 : decode cX5_hourOn 39 = .ok (.goto (-16), 3) := by decide +kernel
theorem dX5_hourOn_42 : decode cX5_hourOn 42 = .ok (.iconst 0, 1) := by decide +kernel
theorem dX5_hourOn_43 : decode cX5_hourOn 43 = .ok (.istore_n 1, 1) := by decide +kernel
theorem dX5_hourOn_44 : decode cX5_hourOn 44 = .ok (.iload_n 1, 1) := by decide +kernel
theorem dX5_hourOn_45 : decode cX5_hourOn 45 = .ok (.aload_n 0, 1) := by decide +kernel
theorem dX5_hourOn_46 : decode cX5_hourOn 46 = .ok (.getfield 51, 3) := by decide +kernel
theorem dX5_hourOn_49 : decode cX5_hourOn 49 = .ok (.if_icmp .ge 42, 3) := by decide +kernel
theorem dX5_hourOn_52 : decode cX5_hourOn 52 = .ok (.aload_n 0, 1) := by decide +kernel
theorem dX5_hourOn_53 : decode cX5_hourOn 53 = .ok (.iload_n 1, 1) := by decide +kernel
theorem dX5_hourOn_54 : decode cX5_hourOn 54 = .ok (.invokevirtual 70, 3) := by decide +kernel
theorem dX5_hourOn_57 : decode cX5_hourOn 57 = .ok (.ifCond .eq 28, 3) := by decide +kernel
theorem dX5_hourOn_60 : decode cX5_hourOn 60 = .ok (.aload_n 0, 1) := by decide +kernel
theorem dX5_hourOn_61 : decode cX5_hourOn 61 = .ok (.iload_n 1, 1) := by decide +kernel
theorem dX5_hourOn_62 : decode cX5_hourOn 62 = .ok (.iconst 1, 1) := by decide +kernel
theorem dX5_hourOn_63 : decode cX5_hourOn 63 = .ok (.invokevirtual 63, 3) := by decide +kernel
theorem dX5_hourOn_66 : decode cX5_hourOn 66 = .ok (.iconst 5, 1) := by decide +kernel
theorem dX5_hourOn_67 : decode cX5_hourOn 67 = .ok (.if_icmp .lt 18, 3) := by decide +kernel
theorem dX5_hourOn_70 : decode cX5_hourOn 70 = .ok (.aload_n 0, 1) := by decide +kernel
theorem dX5_hourOn_71 : decode cX5_hourOn 71 = .ok (.iload_n 1, 1) := by decide +kernel
theorem dX5_hourOn_72 : decode cX5_hourOn 72 = .ok (.invokevirtual 110, 3) := by decide +kernel
theorem dX5_hourOn_75 : decode cX5_hourOn 75 = .ok (.ifCond .ne 10, 3) := by decide +kernel
theorem dX5_hourOn_78 : decode cX5_hourOn 78 = .ok (.aload_n 0, 1) := by decide +kernel
theorem dX5_hourOn_79 : decode cX5_hourOn 79 = .ok (.iload_n 1, 1) := by decide +kernel
theorem dX5_hourOn_80 : decode cX5_hourOn 80 = .ok (.iconst 0, 1) := by decide +kernel
theorem dX5_hourOn_81 : decode cX5_hourOn 81 = .ok (.iconst 4, 1) := by decide +kernel
theorem dX5_hourOn_82 : decode cX5_hourOn 82 = .ok (.invokevirtual 90, 3) := by decide +kernel
theorem dX5_hourOn_85 : decode cX5_hourOn 85 = .ok (.iinc 1 1, 3) := by decide +kernel
theorem dX5_hourOn_88 : decode cX5_hourOn 88 = .ok (.goto (-44), 3) := by decide +kernel
theorem dX5_hourOn_91 : decode cX5_hourOn 91 = .ok (.aload_n 0, 1) := by decide +kernel
theorem dX5_hourOn_92 : decode cX5_hourOn 92 = .ok (.getfield 31, 3) := by decide +kernel
theorem dX5_hourOn_95 : decode cX5_hourOn 95 = .ok (.iconst 0, 1) := by decide +kernel
theorem dX5_hourOn_96 : decode cX5_hourOn 96 = .ok (.dup2, 1) := by decide +kernel
theorem dX5_hourOn_97 : decode cX5_hourOn 97 = .ok (.iaload, 1) := by decide +kernel
theorem dX5_hourOn_98 : decode cX5_hourOn 98 = .ok (.iconst 1, 1) := by decide +kernel
theorem dX5_hourOn_99 : decode cX5_hourOn 99 = .ok (.iadd, 1) := by decide +kernel
theorem dX5_hourOn_100 : decode cX5_hourOn 100 = .ok (.iastore, 1) := by decide +kernel
theorem dX5_hourOn_101 : decode cX5_hourOn 101 = .ok (.return_, 1) := by decide +kernel
theorem dX5_hoursOn_0 : decode cX5_hoursOn 0 = .ok (.iconst 0, 1) := by decide +kernel
theorem dX5_hoursOn_1 : decode cX5_hoursOn 1 = .ok (.istore_n 2, 1) := by decide +kernel
theorem dX5_hoursOn_2 : decode cX5_hoursOn 2 = .ok (.iload_n 2, 1) := by decide +kernel
theorem dX5_hoursOn_3 : decode cX5_hoursOn 3 = .ok (.iload_n 1, 1) := by decide +kernel
theorem dX5_hoursOn_4 : decode cX5_hoursOn 4 = .ok (.if_icmp .ge 13, 3) := by decide +kernel
theorem dX5_hoursOn_7 : decode cX5_hoursOn 7 = .ok (.aload_n 0, 1) := by decide +kernel
theorem dX5_hoursOn_8 : decode cX5_hoursOn 8 = .ok (.invokevirtual 113, 3) := by decide +kernel
theorem dX5_hoursOn_11 : decode cX5_hoursOn 11 = .ok (.iinc 2 1, 3) := by decide +kernel
theorem dX5_hoursOn_14 : decode cX5_hoursOn 14 = .ok (.goto (-12), 3) := by decide +kernel
theorem dX5_hoursOn_17 : decode cX5_hoursOn 17 = .ok (.return_, 1) := by decide +kernel
theorem dX5_addCrossing_0 : decode cX5_addCrossing 0 = .ok (.aload_n 0, 1) := by decide +kernel
theorem dX5_addCrossing_1 : decode cX5_addCrossing 1 = .ok (.iconst 0, 1) := by decide +kernel
theorem dX5_addCrossing_2 : decode cX5_addCrossing 2 = .ok (.putfield 40, 3) := by decide +kernel
theorem dX5_addCrossing_5 : decode cX5_addCrossing 5 = .ok (.aload_n 0, 1) := by decide +kernel
theorem dX5_addCrossing_6 : decode cX5_addCrossing 6 = .ok (.getfield 44, 3) := by decide +kernel
theorem dX5_addCrossing_9 : decode cX5_addCrossing 9 = .ok (.bipush 10, 2) := by decide +kernel
theorem dX5_addCrossing_11 : decode cX5_addCrossing 11 = .ok (.if_icmp .ne 9, 3) := by decide +kernel
theorem dX5_addCrossing_14 : decode cX5_addCrossing 14 = .ok (.aload_n 0, 1) := by decide +kernel
theorem dX5_addCrossing_15 : decode cX5_addCrossing 15 = .ok (.iconst 1, 1) := by decide +kernel
theorem dX5_addCrossing_16 : decode cX5_addCrossing 16 = .ok (.invokevirtual 116, 3) := by decide +kernel
theorem dX5_addCrossing_19 : decode cX5_addCrossing 19 = .ok (.ireturn, 1) := by decide +kernel
theorem dX5_addCrossing_20 : decode cX5_addCrossing 20 = .ok (.aload_n 0, 1) := by decide +kernel
theorem dX5_addCrossing_21 : decode cX5_addCrossing 21 = .ok (.dup, 1) := by decide +kernel
theorem dX5_addCrossing_22 : decode cX5_addCrossing 22 = .ok (.getfield 44, 3) := by decide +kernel
theorem dX5_addCrossing_25 : decode cX5_addCrossing 25 = .ok (.iconst 1, 1) := by decide +kernel
theorem dX5_addCrossing_26 : decode cX5_addCrossing 26 = .ok (.iadd, 1) := by decide +kernel
theorem dX5_addCrossing_27 : decode cX5_addCrossing 27 = .ok (.putfield 44, 3) := by decide +kernel
theorem dX5_addCrossing_30 : decode cX5_addCrossing 30 = .ok (.aload_n 0, 1) := by decide +kernel
theorem dX5_addCrossing_31 : decode cX5_addCrossing 31 = .ok (.getfield 44, 3) := by decide +kernel
theorem dX5_addCrossing_34 : decode cX5_addCrossing 34 = .ok (.iconst 1, 1) := by decide +kernel
theorem dX5_addCrossing_35 : decode cX5_addCrossing 35 = .ok (.isub, 1) := by decide +kernel
theorem dX5_addCrossing_36 : decode cX5_addCrossing 36 = .ok (.ireturn, 1) := by decide +kernel
theorem dX5_addRoad_0 : decode cX5_addRoad 0 = .ok (.aload_n 0, 1) := by decide +kernel
theorem dX5_addRoad_1 : decode cX5_addRoad 1 = .ok (.iconst 0, 1) := by decide +kernel
theorem dX5_addRoad_2 : decode cX5_addRoad 2 = .ok (.putfield 40, 3) := by decide +kernel
theorem dX5_addRoad_5 : decode cX5_addRoad 5 = .ok (.aload_n 0, 1) := by decide +kernel
theorem dX5_addRoad_6 : decode cX5_addRoad 6 = .ok (.iload_n 1, 1) := by decide +kernel
theorem dX5_addRoad_7 : decode cX5_addRoad 7 = .ok (.invokevirtual 119, 3) := by decide +kernel
theorem dX5_addRoad_10 : decode cX5_addRoad 10 = .ok (.ifCond .eq 11, 3) := by decide +kernel
theorem dX5_addRoad_13 : decode cX5_addRoad 13 = .ok (.aload_n 0, 1) := by decide +kernel
theorem dX5_addRoad_14 : decode cX5_addRoad 14 = .ok (.iload_n 2, 1) := by decide +kernel
theorem dX5_addRoad_15 : decode cX5_addRoad 15 = .ok (.invokevirtual 119, 3) := by decide +kernel
theorem dX5_addRoad_18 : decode cX5_addRoad 18 = .ok (.ifCond .ne 9, 3) := by decide +kernel
theorem dX5_addRoad_21 : decode cX5_addRoad 21 = .ok (.aload_n 0, 1) := by decide +kernel
theorem dX5_addRoad_22 : decode cX5_addRoad 22 = .ok (.iconst 1, 1) := by decide +kernel
theorem dX5_addRoad_23 : decode cX5_addRoad 23 = .ok (.invokevirtual 116, 3) := by decide +kernel
theorem dX5_addRoad_26 : decode cX5_addRoad 26 = .ok (.ireturn, 1) := by decide +kernel
theorem dX5_addRoad_27 : decode cX5_addRoad 27 = .ok (.iload_n 1, 1) := by decide +kernel
theorem dX5_addRoad_28 : decode cX5_addRoad 28 = .ok (.iload_n 2, 1) := by decide +kernel
theorem dX5_addRoad_29 : decode cX5_addRoad 29 = .ok (.if_icmp .eq 23, 3) := by decide +kernel
theorem dX5_addRoad_32 : decode cX5_addRoad 32 = .ok (.iload_n 3, 1) := by decide +kernel
theorem dX5_addRoad_33 : decode cX5_addRoad 33 = .ok (.iconst 1, 1) := by decide +kernel
theorem dX5_addRoad_34 : decode cX5_addRoad 34 = .ok (.bipush 9, 2) := by decide +kernel
theorem dX5_addRoad_36 : decode cX5_addRoad 36 = .ok (.invokestatic 47, 3) := by decide +kernel
theorem dX5_addRoad_39 : decode cX5_addRoad 39 = .ok (.ifCond .eq 13, 3) := by decide +kernel
theorem dX5_addRoad_42 : decode cX5_addRoad 42 = .ok (.iload 4, 2) := by decide +kernel
theorem dX5_addRoad_44 : decode cX5_addRoad 44 = .ok (.iconst 0, 1) := by decide +kernel
theorem dX5_addRoad_45 : decode cX5_addRoad 45 = .ok (.iconst 3, 1) := by decide +kernel
theorem dX5_addRoad_46 : decode cX5_addRoad 46 = .ok (.invokestatic 47, 3) := by decide +kernel
theorem dX5_addRoad_49 : decode cX5_addRoad 49 = .ok (.ifCond .ne 9, 3) := by decide +kernel
theorem dX5_addRoad_52 : decode cX5_addRoad 52 = .ok (.aload_n 0, 1) := by decide +kernel
theorem dX5_addRoad_53 : decode cX5_addRoad 53 = .ok (.iconst 2, 1) := by decide +kernel
theorem dX5_addRoad_54 : decode cX5_addRoad 54 = .ok (.invokevirtual 116, 3) := by decide +kernel
theorem dX5_addRoad_57 : decode cX5_addRoad 57 = .ok (.ireturn, 1) := by decide +kernel
theorem dX5_addRoad_58 : decode cX5_addRoad 58 = .ok (.aload_n 0, 1) := by decide +kernel
theorem dX5_addRoad_59 : decode cX5_addRoad 59 = .ok (.getfield 51, 3) := by decide +kernel
theorem dX5_addRoad_62 : decode cX5_addRoad 62 = .ok (.bipush 20, 2) := by decide +kernel
theorem dX5_addRoad_64 : decode cX5_addRoad 64 = .ok (.if_icmp .ne 9, 3) := by decide +kernel
theorem dX5_addRoad_67 : decode cX5_addRoad 67 = .ok (.aload_n 0, 1) := by decide +kernel
theorem dX5_addRoad_68 : decode cX5_addRoad 68 = .ok (.iconst 3, 1) := by decide +kernel
theorem dX5_addRoad_69 : decode cX5_addRoad 69 = .ok (.invokevirtual 116, 3) := by decide +kernel
theorem dX5_addRoad_72 : decode cX5_addRoad 72 = .ok (.ireturn, 1) := by decide +kernel
theorem dX5_addRoad_73 : decode cX5_addRoad 73 = .ok (.aload_n 0, 1) := by decide +kernel
theorem dX5_addRoad_74 : decode cX5_addRoad 74 = .ok (.getfield 9, 3) := by decide +kernel
theorem dX5_addRoad_77 : decode cX5_addRoad 77 = .ok (.aload_n 0, 1) := by decide +kernel
theorem dX5_addRoad_78 : decode cX5_addRoad 78 = .ok (.getfield 51, 3) := by decide +kernel
theorem dX5_addRoad_81 : decode cX5_addRoad 81 = .ok (.iload_n 1, 1) := by decide +kernel
theorem dX5_addRoad_82 : decode cX5_addRoad 82 = .ok (.iastore, 1) := by decide +kernel
theorem dX5_addRoad_83 : decode cX5_addRoad 83 = .ok (.aload_n 0, 1) := by decide +kernel
theorem dX5_addRoad_84 : decode cX5_addRoad 84 = .ok (.getfield 13, 3) := by decide +kernel
theorem dX5_addRoad_87 : decode cX5_addRoad 87 = .ok (.aload_n 0, 1) := by decide +kernel
theorem dX5_addRoad_88 : decode cX5_addRoad 88 = .ok (.getfield 51, 3) := by decide +kernel
theorem dX5_addRoad_91 : decode cX5_addRoad 91 = .ok (.iload_n 2, 1) := by decide +kernel
theorem dX5_addRoad_92 : decode cX5_addRoad 92 = .ok (.iastore, 1) := by decide +kernel
theorem dX5_addRoad_93 : decode cX5_addRoad 93 = .ok (.aload_n 0, 1) := by decide +kernel
theorem dX5_addRoad_94 : decode cX5_addRoad 94 = .ok (.getfield 16, 3) := by decide +kernel
theorem dX5_addRoad_97 : decode cX5_addRoad 97 = .ok (.aload_n 0, 1) := by decide +kernel
theorem dX5_addRoad_98 : decode cX5_addRoad 98 = .ok (.getfield 51, 3) := by decide +kernel
theorem dX5_addRoad_101 : decode cX5_addRoad 101 = .ok (.iload_n 3, 1) := by decide +kernel
theorem dX5_addRoad_102 : decode cX5_addRoad 102 = .ok (.iastore, 1) := by decide +kernel
theorem dX5_addRoad_103 : decode cX5_addRoad 103 = .ok (.aload_n 0, 1) := by decide +kernel
theorem dX5_addRoad_104 : decode cX5_addRoad 104 = .ok (.getfield 19, 3) := by decide +kernel
theorem dX5_addRoad_107 : decode cX5_addRoad 107 = .ok (.aload_n 0, 1) := by decide +kernel
theorem dX5_addRoad_108 : decode cX5_addRoad 108 = .ok (.getfield 51, 3) := by decide +kernel
theorem dX5_addRoad_111 : decode cX5_addRoad 111 = .ok (.iload 4, 2) := by decide +kernel
theorem dX5_addRoad_113 : decode cX5_addRoad 113 = .ok (.iastore, 1) := by decide +kernel
theorem dX5_addRoad_114 : decode cX5_addRoad 114 = .ok (.aload_n 0, 1) := by decide +kernel
theorem dX5_addRoad_115 : decode cX5_addRoad 115 = .ok (.dup, 1) := by decide +kernel
theorem dX5_addRoad_116 : decode cX5_addRoad 116 = .ok (.getfield 51, 3) := by decide +kernel
theorem dX5_addRoad_119 : decode cX5_addRoad 119 = .ok (.iconst 1, 1) := by decide +kernel
theorem dX5_addRoad_120 : decode cX5_addRoad 120 = .ok (.iadd, 1) := by decide +kernel
theorem dX5_addRoad_121 : decode cX5_addRoad 121 = .ok (.putfield 51, 3) := by decide +kernel
theorem dX5_addRoad_124 : decode cX5_addRoad 124 = .ok (.aload_n 0, 1) := by decide +kernel
theorem dX5_addRoad_125 : decode cX5_addRoad 125 = .ok (.getfield 51, 3) := by decide +kernel
theorem dX5_addRoad_128 : decode cX5_addRoad 128 = .ok (.iconst 1, 1) := by decide +kernel
theorem dX5_addRoad_129 : decode cX5_addRoad 129 = .ok (.isub, 1) := by decide +kernel
theorem dX5_addRoad_130 : decode cX5_addRoad 130 = .ok (.ireturn, 1) := by decide +kernel
theorem dX5_addTourist_0 : decode cX5_addTourist 0 = .ok (.aload_n 0, 1) := by decide +kernel
theorem dX5_addTourist_1 : decode cX5_addTourist 1 = .ok (.iconst 0, 1) := by decide +kernel
theorem dX5_addTourist_2 : decode cX5_addTourist 2 = .ok (.putfield 40, 3) := by decide +kernel
theorem dX5_addTourist_5 : decode cX5_addTourist 5 = .ok (.aload_n 0, 1) := by decide +kernel
theorem dX5_addTourist_6 : decode cX5_addTourist 6 = .ok (.iload_n 1, 1) := by decide +kernel
theorem dX5_addTourist_7 : decode cX5_addTourist 7 = .ok (.invokevirtual 119, 3) := by decide +kernel
theorem dX5_addTourist_10 : decode cX5_addTourist 10 = .ok (.ifCond .eq 11, 3) := by decide +kernel
theorem dX5_addTourist_13 : decode cX5_addTourist 13 = .ok (.aload_n 0, 1) := by decide +kernel
theorem dX5_addTourist_14 : decode cX5_addTourist 14 = .ok (.iload_n 2, 1) := by decide +kernel
theorem dX5_addTourist_15 : decode cX5_addTourist 15 = .ok (.invokevirtual 119, 3) := by decide +kernel
theorem dX5_addTourist_18 : decode cX5_addTourist 18 = .ok (.ifCond .ne 9, 3) := by decide +kernel
theorem dX5_addTourist_21 : decode cX5_addTourist 21 = .ok (.aload_n 0, 1) := by decide +kernel
theorem dX5_addTourist_22 : decode cX5_addTourist 22 = .ok (.iconst 1, 1) := by decide +kernel
theorem dX5_addTourist_23 : decode cX5_addTourist 23 = .ok (.invokevirtual 116, 3) := by decide +kernel
theorem dX5_addTourist_26 : decode cX5_addTourist 26 = .ok (.ireturn, 1) := by decide +kernel
theorem dX5_addTourist_27 : decode cX5_addTourist 27 = .ok (.iload_n 1, 1) := by decide +kernel
theorem dX5_addTourist_28 : decode cX5_addTourist 28 = .ok (.iload_n 2, 1) := by decide +kernel
theorem dX5_addTourist_29 : decode cX5_addTourist 29 = .ok (.if_icmp .ne 9, 3) := by decide +kernel
theorem dX5_addTourist_32 : decode cX5_addTourist 32 = .ok (.aload_n 0, 1) := by decide +kernel
theorem dX5_addTourist_33 : decode cX5_addTourist 33 = .ok (.iconst 2, 1) := by decide +kernel
theorem dX5_addTourist_34 : decode cX5_addTourist 34 = .ok (.invokevirtual 116, 3) := by decide +kernel
theorem dX5_addTourist_37 : decode cX5_addTourist 37 = .ok (.ireturn, 1) := by decide +kernel
theorem dX5_addTourist_38 : decode cX5_addTourist 38 = .ok (.aload_n 0, 1) := by decide +kernel
theorem dX5_addTourist_39 : decode cX5_addTourist 39 = .ok (.iload_n 1, 1) := by decide +kernel
theorem dX5_addTourist_40 : decode cX5_addTourist 40 = .ok (.iload_n 2, 1) := by decide +kernel
theorem dX5_addTourist_41 : decode cX5_addTourist 41 = .ok (.iconst 1, 1) := by decide +kernel
theorem dX5_addTourist_42 : decode cX5_addTourist 42 = .ok (.invokevirtual 122, 3) := by decide +kernel
theorem dX5_addTourist_45 : decode cX5_addTourist 45 = .ok (.istore_n 3, 1) := by decide +kernel
theorem dX5_addTourist_46 : decode cX5_addTourist 46 = .ok (.aload_n 0, 1) := by decide +kernel
theorem dX5_addTourist_47 : decode cX5_addTourist 47 = .ok (.getfield 54, 3) := by decide +kernel
theorem dX5_addTourist_50 : decode cX5_addTourist 50 = .ok (.bipush 12, 2) := by decide +kernel
theorem dX5_addTourist_52 : decode cX5_addTourist 52 = .ok (.if_icmp .eq 8, 3) := by decide +kernel
theorem dX5_addTourist_55 : decode cX5_addTourist 55 = .ok (.iload_n 3, 1) := by decide +kernel
theorem dX5_addTourist_56 : decode cX5_addTourist 56 = .ok (.iconst (-1), 1) := by decide +kernel
theorem dX5_addTourist_57 : decode cX5_addTourist 57 = .ok (.if_icmp .ne 9, 3) := by decide +kernel
theorem dX5_addTourist_60 : decode cX5_addTourist 60 = .ok (.aload_n 0, 1) := by decide +kernel
theorem dX5_addTourist_61 : decode cX5_addTourist 61 = .ok (.iconst 3, 1) := by decide +kernel
theorem dX5_addTourist_62 : decode cX5_addTourist 62 = .ok (.invokevirtual 116, 3) := by decide +kernel
theorem dX5_addTourist_65 : decode cX5_addTourist 65 = .ok (.ireturn, 1) := by decide +kernel
theorem dX5_addTourist_66 : decode cX5_addTourist 66 = .ok (.aload_n 0, 1) := by decide +kernel
theorem dX5_addTourist_67 : decode cX5_addTourist 67 = .ok (.getfield 22, 3) := by decide +kernel
theorem dX5_addTourist_70 : decode cX5_addTourist 70 = .ok (.aload_n 0, 1) := by decide +kernel
theorem dX5_addTourist_71 : decode cX5_addTourist 71 = .ok (.getfield 54, 3) := by decide +kernel
theorem dX5_addTourist_74 : decode cX5_addTourist 74 = .ok (.iload_n 2, 1) := by decide +kernel
theorem dX5_addTourist_75 : decode cX5_addTourist 75 = .ok (.iastore, 1) := by decide +kernel
theorem dX5_addTourist_76 : decode cX5_addTourist 76 = .ok (.aload_n 0, 1) := by decide +kernel
theorem dX5_addTourist_77 : decode cX5_addTourist 77 = .ok (.getfield 25, 3) := by decide +kernel
theorem dX5_addTourist_80 : decode cX5_addTourist 80 = .ok (.aload_n 0, 1) := by decide +kernel
theorem dX5_addTourist_81 : decode cX5_addTourist 81 = .ok (.getfield 54, 3) := by decide +kernel
theorem dX5_addTourist_84 : decode cX5_addTourist 84 = .ok (.aload_n 0, 1) := by decide +kernel
theorem dX5_addTourist_85 : decode cX5_addTourist 85 = .ok (.getfield 31, 3) := by decide +kernel
theorem dX5_addTourist_88 : decode cX5_addTourist 88 = .ok (.iconst 0, 1) := by decide +kernel
theorem dX5_addTourist_89 : decode cX5_addTourist 89 = .ok (.iaload, 1) := by decide +kernel
theorem dX5_addTourist_90 : decode cX5_addTourist 90 = .ok (.iastore, 1) := by decide +kernel
theorem dX5_addTourist_91 : decode cX5_addTourist 91 = .ok (.aload_n 0, 1) := by decide +kernel
theorem dX5_addTourist_92 : decode cX5_addTourist 92 = .ok (.getfield 28, 3) := by decide +kernel
theorem dX5_addTourist_95 : decode cX5_addTourist 95 = .ok (.aload_n 0, 1) := by decide +kernel
theorem dX5_addTourist_96 : decode cX5_addTourist 96 = .ok (.getfield 54, 3) := by decide +kernel
theorem dX5_addTourist_99 : decode cX5_addTourist 99 = .ok (.iload_n 3, 1) := by decide +kernel
theorem dX5_addTourist_100 : decode cX5_addTourist 100 = .ok (.iastore, 1) := by decide +kernel
theorem dX5_addTourist_101 : decode cX5_addTourist 101 = .ok (.aload_n 0, 1) := by decide +kernel
theorem dX5_addTourist_102 : decode cX5_addTourist 102 = .ok (.aload_n 0, 1) := by decide +kernel
theorem dX5_addTourist_103 : decode cX5_addTourist 103 = .ok (.getfield 54, 3) := by decide +kernel
theorem dX5_addTourist_106 : decode cX5_addTourist 106 = .ok (.iconst 0, 1) := by decide +kernel
theorem dX5_addTourist_107 : decode cX5_addTourist 107 = .ok (.iload_n 1, 1) := by decide +kernel
theorem dX5_addTourist_108 : decode cX5_addTourist 108 = .ok (.invokevirtual 97, 3) := by decide +kernel
theorem dX5_addTourist_111 : decode cX5_addTourist 111 = .ok (.aload_n 0, 1) := by decide +kernel
theorem dX5_addTourist_112 : decode cX5_addTourist 112 = .ok (.aload_n 0, 1) := by decide +kernel
theorem dX5_addTourist_113 : decode cX5_addTourist 113 = .ok (.getfield 54, 3) := by decide +kernel
theorem dX5_addTourist_116 : decode cX5_addTourist 116 = .ok (.iconst 1, 1) := by decide +kernel
theorem dX5_addTourist_117 : decode cX5_addTourist 117 = .ok (.iconst (-1), 1) := by decide +kernel
theorem dX5_addTourist_118 : decode cX5_addTourist 118 = .ok (.invokevirtual 97, 3) := by decide +kernel
theorem dX5_addTourist_121 : decode cX5_addTourist 121 = .ok (.aload_n 0, 1) := by decide +kernel
theorem dX5_addTourist_122 : decode cX5_addTourist 122 = .ok (.aload_n 0, 1) := by decide +kernel
theorem dX5_addTourist_123 : decode cX5_addTourist 123 = .ok (.getfield 54, 3) := by decide +kernel
theorem dX5_addTourist_126 : decode cX5_addTourist 126 = .ok (.iconst 4, 1) := by decide +kernel
theorem dX5_addTourist_127 : decode cX5_addTourist 127 = .ok (.iconst (-1), 1) := by decide +kernel
theorem dX5_addTourist_128 : decode cX5_addTourist 128 = .ok (.invokevirtual 97, 3) := by decide +kernel
theorem dX5_addTourist_131 : decode cX5_addTourist 131 = .ok (.aload_n 0, 1) := by decide +kernel
theorem dX5_addTourist_132 : decode cX5_addTourist 132 = .ok (.dup, 1) := by decide +kernel
theorem dX5_addTourist_133 : decode cX5_addTourist 133 = .ok (.getfield 54, 3) := by decide +kernel
theorem dX5_addTourist_136 : decode cX5_addTourist 136 = .ok (.iconst 1, 1) := by decide +kernel
theorem dX5_addTourist_137 : decode cX5_addTourist 137 = .ok (.iadd, 1) := by decide +kernel
theorem dX5_addTourist_138 : decode cX5_addTourist 138 = .ok (.putfield 54, 3) := by decide +kernel
theorem dX5_addTourist_141 : decode cX5_addTourist 141 = .ok (.aload_n 0, 1) := by decide +kernel
theorem dX5_addTourist_142 : decode cX5_addTourist 142 = .ok (.getfield 54, 3) := by decide +kernel
theorem dX5_addTourist_145 : decode cX5_addTourist 145 = .ok (.iconst 1, 1) := by decide +kernel
theorem dX5_addTourist_146 : decode cX5_addTourist 146 = .ok (.isub, 1) := by decide +kernel
theorem dX5_addTourist_147 : decode cX5_addTourist 147 = .ok (.ireturn, 1) := by decide +kernel
theorem dX5_mend_0 : decode cX5_mend 0 = .ok (.aload_n 0, 1) := by decide +kernel
theorem dX5_mend_1 : decode cX5_mend 1 = .ok (.iconst 0, 1) := by decide +kernel
theorem dX5_mend_2 : decode cX5_mend 2 = .ok (.putfield 40, 3) := by decide +kernel
theorem dX5_mend_5 : decode cX5_mend 5 = .ok (.aload_n 0, 1) := by decide +kernel
theorem dX5_mend_6 : decode cX5_mend 6 = .ok (.iload_n 1, 1) := by decide +kernel
theorem dX5_mend_7 : decode cX5_mend 7 = .ok (.invokevirtual 126, 3) := by decide +kernel
theorem dX5_mend_10 : decode cX5_mend 10 = .ok (.ifCond .ne 9, 3) := by decide +kernel
theorem dX5_mend_13 : decode cX5_mend 13 = .ok (.aload_n 0, 1) := by decide +kernel
theorem dX5_mend_14 : decode cX5_mend 14 = .ok (.iconst 1, 1) := by decide +kernel
theorem dX5_mend_15 : decode cX5_mend 15 = .ok (.invokevirtual 116, 3) := by decide +kernel
theorem dX5_mend_18 : decode cX5_mend 18 = .ok (.ireturn, 1) := by decide +kernel
theorem dX5_mend_19 : decode cX5_mend 19 = .ok (.iload_n 2, 1) := by decide +kernel
theorem dX5_mend_20 : decode cX5_mend 20 = .ok (.iconst 1, 1) := by decide +kernel
theorem dX5_mend_21 : decode cX5_mend 21 = .ok (.bipush 20, 2) := by decide +kernel
theorem dX5_mend_23 : decode cX5_mend 23 = .ok (.invokestatic 47, 3) := by decide +kernel
theorem dX5_mend_26 : decode cX5_mend 26 = .ok (.ifCond .ne 9, 3) := by decide +kernel
theorem dX5_mend_29 : decode cX5_mend 29 = .ok (.aload_n 0, 1) := by decide +kernel
theorem dX5_mend_30 : decode cX5_mend 30 = .ok (.iconst 2, 1) := by decide +kernel
theorem dX5_mend_31 : decode cX5_mend 31 = .ok (.invokevirtual 116, 3) := by decide +kernel
theorem dX5_mend_34 : decode cX5_mend 34 = .ok (.ireturn, 1) := by decide +kernel
theorem dX5_mend_35 : decode cX5_mend 35 = .ok (.aload_n 0, 1) := by decide +kernel
theorem dX5_mend_36 : decode cX5_mend 36 = .ok (.iload_n 1, 1) := by decide +kernel
theorem dX5_mend_37 : decode cX5_mend 37 = .ok (.invokevirtual 70, 3) := by decide +kernel
theorem dX5_mend_40 : decode cX5_mend 40 = .ok (.ifCond .ne 9, 3) := by decide +kernel
theorem dX5_mend_43 : decode cX5_mend 43 = .ok (.aload_n 0, 1) := by decide +kernel
theorem dX5_mend_44 : decode cX5_mend 44 = .ok (.iconst 3, 1) := by decide +kernel
theorem dX5_mend_45 : decode cX5_mend 45 = .ok (.invokevirtual 116, 3) := by decide +kernel
theorem dX5_mend_48 : decode cX5_mend 48 = .ok (.ireturn, 1) := by decide +kernel
theorem dX5_mend_49 : decode cX5_mend 49 = .ok (.aload_n 0, 1) := by decide +kernel
theorem dX5_mend_50 : decode cX5_mend 50 = .ok (.iload_n 1, 1) := by decide +kernel
theorem dX5_mend_51 : decode cX5_mend 51 = .ok (.iconst 0, 1) := by decide +kernel
theorem dX5_mend_52 : decode cX5_mend 52 = .ok (.iload_n 2, 1) := by decide +kernel
theorem dX5_mend_53 : decode cX5_mend 53 = .ok (.invokevirtual 90, 3) := by decide +kernel
theorem dX5_mend_56 : decode cX5_mend 56 = .ok (.aload_n 0, 1) := by decide +kernel
theorem dX5_mend_57 : decode cX5_mend 57 = .ok (.iload_n 1, 1) := by decide +kernel
theorem dX5_mend_58 : decode cX5_mend 58 = .ok (.iconst 1, 1) := by decide +kernel
theorem dX5_mend_59 : decode cX5_mend 59 = .ok (.invokevirtual 63, 3) := by decide +kernel
theorem dX5_mend_62 : decode cX5_mend 62 = .ok (.ireturn, 1) := by decide +kernel
theorem dX5_cutKnots_0 : decode cX5_cutKnots 0 = .ok (.aload_n 0, 1) := by decide +kernel
theorem dX5_cutKnots_1 : decode cX5_cutKnots 1 = .ok (.iconst 0, 1) := by decide +kernel
theorem dX5_cutKnots_2 : decode cX5_cutKnots 2 = .ok (.putfield 40, 3) := by decide +kernel
theorem dX5_cutKnots_5 : decode cX5_cutKnots 5 = .ok (.aload_n 0, 1) := by decide +kernel
theorem dX5_cutKnots_6 : decode cX5_cutKnots 6 = .ok (.iload_n 1, 1) := by decide +kernel
theorem dX5_cutKnots_7 : decode cX5_cutKnots 7 = .ok (.invokevirtual 126, 3) := by decide +kernel
theorem dX5_cutKnots_10 : decode cX5_cutKnots 10 = .ok (.ifCond .ne 9, 3) := by decide +kernel
theorem dX5_cutKnots_13 : decode cX5_cutKnots 13 = .ok (.aload_n 0, 1) := by decide +kernel
theorem dX5_cutKnots_14 : decode cX5_cutKnots 14 = .ok (.iconst 1, 1) := by decide +kernel
theorem dX5_cutKnots_15 : decode cX5_cutKnots 15 = .ok (.invokevirtual 116, 3) := by decide +kernel
theorem dX5_cutKnots_18 : decode cX5_cutKnots 18 = .ok (.ireturn, 1) := by decide +kernel
theorem dX5_cutKnots_19 : decode cX5_cutKnots 19 = .ok (.aload_n 0, 1) := by decide +kernel
theorem dX5_cutKnots_20 : decode cX5_cutKnots 20 = .ok (.iload_n 1, 1) := by decide +kernel
theorem dX5_cutKnots_21 : decode cX5_cutKnots 21 = .ok (.invokevirtual 70, 3) := by decide +kernel
theorem dX5_cutKnots_24 : decode cX5_cutKnots 24 = .ok (.ifCond .eq 11, 3) := by decide +kernel
theorem dX5_cutKnots_27 : decode cX5_cutKnots 27 = .ok (.aload_n 0, 1) := by decide +kernel
theorem dX5_cutKnots_28 : decode cX5_cutKnots 28 = .ok (.iload_n 1, 1) := by decide +kernel
theorem dX5_cutKnots_29 : decode cX5_cutKnots 29 = .ok (.invokevirtual 110, 3) := by decide +kernel
theorem dX5_cutKnots_32 : decode cX5_cutKnots 32 = .ok (.ifCond .le 9, 3) := by decide +kernel
theorem dX5_cutKnots_35 : decode cX5_cutKnots 35 = .ok (.aload_n 0, 1) := by decide +kernel
theorem dX5_cutKnots_36 : decode cX5_cutKnots 36 = .ok (.iconst 2, 1) := by decide +kernel
theorem dX5_cutKnots_37 : decode cX5_cutKnots 37 = .ok (.invokevirtual 116, 3) := by decide +kernel
theorem dX5_cutKnots_40 : decode cX5_cutKnots 40 = .ok (.ireturn, 1) := by decide +kernel
theorem dX5_cutKnots_41 : decode cX5_cutKnots 41 = .ok (.aload_n 0, 1) := by decide +kernel
theorem dX5_cutKnots_42 : decode cX5_cutKnots 42 = .ok (.iload_n 1, 1) := by decide +kernel
theorem dX5_cutKnots_43 : decode cX5_cutKnots 43 = .ok (.iconst 2, 1) := by decide +kernel
theorem dX5_cutKnots_44 : decode cX5_cutKnots 44 = .ok (.invokevirtual 63, 3) := by decide +kernel
theorem dX5_cutKnots_47 : decode cX5_cutKnots 47 = .ok (.istore_n 2, 1) := by decide +kernel
theorem dX5_cutKnots_48 : decode cX5_cutKnots 48 = .ok (.aload_n 0, 1) := by decide +kernel
theorem dX5_cutKnots_49 : decode cX5_cutKnots 49 = .ok (.iload_n 1, 1) := by decide +kernel
theorem dX5_cutKnots_50 : decode cX5_cutKnots 50 = .ok (.iconst 2, 1) := by decide +kernel
theorem dX5_cutKnots_51 : decode cX5_cutKnots 51 = .ok (.iconst 0, 1) := by decide +kernel
theorem dX5_cutKnots_52 : decode cX5_cutKnots 52 = .ok (.invokevirtual 90, 3) := by decide +kernel
theorem dX5_cutKnots_55 : decode cX5_cutKnots 55 = .ok (.iload_n 2, 1) := by decide +kernel
theorem dX5_cutKnots_56 : decode cX5_cutKnots 56 = .ok (.ireturn, 1) := by decide +kernel
theorem dX5_came_0 : decode cX5_came 0 = .ok (.iconst 0, 1) := by decide +kernel
end
section
theorem dX5_came_1 : decode cX5_came 1 = .ok (.istore_n 1, 1) := by decide +kernel
theorem dX5_came_2 : decode cX5_came 2 = .ok (.iconst 0, 1) := by decide +kernel
theorem dX5_came_3 : decode cX5_came 3 = .ok (.istore_n 2, 1) := by decide +kernel
theorem dX5_came_4 : decode cX5_came 4 = .ok (.iload_n 2, 1) := by decide +kernel
theorem dX5_came_5 : decode cX5_came 5 = .ok (.aload_n 0, 1) := by decide +kernel
theorem dX5_came_6 : decode cX5_came 6 = .ok (.getfield 54, 3) := by decide +kernel
theorem dX5_came_9 : decode cX5_came 9 = .ok (.if_icmp .ge 27, 3) := by decide +kernel
theorem dX5_came_12 : decode cX5_came 12 = .ok (.iload_n 1, 1) := by decide +kernel
theorem dX5_came_13 : decode cX5_came 13 = .ok (.aload_n 0, 1) := by decide +kernel
theorem dX5_came_14 : decode cX5_came 14 = .ok (.iload_n 2, 1) := by decide +kernel
theorem dX5_came_15 : decode cX5_came 15 = .ok (.iconst 4, 1) := by decide +kernel
theorem dX5_came_16 : decode cX5_came 16 = .ok (.invokevirtual 67, 3) := by decide +kernel
theorem dX5_came_19 : decode cX5_came 19 = .ok (.iconst (-1), 1) := by decide +kernel
theorem dX5_came_20 : decode cX5_came 20 = .ok (.if_icmp .eq 7, 3) := by decide +kernel
theorem dX5_came_23 : decode cX5_came 23 = .ok (.iconst 1, 1) := by decide +kernel
theorem dX5_came_24 : decode cX5_came 24 = .ok (.goto 4, 3) := by decide +kernel
theorem dX5_came_27 : decode cX5_came 27 = .ok (.iconst 0, 1) := by decide +kernel
theorem dX5_came_28 : decode cX5_came 28 = .ok (.iadd, 1) := by decide +kernel
theorem dX5_came_29 : decode cX5_came 29 = .ok (.istore_n 1, 1) := by decide +kernel
theorem dX5_came_30 : decode cX5_came 30 = .ok (.iinc 2 1, 3) := by decide +kernel
theorem dX5_came_33 : decode cX5_came 33 = .ok (.goto (-29), 3) := by decide +kernel
theorem dX5_came_36 : decode cX5_came 36 = .ok (.iload_n 1, 1) := by decide +kernel
theorem dX5_came_37 : decode cX5_came 37 = .ok (.ireturn, 1) := by decide +kernel
theorem dX5_pass_0 : decode cX5_pass 0 = .ok (.aload_n 0, 1) := by decide +kernel
theorem dX5_pass_1 : decode cX5_pass 1 = .ok (.iconst 0, 1) := by decide +kernel
theorem dX5_pass_2 : decode cX5_pass 2 = .ok (.putfield 40, 3) := by decide +kernel
theorem dX5_pass_5 : decode cX5_pass 5 = .ok (.iload_n 1, 1) := by decide +kernel
theorem dX5_pass_6 : decode cX5_pass 6 = .ok (.iconst 1, 1) := by decide +kernel
theorem dX5_pass_7 : decode cX5_pass 7 = .ok (.bipush 50, 2) := by decide +kernel
theorem dX5_pass_9 : decode cX5_pass 9 = .ok (.invokestatic 47, 3) := by decide +kernel
theorem dX5_pass_12 : decode cX5_pass 12 = .ok (.ifCond .ne 9, 3) := by decide +kernel
theorem dX5_pass_15 : decode cX5_pass 15 = .ok (.aload_n 0, 1) := by decide +kernel
theorem dX5_pass_16 : decode cX5_pass 16 = .ok (.iconst 1, 1) := by decide +kernel
theorem dX5_pass_17 : decode cX5_pass 17 = .ok (.invokevirtual 116, 3) := by decide +kernel
theorem dX5_pass_20 : decode cX5_pass 20 = .ok (.ireturn, 1) := by decide +kernel
theorem dX5_pass_21 : decode cX5_pass 21 = .ok (.aload_n 0, 1) := by decide +kernel
theorem dX5_pass_22 : decode cX5_pass 22 = .ok (.invokevirtual 129, 3) := by decide +kernel
theorem dX5_pass_25 : decode cX5_pass 25 = .ok (.istore_n 2, 1) := by decide +kernel
theorem dX5_pass_26 : decode cX5_pass 26 = .ok (.aload_n 0, 1) := by decide +kernel
theorem dX5_pass_27 : decode cX5_pass 27 = .ok (.iload_n 1, 1) := by decide +kernel
theorem dX5_pass_28 : decode cX5_pass 28 = .ok (.invokevirtual 133, 3) := by decide +kernel
theorem dX5_pass_31 : decode cX5_pass 31 = .ok (.aload_n 0, 1) := by decide +kernel
theorem dX5_pass_32 : decode cX5_pass 32 = .ok (.invokevirtual 129, 3) := by decide +kernel
theorem dX5_pass_35 : decode cX5_pass 35 = .ok (.iload_n 2, 1) := by decide +kernel
theorem dX5_pass_36 : decode cX5_pass 36 = .ok (.isub, 1) := by decide +kernel
theorem dX5_pass_37 : decode cX5_pass 37 = .ok (.ireturn, 1) := by decide +kernel
theorem dX5_hour_0 : decode cX5_hour 0 = .ok (.aload_n 0, 1) := by decide +kernel
theorem dX5_hour_1 : decode cX5_hour 1 = .ok (.aload_n 0, 1) := by decide +kernel
theorem dX5_hour_2 : decode cX5_hour 2 = .ok (.getfield 31, 3) := by decide +kernel
theorem dX5_hour_5 : decode cX5_hour 5 = .ok (.iconst 0, 1) := by decide +kernel
theorem dX5_hour_6 : decode cX5_hour 6 = .ok (.iaload, 1) := by decide +kernel
theorem dX5_hour_7 : decode cX5_hour 7 = .ok (.invokevirtual 136, 3) := by decide +kernel
theorem dX5_hour_10 : decode cX5_hour 10 = .ok (.ireturn, 1) := by decide +kernel
theorem dX5_crossings_0 : decode cX5_crossings 0 = .ok (.aload_n 0, 1) := by decide +kernel
theorem dX5_crossings_1 : decode cX5_crossings 1 = .ok (.aload_n 0, 1) := by decide +kernel
theorem dX5_crossings_2 : decode cX5_crossings 2 = .ok (.getfield 44, 3) := by decide +kernel
theorem dX5_crossings_5 : decode cX5_crossings 5 = .ok (.invokevirtual 136, 3) := by decide +kernel
theorem dX5_crossings_8 : decode cX5_crossings 8 = .ok (.ireturn, 1) := by decide +kernel
theorem dX5_roads_0 : decode cX5_roads 0 = .ok (.aload_n 0, 1) := by decide +kernel
theorem dX5_roads_1 : decode cX5_roads 1 = .ok (.aload_n 0, 1) := by decide +kernel
theorem dX5_roads_2 : decode cX5_roads 2 = .ok (.getfield 51, 3) := by decide +kernel
theorem dX5_roads_5 : decode cX5_roads 5 = .ok (.invokevirtual 136, 3) := by decide +kernel
theorem dX5_roads_8 : decode cX5_roads 8 = .ok (.ireturn, 1) := by decide +kernel
theorem dX5_tourists_0 : decode cX5_tourists 0 = .ok (.aload_n 0, 1) := by decide +kernel
theorem dX5_tourists_1 : decode cX5_tourists 1 = .ok (.aload_n 0, 1) := by decide +kernel
theorem dX5_tourists_2 : decode cX5_tourists 2 = .ok (.getfield 54, 3) := by decide +kernel
theorem dX5_tourists_5 : decode cX5_tourists 5 = .ok (.invokevirtual 136, 3) := by decide +kernel
theorem dX5_tourists_8 : decode cX5_tourists 8 = .ok (.ireturn, 1) := by decide +kernel
theorem dX5_arrived_0 : decode cX5_arrived 0 = .ok (.aload_n 0, 1) := by decide +kernel
theorem dX5_arrived_1 : decode cX5_arrived 1 = .ok (.aload_n 0, 1) := by decide +kernel
theorem dX5_arrived_2 : decode cX5_arrived 2 = .ok (.invokevirtual 129, 3) := by decide +kernel
theorem dX5_arrived_5 : decode cX5_arrived 5 = .ok (.invokevirtual 136, 3) := by decide +kernel
theorem dX5_arrived_8 : decode cX5_arrived 8 = .ok (.ireturn, 1) := by decide +kernel
theorem dX5_shut_0 : decode cX5_shut 0 = .ok (.iconst 0, 1) := by decide +kernel
theorem dX5_shut_1 : decode cX5_shut 1 = .ok (.istore_n 1, 1) := by decide +kernel
theorem dX5_shut_2 : decode cX5_shut 2 = .ok (.iconst 0, 1) := by decide +kernel
theorem dX5_shut_3 : decode cX5_shut 3 = .ok (.istore_n 2, 1) := by decide +kernel
theorem dX5_shut_4 : decode cX5_shut 4 = .ok (.iload_n 2, 1) := by decide +kernel
theorem dX5_shut_5 : decode cX5_shut 5 = .ok (.aload_n 0, 1) := by decide +kernel
theorem dX5_shut_6 : decode cX5_shut 6 = .ok (.getfield 51, 3) := by decide +kernel
theorem dX5_shut_9 : decode cX5_shut 9 = .ok (.if_icmp .ge 25, 3) := by decide +kernel
theorem dX5_shut_12 : decode cX5_shut 12 = .ok (.iload_n 1, 1) := by decide +kernel
theorem dX5_shut_13 : decode cX5_shut 13 = .ok (.aload_n 0, 1) := by decide +kernel
theorem dX5_shut_14 : decode cX5_shut 14 = .ok (.iload_n 2, 1) := by decide +kernel
theorem dX5_shut_15 : decode cX5_shut 15 = .ok (.invokevirtual 70, 3) := by decide +kernel
theorem dX5_shut_18 : decode cX5_shut 18 = .ok (.ifCond .eq 7, 3) := by decide +kernel
theorem dX5_shut_21 : decode cX5_shut 21 = .ok (.iconst 0, 1) := by decide +kernel
theorem dX5_shut_22 : decode cX5_shut 22 = .ok (.goto 4, 3) := by decide +kernel
theorem dX5_shut_25 : decode cX5_shut 25 = .ok (.iconst 1, 1) := by decide +kernel
theorem dX5_shut_26 : decode cX5_shut 26 = .ok (.iadd, 1) := by decide +kernel
theorem dX5_shut_27 : decode cX5_shut 27 = .ok (.istore_n 1, 1) := by decide +kernel
theorem dX5_shut_28 : decode cX5_shut 28 = .ok (.iinc 2 1, 3) := by decide +kernel
theorem dX5_shut_31 : decode cX5_shut 31 = .ok (.goto (-27), 3) := by decide +kernel
theorem dX5_shut_34 : decode cX5_shut 34 = .ok (.iload_n 1, 1) := by decide +kernel
theorem dX5_shut_35 : decode cX5_shut 35 = .ok (.ireturn, 1) := by decide +kernel
theorem dX5_closedRoads_0 : decode cX5_closedRoads 0 = .ok (.aload_n 0, 1) := by decide +kernel
theorem dX5_closedRoads_1 : decode cX5_closedRoads 1 = .ok (.aload_n 0, 1) := by decide +kernel
theorem dX5_closedRoads_2 : decode cX5_closedRoads 2 = .ok (.invokevirtual 139, 3) := by decide +kernel
theorem dX5_closedRoads_5 : decode cX5_closedRoads 5 = .ok (.invokevirtual 136, 3) := by decide +kernel
theorem dX5_closedRoads_8 : decode cX5_closedRoads 8 = .ok (.ireturn, 1) := by decide +kernel
theorem dX5_fray_0 : decode cX5_fray 0 = .ok (.iconst 0, 1) := by decide +kernel
theorem dX5_fray_1 : decode cX5_fray 1 = .ok (.aload_n 0, 1) := by decide +kernel
theorem dX5_fray_2 : decode cX5_fray 2 = .ok (.iload_n 1, 1) := by decide +kernel
theorem dX5_fray_3 : decode cX5_fray 3 = .ok (.iconst 4, 1) := by decide +kernel
theorem dX5_fray_4 : decode cX5_fray 4 = .ok (.invokevirtual 67, 3) := by decide +kernel
theorem dX5_fray_7 : decode cX5_fray 7 = .ok (.iconst (-1), 1) := by decide +kernel
theorem dX5_fray_8 : decode cX5_fray 8 = .ok (.if_icmp .ne 12, 3) := by decide +kernel
theorem dX5_fray_11 : decode cX5_fray 11 = .ok (.aload_n 0, 1) := by decide +kernel
theorem dX5_fray_12 : decode cX5_fray 12 = .ok (.getfield 31, 3) := by decide +kernel
theorem dX5_fray_15 : decode cX5_fray 15 = .ok (.iconst 0, 1) := by decide +kernel
theorem dX5_fray_16 : decode cX5_fray 16 = .ok (.iaload, 1) := by decide +kernel
theorem dX5_fray_17 : decode cX5_fray 17 = .ok (.goto 9, 3) := by decide +kernel
theorem dX5_fray_20 : decode cX5_fray 20 = .ok (.aload_n 0, 1) := by decide +kernel
theorem dX5_fray_21 : decode cX5_fray 21 = .ok (.iload_n 1, 1) := by decide +kernel
theorem dX5_fray_22 : decode cX5_fray 22 = .ok (.iconst 4, 1) := by decide +kernel
theorem dX5_fray_23 : decode cX5_fray 23 = .ok (.invokevirtual 67, 3) := by decide +kernel
theorem dX5_fray_26 : decode cX5_fray 26 = .ok (.aload_n 0, 1) := by decide +kernel
theorem dX5_fray_27 : decode cX5_fray 27 = .ok (.getfield 25, 3) := by decide +kernel
theorem dX5_fray_30 : decode cX5_fray 30 = .ok (.iload_n 1, 1) := by decide +kernel
theorem dX5_fray_31 : decode cX5_fray 31 = .ok (.iaload, 1) := by decide +kernel
theorem dX5_fray_32 : decode cX5_fray 32 = .ok (.isub, 1) := by decide +kernel
theorem dX5_fray_33 : decode cX5_fray 33 = .ok (.aload_n 0, 1) := by decide +kernel
theorem dX5_fray_34 : decode cX5_fray 34 = .ok (.getfield 28, 3) := by decide +kernel
theorem dX5_fray_37 : decode cX5_fray 37 = .ok (.iload_n 1, 1) := by decide +kernel
theorem dX5_fray_38 : decode cX5_fray 38 = .ok (.iaload, 1) := by decide +kernel
theorem dX5_fray_39 : decode cX5_fray 39 = .ok (.isub, 1) := by decide +kernel
theorem dX5_fray_40 : decode cX5_fray 40 = .ok (.invokestatic 142, 3) := by decide +kernel
theorem dX5_fray_43 : decode cX5_fray 43 = .ok (.ireturn, 1) := by decide +kernel
theorem dX5_frays_0 : decode cX5_frays 0 = .ok (.iconst 0, 1) := by decide +kernel
theorem dX5_frays_1 : decode cX5_frays 1 = .ok (.istore_n 2, 1) := by decide +kernel
theorem dX5_frays_2 : decode cX5_frays 2 = .ok (.iconst 0, 1) := by decide +kernel
theorem dX5_frays_3 : decode cX5_frays 3 = .ok (.istore_n 3, 1) := by decide +kernel
theorem dX5_frays_4 : decode cX5_frays 4 = .ok (.iload_n 3, 1) := by decide +kernel
theorem dX5_frays_5 : decode cX5_frays 5 = .ok (.aload_n 0, 1) := by decide +kernel
theorem dX5_frays_6 : decode cX5_frays 6 = .ok (.getfield 54, 3) := by decide +kernel
theorem dX5_frays_9 : decode cX5_frays 9 = .ok (.if_icmp .ge 35, 3) := by decide +kernel
theorem dX5_frays_12 : decode cX5_frays 12 = .ok (.iload_n 2, 1) := by decide +kernel
theorem dX5_frays_13 : decode cX5_frays 13 = .ok (.iload_n 1, 1) := by decide +kernel
theorem dX5_frays_14 : decode cX5_frays 14 = .ok (.ifCond .ne 13, 3) := by decide +kernel
theorem dX5_frays_17 : decode cX5_frays 17 = .ok (.aload_n 0, 1) := by decide +kernel
theorem dX5_frays_18 : decode cX5_frays 18 = .ok (.iload_n 3, 1) := by decide +kernel
theorem dX5_frays_19 : decode cX5_frays 19 = .ok (.iconst 4, 1) := by decide +kernel
theorem dX5_frays_20 : decode cX5_frays 20 = .ok (.invokevirtual 67, 3) := by decide +kernel
theorem dX5_frays_23 : decode cX5_frays 23 = .ok (.iconst (-1), 1) := by decide +kernel
theorem dX5_frays_24 : decode cX5_frays 24 = .ok (.if_icmp .eq 11, 3) := by decide +kernel
theorem dX5_frays_27 : decode cX5_frays 27 = .ok (.aload_n 0, 1) := by decide +kernel
theorem dX5_frays_28 : decode cX5_frays 28 = .ok (.iload_n 3, 1) := by decide +kernel
theorem dX5_frays_29 : decode cX5_frays 29 = .ok (.invokevirtual 145, 3) := by decide +kernel
theorem dX5_frays_32 : decode cX5_frays 32 = .ok (.goto 4, 3) := by decide +kernel
theorem dX5_frays_35 : decode cX5_frays 35 = .ok (.iconst 0, 1) := by decide +kernel
theorem dX5_frays_36 : decode cX5_frays 36 = .ok (.iadd, 1) := by decide +kernel
theorem dX5_frays_37 : decode cX5_frays 37 = .ok (.istore_n 2, 1) := by decide +kernel
theorem dX5_frays_38 : decode cX5_frays 38 = .ok (.iinc 3 1, 3) := by decide +kernel
theorem dX5_frays_41 : decode cX5_frays 41 = .ok (.goto (-37), 3) := by decide +kernel
theorem dX5_frays_44 : decode cX5_frays 44 = .ok (.iload_n 2, 1) := by decide +kernel
theorem dX5_frays_45 : decode cX5_frays 45 = .ok (.ireturn, 1) := by decide +kernel
theorem dX5_allFrayed_0 : decode cX5_allFrayed 0 = .ok (.aload_n 0, 1) := by decide +kernel
theorem dX5_allFrayed_1 : decode cX5_allFrayed 1 = .ok (.aload_n 0, 1) := by decide +kernel
theorem dX5_allFrayed_2 : decode cX5_allFrayed 2 = .ok (.iconst 0, 1) := by decide +kernel
theorem dX5_allFrayed_3 : decode cX5_allFrayed 3 = .ok (.invokevirtual 148, 3) := by decide +kernel
theorem dX5_allFrayed_6 : decode cX5_allFrayed 6 = .ok (.invokevirtual 136, 3) := by decide +kernel
theorem dX5_allFrayed_9 : decode cX5_allFrayed 9 = .ok (.ireturn, 1) := by decide +kernel
theorem dX5_road_0 : decode cX5_road 0 = .ok (.aload_n 0, 1) := by decide +kernel
theorem dX5_road_1 : decode cX5_road 1 = .ok (.iconst 0, 1) := by decide +kernel
theorem dX5_road_2 : decode cX5_road 2 = .ok (.putfield 40, 3) := by decide +kernel
theorem dX5_road_5 : decode cX5_road 5 = .ok (.aload_n 0, 1) := by decide +kernel
theorem dX5_road_6 : decode cX5_road 6 = .ok (.iload_n 1, 1) := by decide +kernel
theorem dX5_road_7 : decode cX5_road 7 = .ok (.invokevirtual 126, 3) := by decide +kernel
theorem dX5_road_10 : decode cX5_road 10 = .ok (.ifCond .eq 12, 3) := by decide +kernel
theorem dX5_road_13 : decode cX5_road 13 = .ok (.aload_n 0, 1) := by decide +kernel
theorem dX5_road_14 : decode cX5_road 14 = .ok (.iload_n 1, 1) := by decide +kernel
theorem dX5_road_15 : decode cX5_road 15 = .ok (.iload_n 2, 1) := by decide +kernel
theorem dX5_road_16 : decode cX5_road 16 = .ok (.invokevirtual 63, 3) := by decide +kernel
theorem dX5_road_19 : decode cX5_road 19 = .ok (.goto 8, 3) := by decide +kernel
theorem dX5_road_22 : decode cX5_road 22 = .ok (.aload_n 0, 1) := by decide +kernel
theorem dX5_road_23 : decode cX5_road 23 = .ok (.iconst 1, 1) := by decide +kernel
theorem dX5_road_24 : decode cX5_road 24 = .ok (.invokevirtual 116, 3) := by decide +kernel
theorem dX5_road_27 : decode cX5_road 27 = .ok (.ireturn, 1) := by decide +kernel
theorem dX5_lengthOf_0 : decode cX5_lengthOf 0 = .ok (.aload_n 0, 1) := by decide +kernel
theorem dX5_lengthOf_1 : decode cX5_lengthOf 1 = .ok (.iconst 0, 1) := by decide +kernel
theorem dX5_lengthOf_2 : decode cX5_lengthOf 2 = .ok (.putfield 40, 3) := by decide +kernel
theorem dX5_lengthOf_5 : decode cX5_lengthOf 5 = .ok (.aload_n 0, 1) := by decide +kernel
theorem dX5_lengthOf_6 : decode cX5_lengthOf 6 = .ok (.iload_n 1, 1) := by decide +kernel
theorem dX5_lengthOf_7 : decode cX5_lengthOf 7 = .ok (.invokevirtual 126, 3) := by decide +kernel
theorem dX5_lengthOf_10 : decode cX5_lengthOf 10 = .ok (.ifCond .eq 11, 3) := by decide +kernel
theorem dX5_lengthOf_13 : decode cX5_lengthOf 13 = .ok (.aload_n 0, 1) := by decide +kernel
theorem dX5_lengthOf_14 : decode cX5_lengthOf 14 = .ok (.iload_n 1, 1) := by decide +kernel
theorem dX5_lengthOf_15 : decode cX5_lengthOf 15 = .ok (.invokevirtual 74, 3) := by decide +kernel
theorem dX5_lengthOf_18 : decode cX5_lengthOf 18 = .ok (.goto 8, 3) := by decide +kernel
theorem dX5_lengthOf_21 : decode cX5_lengthOf 21 = .ok (.aload_n 0, 1) := by decide +kernel
theorem dX5_lengthOf_22 : decode cX5_lengthOf 22 = .ok (.iconst 1, 1) := by decide +kernel
theorem dX5_lengthOf_23 : decode cX5_lengthOf 23 = .ok (.invokevirtual 116, 3) := by decide +kernel
theorem dX5_lengthOf_26 : decode cX5_lengthOf 26 = .ok (.ireturn, 1) := by decide +kernel
theorem dX5_wearOf_0 : decode cX5_wearOf 0 = .ok (.aload_n 0, 1) := by decide +kernel
theorem dX5_wearOf_1 : decode cX5_wearOf 1 = .ok (.iload_n 1, 1) := by decide +kernel
theorem dX5_wearOf_2 : decode cX5_wearOf 2 = .ok (.iconst 1, 1) := by decide +kernel
theorem dX5_wearOf_3 : decode cX5_wearOf 3 = .ok (.invokevirtual 152, 3) := by decide +kernel
theorem dX5_wearOf_6 : decode cX5_wearOf 6 = .ok (.ireturn, 1) := by decide +kernel
theorem dX5_knotsOf_0 : decode cX5_knotsOf 0 = .ok (.aload_n 0, 1) := by decide +kernel
theorem dX5_knotsOf_1 : decode cX5_knotsOf 1 = .ok (.iload_n 1, 1) := by decide +kernel
theorem dX5_knotsOf_2 : decode cX5_knotsOf 2 = .ok (.iconst 2, 1) := by decide +kernel
theorem dX5_knotsOf_3 : decode cX5_knotsOf 3 = .ok (.invokevirtual 152, 3) := by decide +kernel
theorem dX5_knotsOf_6 : decode cX5_knotsOf 6 = .ok (.ireturn, 1) := by decide +kernel
theorem dX5_closedFor_0 : decode cX5_closedFor 0 = .ok (.aload_n 0, 1) := by decide +kernel
theorem dX5_closedFor_1 : decode cX5_closedFor 1 = .ok (.iload_n 1, 1) := by decide +kernel
theorem dX5_closedFor_2 : decode cX5_closedFor 2 = .ok (.iconst 0, 1) := by decide +kernel
theorem dX5_closedFor_3 : decode cX5_closedFor 3 = .ok (.invokevirtual 152, 3) := by decide +kernel
theorem dX5_closedFor_6 : decode cX5_closedFor 6 = .ok (.ireturn, 1) := by decide +kernel
theorem dX5_touristsOn_0 : decode cX5_touristsOn 0 = .ok (.aload_n 0, 1) := by decide +kernel
theorem dX5_touristsOn_1 : decode cX5_touristsOn 1 = .ok (.iconst 0, 1) := by decide +kernel
theorem dX5_touristsOn_2 : decode cX5_touristsOn 2 = .ok (.putfield 40, 3) := by decide +kernel
theorem dX5_touristsOn_5 : decode cX5_touristsOn 5 = .ok (.aload_n 0, 1) := by decide +kernel
theorem dX5_touristsOn_6 : decode cX5_touristsOn 6 = .ok (.iload_n 1, 1) := by decide +kernel
theorem dX5_touristsOn_7 : decode cX5_touristsOn 7 = .ok (.invokevirtual 126, 3) := by decide +kernel
theorem dX5_touristsOn_10 : decode cX5_touristsOn 10 = .ok (.ifCond .eq 11, 3) := by decide +kernel
theorem dX5_touristsOn_13 : decode cX5_touristsOn 13 = .ok (.aload_n 0, 1) := by decide +kernel
theorem dX5_touristsOn_14 : decode cX5_touristsOn 14 = .ok (.iload_n 1, 1) := by decide +kernel
theorem dX5_touristsOn_15 : decode cX5_touristsOn 15 = .ok (.invokevirtual 110, 3) := by decide +kernel
theorem dX5_touristsOn_18 : decode cX5_touristsOn 18 = .ok (.goto 8, 3) := by decide +kernel
theorem dX5_touristsOn_21 : decode cX5_touristsOn 21 = .ok (.aload_n 0, 1) := by decide +kernel
theorem dX5_touristsOn_22 : decode cX5_touristsOn 22 = .ok (.iconst 1, 1) := by decide +kernel
theorem dX5_touristsOn_23 : decode cX5_touristsOn 23 = .ok (.invokevirtual 116, 3) := by decide +kernel
theorem dX5_touristsOn_26 : decode cX5_touristsOn 26 = .ok (.ireturn, 1) := by decide +kernel
theorem dX5_worn_0 : decode cX5_worn 0 = .ok (.iconst (-1), 1) := by decide +kernel
theorem dX5_worn_1 : decode cX5_worn 1 = .ok (.istore_n 1, 1) := by decide +kernel
theorem dX5_worn_2 : decode cX5_worn 2 = .ok (.iconst 0, 1) := by decide +kernel
theorem dX5_worn_3 : decode cX5_worn 3 = .ok (.istore_n 2, 1) := by decide +kernel
theorem dX5_worn_4 : decode cX5_worn 4 = .ok (.iload_n 2, 1) := by decide +kernel
theorem dX5_worn_5 : decode cX5_worn 5 = .ok (.aload_n 0, 1) := by decide +kernel
theorem dX5_worn_6 : decode cX5_worn 6 = .ok (.getfield 51, 3) := by decide +kernel
theorem dX5_worn_9 : decode cX5_worn 9 = .ok (.if_icmp .ge 39, 3) := by decide +kernel
theorem dX5_worn_12 : decode cX5_worn 12 = .ok (.aload_n 0, 1) := by decide +kernel
theorem dX5_worn_13 : decode cX5_worn 13 = .ok (.iload_n 2, 1) := by decide +kernel
theorem dX5_worn_14 : decode cX5_worn 14 = .ok (.invokevirtual 70, 3) := by decide +kernel
theorem dX5_worn_17 : decode cX5_worn 17 = .ok (.ifCond .eq 25, 3) := by decide +kernel
theorem dX5_worn_20 : decode cX5_worn 20 = .ok (.iload_n 1, 1) := by decide +kernel
theorem dX5_worn_21 : decode cX5_worn 21 = .ok (.iconst (-1), 1) := by decide +kernel
theorem dX5_worn_22 : decode cX5_worn 22 = .ok (.if_icmp .eq 18, 3) := by decide +kernel
theorem dX5_worn_25 : decode cX5_worn 25 = .ok (.aload_n 0, 1) := by decide +kernel
theorem dX5_worn_26 : decode cX5_worn 26 = .ok (.iload_n 2, 1) := by decide +kernel
theorem dX5_worn_27 : decode cX5_worn 27 = .ok (.iconst 1, 1) := by decide +kernel
theorem dX5_worn_28 : decode cX5_worn 28 = .ok (.invokevirtual 63, 3) := by decide +kernel
theorem dX5_worn_31 : decode cX5_worn 31 = .ok (.aload_n 0, 1) := by decide +kernel
theorem dX5_worn_32 : decode cX5_worn 32 = .ok (.iload_n 1, 1) := by decide +kernel
theorem dX5_worn_33 : decode cX5_worn 33 = .ok (.iconst 1, 1) := by decide +kernel
theorem dX5_worn_34 : decode cX5_worn 34 = .ok (.invokevirtual 63, 3) := by decide +kernel
theorem dX5_worn_37 : decode cX5_worn 37 = .ok (.if_icmp .le 5, 3) := by decide +kernel
theorem dX5_worn_40 : decode cX5_worn 40 = .ok (.iload_n 2, 1) := by decide +kernel
theorem dX5_worn_41 : decode cX5_worn 41 = .ok (.istore_n 1, 1) := by decide +kernel
theorem dX5_worn_42 : decode cX5_worn 42 = .ok (.iinc 2 1, 3) := by decide +kernel
theorem dX5_worn_45 : decode cX5_worn 45 = .ok (.goto (-41), 3) := by decide +kernel
theorem dX5_worn_48 : decode cX5_worn 48 = .ok (.iload_n 1, 1) := by decide +kernel
theorem dX5_worn_49 : decode cX5_worn 49 = .ok (.ireturn, 1) := by decide +kernel
theorem dX5_mostWorn_0 : decode cX5_mostWorn 0 = .ok (.aload_n 0, 1) := by decide +kernel
theorem dX5_mostWorn_1 : decode cX5_mostWorn 1 = .ok (.aload_n 0, 1) := by decide +kernel
theorem dX5_mostWorn_2 : decode cX5_mostWorn 2 = .ok (.invokevirtual 155, 3) := by decide +kernel
theorem dX5_mostWorn_5 : decode cX5_mostWorn 5 = .ok (.invokevirtual 136, 3) := by decide +kernel
theorem dX5_mostWorn_8 : decode cX5_mostWorn 8 = .ok (.ireturn, 1) := by decide +kernel
theorem dX5_distanceOf_0 : decode cX5_distanceOf 0 = .ok (.aload_n 0, 1) := by decide +kernel
theorem dX5_distanceOf_1 : decode cX5_distanceOf 1 = .ok (.iconst 0, 1) := by decide +kernel
theorem dX5_distanceOf_2 : decode cX5_distanceOf 2 = .ok (.putfield 40, 3) := by decide +kernel
theorem dX5_distanceOf_5 : decode cX5_distanceOf 5 = .ok (.aload_n 0, 1) := by decide +kernel
theorem dX5_distanceOf_6 : decode cX5_distanceOf 6 = .ok (.iload_n 1, 1) := by decide +kernel
theorem dX5_distanceOf_7 : decode cX5_distanceOf 7 = .ok (.invokevirtual 119, 3) := by decide +kernel
theorem dX5_distanceOf_10 : decode cX5_distanceOf 10 = .ok (.ifCond .eq 21, 3) := by decide +kernel
theorem dX5_distanceOf_13 : decode cX5_distanceOf 13 = .ok (.aload_n 0, 1) := by decide +kernel
theorem dX5_distanceOf_14 : decode cX5_distanceOf 14 = .ok (.iload_n 2, 1) := by decide +kernel
theorem dX5_distanceOf_15 : decode cX5_distanceOf 15 = .ok (.invokevirtual 119, 3) := by decide +kernel
theorem dX5_distanceOf_18 : decode cX5_distanceOf 18 = .ok (.ifCond .eq 13, 3) := by decide +kernel
theorem dX5_distanceOf_21 : decode cX5_distanceOf 21 = .ok (.aload_n 0, 1) := by decide +kernel
theorem dX5_distanceOf_22 : decode cX5_distanceOf 22 = .ok (.iload_n 1, 1) := by decide +kernel
theorem dX5_distanceOf_23 : decode cX5_distanceOf 23 = .ok (.iload_n 2, 1) := by decide +kernel
theorem dX5_distanceOf_24 : decode cX5_distanceOf 24 = .ok (.iload_n 3, 1) := by decide +kernel
theorem dX5_distanceOf_25 : decode cX5_distanceOf 25 = .ok (.invokevirtual 122, 3) := by decide +kernel
theorem dX5_distanceOf_28 : decode cX5_distanceOf 28 = .ok (.goto 8, 3) := by decide +kernel
theorem dX5_distanceOf_31 : decode cX5_distanceOf 31 = .ok (.aload_n 0, 1) := by decide +kernel
theorem dX5_distanceOf_32 : decode cX5_distanceOf 32 = .ok (.iconst 1, 1) := by decide +kernel
theorem dX5_distanceOf_33 : decode cX5_distanceOf 33 = .ok (.invokevirtual 116, 3) := by decide +kernel
theorem dX5_distanceOf_36 : decode cX5_distanceOf 36 = .ok (.ireturn, 1) := by decide +kernel
theorem dX5_openDistance_0 : decode cX5_openDistance 0 = .ok (.aload_n 0, 1) := by decide +kernel
theorem dX5_openDistance_1 : decode cX5_openDistance 1 = .ok (.iload_n 1, 1) := by decide +kernel
theorem dX5_openDistance_2 : decode cX5_openDistance 2 = .ok (.iload_n 2, 1) := by decide +kernel
theorem dX5_openDistance_3 : decode cX5_openDistance 3 = .ok (.iconst 0, 1) := by decide +kernel
theorem dX5_openDistance_4 : decode cX5_openDistance 4 = .ok (.invokevirtual 158, 3) := by decide +kernel
theorem dX5_openDistance_7 : decode cX5_openDistance 7 = .ok (.ireturn, 1) := by decide +kernel
theorem dX5_distance_0 : decode cX5_distance 0 = .ok (.aload_n 0, 1) := by decide +kernel
theorem dX5_distance_1 : decode cX5_distance 1 = .ok (.iload_n 1, 1) := by decide +kernel
theorem dX5_distance_2 : decode cX5_distance 2 = .ok (.iload_n 2, 1) := by decide +kernel
theorem dX5_distance_3 : decode cX5_distance 3 = .ok (.iconst 1, 1) := by decide +kernel
theorem dX5_distance_4 : decode cX5_distance 4 = .ok (.invokevirtual 158, 3) := by decide +kernel
theorem dX5_distance_7 : decode cX5_distance 7 = .ok (.ireturn, 1) := by decide +kernel
theorem dX5_nextRoad_0 : decode cX5_nextRoad 0 = .ok (.aload_n 0, 1) := by decide +kernel
theorem dX5_nextRoad_1 : decode cX5_nextRoad 1 = .ok (.iconst 0, 1) := by decide +kernel
theorem dX5_nextRoad_2 : decode cX5_nextRoad 2 = .ok (.putfield 40, 3) := by decide +kernel
theorem dX5_nextRoad_5 : decode cX5_nextRoad 5 = .ok (.aload_n 0, 1) := by decide +kernel
theorem dX5_nextRoad_6 : decode cX5_nextRoad 6 = .ok (.iload_n 1, 1) := by decide +kernel
theorem dX5_nextRoad_7 : decode cX5_nextRoad 7 = .ok (.invokevirtual 119, 3) := by decide +kernel
theorem dX5_nextRoad_10 : decode cX5_nextRoad 10 = .ok (.ifCond .eq 20, 3) := by decide +kernel
theorem dX5_nextRoad_13 : decode cX5_nextRoad 13 = .ok (.aload_n 0, 1) := by decide +kernel
theorem dX5_nextRoad_14 : decode cX5_nextRoad 14 = .ok (.iload_n 2, 1) := by decide +kernel
theorem dX5_nextRoad_15 : decode cX5_nextRoad 15 = .ok (.invokevirtual 119, 3) := by decide +kernel
theorem dX5_nextRoad_18 : decode cX5_nextRoad 18 = .ok (.ifCond .eq 12, 3) := by decide +kernel
theorem dX5_nextRoad_21 : decode cX5_nextRoad 21 = .ok (.aload_n 0, 1) := by decide +kernel
theorem dX5_nextRoad_22 : decode cX5_nextRoad 22 = .ok (.iload_n 1, 1) := by decide +kernel
theorem dX5_nextRoad_23 : decode cX5_nextRoad 23 = .ok (.iload_n 2, 1) := by decide +kernel
theorem dX5_nextRoad_24 : decode cX5_nextRoad 24 = .ok (.invokevirtual 94, 3) := by decide +kernel
theorem dX5_nextRoad_27 : decode cX5_nextRoad 27 = .ok (.goto 8, 3) := by decide +kernel
theorem dX5_nextRoad_30 : decode cX5_nextRoad 30 = .ok (.aload_n 0, 1) := by decide +kernel
theorem dX5_nextRoad_31 : decode cX5_nextRoad 31 = .ok (.iconst 1, 1) := by decide +kernel
theorem dX5_nextRoad_32 : decode cX5_nextRoad 32 = .ok (.invokevirtual 116, 3) := by decide +kernel
theorem dX5_nextRoad_35 : decode cX5_nextRoad 35 = .ok (.ireturn, 1) := by decide +kernel
theorem dX5_parted_0 : decode cX5_parted 0 = .ok (.iconst 0, 1) := by decide +kernel
theorem dX5_parted_1 : decode cX5_parted 1 = .ok (.istore_n 1, 1) := by decide +kernel
theorem dX5_parted_2 : decode cX5_parted 2 = .ok (.iconst 0, 1) := by decide +kernel
theorem dX5_parted_3 : decode cX5_parted 3 = .ok (.istore_n 2, 1) := by decide +kernel
theorem dX5_parted_4 : decode cX5_parted 4 = .ok (.iload_n 2, 1) := by decide +kernel
theorem dX5_parted_5 : decode cX5_parted 5 = .ok (.aload_n 0, 1) := by decide +kernel
theorem dX5_parted_6 : decode cX5_parted 6 = .ok (.getfield 44, 3) := by decide +kernel
theorem dX5_parted_9 : decode cX5_parted 9 = .ok (.if_icmp .ge 48, 3) := by decide +kernel
theorem dX5_parted_12 : decode cX5_parted 12 = .ok (.aload_n 0, 1) := by decide +kernel
theorem dX5_parted_13 : decode cX5_parted 13 = .ok (.iload_n 2, 1) := by decide +kernel
theorem dX5_parted_14 : decode cX5_parted 14 = .ok (.iconst 0, 1) := by decide +kernel
theorem dX5_parted_15 : decode cX5_parted 15 = .ok (.invokevirtual 83, 3) := by decide +kernel
theorem dX5_parted_18 : decode cX5_parted 18 = .ok (.iconst 0, 1) := by decide +kernel
theorem dX5_parted_19 : decode cX5_parted 19 = .ok (.istore_n 3, 1) := by decide +kernel
theorem dX5_parted_20 : decode cX5_parted 20 = .ok (.iload_n 3, 1) := by decide +kernel
theorem dX5_parted_21 : decode cX5_parted 21 = .ok (.iload_n 2, 1) := by decide +kernel
theorem dX5_parted_22 : decode cX5_parted 22 = .ok (.if_icmp .ge 29, 3) := by decide +kernel
theorem dX5_parted_25 : decode cX5_parted 25 = .ok (.iload_n 1, 1) := by decide +kernel
theorem dX5_parted_26 : decode cX5_parted 26 = .ok (.aload_n 0, 1) := by decide +kernel
theorem dX5_parted_27 : decode cX5_parted 27 = .ok (.getfield 37, 3) := by decide +kernel
theorem dX5_parted_30 : decode cX5_parted 30 = .ok (.iload_n 3, 1) := by decide +kernel
theorem dX5_parted_31 : decode cX5_parted 31 = .ok (.iaload, 1) := by decide +kernel
theorem dX5_parted_32 : decode cX5_parted 32 = .ok (.sipush 9999, 3) := by decide +kernel
theorem dX5_parted_35 : decode cX5_parted 35 = .ok (.if_icmp .lt 7, 3) := by decide +kernel
theorem dX5_parted_38 : decode cX5_parted 38 = .ok (.iconst 1, 1) := by decide +kernel
theorem dX5_parted_39 : decode cX5_parted 39 = .ok (.goto 4, 3) := by decide +kernel
theorem dX5_parted_42 : decode cX5_parted 42 = .ok (.iconst 0, 1) := by decide +kernel
theorem dX5_parted_43 : decode cX5_parted 43 = .ok (.iadd, 1) := by decide +kernel
theorem dX5_parted_44 : decode cX5_parted 44 = .ok (.istore_n 1, 1) := by decide +kernel
theorem dX5_parted_45 : decode cX5_parted 45 = .ok (.iinc 3 1, 3) := by decide +kernel
theorem dX5_parted_48 : decode cX5_parted 48 = .ok (.goto (-28), 3) := by decide +kernel
theorem dX5_parted_51 : decode cX5_parted 51 = .ok (.iinc 2 1, 3) := by decide +kernel
theorem dX5_parted_54 : decode cX5_parted 54 = .ok (.goto (-50), 3) := by decide +kernel
theorem dX5_parted_57 : decode cX5_parted 57 = .ok (.iload_n 1, 1) := by decide +kernel
theorem dX5_parted_58 : decode cX5_parted 58 = .ok (.ireturn, 1) := by decide +kernel
theorem dX5_partedPairs_0 : decode cX5_partedPairs 0 = .ok (.aload_n 0, 1) := by decide +kernel
theorem dX5_partedPairs_1 : decode cX5_partedPairs 1 = .ok (.aload_n 0, 1) := by decide +kernel
theorem dX5_partedPairs_2 : decode cX5_partedPairs 2 = .ok (.invokevirtual 161, 3) := by decide +kernel
theorem dX5_partedPairs_5 : decode cX5_partedPairs 5 = .ok (.invokevirtual 136, 3) := by decide +kernel
theorem dX5_partedPairs_8 : decode cX5_partedPairs 8 = .ok (.ireturn, 1) := by decide +kernel
theorem dX5_tourist_0 : decode cX5_tourist 0 = .ok (.aload_n 0, 1) := by decide +kernel
theorem dX5_tourist_1 : decode cX5_tourist 1 = .ok (.iconst 0, 1) := by decide +kernel
theorem dX5_tourist_2 : decode cX5_tourist 2 = .ok (.putfield 40, 3) := by decide +kernel
theorem dX5_tourist_5 : decode cX5_tourist 5 = .ok (.aload_n 0, 1) := by decide +kernel
theorem dX5_tourist_6 : decode cX5_tourist 6 = .ok (.iload_n 1, 1) := by decide +kernel
theorem dX5_tourist_7 : decode cX5_tourist 7 = .ok (.invokevirtual 164, 3) := by decide +kernel
theorem dX5_tourist_10 : decode cX5_tourist 10 = .ok (.ifCond .eq 12, 3) := by decide +kernel
theorem dX5_tourist_13 : decode cX5_tourist 13 = .ok (.aload_n 0, 1) := by decide +kernel
theorem dX5_tourist_14 : decode cX5_tourist 14 = .ok (.iload_n 1, 1) := by decide +kernel
theorem dX5_tourist_15 : decode cX5_tourist 15 = .ok (.iload_n 2, 1) := by decide +kernel
theorem dX5_tourist_16 : decode cX5_tourist 16 = .ok (.invokevirtual 67, 3) := by decide +kernel
theorem dX5_tourist_19 : decode cX5_tourist 19 = .ok (.goto 8, 3) := by decide +kernel
theorem dX5_tourist_22 : decode cX5_tourist 22 = .ok (.aload_n 0, 1) := by decide +kernel
theorem dX5_tourist_23 : decode cX5_tourist 23 = .ok (.iconst 1, 1) := by decide +kernel
theorem dX5_tourist_24 : decode cX5_tourist 24 = .ok (.invokevirtual 116, 3) := by decide +kernel
theorem dX5_tourist_27 : decode cX5_tourist 27 = .ok (.ireturn, 1) := by decide +kernel
theorem dX5_placeOf_0 : decode cX5_placeOf 0 = .ok (.aload_n 0, 1) := by decide +kernel
theorem dX5_placeOf_1 : decode cX5_placeOf 1 = .ok (.iload_n 1, 1) := by decide +kernel
theorem dX5_placeOf_2 : decode cX5_placeOf 2 = .ok (.iconst 0, 1) := by decide +kernel
theorem dX5_placeOf_3 : decode cX5_placeOf 3 = .ok (.invokevirtual 167, 3) := by decide +kernel
theorem dX5_placeOf_6 : decode cX5_placeOf 6 = .ok (.ireturn, 1) := by decide +kernel
theorem dX5_roadOf_0 : decode cX5_roadOf 0 = .ok (.aload_n 0, 1) := by decide +kernel
theorem dX5_roadOf_1 : decode cX5_roadOf 1 = .ok (.iload_n 1, 1) := by decide +kernel
theorem dX5_roadOf_2 : decode cX5_roadOf 2 = .ok (.iconst 1, 1) := by decide +kernel
theorem dX5_roadOf_3 : decode cX5_roadOf 3 = .ok (.invokevirtual 167, 3) := by decide +kernel
theorem dX5_roadOf_6 : decode cX5_roadOf 6 = .ok (.ireturn, 1) := by decide +kernel
theorem dX5_dyeOf_0 : decode cX5_dyeOf 0 = .ok (.aload_n 0, 1) := by decide +kernel
theorem dX5_dyeOf_1 : decode cX5_dyeOf 1 = .ok (.iload_n 1, 1) := by decide +kernel
theorem dX5_dyeOf_2 : decode cX5_dyeOf 2 = .ok (.iconst 3, 1) := by decide +kernel
theorem dX5_dyeOf_3 : decode cX5_dyeOf 3 = .ok (.invokevirtual 167, 3) := by decide +kernel
theorem dX5_dyeOf_6 : decode cX5_dyeOf 6 = .ok (.ireturn, 1) := by decide +kernel
theorem dX5_frayOf_0 : decode cX5_frayOf 0 = .ok (.aload_n 0, 1) := by decide +kernel
theorem dX5_frayOf_1 : decode cX5_frayOf 1 = .ok (.iconst 0, 1) := by decide +kernel
theorem dX5_frayOf_2 : decode cX5_frayOf 2 = .ok (.putfield 40, 3) := by decide +kernel
theorem dX5_frayOf_5 : decode cX5_frayOf 5 = .ok (.aload_n 0, 1) := by decide +kernel
theorem dX5_frayOf_6 : decode cX5_frayOf 6 = .ok (.iload_n 1, 1) := by decide +kernel
theorem dX5_frayOf_7 : decode cX5_frayOf 7 = .ok (.invokevirtual 164, 3) := by decide +kernel
theorem dX5_frayOf_10 : decode cX5_frayOf 10 = .ok (.ifCond .eq 11, 3) := by decide +kernel
theorem dX5_frayOf_13 : decode cX5_frayOf 13 = .ok (.aload_n 0, 1) := by decide +kernel
theorem dX5_frayOf_14 : decode cX5_frayOf 14 = .ok (.iload_n 1, 1) := by decide +kernel
theorem dX5_frayOf_15 : decode cX5_frayOf 15 = .ok (.invokevirtual 145, 3) := by decide +kernel
theorem dX5_frayOf_18 : decode cX5_frayOf 18 = .ok (.goto 8, 3) := by decide +kernel
theorem dX5_frayOf_21 : decode cX5_frayOf 21 = .ok (.aload_n 0, 1) := by decide +kernel
theorem dX5_frayOf_22 : decode cX5_frayOf 22 = .ok (.iconst 1, 1) := by decide +kernel
theorem dX5_frayOf_23 : decode cX5_frayOf 23 = .ok (.invokevirtual 116, 3) := by decide +kernel
theorem dX5_frayOf_26 : decode cX5_frayOf 26 = .ok (.ireturn, 1) := by decide +kernel
theorem dX5_hasArrived_0 : decode cX5_hasArrived 0 = .ok (.aload_n 0, 1) := by decide +kernel
theorem dX5_hasArrived_1 : decode cX5_hasArrived 1 = .ok (.iload_n 1, 1) := by decide +kernel
theorem dX5_hasArrived_2 : decode cX5_hasArrived 2 = .ok (.iconst 4, 1) := by decide +kernel
theorem dX5_hasArrived_3 : decode cX5_hasArrived 3 = .ok (.invokevirtual 167, 3) := by decide +kernel
theorem dX5_hasArrived_6 : decode cX5_hasArrived 6 = .ok (.istore_n 2, 1) := by decide +kernel
theorem dX5_hasArrived_7 : decode cX5_hasArrived 7 = .ok (.aload_n 0, 1) := by decide +kernel
theorem dX5_hasArrived_8 : decode cX5_hasArrived 8 = .ok (.getfield 40, 3) := by decide +kernel
theorem dX5_hasArrived_11 : decode cX5_hasArrived 11 = .ok (.ifCond .ne 12, 3) := by decide +kernel
theorem dX5_hasArrived_14 : decode cX5_hasArrived 14 = .ok (.iload_n 2, 1) := by decide +kernel
theorem dX5_hasArrived_15 : decode cX5_hasArrived 15 = .ok (.iconst (-1), 1) := by decide +kernel
theorem dX5_hasArrived_16 : decode cX5_hasArrived 16 = .ok (.if_icmp .eq 7, 3) := by decide +kernel
theorem dX5_hasArrived_19 : decode cX5_hasArrived 19 = .ok (.iconst 1, 1) := by decide +kernel
theorem dX5_hasArrived_20 : decode cX5_hasArrived 20 = .ok (.goto 4, 3) := by decide +kernel
theorem dX5_hasArrived_23 : decode cX5_hasArrived 23 = .ok (.iconst 0, 1) := by decide +kernel
theorem dX5_hasArrived_24 : decode cX5_hasArrived 24 = .ok (.ireturn, 1) := by decide +kernel
theorem dX5_until_0 : decode cX5_until 0 = .ok (.aload_n 0, 1) := by decide +kernel
theorem dX5_until_1 : decode cX5_until 1 = .ok (.invokevirtual 170, 3) := by decide +kernel
theorem dX5_until_4 : decode cX5_until 4 = .ok (.iconst 0, 1) := by decide +kernel
theorem dX5_until_5 : decode cX5_until 5 = .ok (.istore_n 2, 1) := by decide +kernel
theorem dX5_until_6 : decode cX5_until 6 = .ok (.iload_n 2, 1) := by decide +kernel
theorem dX5_until_7 : decode cX5_until 7 = .ok (.bipush 100, 2) := by decide +kernel
theorem dX5_until_9 : decode cX5_until 9 = .ok (.if_icmp .gt 23, 3) := by decide +kernel
theorem dX5_until_12 : decode cX5_until 12 = .ok (.aload_n 0, 1) := by decide +kernel
theorem dX5_until_13 : decode cX5_until 13 = .ok (.iload_n 1, 1) := by decide +kernel
theorem dX5_until_14 : decode cX5_until 14 = .ok (.iconst 4, 1) := by decide +kernel
theorem dX5_until_15 : decode cX5_until 15 = .ok (.invokevirtual 67, 3) := by decide +kernel
theorem dX5_until_18 : decode cX5_until 18 = .ok (.iconst (-1), 1) := by decide +kernel
theorem dX5_until_19 : decode cX5_until 19 = .ok (.if_icmp .ne 13, 3) := by decide +kernel
theorem dX5_until_22 : decode cX5_until 22 = .ok (.aload_n 0, 1) := by decide +kernel
theorem dX5_until_23 : decode cX5_until 23 = .ok (.invokevirtual 113, 3) := by decide +kernel
theorem dX5_until_26 : decode cX5_until 26 = .ok (.iinc 2 1, 3) := by decide +kernel
theorem dX5_until_29 : decode cX5_until 29 = .ok (.goto (-23), 3) := by decide +kernel
theorem dX5_until_32 : decode cX5_until 32 = .ok (.aload_n 0, 1) := by decide +kernel
theorem dX5_until_33 : decode cX5_until 33 = .ok (.invokevirtual 173, 3) := by decide +kernel
theorem dX5_until_36 : decode cX5_until 36 = .ok (.iload_n 2, 1) := by decide +kernel
theorem dX5_until_37 : decode cX5_until 37 = .ok (.bipush 100, 2) := by decide +kernel
theorem dX5_until_39 : decode cX5_until 39 = .ok (.if_icmp .le 7, 3) := by decide +kernel
theorem dX5_until_42 : decode cX5_until 42 = .ok (.iconst (-1), 1) := by decide +kernel
theorem dX5_until_43 : decode cX5_until 43 = .ok (.goto 4, 3) := by decide +kernel
theorem dX5_until_46 : decode cX5_until 46 = .ok (.iload_n 2, 1) := by decide +kernel
theorem dX5_until_47 : decode cX5_until 47 = .ok (.ireturn, 1) := by decide +kernel
theorem dX5_hoursUntilArrived_0 : decode cX5_hoursUntilArrived 0 = .ok (.aload_n 0, 1) := by decide +kernel
theorem dX5_hoursUntilArrived_1 : decode cX5_hoursUntilArrived 1 = .ok (.iconst 0, 1) := by decide +kernel
theorem dX5_hoursUntilArrived_2 : decode cX5_hoursUntilArrived 2 = .ok (.putfield 40, 3) := by decide +kernel
theorem dX5_hoursUntilArrived_5 : decode cX5_hoursUntilArrived 5 = .ok (.aload_n 0, 1) := by decide +kernel
theorem dX5_hoursUntilArrived_6 : decode cX5_hoursUntilArrived 6 = .ok (.iload_n 1, 1) := by decide +kernel
theorem dX5_hoursUntilArrived_7 : decode cX5_hoursUntilArrived 7 = .ok (.invokevirtual 164, 3) := by decide +kernel
theorem dX5_hoursUntilArrived_10 : decode cX5_hoursUntilArrived 10 = .ok (.ifCond .eq 11, 3) := by decide +kernel
theorem dX5_hoursUntilArrived_13 : decode cX5_hoursUntilArrived 13 = .ok (.aload_n 0, 1) := by decide +kernel
theorem dX5_hoursUntilArrived_14 : decode cX5_hoursUntilArrived 14 = .ok (.iload_n 1, 1) := by decide +kernel
theorem dX5_hoursUntilArrived_15 : decode cX5_hoursUntilArrived 15 = .ok (.invokevirtual 176, 3) := by decide +kernel
theorem dX5_hoursUntilArrived_18 : decode cX5_hoursUntilArrived 18 = .ok (.goto 8, 3) := by decide +kernel
theorem dX5_hoursUntilArrived_21 : decode cX5_hoursUntilArrived 21 = .ok (.aload_n 0, 1) := by decide +kernel
theorem dX5_hoursUntilArrived_22 : decode cX5_hoursUntilArrived 22 = .ok (.iconst 1, 1) := by decide +kernel
theorem dX5_hoursUntilArrived_23 : decode cX5_hoursUntilArrived 23 = .ok (.invokevirtual 116, 3) := by decide +kernel
theorem dX5_hoursUntilArrived_26 : decode cX5_hoursUntilArrived 26 = .ok (.ireturn, 1) := by decide +kernel
theorem dX5_frayedIn_0 : decode cX5_frayedIn 0 = .ok (.aload_n 0, 1) := by decide +kernel
theorem dX5_frayedIn_1 : decode cX5_frayedIn 1 = .ok (.iconst 0, 1) := by decide +kernel
theorem dX5_frayedIn_2 : decode cX5_frayedIn 2 = .ok (.putfield 40, 3) := by decide +kernel
theorem dX5_frayedIn_5 : decode cX5_frayedIn 5 = .ok (.iload_n 1, 1) := by decide +kernel
theorem dX5_frayedIn_6 : decode cX5_frayedIn 6 = .ok (.iconst 1, 1) := by decide +kernel
theorem dX5_frayedIn_7 : decode cX5_frayedIn 7 = .ok (.bipush 50, 2) := by decide +kernel
theorem dX5_frayedIn_9 : decode cX5_frayedIn 9 = .ok (.invokestatic 47, 3) := by decide +kernel
theorem dX5_frayedIn_12 : decode cX5_frayedIn 12 = .ok (.ifCond .ne 9, 3) := by decide +kernel
theorem dX5_frayedIn_15 : decode cX5_frayedIn 15 = .ok (.aload_n 0, 1) := by decide +kernel
theorem dX5_frayedIn_16 : decode cX5_frayedIn 16 = .ok (.iconst 1, 1) := by decide +kernel
theorem dX5_frayedIn_17 : decode cX5_frayedIn 17 = .ok (.invokevirtual 116, 3) := by decide +kernel
theorem dX5_frayedIn_20 : decode cX5_frayedIn 20 = .ok (.ireturn, 1) := by decide +kernel
theorem dX5_frayedIn_21 : decode cX5_frayedIn 21 = .ok (.aload_n 0, 1) := by decide +kernel
theorem dX5_frayedIn_22 : decode cX5_frayedIn 22 = .ok (.invokevirtual 170, 3) := by decide +kernel
theorem dX5_frayedIn_25 : decode cX5_frayedIn 25 = .ok (.aload_n 0, 1) := by decide +kernel
theorem dX5_frayedIn_26 : decode cX5_frayedIn 26 = .ok (.iload_n 1, 1) := by decide +kernel
theorem dX5_frayedIn_27 : decode cX5_frayedIn 27 = .ok (.invokevirtual 133, 3) := by decide +kernel
theorem dX5_frayedIn_30 : decode cX5_frayedIn 30 = .ok (.aload_n 0, 1) := by decide +kernel
theorem dX5_frayedIn_31 : decode cX5_frayedIn 31 = .ok (.iconst 0, 1) := by decide +kernel
theorem dX5_frayedIn_32 : decode cX5_frayedIn 32 = .ok (.invokevirtual 148, 3) := by decide +kernel
theorem dX5_frayedIn_35 : decode cX5_frayedIn 35 = .ok (.istore_n 2, 1) := by decide +kernel
theorem dX5_frayedIn_36 : decode cX5_frayedIn 36 = .ok (.aload_n 0, 1) := by decide +kernel
theorem dX5_frayedIn_37 : decode cX5_frayedIn 37 = .ok (.invokevirtual 173, 3) := by decide +kernel
theorem dX5_frayedIn_40 : decode cX5_frayedIn 40 = .ok (.iload_n 2, 1) := by decide +kernel
theorem dX5_frayedIn_41 : decode cX5_frayedIn 41 = .ok (.ireturn, 1) := by decide +kernel
theorem dX5_toMend_0 : decode cX5_toMend 0 = .ok (.aload_n 0, 1) := by decide +kernel
theorem dX5_toMend_1 : decode cX5_toMend 1 = .ok (.invokevirtual 170, 3) := by decide +kernel
theorem dX5_toMend_4 : decode cX5_toMend 4 = .ok (.aload_n 0, 1) := by decide +kernel
theorem dX5_toMend_5 : decode cX5_toMend 5 = .ok (.bipush 24, 2) := by decide +kernel
theorem dX5_toMend_7 : decode cX5_toMend 7 = .ok (.invokevirtual 133, 3) := by decide +kernel
theorem dX5_toMend_10 : decode cX5_toMend 10 = .ok (.aload_n 0, 1) := by decide +kernel
theorem dX5_toMend_11 : decode cX5_toMend 11 = .ok (.iconst 1, 1) := by decide +kernel
theorem dX5_toMend_12 : decode cX5_toMend 12 = .ok (.invokevirtual 148, 3) := by decide +kernel
theorem dX5_toMend_15 : decode cX5_toMend 15 = .ok (.istore_n 1, 1) := by decide +kernel
theorem dX5_toMend_16 : decode cX5_toMend 16 = .ok (.aload_n 0, 1) := by decide +kernel
theorem dX5_toMend_17 : decode cX5_toMend 17 = .ok (.invokevirtual 173, 3) := by decide +kernel
theorem dX5_toMend_20 : decode cX5_toMend 20 = .ok (.iconst (-1), 1) := by decide +kernel
theorem dX5_toMend_21 : decode cX5_toMend 21 = .ok (.istore_n 2, 1) := by decide +kernel
theorem dX5_toMend_22 : decode cX5_toMend 22 = .ok (.iconst 0, 1) := by decide +kernel
theorem dX5_toMend_23 : decode cX5_toMend 23 = .ok (.istore_n 3, 1) := by decide +kernel
theorem dX5_toMend_24 : decode cX5_toMend 24 = .ok (.iload_n 3, 1) := by decide +kernel
theorem dX5_toMend_25 : decode cX5_toMend 25 = .ok (.aload_n 0, 1) := by decide +kernel
theorem dX5_toMend_26 : decode cX5_toMend 26 = .ok (.getfield 51, 3) := by decide +kernel
theorem dX5_toMend_29 : decode cX5_toMend 29 = .ok (.if_icmp .ge 58, 3) := by decide +kernel
theorem dX5_toMend_32 : decode cX5_toMend 32 = .ok (.aload_n 0, 1) := by decide +kernel
theorem dX5_toMend_33 : decode cX5_toMend 33 = .ok (.iload_n 3, 1) := by decide +kernel
theorem dX5_toMend_34 : decode cX5_toMend 34 = .ok (.invokevirtual 70, 3) := by decide +kernel
theorem dX5_toMend_37 : decode cX5_toMend 37 = .ok (.ifCond .ne 6, 3) := by decide +kernel
theorem dX5_toMend_40 : decode cX5_toMend 40 = .ok (.goto 41, 3) := by decide +kernel
theorem dX5_toMend_43 : decode cX5_toMend 43 = .ok (.aload_n 0, 1) := by decide +kernel
theorem dX5_toMend_44 : decode cX5_toMend 44 = .ok (.iload_n 3, 1) := by decide +kernel
theorem dX5_toMend_45 : decode cX5_toMend 45 = .ok (.iconst 0, 1) := by decide +kernel
theorem dX5_toMend_46 : decode cX5_toMend 46 = .ok (.iconst 4, 1) := by decide +kernel
theorem dX5_toMend_47 : decode cX5_toMend 47 = .ok (.invokevirtual 90, 3) := by decide +kernel
theorem dX5_toMend_50 : decode cX5_toMend 50 = .ok (.aload_n 0, 1) := by decide +kernel
theorem dX5_toMend_51 : decode cX5_toMend 51 = .ok (.bipush 24, 2) := by decide +kernel
theorem dX5_toMend_53 : decode cX5_toMend 53 = .ok (.invokevirtual 133, 3) := by decide +kernel
theorem dX5_toMend_56 : decode cX5_toMend 56 = .ok (.aload_n 0, 1) := by decide +kernel
theorem dX5_toMend_57 : decode cX5_toMend 57 = .ok (.iconst 1, 1) := by decide +kernel
theorem dX5_toMend_58 : decode cX5_toMend 58 = .ok (.invokevirtual 148, 3) := by decide +kernel
theorem dX5_toMend_61 : decode cX5_toMend 61 = .ok (.istore 4, 2) := by decide +kernel
theorem dX5_toMend_63 : decode cX5_toMend 63 = .ok (.aload_n 0, 1) := by decide +kernel
theorem dX5_toMend_64 : decode cX5_toMend 64 = .ok (.invokevirtual 173, 3) := by decide +kernel
theorem dX5_toMend_67 : decode cX5_toMend 67 = .ok (.iload 4, 2) := by decide +kernel
theorem dX5_toMend_69 : decode cX5_toMend 69 = .ok (.iload_n 1, 1) := by decide +kernel
theorem dX5_toMend_70 : decode cX5_toMend 70 = .ok (.if_icmp .lt 6, 3) := by decide +kernel
theorem dX5_toMend_73 : decode cX5_toMend 73 = .ok (.goto 8, 3) := by decide +kernel
theorem dX5_toMend_76 : decode cX5_toMend 76 = .ok (.iload_n 3, 1) := by decide +kernel
theorem dX5_toMend_77 : decode cX5_toMend 77 = .ok (.istore_n 2, 1) := by decide +kernel
theorem dX5_toMend_78 : decode cX5_toMend 78 = .ok (.iload 4, 2) := by decide +kernel
theorem dX5_toMend_80 : decode cX5_toMend 80 = .ok (.istore_n 1, 1) := by decide +kernel
theorem dX5_toMend_81 : decode cX5_toMend 81 = .ok (.iinc 3 1, 3) := by decide +kernel
theorem dX5_toMend_84 : decode cX5_toMend 84 = .ok (.goto (-60), 3) := by decide +kernel
theorem dX5_toMend_87 : decode cX5_toMend 87 = .ok (.iload_n 2, 1) := by decide +kernel
theorem dX5_toMend_88 : decode cX5_toMend 88 = .ok (.ireturn, 1) := by decide +kernel
theorem dX5_bestToMend_0 : decode cX5_bestToMend 0 = .ok (.aload_n 0, 1) := by decide +kernel
theorem dX5_bestToMend_1 : decode cX5_bestToMend 1 = .ok (.aload_n 0, 1) := by decide +kernel
theorem dX5_bestToMend_2 : decode cX5_bestToMend 2 = .ok (.invokevirtual 179, 3) := by decide +kernel
theorem dX5_bestToMend_5 : decode cX5_bestToMend 5 = .ok (.invokevirtual 136, 3) := by decide +kernel
theorem dX5_bestToMend_8 : decode cX5_bestToMend 8 = .ok (.ireturn, 1) := by decide +kernel
theorem dX5_meanLength_0 : decode cX5_meanLength 0 = .ok (.aload_n 0, 1) := by decide +kernel
theorem dX5_meanLength_1 : decode cX5_meanLength 1 = .ok (.iconst 0, 1) := by decide +kernel
theorem dX5_meanLength_2 : decode cX5_meanLength 2 = .ok (.putfield 40, 3) := by decide +kernel
theorem dX5_meanLength_5 : decode cX5_meanLength 5 = .ok (.iconst 0, 1) := by decide +kernel
theorem dX5_meanLength_6 : decode cX5_meanLength 6 = .ok (.istore_n 1, 1) := by decide +kernel
theorem dX5_meanLength_7 : decode cX5_meanLength 7 = .ok (.iconst 0, 1) := by decide +kernel
theorem dX5_meanLength_8 : decode cX5_meanLength 8 = .ok (.istore_n 2, 1) := by decide +kernel
theorem dX5_meanLength_9 : decode cX5_meanLength 9 = .ok (.iload_n 2, 1) := by decide +kernel
theorem dX5_meanLength_10 : decode cX5_meanLength 10 = .ok (.aload_n 0, 1) := by decide +kernel
theorem dX5_meanLength_11 : decode cX5_meanLength 11 = .ok (.getfield 51, 3) := by decide +kernel
theorem dX5_meanLength_14 : decode cX5_meanLength 14 = .ok (.if_icmp .ge 17, 3) := by decide +kernel
theorem dX5_meanLength_17 : decode cX5_meanLength 17 = .ok (.iload_n 1, 1) := by decide +kernel
theorem dX5_meanLength_18 : decode cX5_meanLength 18 = .ok (.aload_n 0, 1) := by decide +kernel
theorem dX5_meanLength_19 : decode cX5_meanLength 19 = .ok (.iload_n 2, 1) := by decide +kernel
theorem dX5_meanLength_20 : decode cX5_meanLength 20 = .ok (.invokevirtual 74, 3) := by decide +kernel
theorem dX5_meanLength_23 : decode cX5_meanLength 23 = .ok (.iadd, 1) := by decide +kernel
theorem dX5_meanLength_24 : decode cX5_meanLength 24 = .ok (.istore_n 1, 1) := by decide +kernel
theorem dX5_meanLength_25 : decode cX5_meanLength 25 = .ok (.iinc 2 1, 3) := by decide +kernel
theorem dX5_meanLength_28 : decode cX5_meanLength 28 = .ok (.goto (-19), 3) := by decide +kernel
theorem dX5_meanLength_31 : decode cX5_meanLength 31 = .ok (.aload_n 0, 1) := by decide +kernel
theorem dX5_meanLength_32 : decode cX5_meanLength 32 = .ok (.getfield 51, 3) := by decide +kernel
theorem dX5_meanLength_35 : decode cX5_meanLength 35 = .ok (.ifCond .ne 7, 3) := by decide +kernel
theorem dX5_meanLength_38 : decode cX5_meanLength 38 = .ok (.dconst 0, 1) := by decide +kernel
theorem dX5_meanLength_39 : decode cX5_meanLength 39 = .ok (.goto 11, 3) := by decide +kernel
theorem dX5_meanLength_42 : decode cX5_meanLength 42 = .ok (.iload_n 1, 1) := by decide +kernel
theorem dX5_meanLength_43 : decode cX5_meanLength 43 = .ok (.i2d, 1) := by decide +kernel
theorem dX5_meanLength_44 : decode cX5_meanLength 44 = .ok (.aload_n 0, 1) := by decide +kernel
theorem dX5_meanLength_45 : decode cX5_meanLength 45 = .ok (.getfield 51, 3) := by decide +kernel
theorem dX5_meanLength_48 : decode cX5_meanLength 48 = .ok (.i2d, 1) := by decide +kernel
theorem dX5_meanLength_49 : decode cX5_meanLength 49 = .ok (.ddiv, 1) := by decide +kernel
theorem dX5_meanLength_50 : decode cX5_meanLength 50 = .ok (.dreturn, 1) := by decide +kernel
theorem dX5_digest_0 : decode cX5_digest 0 = .ok (.aload_n 0, 1) := by decide +kernel
theorem dX5_digest_1 : decode cX5_digest 1 = .ok (.iconst 0, 1) := by decide +kernel
theorem dX5_digest_2 : decode cX5_digest 2 = .ok (.putfield 40, 3) := by decide +kernel
theorem dX5_digest_5 : decode cX5_digest 5 = .ok (.bipush 10, 2) := by decide +kernel
theorem dX5_digest_7 : decode cX5_digest 7 = .ok (.newarray .int, 2) := by decide +kernel
theorem dX5_digest_9 : decode cX5_digest 9 = .ok (.dup, 1) := by decide +kernel
theorem dX5_digest_10 : decode cX5_digest 10 = .ok (.iconst 0, 1) := by decide +kernel
theorem dX5_digest_11 : decode cX5_digest 11 = .ok (.aload_n 0, 1) := by decide +kernel
theorem dX5_digest_12 : decode cX5_digest 12 = .ok (.getfield 31, 3) := by decide +kernel
theorem dX5_digest_15 : decode cX5_digest 15 = .ok (.iconst 0, 1) := by decide +kernel
theorem dX5_digest_16 : decode cX5_digest 16 = .ok (.iaload, 1) := by decide +kernel
theorem dX5_digest_17 : decode cX5_digest 17 = .ok (.iastore, 1) := by decide +kernel
theorem dX5_digest_18 : decode cX5_digest 18 = .ok (.dup, 1) := by decide +kernel
theorem dX5_digest_19 : decode cX5_digest 19 = .ok (.iconst 1, 1) := by decide +kernel
theorem dX5_digest_20 : decode cX5_digest 20 = .ok (.aload_n 0, 1) := by decide +kernel
theorem dX5_digest_21 : decode cX5_digest 21 = .ok (.getfield 44, 3) := by decide +kernel
theorem dX5_digest_24 : decode cX5_digest 24 = .ok (.iastore, 1) := by decide +kernel
theorem dX5_digest_25 : decode cX5_digest 25 = .ok (.dup, 1) := by decide +kernel
theorem dX5_digest_26 : decode cX5_digest 26 = .ok (.iconst 2, 1) := by decide +kernel
theorem dX5_digest_27 : decode cX5_digest 27 = .ok (.aload_n 0, 1) := by decide +kernel
theorem dX5_digest_28 : decode cX5_digest 28 = .ok (.getfield 51, 3) := by decide +kernel
theorem dX5_digest_31 : decode cX5_digest 31 = .ok (.iastore, 1) := by decide +kernel
theorem dX5_digest_32 : decode cX5_digest 32 = .ok (.dup, 1) := by decide +kernel
theorem dX5_digest_33 : decode cX5_digest 33 = .ok (.iconst 3, 1) := by decide +kernel
theorem dX5_digest_34 : decode cX5_digest 34 = .ok (.aload_n 0, 1) := by decide +kernel
theorem dX5_digest_35 : decode cX5_digest 35 = .ok (.getfield 54, 3) := by decide +kernel
theorem dX5_digest_38 : decode cX5_digest 38 = .ok (.iastore, 1) := by decide +kernel
theorem dX5_digest_39 : decode cX5_digest 39 = .ok (.dup, 1) := by decide +kernel
theorem dX5_digest_40 : decode cX5_digest 40 = .ok (.iconst 4, 1) := by decide +kernel
theorem dX5_digest_41 : decode cX5_digest 41 = .ok (.aload_n 0, 1) := by decide +kernel
theorem dX5_digest_42 : decode cX5_digest 42 = .ok (.invokevirtual 129, 3) := by decide +kernel
theorem dX5_digest_45 : decode cX5_digest 45 = .ok (.iastore, 1) := by decide +kernel
theorem dX5_digest_46 : decode cX5_digest 46 = .ok (.dup, 1) := by decide +kernel
theorem dX5_digest_47 : decode cX5_digest 47 = .ok (.iconst 5, 1) := by decide +kernel
theorem dX5_digest_48 : decode cX5_digest 48 = .ok (.aload_n 0, 1) := by decide +kernel
theorem dX5_digest_49 : decode cX5_digest 49 = .ok (.invokevirtual 139, 3) := by decide +kernel
theorem dX5_digest_52 : decode cX5_digest 52 = .ok (.iastore, 1) := by decide +kernel
theorem dX5_digest_53 : decode cX5_digest 53 = .ok (.dup, 1) := by decide +kernel
theorem dX5_digest_54 : decode cX5_digest 54 = .ok (.bipush 6, 2) := by decide +kernel
theorem dX5_digest_56 : decode cX5_digest 56 = .ok (.aload_n 0, 1) := by decide +kernel
theorem dX5_digest_57 : decode cX5_digest 57 = .ok (.iconst 0, 1) := by decide +kernel
theorem dX5_digest_58 : decode cX5_digest 58 = .ok (.invokevirtual 148, 3) := by decide +kernel
theorem dX5_digest_61 : decode cX5_digest 61 = .ok (.iastore, 1) := by decide +kernel
theorem dX5_digest_62 : decode cX5_digest 62 = .ok (.dup, 1) := by decide +kernel
theorem dX5_digest_63 : decode cX5_digest 63 = .ok (.bipush 7, 2) := by decide +kernel
theorem dX5_digest_65 : decode cX5_digest 65 = .ok (.aload_n 0, 1) := by decide +kernel
theorem dX5_digest_66 : decode cX5_digest 66 = .ok (.invokevirtual 155, 3) := by decide +kernel
theorem dX5_digest_69 : decode cX5_digest 69 = .ok (.iastore, 1) := by decide +kernel
theorem dX5_digest_70 : decode cX5_digest 70 = .ok (.dup, 1) := by decide +kernel
theorem dX5_digest_71 : decode cX5_digest 71 = .ok (.bipush 8, 2) := by decide +kernel
theorem dX5_digest_73 : decode cX5_digest 73 = .ok (.aload_n 0, 1) := by decide +kernel
theorem dX5_digest_74 : decode cX5_digest 74 = .ok (.invokevirtual 161, 3) := by decide +kernel
theorem dX5_digest_77 : decode cX5_digest 77 = .ok (.iastore, 1) := by decide +kernel
theorem dX5_digest_78 : decode cX5_digest 78 = .ok (.dup, 1) := by decide +kernel
theorem dX5_digest_79 : decode cX5_digest 79 = .ok (.bipush 9, 2) := by decide +kernel
theorem dX5_digest_81 : decode cX5_digest 81 = .ok (.aload_n 0, 1) := by decide +kernel
theorem dX5_digest_82 : decode cX5_digest 82 = .ok (.invokevirtual 179, 3) := by decide +kernel
theorem dX5_digest_85 : decode cX5_digest 85 = .ok (.iastore, 1) := by decide +kernel
theorem dX5_digest_86 : decode cX5_digest 86 = .ok (.astore_n 1, 1) := by decide +kernel
theorem dX5_digest_87 : decode cX5_digest 87 = .ok (.ldc2_w 182, 3) := by decide +kernel
theorem dX5_digest_90 : decode cX5_digest 90 = .ok (.lstore_n 2, 1) := by decide +kernel
theorem dX5_digest_91 : decode cX5_digest 91 = .ok (.aload_n 1, 1) := by decide +kernel
theorem dX5_digest_92 : decode cX5_digest 92 = .ok (.astore 4, 2) := by decide +kernel
theorem dX5_digest_94 : decode cX5_digest 94 = .ok (.aload 4, 2) := by decide +kernel
theorem dX5_digest_96 : decode cX5_digest 96 = .ok (.arraylength, 1) := by decide +kernel
theorem dX5_digest_97 : decode cX5_digest 97 = .ok (.istore 5, 2) := by decide +kernel
theorem dX5_digest_99 : decode cX5_digest 99 = .ok (.iconst 0, 1) := by decide +kernel
theorem dX5_digest_100 : decode cX5_digest 100 = .ok (.istore 6, 2) := by decide +kernel
theorem dX5_digest_102 : decode cX5_digest 102 = .ok (.iload 6, 2) := by decide +kernel
theorem dX5_digest_104 : decode cX5_digest 104 = .ok (.iload 5, 2) := by decide +kernel
theorem dX5_digest_106 : decode cX5_digest 106 = .ok (.if_icmp .ge 26, 3) := by decide +kernel
theorem dX5_digest_109 : decode cX5_digest 109 = .ok (.aload 4, 2) := by decide +kernel
theorem dX5_digest_111 : decode cX5_digest 111 = .ok (.iload 6, 2) := by decide +kernel
theorem dX5_digest_113 : decode cX5_digest 113 = .ok (.iaload, 1) := by decide +kernel
theorem dX5_digest_114 : decode cX5_digest 114 = .ok (.istore 7, 2) := by decide +kernel
theorem dX5_digest_116 : decode cX5_digest 116 = .ok (.lload_n 2, 1) := by decide +kernel
theorem dX5_digest_117 : decode cX5_digest 117 = .ok (.ldc2_w 184, 3) := by decide +kernel
theorem dX5_digest_120 : decode cX5_digest 120 = .ok (.lmul, 1) := by decide +kernel
theorem dX5_digest_121 : decode cX5_digest 121 = .ok (.iload 7, 2) := by decide +kernel
theorem dX5_digest_123 : decode cX5_digest 123 = .ok (.i2l, 1) := by decide +kernel
theorem dX5_digest_124 : decode cX5_digest 124 = .ok (.ladd, 1) := by decide +kernel
theorem dX5_digest_125 : decode cX5_digest 125 = .ok (.lstore_n 2, 1) := by decide +kernel
theorem dX5_digest_126 : decode cX5_digest 126 = .ok (.iinc 6 1, 3) := by decide +kernel
theorem dX5_digest_129 : decode cX5_digest 129 = .ok (.goto (-27), 3) := by decide +kernel
theorem dX5_digest_132 : decode cX5_digest 132 = .ok (.iconst 0, 1) := by decide +kernel
theorem dX5_digest_133 : decode cX5_digest 133 = .ok (.istore 4, 2) := by decide +kernel
theorem dX5_digest_135 : decode cX5_digest 135 = .ok (.iload 4, 2) := by decide +kernel
theorem dX5_digest_137 : decode cX5_digest 137 = .ok (.aload_n 0, 1) := by decide +kernel
theorem dX5_digest_138 : decode cX5_digest 138 = .ok (.getfield 51, 3) := by decide +kernel
theorem dX5_digest_141 : decode cX5_digest 141 = .ok (.if_icmp .ge 104, 3) := by decide +kernel
theorem dX5_digest_144 : decode cX5_digest 144 = .ok (.iconst 5, 1) := by decide +kernel
theorem dX5_digest_145 : decode cX5_digest 145 = .ok (.newarray .int, 2) := by decide +kernel
theorem dX5_digest_147 : decode cX5_digest 147 = .ok (.dup, 1) := by decide +kernel
theorem dX5_digest_148 : decode cX5_digest 148 = .ok (.iconst 0, 1) := by decide +kernel
theorem dX5_digest_149 : decode cX5_digest 149 = .ok (.aload_n 0, 1) := by decide +kernel
theorem dX5_digest_150 : decode cX5_digest 150 = .ok (.iload 4, 2) := by decide +kernel
theorem dX5_digest_152 : decode cX5_digest 152 = .ok (.invokevirtual 74, 3) := by decide +kernel
theorem dX5_digest_155 : decode cX5_digest 155 = .ok (.iastore, 1) := by decide +kernel
theorem dX5_digest_156 : decode cX5_digest 156 = .ok (.dup, 1) := by decide +kernel
theorem dX5_digest_157 : decode cX5_digest 157 = .ok (.iconst 1, 1) := by decide +kernel
theorem dX5_digest_158 : decode cX5_digest 158 = .ok (.aload_n 0, 1) := by decide +kernel
theorem dX5_digest_159 : decode cX5_digest 159 = .ok (.iload 4, 2) := by decide +kernel
theorem dX5_digest_161 : decode cX5_digest 161 = .ok (.iconst 1, 1) := by decide +kernel
theorem dX5_digest_162 : decode cX5_digest 162 = .ok (.invokevirtual 63, 3) := by decide +kernel
theorem dX5_digest_165 : decode cX5_digest 165 = .ok (.iastore, 1) := by decide +kernel
theorem dX5_digest_166 : decode cX5_digest 166 = .ok (.dup, 1) := by decide +kernel
theorem dX5_digest_167 : decode cX5_digest 167 = .ok (.iconst 2, 1) := by decide +kernel
theorem dX5_digest_168 : decode cX5_digest 168 = .ok (.aload_n 0, 1) := by decide +kernel
theorem dX5_digest_169 : decode cX5_digest 169 = .ok (.iload 4, 2) := by decide +kernel
theorem dX5_digest_171 : decode cX5_digest 171 = .ok (.iconst 2, 1) := by decide +kernel
theorem dX5_digest_172 : decode cX5_digest 172 = .ok (.invokevirtual 63, 3) := by decide +kernel
theorem dX5_digest_175 : decode cX5_digest 175 = .ok (.iastore, 1) := by decide +kernel
theorem dX5_digest_176 : decode cX5_digest 176 = .ok (.dup, 1) := by decide +kernel
theorem dX5_digest_177 : decode cX5_digest 177 = .ok (.iconst 3, 1) := by decide +kernel
theorem dX5_digest_178 : decode cX5_digest 178 = .ok (.aload_n 0, 1) := by decide +kernel
theorem dX5_digest_179 : decode cX5_digest 179 = .ok (.iload 4, 2) := by decide +kernel
theorem dX5_digest_181 : decode cX5_digest 181 = .ok (.iconst 0, 1) := by decide +kernel
theorem dX5_digest_182 : decode cX5_digest 182 = .ok (.invokevirtual 63, 3) := by decide +kernel
theorem dX5_digest_185 : decode cX5_digest 185 = .ok (.iastore, 1) := by decide +kernel
theorem dX5_digest_186 : decode cX5_digest 186 = .ok (.dup, 1) := by decide +kernel
theorem dX5_digest_187 : decode cX5_digest 187 = .ok (.iconst 4, 1) := by decide +kernel
theorem dX5_digest_188 : decode cX5_digest 188 = .ok (.aload_n 0, 1) := by decide +kernel
theorem dX5_digest_189 : decode cX5_digest 189 = .ok (.iload 4, 2) := by decide +kernel
theorem dX5_digest_191 : decode cX5_digest 191 = .ok (.invokevirtual 110, 3) := by decide +kernel
theorem dX5_digest_194 : decode cX5_digest 194 = .ok (.iastore, 1) := by decide +kernel
theorem dX5_digest_195 : decode cX5_digest 195 = .ok (.astore 5, 2) := by decide +kernel
theorem dX5_digest_197 : decode cX5_digest 197 = .ok (.aload 5, 2) := by decide +kernel
theorem dX5_digest_199 : decode cX5_digest 199 = .ok (.astore 6, 2) := by decide +kernel
theorem dX5_digest_201 : decode cX5_digest 201 = .ok (.aload 6, 2) := by decide +kernel
theorem dX5_digest_203 : decode cX5_digest 203 = .ok (.arraylength, 1) := by decide +kernel
theorem dX5_digest_204 : decode cX5_digest 204 = .ok (.istore 7, 2) := by decide +kernel
theorem dX5_digest_206 : decode cX5_digest 206 = .ok (.iconst 0, 1) := by decide +kernel
theorem dX5_digest_207 : decode cX5_digest 207 = .ok (.istore 8, 2) := by decide +kernel
theorem dX5_digest_209 : decode cX5_digest 209 = .ok (.iload 8, 2) := by decide +kernel
theorem dX5_digest_211 : decode cX5_digest 211 = .ok (.iload 7, 2) := by decide +kernel
theorem dX5_digest_213 : decode cX5_digest 213 = .ok (.if_icmp .ge 26, 3) := by decide +kernel
theorem dX5_digest_216 : decode cX5_digest 216 = .ok (.aload 6, 2) := by decide +kernel
theorem dX5_digest_218 : decode cX5_digest 218 = .ok (.iload 8, 2) := by decide +kernel
theorem dX5_digest_220 : decode cX5_digest 220 = .ok (.iaload, 1) := by decide +kernel
theorem dX5_digest_221 : decode cX5_digest 221 = .ok (.istore 9, 2) := by decide +kernel
theorem dX5_digest_223 : decode cX5_digest 223 = .ok (.lload_n 2, 1) := by decide +kernel
theorem dX5_digest_224 : decode cX5_digest 224 = .ok (.ldc2_w 184, 3) := by decide +kernel
theorem dX5_digest_227 : decode cX5_digest 227 = .ok (.lmul, 1) := by decide +kernel
theorem dX5_digest_228 : decode cX5_digest 228 = .ok (.iload 9, 2) := by decide +kernel
theorem dX5_digest_230 : decode cX5_digest 230 = .ok (.i2l, 1) := by decide +kernel
theorem dX5_digest_231 : decode cX5_digest 231 = .ok (.ladd, 1) := by decide +kernel
theorem dX5_digest_232 : decode cX5_digest 232 = .ok (.lstore_n 2, 1) := by decide +kernel
theorem dX5_digest_233 : decode cX5_digest 233 = .ok (.iinc 8 1, 3) := by decide +kernel
theorem dX5_digest_236 : decode cX5_digest 236 = .ok (.goto (-27), 3) := by decide +kernel
theorem dX5_digest_239 : decode cX5_digest 239 = .ok (.iinc 4 1, 3) := by decide +kernel
theorem dX5_digest_242 : decode cX5_digest 242 = .ok (.goto (-107), 3) := by decide +kernel
theorem dX5_digest_245 : decode cX5_digest 245 = .ok (.iconst 0, 1) := by decide +kernel
theorem dX5_digest_246 : decode cX5_digest 246 = .ok (.istore 4, 2) := by decide +kernel
theorem dX5_digest_248 : decode cX5_digest 248 = .ok (.iload 4, 2) := by decide +kernel
theorem dX5_digest_250 : decode cX5_digest 250 = .ok (.aload_n 0, 1) := by decide +kernel
theorem dX5_digest_251 : decode cX5_digest 251 = .ok (.getfield 54, 3) := by decide +kernel
theorem dX5_digest_254 : decode cX5_digest 254 = .ok (.if_icmp .ge 124, 3) := by decide +kernel
theorem dX5_digest_257 : decode cX5_digest 257 = .ok (.bipush 6, 2) := by decide +kernel
theorem dX5_digest_259 : decode cX5_digest 259 = .ok (.newarray .int, 2) := by decide +kernel
theorem dX5_digest_261 : decode cX5_digest 261 = .ok (.dup, 1) := by decide +kernel
theorem dX5_digest_262 : decode cX5_digest 262 = .ok (.iconst 0, 1) := by decide +kernel
theorem dX5_digest_263 : decode cX5_digest 263 = .ok (.aload_n 0, 1) := by decide +kernel
theorem dX5_digest_264 : decode cX5_digest 264 = .ok (.iload 4, 2) := by decide +kernel
theorem dX5_digest_266 : decode cX5_digest 266 = .ok (.iconst 0, 1) := by decide +kernel
theorem dX5_digest_267 : decode cX5_digest 267 = .ok (.invokevirtual 67, 3) := by decide +kernel
theorem dX5_digest_270 : decode cX5_digest 270 = .ok (.iastore, 1) := by decide +kernel
theorem dX5_digest_271 : decode cX5_digest 271 = .ok (.dup, 1) := by decide +kernel
theorem dX5_digest_272 : decode cX5_digest 272 = .ok (.iconst 1, 1) := by decide +kernel
theorem dX5_digest_273 : decode cX5_digest 273 = .ok (.aload_n 0, 1) := by decide +kernel
theorem dX5_digest_274 : decode cX5_digest 274 = .ok (.iload 4, 2) := by decide +kernel
theorem dX5_digest_276 : decode cX5_digest 276 = .ok (.iconst 1, 1) := by decide +kernel
theorem dX5_digest_277 : decode cX5_digest 277 = .ok (.invokevirtual 67, 3) := by decide +kernel
theorem dX5_digest_280 : decode cX5_digest 280 = .ok (.iastore, 1) := by decide +kernel
theorem dX5_digest_281 : decode cX5_digest 281 = .ok (.dup, 1) := by decide +kernel
theorem dX5_digest_282 : decode cX5_digest 282 = .ok (.iconst 2, 1) := by decide +kernel
theorem dX5_digest_283 : decode cX5_digest 283 = .ok (.aload_n 0, 1) := by decide +kernel
theorem dX5_digest_284 : decode cX5_digest 284 = .ok (.iload 4, 2) := by decide +kernel
theorem dX5_digest_286 : decode cX5_digest 286 = .ok (.iconst 3, 1) := by decide +kernel
theorem dX5_digest_287 : decode cX5_digest 287 = .ok (.invokevirtual 67, 3) := by decide +kernel
theorem dX5_digest_290 : decode cX5_digest 290 = .ok (.iastore, 1) := by decide +kernel
theorem dX5_digest_291 : decode cX5_digest 291 = .ok (.dup, 1) := by decide +kernel
theorem dX5_digest_292 : decode cX5_digest 292 = .ok (.iconst 3, 1) := by decide +kernel
theorem dX5_digest_293 : decode cX5_digest 293 = .ok (.aload_n 0, 1) := by decide +kernel
theorem dX5_digest_294 : decode cX5_digest 294 = .ok (.iload 4, 2) := by decide +kernel
theorem dX5_digest_296 : decode cX5_digest 296 = .ok (.invokevirtual 145, 3) := by decide +kernel
theorem dX5_digest_299 : decode cX5_digest 299 = .ok (.iastore, 1) := by decide +kernel
theorem dX5_digest_300 : decode cX5_digest 300 = .ok (.dup, 1) := by decide +kernel
theorem dX5_digest_301 : decode cX5_digest 301 = .ok (.iconst 4, 1) := by decide +kernel
theorem dX5_digest_302 : decode cX5_digest 302 = .ok (.aload_n 0, 1) := by decide +kernel
theorem dX5_digest_303 : decode cX5_digest 303 = .ok (.iload 4, 2) := by decide +kernel
theorem dX5_digest_305 : decode cX5_digest 305 = .ok (.iconst 4, 1) := by decide +kernel
theorem dX5_digest_306 : decode cX5_digest 306 = .ok (.invokevirtual 67, 3) := by decide +kernel
theorem dX5_digest_309 : decode cX5_digest 309 = .ok (.iconst (-1), 1) := by decide +kernel
theorem dX5_digest_310 : decode cX5_digest 310 = .ok (.if_icmp .ne 7, 3) := by decide +kernel
theorem dX5_digest_313 : decode cX5_digest 313 = .ok (.iconst 0, 1) := by decide +kernel
theorem dX5_digest_314 : decode cX5_digest 314 = .ok (.goto 4, 3) := by decide +kernel
theorem dX5_digest_317 : decode cX5_digest 317 = .ok (.iconst 1, 1) := by decide +kernel
theorem dX5_digest_318 : decode cX5_digest 318 = .ok (.iastore, 1) := by decide +kernel
theorem dX5_digest_319 : decode cX5_digest 319 = .ok (.dup, 1) := by decide +kernel
theorem dX5_digest_320 : decode cX5_digest 320 = .ok (.iconst 5, 1) := by decide +kernel
theorem dX5_digest_321 : decode cX5_digest 321 = .ok (.aload_n 0, 1) := by decide +kernel
theorem dX5_digest_322 : decode cX5_digest 322 = .ok (.iload 4, 2) := by decide +kernel
theorem dX5_digest_324 : decode cX5_digest 324 = .ok (.invokevirtual 176, 3) := by decide +kernel
theorem dX5_digest_327 : decode cX5_digest 327 = .ok (.iastore, 1) := by decide +kernel
theorem dX5_digest_328 : decode cX5_digest 328 = .ok (.astore 5, 2) := by decide +kernel
theorem dX5_digest_330 : decode cX5_digest 330 = .ok (.aload 5, 2) := by decide +kernel
theorem dX5_digest_332 : decode cX5_digest 332 = .ok (.astore 6, 2) := by decide +kernel
theorem dX5_digest_334 : decode cX5_digest 334 = .ok (.aload 6, 2) := by decide +kernel
theorem dX5_digest_336 : decode cX5_digest 336 = .ok (.arraylength, 1) := by decide +kernel
theorem dX5_digest_337 : decode cX5_digest 337 = .ok (.istore 7, 2) := by decide +kernel
theorem dX5_digest_339 : decode cX5_digest 339 = .ok (.iconst 0, 1) := by decide +kernel
theorem dX5_digest_340 : decode cX5_digest 340 = .ok (.istore 8, 2) := by decide +kernel
theorem dX5_digest_342 : decode cX5_digest 342 = .ok (.iload 8, 2) := by decide +kernel
theorem dX5_digest_344 : decode cX5_digest 344 = .ok (.iload 7, 2) := by decide +kernel
theorem dX5_digest_346 : decode cX5_digest 346 = .ok (.if_icmp .ge 26, 3) := by decide +kernel
theorem dX5_digest_349 : decode cX5_digest 349 = .ok (.aload 6, 2) := by decide +kernel
theorem dX5_digest_351 : decode cX5_digest 351 = .ok (.iload 8, 2) := by decide +kernel
theorem dX5_digest_353 : decode cX5_digest 353 = .ok (.iaload, 1) := by decide +kernel
theorem dX5_digest_354 : decode cX5_digest 354 = .ok (.istore 9, 2) := by decide +kernel
theorem dX5_digest_356 : decode cX5_digest 356 = .ok (.lload_n 2, 1) := by decide +kernel
theorem dX5_digest_357 : decode cX5_digest 357 = .ok (.ldc2_w 184, 3) := by decide +kernel
theorem dX5_digest_360 : decode cX5_digest 360 = .ok (.lmul, 1) := by decide +kernel
theorem dX5_digest_361 : decode cX5_digest 361 = .ok (.iload 9, 2) := by decide +kernel
theorem dX5_digest_363 : decode cX5_digest 363 = .ok (.i2l, 1) := by decide +kernel
theorem dX5_digest_364 : decode cX5_digest 364 = .ok (.ladd, 1) := by decide +kernel
theorem dX5_digest_365 : decode cX5_digest 365 = .ok (.lstore_n 2, 1) := by decide +kernel
theorem dX5_digest_366 : decode cX5_digest 366 = .ok (.iinc 8 1, 3) := by decide +kernel
theorem dX5_digest_369 : decode cX5_digest 369 = .ok (.goto (-27), 3) := by decide +kernel
theorem dX5_digest_372 : decode cX5_digest 372 = .ok (.iinc 4 1, 3) := by decide +kernel
theorem dX5_digest_375 : decode cX5_digest 375 = .ok (.goto (-127), 3) := by decide +kernel
theorem dX5_digest_378 : decode cX5_digest 378 = .ok (.lload_n 2, 1) := by decide +kernel
theorem dX5_digest_379 : decode cX5_digest 379 = .ok (.lreturn, 1) := by decide +kernel
end
section
theorem dL_addCrossing_0 : decode cL_addCrossing 0 = .ok (.aload_n 1, 1) := by decide +kernel
theorem dL_addCrossing_1 : decode cL_addCrossing 1 = .ok (.iconst 0, 1) := by decide +kernel
theorem dL_addCrossing_2 : decode cL_addCrossing 2 = .ok (.aload_n 0, 1) := by decide +kernel
theorem dL_addCrossing_3 : decode cL_addCrossing 3 = .ok (.invokevirtual 7, 3) := by decide +kernel
theorem dL_addCrossing_6 : decode cL_addCrossing 6 = .ok (.i2l, 1) := by decide +kernel
theorem dL_addCrossing_7 : decode cL_addCrossing 7 = .ok (.lastore, 1) := by decide +kernel
theorem dL_addCrossing_8 : decode cL_addCrossing 8 = .ok (.goto 6, 3) := by decide +kernel
theorem dL_addCrossing_11 : decode cL_addCrossing 11 = .ok (.astore_n 2, 1) := by decide +kernel
theorem dL_addCrossing_12 : decode cL_addCrossing 12 = .ok (.iconst 1, 1) := by decide +kernel
theorem dL_addCrossing_13 : decode cL_addCrossing 13 = .ok (.ireturn, 1) := by decide +kernel
theorem dL_addCrossing_14 : decode cL_addCrossing 14 = .ok (.iconst 0, 1) := by decide +kernel
theorem dL_addCrossing_15 : decode cL_addCrossing 15 = .ok (.ireturn, 1) := by decide +kernel
theorem dL_addRoad_0 : decode cL_addRoad 0 = .ok (.aload 5, 2) := by decide +kernel
theorem dL_addRoad_2 : decode cL_addRoad 2 = .ok (.iconst 0, 1) := by decide +kernel
theorem dL_addRoad_3 : decode cL_addRoad 3 = .ok (.aload_n 0, 1) := by decide +kernel
theorem dL_addRoad_4 : decode cL_addRoad 4 = .ok (.iload_n 1, 1) := by decide +kernel
theorem dL_addRoad_5 : decode cL_addRoad 5 = .ok (.iload_n 2, 1) := by decide +kernel
theorem dL_addRoad_6 : decode cL_addRoad 6 = .ok (.iload_n 3, 1) := by decide +kernel
theorem dL_addRoad_7 : decode cL_addRoad 7 = .ok (.iload 4, 2) := by decide +kernel
theorem dL_addRoad_9 : decode cL_addRoad 9 = .ok (.invokevirtual 15, 3) := by decide +kernel
theorem dL_addRoad_12 : decode cL_addRoad 12 = .ok (.i2l, 1) := by decide +kernel
theorem dL_addRoad_13 : decode cL_addRoad 13 = .ok (.lastore, 1) := by decide +kernel
theorem dL_addRoad_14 : decode cL_addRoad 14 = .ok (.goto 15, 3) := by decide +kernel
theorem dL_addRoad_17 : decode cL_addRoad 17 = .ok (.astore 6, 2) := by decide +kernel
theorem dL_addRoad_19 : decode cL_addRoad 19 = .ok (.iconst 1, 1) := by decide +kernel
theorem dL_addRoad_20 : decode cL_addRoad 20 = .ok (.ireturn, 1) := by decide +kernel
theorem dL_addRoad_21 : decode cL_addRoad 21 = .ok (.astore 6, 2) := by decide +kernel
theorem dL_addRoad_23 : decode cL_addRoad 23 = .ok (.iconst 2, 1) := by decide +kernel
theorem dL_addRoad_24 : decode cL_addRoad 24 = .ok (.ireturn, 1) := by decide +kernel
theorem dL_addRoad_25 : decode cL_addRoad 25 = .ok (.astore 6, 2) := by decide +kernel
theorem dL_addRoad_27 : decode cL_addRoad 27 = .ok (.iconst 3, 1) := by decide +kernel
theorem dL_addRoad_28 : decode cL_addRoad 28 = .ok (.ireturn, 1) := by decide +kernel
theorem dL_addRoad_29 : decode cL_addRoad 29 = .ok (.iconst 0, 1) := by decide +kernel
theorem dL_addRoad_30 : decode cL_addRoad 30 = .ok (.ireturn, 1) := by decide +kernel
theorem dL_addTourist_0 : decode cL_addTourist 0 = .ok (.aload_n 3, 1) := by decide +kernel
theorem dL_addTourist_1 : decode cL_addTourist 1 = .ok (.iconst 0, 1) := by decide +kernel
theorem dL_addTourist_2 : decode cL_addTourist 2 = .ok (.aload_n 0, 1) := by decide +kernel
theorem dL_addTourist_3 : decode cL_addTourist 3 = .ok (.iload_n 1, 1) := by decide +kernel
theorem dL_addTourist_4 : decode cL_addTourist 4 = .ok (.iload_n 2, 1) := by decide +kernel
theorem dL_addTourist_5 : decode cL_addTourist 5 = .ok (.invokevirtual 23, 3) := by decide +kernel
theorem dL_addTourist_8 : decode cL_addTourist 8 = .ok (.i2l, 1) := by decide +kernel
theorem dL_addTourist_9 : decode cL_addTourist 9 = .ok (.lastore, 1) := by decide +kernel
theorem dL_addTourist_10 : decode cL_addTourist 10 = .ok (.goto 15, 3) := by decide +kernel
theorem dL_addTourist_13 : decode cL_addTourist 13 = .ok (.astore 4, 2) := by decide +kernel
theorem dL_addTourist_15 : decode cL_addTourist 15 = .ok (.iconst 1, 1) := by decide +kernel
theorem dL_addTourist_16 : decode cL_addTourist 16 = .ok (.ireturn, 1) := by decide +kernel
theorem dL_addTourist_17 : decode cL_addTourist 17 = .ok (.astore 4, 2) := by decide +kernel
theorem dL_addTourist_19 : decode cL_addTourist 19 = .ok (.iconst 2, 1) := by decide +kernel
theorem dL_addTourist_20 : decode cL_addTourist 20 = .ok (.ireturn, 1) := by decide +kernel
theorem dL_addTourist_21 : decode cL_addTourist 21 = .ok (.astore 4, 2) := by decide +kernel
theorem dL_addTourist_23 : decode cL_addTourist 23 = .ok (.iconst 3, 1) := by decide +kernel
theorem dL_addTourist_24 : decode cL_addTourist 24 = .ok (.ireturn, 1) := by decide +kernel
theorem dL_addTourist_25 : decode cL_addTourist 25 = .ok (.iconst 0, 1) := by decide +kernel
theorem dL_addTourist_26 : decode cL_addTourist 26 = .ok (.ireturn, 1) := by decide +kernel
theorem dL_mend_0 : decode cL_mend 0 = .ok (.aload_n 3, 1) := by decide +kernel
theorem dL_mend_1 : decode cL_mend 1 = .ok (.iconst 0, 1) := by decide +kernel
theorem dL_mend_2 : decode cL_mend 2 = .ok (.aload_n 0, 1) := by decide +kernel
theorem dL_mend_3 : decode cL_mend 3 = .ok (.iload_n 1, 1) := by decide +kernel
theorem dL_mend_4 : decode cL_mend 4 = .ok (.iload_n 2, 1) := by decide +kernel
theorem dL_mend_5 : decode cL_mend 5 = .ok (.invokevirtual 27, 3) := by decide +kernel
theorem dL_mend_8 : decode cL_mend 8 = .ok (.i2l, 1) := by decide +kernel
theorem dL_mend_9 : decode cL_mend 9 = .ok (.lastore, 1) := by decide +kernel
theorem dL_mend_10 : decode cL_mend 10 = .ok (.goto 15, 3) := by decide +kernel
theorem dL_mend_13 : decode cL_mend 13 = .ok (.astore 4, 2) := by decide +kernel
theorem dL_mend_15 : decode cL_mend 15 = .ok (.iconst 1, 1) := by decide +kernel
theorem dL_mend_16 : decode cL_mend 16 = .ok (.ireturn, 1) := by decide +kernel
theorem dL_mend_17 : decode cL_mend 17 = .ok (.astore 4, 2) := by decide +kernel
theorem dL_mend_19 : decode cL_mend 19 = .ok (.iconst 2, 1) := by decide +kernel
theorem dL_mend_20 : decode cL_mend 20 = .ok (.ireturn, 1) := by decide +kernel
theorem dL_mend_21 : decode cL_mend 21 = .ok (.astore 4, 2) := by decide +kernel
theorem dL_mend_23 : decode cL_mend 23 = .ok (.iconst 3, 1) := by decide +kernel
theorem dL_mend_24 : decode cL_mend 24 = .ok (.ireturn, 1) := by decide +kernel
theorem dL_mend_25 : decode cL_mend 25 = .ok (.iconst 0, 1) := by decide +kernel
theorem dL_mend_26 : decode cL_mend 26 = .ok (.ireturn, 1) := by decide +kernel
theorem dL_cutKnots_0 : decode cL_cutKnots 0 = .ok (.aload_n 2, 1) := by decide +kernel
theorem dL_cutKnots_1 : decode cL_cutKnots 1 = .ok (.iconst 0, 1) := by decide +kernel
theorem dL_cutKnots_2 : decode cL_cutKnots 2 = .ok (.aload_n 0, 1) := by decide +kernel
theorem dL_cutKnots_3 : decode cL_cutKnots 3 = .ok (.iload_n 1, 1) := by decide +kernel
theorem dL_cutKnots_4 : decode cL_cutKnots 4 = .ok (.invokevirtual 30, 3) := by decide +kernel
theorem dL_cutKnots_7 : decode cL_cutKnots 7 = .ok (.i2l, 1) := by decide +kernel
theorem dL_cutKnots_8 : decode cL_cutKnots 8 = .ok (.lastore, 1) := by decide +kernel
theorem dL_cutKnots_9 : decode cL_cutKnots 9 = .ok (.goto 9, 3) := by decide +kernel
theorem dL_cutKnots_12 : decode cL_cutKnots 12 = .ok (.astore_n 3, 1) := by decide +kernel
theorem dL_cutKnots_13 : decode cL_cutKnots 13 = .ok (.iconst 1, 1) := by decide +kernel
theorem dL_cutKnots_14 : decode cL_cutKnots 14 = .ok (.ireturn, 1) := by decide +kernel
theorem dL_cutKnots_15 : decode cL_cutKnots 15 = .ok (.astore_n 3, 1) := by decide +kernel
theorem dL_cutKnots_16 : decode cL_cutKnots 16 = .ok (.iconst 2, 1) := by decide +kernel
theorem dL_cutKnots_17 : decode cL_cutKnots 17 = .ok (.ireturn, 1) := by decide +kernel
theorem dL_cutKnots_18 : decode cL_cutKnots 18 = .ok (.iconst 0, 1) := by decide +kernel
theorem dL_cutKnots_19 : decode cL_cutKnots 19 = .ok (.ireturn, 1) := by decide +kernel
theorem dL_pass_0 : decode cL_pass 0 = .ok (.aload_n 2, 1) := by decide +kernel
theorem dL_pass_1 : decode cL_pass 1 = .ok (.iconst 0, 1) := by decide +kernel
theorem dL_pass_2 : decode cL_pass 2 = .ok (.aload_n 0, 1) := by decide +kernel
theorem dL_pass_3 : decode cL_pass 3 = .ok (.iload_n 1, 1) := by decide +kernel
theorem dL_pass_4 : decode cL_pass 4 = .ok (.invokevirtual 34, 3) := by decide +kernel
theorem dL_pass_7 : decode cL_pass 7 = .ok (.i2l, 1) := by decide +kernel
theorem dL_pass_8 : decode cL_pass 8 = .ok (.lastore, 1) := by decide +kernel
theorem dL_pass_9 : decode cL_pass 9 = .ok (.goto 6, 3) := by decide +kernel
theorem dL_pass_12 : decode cL_pass 12 = .ok (.astore_n 3, 1) := by decide +kernel
theorem dL_pass_13 : decode cL_pass 13 = .ok (.iconst 1, 1) := by decide +kernel
theorem dL_pass_14 : decode cL_pass 14 = .ok (.ireturn, 1) := by decide +kernel
theorem dL_pass_15 : decode cL_pass 15 = .ok (.iconst 0, 1) := by decide +kernel
theorem dL_pass_16 : decode cL_pass 16 = .ok (.ireturn, 1) := by decide +kernel
theorem dL_lengthOf_0 : decode cL_lengthOf 0 = .ok (.aload_n 2, 1) := by decide +kernel
theorem dL_lengthOf_1 : decode cL_lengthOf 1 = .ok (.iconst 0, 1) := by decide +kernel
theorem dL_lengthOf_2 : decode cL_lengthOf 2 = .ok (.aload_n 0, 1) := by decide +kernel
theorem dL_lengthOf_3 : decode cL_lengthOf 3 = .ok (.iload_n 1, 1) := by decide +kernel
theorem dL_lengthOf_4 : decode cL_lengthOf 4 = .ok (.invokevirtual 37, 3) := by decide +kernel
theorem dL_lengthOf_7 : decode cL_lengthOf 7 = .ok (.i2l, 1) := by decide +kernel
theorem dL_lengthOf_8 : decode cL_lengthOf 8 = .ok (.lastore, 1) := by decide +kernel
theorem dL_lengthOf_9 : decode cL_lengthOf 9 = .ok (.goto 6, 3) := by decide +kernel
theorem dL_lengthOf_12 : decode cL_lengthOf 12 = .ok (.astore_n 3, 1) := by decide +kernel
theorem dL_lengthOf_13 : decode cL_lengthOf 13 = .ok (.iconst 1, 1) := by decide +kernel
theorem dL_lengthOf_14 : decode cL_lengthOf 14 = .ok (.ireturn, 1) := by decide +kernel
theorem dL_lengthOf_15 : decode cL_lengthOf 15 = .ok (.iconst 0, 1) := by decide +kernel
theorem dL_lengthOf_16 : decode cL_lengthOf 16 = .ok (.ireturn, 1) := by decide +kernel
theorem dL_wearOf_0 : decode cL_wearOf 0 = .ok (.aload_n 2, 1) := by decide +kernel
theorem dL_wearOf_1 : decode cL_wearOf 1 = .ok (.iconst 0, 1) := by decide +kernel
theorem dL_wearOf_2 : decode cL_wearOf 2 = .ok (.aload_n 0, 1) := by decide +kernel
theorem dL_wearOf_3 : decode cL_wearOf 3 = .ok (.iload_n 1, 1) := by decide +kernel
theorem dL_wearOf_4 : decode cL_wearOf 4 = .ok (.invokevirtual 40, 3) := by decide +kernel
theorem dL_wearOf_7 : decode cL_wearOf 7 = .ok (.i2l, 1) := by decide +kernel
theorem dL_wearOf_8 : decode cL_wearOf 8 = .ok (.lastore, 1) := by decide +kernel
theorem dL_wearOf_9 : decode cL_wearOf 9 = .ok (.goto 6, 3) := by decide +kernel
theorem dL_wearOf_12 : decode cL_wearOf 12 = .ok (.astore_n 3, 1) := by decide +kernel
theorem dL_wearOf_13 : decode cL_wearOf 13 = .ok (.iconst 1, 1) := by decide +kernel
theorem dL_wearOf_14 : decode cL_wearOf 14 = .ok (.ireturn, 1) := by decide +kernel
theorem dL_wearOf_15 : decode cL_wearOf 15 = .ok (.iconst 0, 1) := by decide +kernel
theorem dL_wearOf_16 : decode cL_wearOf 16 = .ok (.ireturn, 1) := by decide +kernel
theorem dL_knotsOf_0 : decode cL_knotsOf 0 = .ok (.aload_n 2, 1) := by decide +kernel
theorem dL_knotsOf_1 : decode cL_knotsOf 1 = .ok (.iconst 0, 1) := by decide +kernel
theorem dL_knotsOf_2 : decode cL_knotsOf 2 = .ok (.aload_n 0, 1) := by decide +kernel
theorem dL_knotsOf_3 : decode cL_knotsOf 3 = .ok (.iload_n 1, 1) := by decide +kernel
theorem dL_knotsOf_4 : decode cL_knotsOf 4 = .ok (.invokevirtual 43, 3) := by decide +kernel
theorem dL_knotsOf_7 : decode cL_knotsOf 7 = .ok (.i2l, 1) := by decide +kernel
theorem dL_knotsOf_8 : decode cL_knotsOf 8 = .ok (.lastore, 1) := by decide +kernel
theorem dL_knotsOf_9 : decode cL_knotsOf 9 = .ok (.goto 6, 3) := by decide +kernel
theorem dL_knotsOf_12 : decode cL_knotsOf 12 = .ok (.astore_n 3, 1) := by decide +kernel
theorem dL_knotsOf_13 : decode cL_knotsOf 13 = .ok (.iconst 1, 1) := by decide +kernel
theorem dL_knotsOf_14 : decode cL_knotsOf 14 = .ok (.ireturn, 1) := by decide +kernel
theorem dL_knotsOf_15 : decode cL_knotsOf 15 = .ok (.iconst 0, 1) := by decide +kernel
theorem dL_knotsOf_16 : decode cL_knotsOf 16 = .ok (.ireturn, 1) := by decide +kernel
theorem dL_closedFor_0 : decode cL_closedFor 0 = .ok (.aload_n 2, 1) := by decide +kernel
theorem dL_closedFor_1 : decode cL_closedFor 1 = .ok (.iconst 0, 1) := by decide +kernel
theorem dL_closedFor_2 : decode cL_closedFor 2 = .ok (.aload_n 0, 1) := by decide +kernel
theorem dL_closedFor_3 : decode cL_closedFor 3 = .ok (.iload_n 1, 1) := by decide +kernel
theorem dL_closedFor_4 : decode cL_closedFor 4 = .ok (.invokevirtual 46, 3) := by decide +kernel
theorem dL_closedFor_7 : decode cL_closedFor 7 = .ok (.i2l, 1) := by decide +kernel
theorem dL_closedFor_8 : decode cL_closedFor 8 = .ok (.lastore, 1) := by decide +kernel
theorem dL_closedFor_9 : decode cL_closedFor 9 = .ok (.goto 6, 3) := by decide +kernel
theorem dL_closedFor_12 : decode cL_closedFor 12 = .ok (.astore_n 3, 1) := by decide +kernel
theorem dL_closedFor_13 : decode cL_closedFor 13 = .ok (.iconst 1, 1) := by decide +kernel
theorem dL_closedFor_14 : decode cL_closedFor 14 = .ok (.ireturn, 1) := by decide +kernel
theorem dL_closedFor_15 : decode cL_closedFor 15 = .ok (.iconst 0, 1) := by decide +kernel
theorem dL_closedFor_16 : decode cL_closedFor 16 = .ok (.ireturn, 1) := by decide +kernel
theorem dL_touristsOn_0 : decode cL_touristsOn 0 = .ok (.aload_n 2, 1) := by decide +kernel
theorem dL_touristsOn_1 : decode cL_touristsOn 1 = .ok (.iconst 0, 1) := by decide +kernel
theorem dL_touristsOn_2 : decode cL_touristsOn 2 = .ok (.aload_n 0, 1) := by decide +kernel
theorem dL_touristsOn_3 : decode cL_touristsOn 3 = .ok (.iload_n 1, 1) := by decide +kernel
theorem dL_touristsOn_4 : decode cL_touristsOn 4 = .ok (.invokevirtual 49, 3) := by decide +kernel
theorem dL_touristsOn_7 : decode cL_touristsOn 7 = .ok (.i2l, 1) := by decide +kernel
theorem dL_touristsOn_8 : decode cL_touristsOn 8 = .ok (.lastore, 1) := by decide +kernel
theorem dL_touristsOn_9 : decode cL_touristsOn 9 = .ok (.goto 6, 3) := by decide +kernel
theorem dL_touristsOn_12 : decode cL_touristsOn 12 = .ok (.astore_n 3, 1) := by decide +kernel
theorem dL_touristsOn_13 : decode cL_touristsOn 13 = .ok (.iconst 1, 1) := by decide +kernel
theorem dL_touristsOn_14 : decode cL_touristsOn 14 = .ok (.ireturn, 1) := by decide +kernel
theorem dL_touristsOn_15 : decode cL_touristsOn 15 = .ok (.iconst 0, 1) := by decide +kernel
theorem dL_touristsOn_16 : decode cL_touristsOn 16 = .ok (.ireturn, 1) := by decide +kernel
theorem dL_openDistance_0 : decode cL_openDistance 0 = .ok (.aload_n 3, 1) := by decide +kernel
theorem dL_openDistance_1 : decode cL_openDistance 1 = .ok (.iconst 0, 1) := by decide +kernel
theorem dL_openDistance_2 : decode cL_openDistance 2 = .ok (.aload_n 0, 1) := by decide +kernel
theorem dL_openDistance_3 : decode cL_openDistance 3 = .ok (.iload_n 1, 1) := by decide +kernel
theorem dL_openDistance_4 : decode cL_openDistance 4 = .ok (.iload_n 2, 1) := by decide +kernel
theorem dL_openDistance_5 : decode cL_openDistance 5 = .ok (.invokevirtual 52, 3) := by decide +kernel
theorem dL_openDistance_8 : decode cL_openDistance 8 = .ok (.i2l, 1) := by decide +kernel
theorem dL_openDistance_9 : decode cL_openDistance 9 = .ok (.lastore, 1) := by decide +kernel
theorem dL_openDistance_10 : decode cL_openDistance 10 = .ok (.goto 7, 3) := by decide +kernel
theorem dL_openDistance_13 : decode cL_openDistance 13 = .ok (.astore 4, 2) := by decide +kernel
theorem dL_openDistance_15 : decode cL_openDistance 15 = .ok (.iconst 1, 1) := by decide +kernel
theorem dL_openDistance_16 : decode cL_openDistance 16 = .ok (.ireturn, 1) := by decide +kernel
theorem dL_openDistance_17 : decode cL_openDistance 17 = .ok (.iconst 0, 1) := by decide +kernel
theorem dL_openDistance_18 : decode cL_openDistance 18 = .ok (.ireturn, 1) := by decide +kernel
theorem dL_distance_0 : decode cL_distance 0 = .ok (.aload_n 3, 1) := by decide +kernel
theorem dL_distance_1 : decode cL_distance 1 = .ok (.iconst 0, 1) := by decide +kernel
theorem dL_distance_2 : decode cL_distance 2 = .ok (.aload_n 0, 1) := by decide +kernel
theorem dL_distance_3 : decode cL_distance 3 = .ok (.iload_n 1, 1) := by decide +kernel
theorem dL_distance_4 : decode cL_distance 4 = .ok (.iload_n 2, 1) := by decide +kernel
theorem dL_distance_5 : decode cL_distance 5 = .ok (.invokevirtual 55, 3) := by decide +kernel
theorem dL_distance_8 : decode cL_distance 8 = .ok (.i2l, 1) := by decide +kernel
theorem dL_distance_9 : decode cL_distance 9 = .ok (.lastore, 1) := by decide +kernel
theorem dL_distance_10 : decode cL_distance 10 = .ok (.goto 7, 3) := by decide +kernel
theorem dL_distance_13 : decode cL_distance 13 = .ok (.astore 4, 2) := by decide +kernel
theorem dL_distance_15 : decode cL_distance 15 = .ok (.iconst 1, 1) := by decide +kernel
theorem dL_distance_16 : decode cL_distance 16 = .ok (.ireturn, 1) := by decide +kernel
theorem dL_distance_17 : decode cL_distance 17 = .ok (.iconst 0, 1) := by decide +kernel
theorem dL_distance_18 : decode cL_distance 18 = .ok (.ireturn, 1) := by decide +kernel
theorem dL_nextRoad_0 : decode cL_nextRoad 0 = .ok (.aload_n 3, 1) := by decide +kernel
theorem dL_nextRoad_1 : decode cL_nextRoad 1 = .ok (.iconst 0, 1) := by decide +kernel
theorem dL_nextRoad_2 : decode cL_nextRoad 2 = .ok (.aload_n 0, 1) := by decide +kernel
theorem dL_nextRoad_3 : decode cL_nextRoad 3 = .ok (.iload_n 1, 1) := by decide +kernel
theorem dL_nextRoad_4 : decode cL_nextRoad 4 = .ok (.iload_n 2, 1) := by decide +kernel
theorem dL_nextRoad_5 : decode cL_nextRoad 5 = .ok (.invokevirtual 58, 3) := by decide +kernel
theorem dL_nextRoad_8 : decode cL_nextRoad 8 = .ok (.i2l, 1) := by decide +kernel
theorem dL_nextRoad_9 : decode cL_nextRoad 9 = .ok (.lastore, 1) := by decide +kernel
theorem dL_nextRoad_10 : decode cL_nextRoad 10 = .ok (.goto 7, 3) := by decide +kernel
theorem dL_nextRoad_13 : decode cL_nextRoad 13 = .ok (.astore 4, 2) := by decide +kernel
theorem dL_nextRoad_15 : decode cL_nextRoad 15 = .ok (.iconst 1, 1) := by decide +kernel
theorem dL_nextRoad_16 : decode cL_nextRoad 16 = .ok (.ireturn, 1) := by decide +kernel
theorem dL_nextRoad_17 : decode cL_nextRoad 17 = .ok (.iconst 0, 1) := by decide +kernel
theorem dL_nextRoad_18 : decode cL_nextRoad 18 = .ok (.ireturn, 1) := by decide +kernel
theorem dL_placeOf_0 : decode cL_placeOf 0 = .ok (.aload_n 2, 1) := by decide +kernel
theorem dL_placeOf_1 : decode cL_placeOf 1 = .ok (.iconst 0, 1) := by decide +kernel
theorem dL_placeOf_2 : decode cL_placeOf 2 = .ok (.aload_n 0, 1) := by decide +kernel
theorem dL_placeOf_3 : decode cL_placeOf 3 = .ok (.iload_n 1, 1) := by decide +kernel
theorem dL_placeOf_4 : decode cL_placeOf 4 = .ok (.invokevirtual 61, 3) := by decide +kernel
theorem dL_placeOf_7 : decode cL_placeOf 7 = .ok (.i2l, 1) := by decide +kernel
theorem dL_placeOf_8 : decode cL_placeOf 8 = .ok (.lastore, 1) := by decide +kernel
theorem dL_placeOf_9 : decode cL_placeOf 9 = .ok (.goto 6, 3) := by decide +kernel
theorem dL_placeOf_12 : decode cL_placeOf 12 = .ok (.astore_n 3, 1) := by decide +kernel
theorem dL_placeOf_13 : decode cL_placeOf 13 = .ok (.iconst 1, 1) := by decide +kernel
theorem dL_placeOf_14 : decode cL_placeOf 14 = .ok (.ireturn, 1) := by decide +kernel
theorem dL_placeOf_15 : decode cL_placeOf 15 = .ok (.iconst 0, 1) := by decide +kernel
theorem dL_placeOf_16 : decode cL_placeOf 16 = .ok (.ireturn, 1) := by decide +kernel
theorem dL_roadOf_0 : decode cL_roadOf 0 = .ok (.aload_n 2, 1) := by decide +kernel
theorem dL_roadOf_1 : decode cL_roadOf 1 = .ok (.iconst 0, 1) := by decide +kernel
theorem dL_roadOf_2 : decode cL_roadOf 2 = .ok (.aload_n 0, 1) := by decide +kernel
theorem dL_roadOf_3 : decode cL_roadOf 3 = .ok (.iload_n 1, 1) := by decide +kernel
theorem dL_roadOf_4 : decode cL_roadOf 4 = .ok (.invokevirtual 64, 3) := by decide +kernel
theorem dL_roadOf_7 : decode cL_roadOf 7 = .ok (.i2l, 1) := by decide +kernel
theorem dL_roadOf_8 : decode cL_roadOf 8 = .ok (.lastore, 1) := by decide +kernel
theorem dL_roadOf_9 : decode cL_roadOf 9 = .ok (.goto 6, 3) := by decide +kernel
theorem dL_roadOf_12 : decode cL_roadOf 12 = .ok (.astore_n 3, 1) := by decide +kernel
theorem dL_roadOf_13 : decode cL_roadOf 13 = .ok (.iconst 1, 1) := by decide +kernel
theorem dL_roadOf_14 : decode cL_roadOf 14 = .ok (.ireturn, 1) := by decide +kernel
theorem dL_roadOf_15 : decode cL_roadOf 15 = .ok (.iconst 0, 1) := by decide +kernel
theorem dL_roadOf_16 : decode cL_roadOf 16 = .ok (.ireturn, 1) := by decide +kernel
theorem dL_dyeOf_0 : decode cL_dyeOf 0 = .ok (.aload_n 2, 1) := by decide +kernel
theorem dL_dyeOf_1 : decode cL_dyeOf 1 = .ok (.iconst 0, 1) := by decide +kernel
theorem dL_dyeOf_2 : decode cL_dyeOf 2 = .ok (.aload_n 0, 1) := by decide +kernel
theorem dL_dyeOf_3 : decode cL_dyeOf 3 = .ok (.iload_n 1, 1) := by decide +kernel
theorem dL_dyeOf_4 : decode cL_dyeOf 4 = .ok (.invokevirtual 67, 3) := by decide +kernel
theorem dL_dyeOf_7 : decode cL_dyeOf 7 = .ok (.i2l, 1) := by decide +kernel
theorem dL_dyeOf_8 : decode cL_dyeOf 8 = .ok (.lastore, 1) := by decide +kernel
theorem dL_dyeOf_9 : decode cL_dyeOf 9 = .ok (.goto 6, 3) := by decide +kernel
theorem dL_dyeOf_12 : decode cL_dyeOf 12 = .ok (.astore_n 3, 1) := by decide +kernel
theorem dL_dyeOf_13 : decode cL_dyeOf 13 = .ok (.iconst 1, 1) := by decide +kernel
theorem dL_dyeOf_14 : decode cL_dyeOf 14 = .ok (.ireturn, 1) := by decide +kernel
theorem dL_dyeOf_15 : decode cL_dyeOf 15 = .ok (.iconst 0, 1) := by decide +kernel
theorem dL_dyeOf_16 : decode cL_dyeOf 16 = .ok (.ireturn, 1) := by decide +kernel
theorem dL_frayOf_0 : decode cL_frayOf 0 = .ok (.aload_n 2, 1) := by decide +kernel
theorem dL_frayOf_1 : decode cL_frayOf 1 = .ok (.iconst 0, 1) := by decide +kernel
theorem dL_frayOf_2 : decode cL_frayOf 2 = .ok (.aload_n 0, 1) := by decide +kernel
theorem dL_frayOf_3 : decode cL_frayOf 3 = .ok (.iload_n 1, 1) := by decide +kernel
theorem dL_frayOf_4 : decode cL_frayOf 4 = .ok (.invokevirtual 70, 3) := by decide +kernel
theorem dL_frayOf_7 : decode cL_frayOf 7 = .ok (.i2l, 1) := by decide +kernel
theorem dL_frayOf_8 : decode cL_frayOf 8 = .ok (.lastore, 1) := by decide +kernel
theorem dL_frayOf_9 : decode cL_frayOf 9 = .ok (.goto 6, 3) := by decide +kernel
theorem dL_frayOf_12 : decode cL_frayOf 12 = .ok (.astore_n 3, 1) := by decide +kernel
theorem dL_frayOf_13 : decode cL_frayOf 13 = .ok (.iconst 1, 1) := by decide +kernel
theorem dL_frayOf_14 : decode cL_frayOf 14 = .ok (.ireturn, 1) := by decide +kernel
theorem dL_frayOf_15 : decode cL_frayOf 15 = .ok (.iconst 0, 1) := by decide +kernel
theorem dL_frayOf_16 : decode cL_frayOf 16 = .ok (.ireturn, 1) := by decide +kernel
theorem dL_hasArrived_0 : decode cL_hasArrived 0 = .ok (.aload_n 2, 1) := by decide +kernel
theorem dL_hasArrived_1 : decode cL_hasArrived 1 = .ok (.iconst 0, 1) := by decide +kernel
theorem dL_hasArrived_2 : decode cL_hasArrived 2 = .ok (.aload_n 0, 1) := by decide +kernel
theorem dL_hasArrived_3 : decode cL_hasArrived 3 = .ok (.iload_n 1, 1) := by decide +kernel
theorem dL_hasArrived_4 : decode cL_hasArrived 4 = .ok (.invokevirtual 73, 3) := by decide +kernel
theorem dL_hasArrived_7 : decode cL_hasArrived 7 = .ok (.ifCond .eq 7, 3) := by decide +kernel
theorem dL_hasArrived_10 : decode cL_hasArrived 10 = .ok (.lconst 1, 1) := by decide +kernel
theorem dL_hasArrived_11 : decode cL_hasArrived 11 = .ok (.goto 4, 3) := by decide +kernel
theorem dL_hasArrived_14 : decode cL_hasArrived 14 = .ok (.lconst 0, 1) := by decide +kernel
theorem dL_hasArrived_15 : decode cL_hasArrived 15 = .ok (.lastore, 1) := by decide +kernel
theorem dL_hasArrived_16 : decode cL_hasArrived 16 = .ok (.goto 6, 3) := by decide +kernel
theorem dL_hasArrived_19 : decode cL_hasArrived 19 = .ok (.astore_n 3, 1) := by decide +kernel
theorem dL_hasArrived_20 : decode cL_hasArrived 20 = .ok (.iconst 1, 1) := by decide +kernel
theorem dL_hasArrived_21 : decode cL_hasArrived 21 = .ok (.ireturn, 1) := by decide +kernel
theorem dL_hasArrived_22 : decode cL_hasArrived 22 = .ok (.iconst 0, 1) := by decide +kernel
theorem dL_hasArrived_23 : decode cL_hasArrived 23 = .ok (.ireturn, 1) := by decide +kernel
theorem dL_hoursUntilArrived_0 : decode cL_hoursUntilArrived 0 = .ok (.aload_n 2, 1) := by decide +kernel
theorem dL_hoursUntilArrived_1 : decode cL_hoursUntilArrived 1 = .ok (.iconst 0, 1) := by decide +kernel
theorem dL_hoursUntilArrived_2 : decode cL_hoursUntilArrived 2 = .ok (.aload_n 0, 1) := by decide +kernel
theorem dL_hoursUntilArrived_3 : decode cL_hoursUntilArrived 3 = .ok (.iload_n 1, 1) := by decide +kernel
theorem dL_hoursUntilArrived_4 : decode cL_hoursUntilArrived 4 = .ok (.invokevirtual 77, 3) := by decide +kernel
theorem dL_hoursUntilArrived_7 : decode cL_hoursUntilArrived 7 = .ok (.i2l, 1) := by decide +kernel
theorem dL_hoursUntilArrived_8 : decode cL_hoursUntilArrived 8 = .ok (.lastore, 1) := by decide +kernel
theorem dL_hoursUntilArrived_9 : decode cL_hoursUntilArrived 9 = .ok (.goto 6, 3) := by decide +kernel
theorem dL_hoursUntilArrived_12 : decode cL_hoursUntilArrived 12 = .ok (.astore_n 3, 1) := by decide +kernel
theorem dL_hoursUntilArrived_13 : decode cL_hoursUntilArrived 13 = .ok (.iconst 1, 1) := by decide +kernel
theorem dL_hoursUntilArrived_14 : decode cL_hoursUntilArrived 14 = .ok (.ireturn, 1) := by decide +kernel
theorem dL_hoursUntilArrived_15 : decode cL_hoursUntilArrived 15 = .ok (.iconst 0, 1) := by decide +kernel
theorem dL_hoursUntilArrived_16 : decode cL_hoursUntilArrived 16 = .ok (.ireturn, 1) := by decide +kernel
theorem dL_frayedIn_0 : decode cL_frayedIn 0 = .ok (.aload_n 2, 1) := by decide +kernel
theorem dL_frayedIn_1 : decode cL_frayedIn 1 = .ok (.iconst 0, 1) := by decide +kernel
theorem dL_frayedIn_2 : decode cL_frayedIn 2 = .ok (.aload_n 0, 1) := by decide +kernel
theorem dL_frayedIn_3 : decode cL_frayedIn 3 = .ok (.iload_n 1, 1) := by decide +kernel
theorem dL_frayedIn_4 : decode cL_frayedIn 4 = .ok (.invokevirtual 80, 3) := by decide +kernel
theorem dL_frayedIn_7 : decode cL_frayedIn 7 = .ok (.i2l, 1) := by decide +kernel
theorem dL_frayedIn_8 : decode cL_frayedIn 8 = .ok (.lastore, 1) := by decide +kernel
theorem dL_frayedIn_9 : decode cL_frayedIn 9 = .ok (.goto 6, 3) := by decide +kernel
theorem dL_frayedIn_12 : decode cL_frayedIn 12 = .ok (.astore_n 3, 1) := by decide +kernel
theorem dL_frayedIn_13 : decode cL_frayedIn 13 = .ok (.iconst 1, 1) := by decide +kernel
theorem dL_frayedIn_14 : decode cL_frayedIn 14 = .ok (.ireturn, 1) := by decide +kernel
theorem dL_frayedIn_15 : decode cL_frayedIn 15 = .ok (.iconst 0, 1) := by decide +kernel
theorem dL_frayedIn_16 : decode cL_frayedIn 16 = .ok (.ireturn, 1) := by decide +kernel
theorem dL_law_0 : decode cL_law 0 = .ok (.new 8, 3) := by decide +kernel
theorem dL_law_3 : decode cL_law 3 = .ok (.dup, 1) := by decide +kernel
theorem dL_law_4 : decode cL_law 4 = .ok (.invokespecial 83, 3) := by decide +kernel
theorem dL_law_7 : decode cL_law 7 = .ok (.astore_n 1, 1) := by decide +kernel
theorem dL_law_8 : decode cL_law 8 = .ok (.new 84, 3) := by decide +kernel
theorem dL_law_11 : decode cL_law 11 = .ok (.dup, 1) := by decide +kernel
theorem dL_law_12 : decode cL_law 12 = .ok (.invokespecial 86, 3) := by decide +kernel
theorem dL_law_15 : decode cL_law 15 = .ok (.astore_n 2, 1) := by decide +kernel
theorem dL_law_16 : decode cL_law 16 = .ok (.iconst 1, 1) := by decide +kernel
theorem dL_law_17 : decode cL_law 17 = .ok (.newarray .long, 2) := by decide +kernel
theorem dL_law_19 : decode cL_law 19 = .ok (.astore_n 3, 1) := by decide +kernel
theorem dL_law_20 : decode cL_law 20 = .ok (.iconst 0, 1) := by decide +kernel
theorem dL_law_21 : decode cL_law 21 = .ok (.istore 4, 2) := by decide +kernel
theorem dL_law_23 : decode cL_law 23 = .ok (.iload 4, 2) := by decide +kernel
theorem dL_law_25 : decode cL_law 25 = .ok (.aload_n 0, 1) := by decide +kernel
theorem dL_law_26 : decode cL_law 26 = .ok (.arraylength, 1) := by decide +kernel
theorem dL_law_27 : decode cL_law 27 = .ok (.iconst 5, 1) := by decide +kernel
theorem dL_law_28 : decode cL_law 28 = .ok (.isub, 1) := by decide +kernel
theorem dL_law_29 : decode cL_law 29 = .ok (.if_icmp .gt 1613, 3) := by decide +kernel
theorem dL_law_32 : decode cL_law 32 = .ok (.aload_n 0, 1) := by decide +kernel
theorem dL_law_33 : decode cL_law 33 = .ok (.iload 4, 2) := by decide +kernel
theorem dL_law_35 : decode cL_law 35 = .ok (.iaload, 1) := by decide +kernel
theorem dL_law_36 : decode cL_law 36 = .ok (.bipush 63, 2) := by decide +kernel
theorem dL_law_38 : decode cL_law 38 = .ok (.iand, 1) := by decide +kernel
theorem dL_law_39 : decode cL_law 39 = .ok (.tableswitch 1597 0 32 #[145, 189, 281, 349, 417, 473, 529, 542, 555, 568, 581, 594, 607, 620, 676, 732, 788, 844, 900, 913, 981, 1049, 1117, 1130, 1186, 1242, 1298, 1354, 1417, 1473, 1529, 1542, 1583], 145) := by decide +kernel
theorem dL_law_184 : decode cL_law 184 = .ok (.aload_n 1, 1) := by decide +kernel
theorem dL_law_185 : decode cL_law 185 = .ok (.aload_n 3, 1) := by decide +kernel
theorem dL_law_186 : decode cL_law 186 = .ok (.invokestatic 87, 3) := by decide +kernel
theorem dL_law_189 : decode cL_law 189 = .ok (.istore 5, 2) := by decide +kernel
theorem dL_law_191 : decode cL_law 191 = .ok (.aload_n 2, 1) := by decide +kernel
theorem dL_law_192 : decode cL_law 192 = .ok (.invokevirtual 92, 3) := by decide +kernel
theorem dL_law_195 : decode cL_law 195 = .ok (.istore 6, 2) := by decide +kernel
theorem dL_law_197 : decode cL_law 197 = .ok (.aload_n 2, 1) := by decide +kernel
theorem dL_law_198 : decode cL_law 198 = .ok (.invokevirtual 93, 3) := by decide +kernel
theorem dL_law_201 : decode cL_law 201 = .ok (.iload 5, 2) := by decide +kernel
theorem dL_law_203 : decode cL_law 203 = .ok (.if_icmp .eq 5, 3) := by decide +kernel
theorem dL_law_206 : decode cL_law 206 = .ok (.iconst 0, 1) := by decide +kernel
theorem dL_law_207 : decode cL_law 207 = .ok (.ireturn, 1) := by decide +kernel
theorem dL_law_208 : decode cL_law 208 = .ok (.iload 5, 2) := by decide +kernel
theorem dL_law_210 : decode cL_law 210 = .ok (.ifCond .ne 15, 3) := by decide +kernel
theorem dL_law_213 : decode cL_law 213 = .ok (.aload_n 3, 1) := by decide +kernel
theorem dL_law_214 : decode cL_law 214 = .ok (.iconst 0, 1) := by decide +kernel
theorem dL_law_215 : decode cL_law 215 = .ok (.laload, 1) := by decide +kernel
theorem dL_law_216 : decode cL_law 216 = .ok (.iload 6, 2) := by decide +kernel
theorem dL_law_218 : decode cL_law 218 = .ok (.i2l, 1) := by decide +kernel
theorem dL_law_219 : decode cL_law 219 = .ok (.lcmp, 1) := by decide +kernel
theorem dL_law_220 : decode cL_law 220 = .ok (.ifCond .eq 5, 3) := by decide +kernel
theorem dL_law_223 : decode cL_law 223 = .ok (.iconst 0, 1) := by decide +kernel
theorem dL_law_224 : decode cL_law 224 = .ok (.ireturn, 1) := by decide +kernel
theorem dL_law_225 : decode cL_law 225 = .ok (.goto 1411, 3) := by decide +kernel
theorem dL_law_228 : decode cL_law 228 = .ok (.aload_n 1, 1) := by decide +kernel
theorem dL_law_229 : decode cL_law 229 = .ok (.aload_n 0, 1) := by decide +kernel
theorem dL_law_230 : decode cL_law 230 = .ok (.iload 4, 2) := by decide +kernel
theorem dL_law_232 : decode cL_law 232 = .ok (.iconst 1, 1) := by decide +kernel
theorem dL_law_233 : decode cL_law 233 = .ok (.iadd, 1) := by decide +kernel
theorem dL_law_234 : decode cL_law 234 = .ok (.iaload, 1) := by decide +kernel
theorem dL_law_235 : decode cL_law 235 = .ok (.aload_n 0, 1) := by decide +kernel
theorem dL_law_236 : decode cL_law 236 = .ok (.iload 4, 2) := by decide +kernel
theorem dL_law_238 : decode cL_law 238 = .ok (.iconst 2, 1) := by decide +kernel
theorem dL_law_239 : decode cL_law 239 = .ok (.iadd, 1) := by decide +kernel
theorem dL_law_240 : decode cL_law 240 = .ok (.iaload, 1) := by decide +kernel
theorem dL_law_241 : decode cL_law 241 = .ok (.aload_n 0, 1) := by decide +kernel
theorem dL_law_242 : decode cL_law 242 = .ok (.iload 4, 2) := by decide +kernel
theorem dL_law_244 : decode cL_law 244 = .ok (.iconst 3, 1) := by decide +kernel
theorem dL_law_245 : decode cL_law 245 = .ok (.iadd, 1) := by decide +kernel
theorem dL_law_246 : decode cL_law 246 = .ok (.iaload, 1) := by decide +kernel
theorem dL_law_247 : decode cL_law 247 = .ok (.aload_n 0, 1) := by decide +kernel
theorem dL_law_248 : decode cL_law 248 = .ok (.iload 4, 2) := by decide +kernel
theorem dL_law_250 : decode cL_law 250 = .ok (.iconst 4, 1) := by decide +kernel
theorem dL_law_251 : decode cL_law 251 = .ok (.iadd, 1) := by decide +kernel
theorem dL_law_252 : decode cL_law 252 = .ok (.iaload, 1) := by decide +kernel
theorem dL_law_253 : decode cL_law 253 = .ok (.aload_n 3, 1) := by decide +kernel
theorem dL_law_254 : decode cL_law 254 = .ok (.invokestatic 96, 3) := by decide +kernel
theorem dL_law_257 : decode cL_law 257 = .ok (.istore 5, 2) := by decide +kernel
theorem dL_law_259 : decode cL_law 259 = .ok (.aload_n 2, 1) := by decide +kernel
theorem dL_law_260 : decode cL_law 260 = .ok (.aload_n 0, 1) := by decide +kernel
theorem dL_law_261 : decode cL_law 261 = .ok (.iload 4, 2) := by decide +kernel
theorem dL_law_263 : decode cL_law 263 = .ok (.iconst 1, 1) := by decide +kernel
theorem dL_law_264 : decode cL_law 264 = .ok (.iadd, 1) := by decide +kernel
theorem dL_law_265 : decode cL_law 265 = .ok (.iaload, 1) := by decide +kernel
theorem dL_law_266 : decode cL_law 266 = .ok (.aload_n 0, 1) := by decide +kernel
theorem dL_law_267 : decode cL_law 267 = .ok (.iload 4, 2) := by decide +kernel
theorem dL_law_269 : decode cL_law 269 = .ok (.iconst 2, 1) := by decide +kernel
theorem dL_law_270 : decode cL_law 270 = .ok (.iadd, 1) := by decide +kernel
theorem dL_law_271 : decode cL_law 271 = .ok (.iaload, 1) := by decide +kernel
theorem dL_law_272 : decode cL_law 272 = .ok (.aload_n 0, 1) := by decide +kernel
theorem dL_law_273 : decode cL_law 273 = .ok (.iload 4, 2) := by decide +kernel
theorem dL_law_275 : decode cL_law 275 = .ok (.iconst 3, 1) := by decide +kernel
theorem dL_law_276 : decode cL_law 276 = .ok (.iadd, 1) := by decide +kernel
theorem dL_law_277 : decode cL_law 277 = .ok (.iaload, 1) := by decide +kernel
theorem dL_law_278 : decode cL_law 278 = .ok (.aload_n 0, 1) := by decide +kernel
theorem dL_law_279 : decode cL_law 279 = .ok (.iload 4, 2) := by decide +kernel
theorem dL_law_281 : decode cL_law 281 = .ok (.iconst 4, 1) := by decide +kernel
theorem dL_law_282 : decode cL_law 282 = .ok (.iadd, 1) := by decide +kernel
theorem dL_law_283 : decode cL_law 283 = .ok (.iaload, 1) := by decide +kernel
theorem dL_law_284 : decode cL_law 284 = .ok (.invokevirtual 99, 3) := by decide +kernel
theorem dL_law_287 : decode cL_law 287 = .ok (.istore 6, 2) := by decide +kernel
theorem dL_law_289 : decode cL_law 289 = .ok (.aload_n 2, 1) := by decide +kernel
theorem dL_law_290 : decode cL_law 290 = .ok (.invokevirtual 93, 3) := by decide +kernel
theorem dL_law_293 : decode cL_law 293 = .ok (.iload 5, 2) := by decide +kernel
theorem dL_law_295 : decode cL_law 295 = .ok (.if_icmp .eq 5, 3) := by decide +kernel
theorem dL_law_298 : decode cL_law 298 = .ok (.iconst 0, 1) := by decide +kernel
theorem dL_law_299 : decode cL_law 299 = .ok (.ireturn, 1) := by decide +kernel
theorem dL_law_300 : decode cL_law 300 = .ok (.iload 5, 2) := by decide +kernel
theorem dL_law_302 : decode cL_law 302 = .ok (.ifCond .ne 15, 3) := by decide +kernel
theorem dL_law_305 : decode cL_law 305 = .ok (.aload_n 3, 1) := by decide +kernel
theorem dL_law_306 : decode cL_law 306 = .ok (.iconst 0, 1) := by decide +kernel
theorem dL_law_307 : decode cL_law 307 = .ok (.laload, 1) := by decide +kernel
theorem dL_law_308 : decode cL_law 308 = .ok (.iload 6, 2) := by decide +kernel
theorem dL_law_310 : decode cL_law 310 = .ok (.i2l, 1) := by decide +kernel
theorem dL_law_311 : decode cL_law 311 = .ok (.lcmp, 1) := by decide +kernel
theorem dL_law_312 : decode cL_law 312 = .ok (.ifCond .eq 5, 3) := by decide +kernel
theorem dL_law_315 : decode cL_law 315 = .ok (.iconst 0, 1) := by decide +kernel
theorem dL_law_316 : decode cL_law 316 = .ok (.ireturn, 1) := by decide +kernel
theorem dL_law_317 : decode cL_law 317 = .ok (.goto 1319, 3) := by decide +kernel
theorem dL_law_320 : decode cL_law 320 = .ok (.aload_n 1, 1) := by decide +kernel
theorem dL_law_321 : decode cL_law 321 = .ok (.aload_n 0, 1) := by decide +kernel
theorem dL_law_322 : decode cL_law 322 = .ok (.iload 4, 2) := by decide +kernel
theorem dL_law_324 : decode cL_law 324 = .ok (.iconst 1, 1) := by decide +kernel
theorem dL_law_325 : decode cL_law 325 = .ok (.iadd, 1) := by decide +kernel
theorem dL_law_326 : decode cL_law 326 = .ok (.iaload, 1) := by decide +kernel
theorem dL_law_327 : decode cL_law 327 = .ok (.aload_n 0, 1) := by decide +kernel
theorem dL_law_328 : decode cL_law 328 = .ok (.iload 4, 2) := by decide +kernel
theorem dL_law_330 : decode cL_law 330 = .ok (.iconst 2, 1) := by decide +kernel
theorem dL_law_331 : decode cL_law 331 = .ok (.iadd, 1) := by decide +kernel
theorem dL_law_332 : decode cL_law 332 = .ok (.iaload, 1) := by decide +kernel
theorem dL_law_333 : decode cL_law 333 = .ok (.aload_n 3, 1) := by decide +kernel
theorem dL_law_334 : decode cL_law 334 = .ok (.invokestatic 100, 3) := by decide +kernel
theorem dL_law_337 : decode cL_law 337 = .ok (.istore 5, 2) := by decide +kernel
theorem dL_law_339 : decode cL_law 339 = .ok (.aload_n 2, 1) := by decide +kernel
theorem dL_law_340 : decode cL_law 340 = .ok (.aload_n 0, 1) := by decide +kernel
theorem dL_law_341 : decode cL_law 341 = .ok (.iload 4, 2) := by decide +kernel
theorem dL_law_343 : decode cL_law 343 = .ok (.iconst 1, 1) := by decide +kernel
theorem dL_law_344 : decode cL_law 344 = .ok (.iadd, 1) := by decide +kernel
theorem dL_law_345 : decode cL_law 345 = .ok (.iaload, 1) := by decide +kernel
theorem dL_law_346 : decode cL_law 346 = .ok (.aload_n 0, 1) := by decide +kernel
theorem dL_law_347 : decode cL_law 347 = .ok (.iload 4, 2) := by decide +kernel
theorem dL_law_349 : decode cL_law 349 = .ok (.iconst 2, 1) := by decide +kernel
theorem dL_law_350 : decode cL_law 350 = .ok (.iadd, 1) := by decide +kernel
theorem dL_law_351 : decode cL_law 351 = .ok (.iaload, 1) := by decide +kernel
theorem dL_law_352 : decode cL_law 352 = .ok (.invokevirtual 103, 3) := by decide +kernel
theorem dL_law_355 : decode cL_law 355 = .ok (.istore 6, 2) := by decide +kernel
theorem dL_law_357 : decode cL_law 357 = .ok (.aload_n 2, 1) := by decide +kernel
theorem dL_law_358 : decode cL_law 358 = .ok (.invokevirtual 93, 3) := by decide +kernel
theorem dL_law_361 : decode cL_law 361 = .ok (.iload 5, 2) := by decide +kernel
theorem dL_law_363 : decode cL_law 363 = .ok (.if_icmp .eq 5, 3) := by decide +kernel
theorem dL_law_366 : decode cL_law 366 = .ok (.iconst 0, 1) := by decide +kernel
theorem dL_law_367 : decode cL_law 367 = .ok (.ireturn, 1) := by decide +kernel
theorem dL_law_368 : decode cL_law 368 = .ok (.iload 5, 2) := by decide +kernel
theorem dL_law_370 : decode cL_law 370 = .ok (.ifCond .ne 15, 3) := by decide +kernel
theorem dL_law_373 : decode cL_law 373 = .ok (.aload_n 3, 1) := by decide +kernel
theorem dL_law_374 : decode cL_law 374 = .ok (.iconst 0, 1) := by decide +kernel
theorem dL_law_375 : decode cL_law 375 = .ok (.laload, 1) := by decide +kernel
theorem dL_law_376 : decode cL_law 376 = .ok (.iload 6, 2) := by decide +kernel
theorem dL_law_378 : decode cL_law 378 = .ok (.i2l, 1) := by decide +kernel
theorem dL_law_379 : decode cL_law 379 = .ok (.lcmp, 1) := by decide +kernel
theorem dL_law_380 : decode cL_law 380 = .ok (.ifCond .eq 5, 3) := by decide +kernel
theorem dL_law_383 : decode cL_law 383 = .ok (.iconst 0, 1) := by decide +kernel
theorem dL_law_384 : decode cL_law 384 = .ok (.ireturn, 1) := by decide +kernel
theorem dL_law_385 : decode cL_law 385 = .ok (.goto 1251, 3) := by decide +kernel
theorem dL_law_388 : decode cL_law 388 = .ok (.aload_n 1, 1) := by decide +kernel
theorem dL_law_389 : decode cL_law 389 = .ok (.aload_n 0, 1) := by decide +kernel
theorem dL_law_390 : decode cL_law 390 = .ok (.iload 4, 2) := by decide +kernel
theorem dL_law_392 : decode cL_law 392 = .ok (.iconst 1, 1) := by decide +kernel
theorem dL_law_393 : decode cL_law 393 = .ok (.iadd, 1) := by decide +kernel
theorem dL_law_394 : decode cL_law 394 = .ok (.iaload, 1) := by decide +kernel
theorem dL_law_395 : decode cL_law 395 = .ok (.aload_n 0, 1) := by decide +kernel
theorem dL_law_396 : decode cL_law 396 = .ok (.iload 4, 2) := by decide +kernel
theorem dL_law_398 : decode cL_law 398 = .ok (.iconst 2, 1) := by decide +kernel
theorem dL_law_399 : decode cL_law 399 = .ok (.iadd, 1) := by decide +kernel
theorem dL_law_400 : decode cL_law 400 = .ok (.iaload, 1) := by decide +kernel
theorem dL_law_401 : decode cL_law 401 = .ok (.aload_n 3, 1) := by decide +kernel
theorem dL_law_402 : decode cL_law 402 = .ok (.invokestatic 104, 3) := by decide +kernel
theorem dL_law_405 : decode cL_law 405 = .ok (.istore 5, 2) := by decide +kernel
theorem dL_law_407 : decode cL_law 407 = .ok (.aload_n 2, 1) := by decide +kernel
theorem dL_law_408 : decode cL_law 408 = .ok (.aload_n 0, 1) := by decide +kernel
theorem dL_law_409 : decode cL_law 409 = .ok (.iload 4, 2) := by decide +kernel
theorem dL_law_411 : decode cL_law 411 = .ok (.iconst 1, 1) := by decide +kernel
theorem dL_law_412 : decode cL_law 412 = .ok (.iadd, 1) := by decide +kernel
theorem dL_law_413 : decode cL_law 413 = .ok (.iaload, 1) := by decide +kernel
theorem dL_law_414 : decode cL_law 414 = .ok (.aload_n 0, 1) := by decide +kernel
theorem dL_law_415 : decode cL_law 415 = .ok (.iload 4, 2) := by decide +kernel
theorem dL_law_417 : decode cL_law 417 = .ok (.iconst 2, 1) := by decide +kernel
theorem dL_law_418 : decode cL_law 418 = .ok (.iadd, 1) := by decide +kernel
theorem dL_law_419 : decode cL_law 419 = .ok (.iaload, 1) := by decide +kernel
theorem dL_law_420 : decode cL_law 420 = .ok (.invokevirtual 106, 3) := by decide +kernel
theorem dL_law_423 : decode cL_law 423 = .ok (.istore 6, 2) := by decide +kernel
theorem dL_law_425 : decode cL_law 425 = .ok (.aload_n 2, 1) := by decide +kernel
theorem dL_law_426 : decode cL_law 426 = .ok (.invokevirtual 93, 3) := by decide +kernel
theorem dL_law_429 : decode cL_law 429 = .ok (.iload 5, 2) := by decide +kernel
theorem dL_law_431 : decode cL_law 431 = .ok (.if_icmp .eq 5, 3) := by decide +kernel
theorem dL_law_434 : decode cL_law 434 = .ok (.iconst 0, 1) := by decide +kernel
theorem dL_law_435 : decode cL_law 435 = .ok (.ireturn, 1) := by decide +kernel
theorem dL_law_436 : decode cL_law 436 = .ok (.iload 5, 2) := by decide +kernel
theorem dL_law_438 : decode cL_law 438 = .ok (.ifCond .ne 15, 3) := by decide +kernel
theorem dL_law_441 : decode cL_law 441 = .ok (.aload_n 3, 1) := by decide +kernel
theorem dL_law_442 : decode cL_law 442 = .ok (.iconst 0, 1) := by decide +kernel
theorem dL_law_443 : decode cL_law 443 = .ok (.laload, 1) := by decide +kernel
theorem dL_law_444 : decode cL_law 444 = .ok (.iload 6, 2) := by decide +kernel
theorem dL_law_446 : decode cL_law 446 = .ok (.i2l, 1) := by decide +kernel
end
section
theorem dL_law_447 : decode cL_law 447 = .ok (.lcmp, 1) := by decide +kernel
theorem dL_law_448 : decode cL_law 448 = .ok (.ifCond .eq 5, 3) := by decide +kernel
theorem dL_law_451 : decode cL_law 451 = .ok (.iconst 0, 1) := by decide +kernel
theorem dL_law_452 : decode cL_law 452 = .ok (.ireturn, 1) := by decide +kernel
theorem dL_law_453 : decode cL_law 453 = .ok (.goto 1183, 3) := by decide +kernel
theorem dL_law_456 : decode cL_law 456 = .ok (.aload_n 1, 1) := by decide +kernel
theorem dL_law_457 : decode cL_law 457 = .ok (.aload_n 0, 1) := by decide +kernel
theorem dL_law_458 : decode cL_law 458 = .ok (.iload 4, 2) := by decide +kernel
theorem dL_law_460 : decode cL_law 460 = .ok (.iconst 1, 1) := by decide +kernel
theorem dL_law_461 : decode cL_law 461 = .ok (.iadd, 1) := by decide +kernel
theorem dL_law_462 : decode cL_law 462 = .ok (.iaload, 1) := by decide +kernel
theorem dL_law_463 : decode cL_law 463 = .ok (.aload_n 3, 1) := by decide +kernel
theorem dL_law_464 : decode cL_law 464 = .ok (.invokestatic 107, 3) := by decide +kernel
theorem dL_law_467 : decode cL_law 467 = .ok (.istore 5, 2) := by decide +kernel
theorem dL_law_469 : decode cL_law 469 = .ok (.aload_n 2, 1) := by decide +kernel
theorem dL_law_470 : decode cL_law 470 = .ok (.aload_n 0, 1) := by decide +kernel
theorem dL_law_471 : decode cL_law 471 = .ok (.iload 4, 2) := by decide +kernel
theorem dL_law_473 : decode cL_law 473 = .ok (.iconst 1, 1) := by decide +kernel
theorem dL_law_474 : decode cL_law 474 = .ok (.iadd, 1) := by decide +kernel
theorem dL_law_475 : decode cL_law 475 = .ok (.iaload, 1) := by decide +kernel
theorem dL_law_476 : decode cL_law 476 = .ok (.invokevirtual 110, 3) := by decide +kernel
theorem dL_law_479 : decode cL_law 479 = .ok (.istore 6, 2) := by decide +kernel
theorem dL_law_481 : decode cL_law 481 = .ok (.aload_n 2, 1) := by decide +kernel
theorem dL_law_482 : decode cL_law 482 = .ok (.invokevirtual 93, 3) := by decide +kernel
theorem dL_law_485 : decode cL_law 485 = .ok (.iload 5, 2) := by decide +kernel
theorem dL_law_487 : decode cL_law 487 = .ok (.if_icmp .eq 5, 3) := by decide +kernel
theorem dL_law_490 : decode cL_law 490 = .ok (.iconst 0, 1) := by decide +kernel
theorem dL_law_491 : decode cL_law 491 = .ok (.ireturn, 1) := by decide +kernel
theorem dL_law_492 : decode cL_law 492 = .ok (.iload 5, 2) := by decide +kernel
theorem dL_law_494 : decode cL_law 494 = .ok (.ifCond .ne 15, 3) := by decide +kernel
theorem dL_law_497 : decode cL_law 497 = .ok (.aload_n 3, 1) := by decide +kernel
theorem dL_law_498 : decode cL_law 498 = .ok (.iconst 0, 1) := by decide +kernel
theorem dL_law_499 : decode cL_law 499 = .ok (.laload, 1) := by decide +kernel
theorem dL_law_500 : decode cL_law 500 = .ok (.iload 6, 2) := by decide +kernel
theorem dL_law_502 : decode cL_law 502 = .ok (.i2l, 1) := by decide +kernel
theorem dL_law_503 : decode cL_law 503 = .ok (.lcmp, 1) := by decide +kernel
theorem dL_law_504 : decode cL_law 504 = .ok (.ifCond .eq 5, 3) := by decide +kernel
theorem dL_law_507 : decode cL_law 507 = .ok (.iconst 0, 1) := by decide +kernel
theorem dL_law_508 : decode cL_law 508 = .ok (.ireturn, 1) := by decide +kernel
theorem dL_law_509 : decode cL_law 509 = .ok (.goto 1127, 3) := by decide +kernel
theorem dL_law_512 : decode cL_law 512 = .ok (.aload_n 1, 1) := by decide +kernel
theorem dL_law_513 : decode cL_law 513 = .ok (.aload_n 0, 1) := by decide +kernel
theorem dL_law_514 : decode cL_law 514 = .ok (.iload 4, 2) := by decide +kernel
theorem dL_law_516 : decode cL_law 516 = .ok (.iconst 1, 1) := by decide +kernel
theorem dL_law_517 : decode cL_law 517 = .ok (.iadd, 1) := by decide +kernel
theorem dL_law_518 : decode cL_law 518 = .ok (.iaload, 1) := by decide +kernel
theorem dL_law_519 : decode cL_law 519 = .ok (.aload_n 3, 1) := by decide +kernel
theorem dL_law_520 : decode cL_law 520 = .ok (.invokestatic 111, 3) := by decide +kernel
theorem dL_law_523 : decode cL_law 523 = .ok (.istore 5, 2) := by decide +kernel
theorem dL_law_525 : decode cL_law 525 = .ok (.aload_n 2, 1) := by decide +kernel
theorem dL_law_526 : decode cL_law 526 = .ok (.aload_n 0, 1) := by decide +kernel
theorem dL_law_527 : decode cL_law 527 = .ok (.iload 4, 2) := by decide +kernel
theorem dL_law_529 : decode cL_law 529 = .ok (.iconst 1, 1) := by decide +kernel
theorem dL_law_530 : decode cL_law 530 = .ok (.iadd, 1) := by decide +kernel
theorem dL_law_531 : decode cL_law 531 = .ok (.iaload, 1) := by decide +kernel
theorem dL_law_532 : decode cL_law 532 = .ok (.invokevirtual 113, 3) := by decide +kernel
theorem dL_law_535 : decode cL_law 535 = .ok (.istore 6, 2) := by decide +kernel
theorem dL_law_537 : decode cL_law 537 = .ok (.aload_n 2, 1) := by decide +kernel
theorem dL_law_538 : decode cL_law 538 = .ok (.invokevirtual 93, 3) := by decide +kernel
theorem dL_law_541 : decode cL_law 541 = .ok (.iload 5, 2) := by decide +kernel
theorem dL_law_543 : decode cL_law 543 = .ok (.if_icmp .eq 5, 3) := by decide +kernel
theorem dL_law_546 : decode cL_law 546 = .ok (.iconst 0, 1) := by decide +kernel
theorem dL_law_547 : decode cL_law 547 = .ok (.ireturn, 1) := by decide +kernel
theorem dL_law_548 : decode cL_law 548 = .ok (.iload 5, 2) := by decide +kernel
theorem dL_law_550 : decode cL_law 550 = .ok (.ifCond .ne 15, 3) := by decide +kernel
theorem dL_law_553 : decode cL_law 553 = .ok (.aload_n 3, 1) := by decide +kernel
theorem dL_law_554 : decode cL_law 554 = .ok (.iconst 0, 1) := by decide +kernel
theorem dL_law_555 : decode cL_law 555 = .ok (.laload, 1) := by decide +kernel
theorem dL_law_556 : decode cL_law 556 = .ok (.iload 6, 2) := by decide +kernel
theorem dL_law_558 : decode cL_law 558 = .ok (.i2l, 1) := by decide +kernel
theorem dL_law_559 : decode cL_law 559 = .ok (.lcmp, 1) := by decide +kernel
theorem dL_law_560 : decode cL_law 560 = .ok (.ifCond .eq 5, 3) := by decide +kernel
theorem dL_law_563 : decode cL_law 563 = .ok (.iconst 0, 1) := by decide +kernel
theorem dL_law_564 : decode cL_law 564 = .ok (.ireturn, 1) := by decide +kernel
theorem dL_law_565 : decode cL_law 565 = .ok (.goto 1071, 3) := by decide +kernel
theorem dL_law_568 : decode cL_law 568 = .ok (.aload_n 1, 1) := by decide +kernel
theorem dL_law_569 : decode cL_law 569 = .ok (.invokevirtual 114, 3) := by decide +kernel
theorem dL_law_572 : decode cL_law 572 = .ok (.aload_n 2, 1) := by decide +kernel
theorem dL_law_573 : decode cL_law 573 = .ok (.invokevirtual 117, 3) := by decide +kernel
theorem dL_law_576 : decode cL_law 576 = .ok (.if_icmp .eq 1060, 3) := by decide +kernel
theorem dL_law_579 : decode cL_law 579 = .ok (.iconst 0, 1) := by decide +kernel
theorem dL_law_580 : decode cL_law 580 = .ok (.ireturn, 1) := by decide +kernel
theorem dL_law_581 : decode cL_law 581 = .ok (.aload_n 1, 1) := by decide +kernel
theorem dL_law_582 : decode cL_law 582 = .ok (.invokevirtual 118, 3) := by decide +kernel
theorem dL_law_585 : decode cL_law 585 = .ok (.aload_n 2, 1) := by decide +kernel
theorem dL_law_586 : decode cL_law 586 = .ok (.invokevirtual 121, 3) := by decide +kernel
theorem dL_law_589 : decode cL_law 589 = .ok (.if_icmp .eq 1047, 3) := by decide +kernel
theorem dL_law_592 : decode cL_law 592 = .ok (.iconst 0, 1) := by decide +kernel
theorem dL_law_593 : decode cL_law 593 = .ok (.ireturn, 1) := by decide +kernel
theorem dL_law_594 : decode cL_law 594 = .ok (.aload_n 1, 1) := by decide +kernel
theorem dL_law_595 : decode cL_law 595 = .ok (.invokevirtual 122, 3) := by decide +kernel
theorem dL_law_598 : decode cL_law 598 = .ok (.aload_n 2, 1) := by decide +kernel
theorem dL_law_599 : decode cL_law 599 = .ok (.invokevirtual 125, 3) := by decide +kernel
theorem dL_law_602 : decode cL_law 602 = .ok (.if_icmp .eq 1034, 3) := by decide +kernel
theorem dL_law_605 : decode cL_law 605 = .ok (.iconst 0, 1) := by decide +kernel
theorem dL_law_606 : decode cL_law 606 = .ok (.ireturn, 1) := by decide +kernel
theorem dL_law_607 : decode cL_law 607 = .ok (.aload_n 1, 1) := by decide +kernel
theorem dL_law_608 : decode cL_law 608 = .ok (.invokevirtual 126, 3) := by decide +kernel
theorem dL_law_611 : decode cL_law 611 = .ok (.aload_n 2, 1) := by decide +kernel
theorem dL_law_612 : decode cL_law 612 = .ok (.invokevirtual 129, 3) := by decide +kernel
theorem dL_law_615 : decode cL_law 615 = .ok (.if_icmp .eq 1021, 3) := by decide +kernel
theorem dL_law_618 : decode cL_law 618 = .ok (.iconst 0, 1) := by decide +kernel
theorem dL_law_619 : decode cL_law 619 = .ok (.ireturn, 1) := by decide +kernel
theorem dL_law_620 : decode cL_law 620 = .ok (.aload_n 1, 1) := by decide +kernel
theorem dL_law_621 : decode cL_law 621 = .ok (.invokevirtual 130, 3) := by decide +kernel
theorem dL_law_624 : decode cL_law 624 = .ok (.aload_n 2, 1) := by decide +kernel
theorem dL_law_625 : decode cL_law 625 = .ok (.invokevirtual 133, 3) := by decide +kernel
theorem dL_law_628 : decode cL_law 628 = .ok (.if_icmp .eq 1008, 3) := by decide +kernel
theorem dL_law_631 : decode cL_law 631 = .ok (.iconst 0, 1) := by decide +kernel
theorem dL_law_632 : decode cL_law 632 = .ok (.ireturn, 1) := by decide +kernel
theorem dL_law_633 : decode cL_law 633 = .ok (.aload_n 1, 1) := by decide +kernel
theorem dL_law_634 : decode cL_law 634 = .ok (.invokevirtual 134, 3) := by decide +kernel
theorem dL_law_637 : decode cL_law 637 = .ok (.aload_n 2, 1) := by decide +kernel
theorem dL_law_638 : decode cL_law 638 = .ok (.invokevirtual 137, 3) := by decide +kernel
theorem dL_law_641 : decode cL_law 641 = .ok (.if_icmp .eq 995, 3) := by decide +kernel
theorem dL_law_644 : decode cL_law 644 = .ok (.iconst 0, 1) := by decide +kernel
theorem dL_law_645 : decode cL_law 645 = .ok (.ireturn, 1) := by decide +kernel
theorem dL_law_646 : decode cL_law 646 = .ok (.aload_n 1, 1) := by decide +kernel
theorem dL_law_647 : decode cL_law 647 = .ok (.invokevirtual 138, 3) := by decide +kernel
theorem dL_law_650 : decode cL_law 650 = .ok (.aload_n 2, 1) := by decide +kernel
theorem dL_law_651 : decode cL_law 651 = .ok (.invokevirtual 141, 3) := by decide +kernel
theorem dL_law_654 : decode cL_law 654 = .ok (.if_icmp .eq 982, 3) := by decide +kernel
theorem dL_law_657 : decode cL_law 657 = .ok (.iconst 0, 1) := by decide +kernel
theorem dL_law_658 : decode cL_law 658 = .ok (.ireturn, 1) := by decide +kernel
theorem dL_law_659 : decode cL_law 659 = .ok (.aload_n 1, 1) := by decide +kernel
theorem dL_law_660 : decode cL_law 660 = .ok (.aload_n 0, 1) := by decide +kernel
theorem dL_law_661 : decode cL_law 661 = .ok (.iload 4, 2) := by decide +kernel
theorem dL_law_663 : decode cL_law 663 = .ok (.iconst 1, 1) := by decide +kernel
theorem dL_law_664 : decode cL_law 664 = .ok (.iadd, 1) := by decide +kernel
theorem dL_law_665 : decode cL_law 665 = .ok (.iaload, 1) := by decide +kernel
theorem dL_law_666 : decode cL_law 666 = .ok (.aload_n 3, 1) := by decide +kernel
theorem dL_law_667 : decode cL_law 667 = .ok (.invokestatic 142, 3) := by decide +kernel
theorem dL_law_670 : decode cL_law 670 = .ok (.istore 5, 2) := by decide +kernel
theorem dL_law_672 : decode cL_law 672 = .ok (.aload_n 2, 1) := by decide +kernel
theorem dL_law_673 : decode cL_law 673 = .ok (.aload_n 0, 1) := by decide +kernel
theorem dL_law_674 : decode cL_law 674 = .ok (.iload 4, 2) := by decide +kernel
theorem dL_law_676 : decode cL_law 676 = .ok (.iconst 1, 1) := by decide +kernel
theorem dL_law_677 : decode cL_law 677 = .ok (.iadd, 1) := by decide +kernel
theorem dL_law_678 : decode cL_law 678 = .ok (.iaload, 1) := by decide +kernel
theorem dL_law_679 : decode cL_law 679 = .ok (.invokevirtual 144, 3) := by decide +kernel
theorem dL_law_682 : decode cL_law 682 = .ok (.istore 6, 2) := by decide +kernel
theorem dL_law_684 : decode cL_law 684 = .ok (.aload_n 2, 1) := by decide +kernel
theorem dL_law_685 : decode cL_law 685 = .ok (.invokevirtual 93, 3) := by decide +kernel
theorem dL_law_688 : decode cL_law 688 = .ok (.iload 5, 2) := by decide +kernel
theorem dL_law_690 : decode cL_law 690 = .ok (.if_icmp .eq 5, 3) := by decide +kernel
theorem dL_law_693 : decode cL_law 693 = .ok (.iconst 0, 1) := by decide +kernel
theorem dL_law_694 : decode cL_law 694 = .ok (.ireturn, 1) := by decide +kernel
theorem dL_law_695 : decode cL_law 695 = .ok (.iload 5, 2) := by decide +kernel
theorem dL_law_697 : decode cL_law 697 = .ok (.ifCond .ne 15, 3) := by decide +kernel
theorem dL_law_700 : decode cL_law 700 = .ok (.aload_n 3, 1) := by decide +kernel
theorem dL_law_701 : decode cL_law 701 = .ok (.iconst 0, 1) := by decide +kernel
theorem dL_law_702 : decode cL_law 702 = .ok (.laload, 1) := by decide +kernel
theorem dL_law_703 : decode cL_law 703 = .ok (.iload 6, 2) := by decide +kernel
theorem dL_law_705 : decode cL_law 705 = .ok (.i2l, 1) := by decide +kernel
theorem dL_law_706 : decode cL_law 706 = .ok (.lcmp, 1) := by decide +kernel
theorem dL_law_707 : decode cL_law 707 = .ok (.ifCond .eq 5, 3) := by decide +kernel
theorem dL_law_710 : decode cL_law 710 = .ok (.iconst 0, 1) := by decide +kernel
theorem dL_law_711 : decode cL_law 711 = .ok (.ireturn, 1) := by decide +kernel
theorem dL_law_712 : decode cL_law 712 = .ok (.goto 924, 3) := by decide +kernel
theorem dL_law_715 : decode cL_law 715 = .ok (.aload_n 1, 1) := by decide +kernel
theorem dL_law_716 : decode cL_law 716 = .ok (.aload_n 0, 1) := by decide +kernel
theorem dL_law_717 : decode cL_law 717 = .ok (.iload 4, 2) := by decide +kernel
theorem dL_law_719 : decode cL_law 719 = .ok (.iconst 1, 1) := by decide +kernel
theorem dL_law_720 : decode cL_law 720 = .ok (.iadd, 1) := by decide +kernel
theorem dL_law_721 : decode cL_law 721 = .ok (.iaload, 1) := by decide +kernel
theorem dL_law_722 : decode cL_law 722 = .ok (.aload_n 3, 1) := by decide +kernel
theorem dL_law_723 : decode cL_law 723 = .ok (.invokestatic 145, 3) := by decide +kernel
theorem dL_law_726 : decode cL_law 726 = .ok (.istore 5, 2) := by decide +kernel
theorem dL_law_728 : decode cL_law 728 = .ok (.aload_n 2, 1) := by decide +kernel
theorem dL_law_729 : decode cL_law 729 = .ok (.aload_n 0, 1) := by decide +kernel
theorem dL_law_730 : decode cL_law 730 = .ok (.iload 4, 2) := by decide +kernel
theorem dL_law_732 : decode cL_law 732 = .ok (.iconst 1, 1) := by decide +kernel
theorem dL_law_733 : decode cL_law 733 = .ok (.iadd, 1) := by decide +kernel
theorem dL_law_734 : decode cL_law 734 = .ok (.iaload, 1) := by decide +kernel
theorem dL_law_735 : decode cL_law 735 = .ok (.invokevirtual 147, 3) := by decide +kernel
theorem dL_law_738 : decode cL_law 738 = .ok (.istore 6, 2) := by decide +kernel
theorem dL_law_740 : decode cL_law 740 = .ok (.aload_n 2, 1) := by decide +kernel
theorem dL_law_741 : decode cL_law 741 = .ok (.invokevirtual 93, 3) := by decide +kernel
theorem dL_law_744 : decode cL_law 744 = .ok (.iload 5, 2) := by decide +kernel
theorem dL_law_746 : decode cL_law 746 = .ok (.if_icmp .eq 5, 3) := by decide +kernel
theorem dL_law_749 : decode cL_law 749 = .ok (.iconst 0, 1) := by decide +kernel
theorem dL_law_750 : decode cL_law 750 = .ok (.ireturn, 1) := by decide +kernel
theorem dL_law_751 : decode cL_law 751 = .ok (.iload 5, 2) := by decide +kernel
theorem dL_law_753 : decode cL_law 753 = .ok (.ifCond .ne 15, 3) := by decide +kernel
theorem dL_law_756 : decode cL_law 756 = .ok (.aload_n 3, 1) := by decide +kernel
theorem dL_law_757 : decode cL_law 757 = .ok (.iconst 0, 1) := by decide +kernel
theorem dL_law_758 : decode cL_law 758 = .ok (.laload, 1) := by decide +kernel
theorem dL_law_759 : decode cL_law 759 = .ok (.iload 6, 2) := by decide +kernel
theorem dL_law_761 : decode cL_law 761 = .ok (.i2l, 1) := by decide +kernel
theorem dL_law_762 : decode cL_law 762 = .ok (.lcmp, 1) := by decide +kernel
end
section
theorem dL_law_763 : decode cL_law 763 = .ok (.ifCond .eq 5, 3) := by decide +kernel
theorem dL_law_766 : decode cL_law 766 = .ok (.iconst 0, 1) := by decide +kernel
theorem dL_law_767 : decode cL_law 767 = .ok (.ireturn, 1) := by decide +kernel
theorem dL_law_768 : decode cL_law 768 = .ok (.goto 868, 3) := by decide +kernel
theorem dL_law_771 : decode cL_law 771 = .ok (.aload_n 1, 1) := by decide +kernel
theorem dL_law_772 : decode cL_law 772 = .ok (.aload_n 0, 1) := by decide +kernel
theorem dL_law_773 : decode cL_law 773 = .ok (.iload 4, 2) := by decide +kernel
theorem dL_law_775 : decode cL_law 775 = .ok (.iconst 1, 1) := by decide +kernel
theorem dL_law_776 : decode cL_law 776 = .ok (.iadd, 1) := by decide +kernel
theorem dL_law_777 : decode cL_law 777 = .ok (.iaload, 1) := by decide +kernel
theorem dL_law_778 : decode cL_law 778 = .ok (.aload_n 3, 1) := by decide +kernel
theorem dL_law_779 : decode cL_law 779 = .ok (.invokestatic 148, 3) := by decide +kernel
theorem dL_law_782 : decode cL_law 782 = .ok (.istore 5, 2) := by decide +kernel
theorem dL_law_784 : decode cL_law 784 = .ok (.aload_n 2, 1) := by decide +kernel
theorem dL_law_785 : decode cL_law 785 = .ok (.aload_n 0, 1) := by decide +kernel
theorem dL_law_786 : decode cL_law 786 = .ok (.iload 4, 2) := by decide +kernel
theorem dL_law_788 : decode cL_law 788 = .ok (.iconst 1, 1) := by decide +kernel
theorem dL_law_789 : decode cL_law 789 = .ok (.iadd, 1) := by decide +kernel
theorem dL_law_790 : decode cL_law 790 = .ok (.iaload, 1) := by decide +kernel
theorem dL_law_791 : decode cL_law 791 = .ok (.invokevirtual 150, 3) := by decide +kernel
theorem dL_law_794 : decode cL_law 794 = .ok (.istore 6, 2) := by decide +kernel
theorem dL_law_796 : decode cL_law 796 = .ok (.aload_n 2, 1) := by decide +kernel
theorem dL_law_797 : decode cL_law 797 = .ok (.invokevirtual 93, 3) := by decide +kernel
theorem dL_law_800 : decode cL_law 800 = .ok (.iload 5, 2) := by decide +kernel
theorem dL_law_802 : decode cL_law 802 = .ok (.if_icmp .eq 5, 3) := by decide +kernel
theorem dL_law_805 : decode cL_law 805 = .ok (.iconst 0, 1) := by decide +kernel
theorem dL_law_806 : decode cL_law 806 = .ok (.ireturn, 1) := by decide +kernel
theorem dL_law_807 : decode cL_law 807 = .ok (.iload 5, 2) := by decide +kernel
theorem dL_law_809 : decode cL_law 809 = .ok (.ifCond .ne 15, 3) := by decide +kernel
theorem dL_law_812 : decode cL_law 812 = .ok (.aload_n 3, 1) := by decide +kernel
theorem dL_law_813 : decode cL_law 813 = .ok (.iconst 0, 1) := by decide +kernel
theorem dL_law_814 : decode cL_law 814 = .ok (.laload, 1) := by decide +kernel
theorem dL_law_815 : decode cL_law 815 = .ok (.iload 6, 2) := by decide +kernel
theorem dL_law_817 : decode cL_law 817 = .ok (.i2l, 1) := by decide +kernel
theorem dL_law_818 : decode cL_law 818 = .ok (.lcmp, 1) := by decide +kernel
theorem dL_law_819 : decode cL_law 819 = .ok (.ifCond .eq 5, 3) := by decide +kernel
theorem dL_law_822 : decode cL_law 822 = .ok (.iconst 0, 1) := by decide +kernel
theorem dL_law_823 : decode cL_law 823 = .ok (.ireturn, 1) := by decide +kernel
theorem dL_law_824 : decode cL_law 824 = .ok (.goto 812, 3) := by decide +kernel
theorem dL_law_827 : decode cL_law 827 = .ok (.aload_n 1, 1) := by decide +kernel
theorem dL_law_828 : decode cL_law 828 = .ok (.aload_n 0, 1) := by decide +kernel
theorem dL_law_829 : decode cL_law 829 = .ok (.iload 4, 2) := by decide +kernel
theorem dL_law_831 : decode cL_law 831 = .ok (.iconst 1, 1) := by decide +kernel
theorem dL_law_832 : decode cL_law 832 = .ok (.iadd, 1) := by decide +kernel
theorem dL_law_833 : decode cL_law 833 = .ok (.iaload, 1) := by decide +kernel
theorem dL_law_834 : decode cL_law 834 = .ok (.aload_n 3, 1) := by decide +kernel
theorem dL_law_835 : decode cL_law 835 = .ok (.invokestatic 151, 3) := by decide +kernel
theorem dL_law_838 : decode cL_law 838 = .ok (.istore 5, 2) := by decide +kernel
theorem dL_law_840 : decode cL_law 840 = .ok (.aload_n 2, 1) := by decide +kernel
theorem dL_law_841 : decode cL_law 841 = .ok (.aload_n 0, 1) := by decide +kernel
theorem dL_law_842 : decode cL_law 842 = .ok (.iload 4, 2) := by decide +kernel
theorem dL_law_844 : decode cL_law 844 = .ok (.iconst 1, 1) := by decide +kernel
theorem dL_law_845 : decode cL_law 845 = .ok (.iadd, 1) := by decide +kernel
theorem dL_law_846 : decode cL_law 846 = .ok (.iaload, 1) := by decide +kernel
theorem dL_law_847 : decode cL_law 847 = .ok (.invokevirtual 153, 3) := by decide +kernel
theorem dL_law_850 : decode cL_law 850 = .ok (.istore 6, 2) := by decide +kernel
theorem dL_law_852 : decode cL_law 852 = .ok (.aload_n 2, 1) := by decide +kernel
theorem dL_law_853 : decode cL_law 853 = .ok (.invokevirtual 93, 3) := by decide +kernel
theorem dL_law_856 : decode cL_law 856 = .ok (.iload 5, 2) := by decide +kernel
theorem dL_law_858 : decode cL_law 858 = .ok (.if_icmp .eq 5, 3) := by decide +kernel
theorem dL_law_861 : decode cL_law 861 = .ok (.iconst 0, 1) := by decide +kernel
theorem dL_law_862 : decode cL_law 862 = .ok (.ireturn, 1) := by decide +kernel
theorem dL_law_863 : decode cL_law 863 = .ok (.iload 5, 2) := by decide +kernel
theorem dL_law_865 : decode cL_law 865 = .ok (.ifCond .ne 15, 3) := by decide +kernel
theorem dL_law_868 : decode cL_law 868 = .ok (.aload_n 3, 1) := by decide +kernel
theorem dL_law_869 : decode cL_law 869 = .ok (.iconst 0, 1) := by decide +kernel
theorem dL_law_870 : decode cL_law 870 = .ok (.laload, 1) := by decide +kernel
theorem dL_law_871 : decode cL_law 871 = .ok (.iload 6, 2) := by decide +kernel
theorem dL_law_873 : decode cL_law 873 = .ok (.i2l, 1) := by decide +kernel
theorem dL_law_874 : decode cL_law 874 = .ok (.lcmp, 1) := by decide +kernel
theorem dL_law_875 : decode cL_law 875 = .ok (.ifCond .eq 5, 3) := by decide +kernel
theorem dL_law_878 : decode cL_law 878 = .ok (.iconst 0, 1) := by decide +kernel
theorem dL_law_879 : decode cL_law 879 = .ok (.ireturn, 1) := by decide +kernel
theorem dL_law_880 : decode cL_law 880 = .ok (.goto 756, 3) := by decide +kernel
theorem dL_law_883 : decode cL_law 883 = .ok (.aload_n 1, 1) := by decide +kernel
theorem dL_law_884 : decode cL_law 884 = .ok (.aload_n 0, 1) := by decide +kernel
theorem dL_law_885 : decode cL_law 885 = .ok (.iload 4, 2) := by decide +kernel
theorem dL_law_887 : decode cL_law 887 = .ok (.iconst 1, 1) := by decide +kernel
theorem dL_law_888 : decode cL_law 888 = .ok (.iadd, 1) := by decide +kernel
theorem dL_law_889 : decode cL_law 889 = .ok (.iaload, 1) := by decide +kernel
theorem dL_law_890 : decode cL_law 890 = .ok (.aload_n 3, 1) := by decide +kernel
theorem dL_law_891 : decode cL_law 891 = .ok (.invokestatic 154, 3) := by decide +kernel
theorem dL_law_894 : decode cL_law 894 = .ok (.istore 5, 2) := by decide +kernel
theorem dL_law_896 : decode cL_law 896 = .ok (.aload_n 2, 1) := by decide +kernel
theorem dL_law_897 : decode cL_law 897 = .ok (.aload_n 0, 1) := by decide +kernel
theorem dL_law_898 : decode cL_law 898 = .ok (.iload 4, 2) := by decide +kernel
theorem dL_law_900 : decode cL_law 900 = .ok (.iconst 1, 1) := by decide +kernel
theorem dL_law_901 : decode cL_law 901 = .ok (.iadd, 1) := by decide +kernel
theorem dL_law_902 : decode cL_law 902 = .ok (.iaload, 1) := by decide +kernel
theorem dL_law_903 : decode cL_law 903 = .ok (.invokevirtual 156, 3) := by decide +kernel
theorem dL_law_906 : decode cL_law 906 = .ok (.istore 6, 2) := by decide +kernel
theorem dL_law_908 : decode cL_law 908 = .ok (.aload_n 2, 1) := by decide +kernel
theorem dL_law_909 : decode cL_law 909 = .ok (.invokevirtual 93, 3) := by decide +kernel
theorem dL_law_912 : decode cL_law 912 = .ok (.iload 5, 2) := by decide +kernel
theorem dL_law_914 : decode cL_law 914 = .ok (.if_icmp .eq 5, 3) := by decide +kernel
theorem dL_law_917 : decode cL_law 917 = .ok (.iconst 0, 1) := by decide +kernel
theorem dL_law_918 : decode cL_law 918 = .ok (.ireturn, 1) := by decide +kernel
theorem dL_law_919 : decode cL_law 919 = .ok (.iload 5, 2) := by decide +kernel
theorem dL_law_921 : decode cL_law 921 = .ok (.ifCond .ne 15, 3) := by decide +kernel
theorem dL_law_924 : decode cL_law 924 = .ok (.aload_n 3, 1) := by decide +kernel
theorem dL_law_925 : decode cL_law 925 = .ok (.iconst 0, 1) := by decide +kernel
theorem dL_law_926 : decode cL_law 926 = .ok (.laload, 1) := by decide +kernel
theorem dL_law_927 : decode cL_law 927 = .ok (.iload 6, 2) := by decide +kernel
theorem dL_law_929 : decode cL_law 929 = .ok (.i2l, 1) := by decide +kernel
theorem dL_law_930 : decode cL_law 930 = .ok (.lcmp, 1) := by decide +kernel
theorem dL_law_931 : decode cL_law 931 = .ok (.ifCond .eq 5, 3) := by decide +kernel
theorem dL_law_934 : decode cL_law 934 = .ok (.iconst 0, 1) := by decide +kernel
theorem dL_law_935 : decode cL_law 935 = .ok (.ireturn, 1) := by decide +kernel
theorem dL_law_936 : decode cL_law 936 = .ok (.goto 700, 3) := by decide +kernel
theorem dL_law_939 : decode cL_law 939 = .ok (.aload_n 1, 1) := by decide +kernel
theorem dL_law_940 : decode cL_law 940 = .ok (.invokevirtual 157, 3) := by decide +kernel
theorem dL_law_943 : decode cL_law 943 = .ok (.aload_n 2, 1) := by decide +kernel
theorem dL_law_944 : decode cL_law 944 = .ok (.invokevirtual 160, 3) := by decide +kernel
theorem dL_law_947 : decode cL_law 947 = .ok (.if_icmp .eq 689, 3) := by decide +kernel
theorem dL_law_950 : decode cL_law 950 = .ok (.iconst 0, 1) := by decide +kernel
theorem dL_law_951 : decode cL_law 951 = .ok (.ireturn, 1) := by decide +kernel
theorem dL_law_952 : decode cL_law 952 = .ok (.aload_n 1, 1) := by decide +kernel
theorem dL_law_953 : decode cL_law 953 = .ok (.aload_n 0, 1) := by decide +kernel
theorem dL_law_954 : decode cL_law 954 = .ok (.iload 4, 2) := by decide +kernel
theorem dL_law_956 : decode cL_law 956 = .ok (.iconst 1, 1) := by decide +kernel
theorem dL_law_957 : decode cL_law 957 = .ok (.iadd, 1) := by decide +kernel
theorem dL_law_958 : decode cL_law 958 = .ok (.iaload, 1) := by decide +kernel
theorem dL_law_959 : decode cL_law 959 = .ok (.aload_n 0, 1) := by decide +kernel
theorem dL_law_960 : decode cL_law 960 = .ok (.iload 4, 2) := by decide +kernel
theorem dL_law_962 : decode cL_law 962 = .ok (.iconst 2, 1) := by decide +kernel
theorem dL_law_963 : decode cL_law 963 = .ok (.iadd, 1) := by decide +kernel
theorem dL_law_964 : decode cL_law 964 = .ok (.iaload, 1) := by decide +kernel
theorem dL_law_965 : decode cL_law 965 = .ok (.aload_n 3, 1) := by decide +kernel
theorem dL_law_966 : decode cL_law 966 = .ok (.invokestatic 161, 3) := by decide +kernel
theorem dL_law_969 : decode cL_law 969 = .ok (.istore 5, 2) := by decide +kernel
theorem dL_law_971 : decode cL_law 971 = .ok (.aload_n 2, 1) := by decide +kernel
theorem dL_law_972 : decode cL_law 972 = .ok (.aload_n 0, 1) := by decide +kernel
theorem dL_law_973 : decode cL_law 973 = .ok (.iload 4, 2) := by decide +kernel
theorem dL_law_975 : decode cL_law 975 = .ok (.iconst 1, 1) := by decide +kernel
theorem dL_law_976 : decode cL_law 976 = .ok (.iadd, 1) := by decide +kernel
theorem dL_law_977 : decode cL_law 977 = .ok (.iaload, 1) := by decide +kernel
theorem dL_law_978 : decode cL_law 978 = .ok (.aload_n 0, 1) := by decide +kernel
theorem dL_law_979 : decode cL_law 979 = .ok (.iload 4, 2) := by decide +kernel
theorem dL_law_981 : decode cL_law 981 = .ok (.iconst 2, 1) := by decide +kernel
theorem dL_law_982 : decode cL_law 982 = .ok (.iadd, 1) := by decide +kernel
theorem dL_law_983 : decode cL_law 983 = .ok (.iaload, 1) := by decide +kernel
theorem dL_law_984 : decode cL_law 984 = .ok (.invokevirtual 163, 3) := by decide +kernel
theorem dL_law_987 : decode cL_law 987 = .ok (.istore 6, 2) := by decide +kernel
theorem dL_law_989 : decode cL_law 989 = .ok (.aload_n 2, 1) := by decide +kernel
theorem dL_law_990 : decode cL_law 990 = .ok (.invokevirtual 93, 3) := by decide +kernel
theorem dL_law_993 : decode cL_law 993 = .ok (.iload 5, 2) := by decide +kernel
theorem dL_law_995 : decode cL_law 995 = .ok (.if_icmp .eq 5, 3) := by decide +kernel
theorem dL_law_998 : decode cL_law 998 = .ok (.iconst 0, 1) := by decide +kernel
theorem dL_law_999 : decode cL_law 999 = .ok (.ireturn, 1) := by decide +kernel
theorem dL_law_1000 : decode cL_law 1000 = .ok (.iload 5, 2) := by decide +kernel
theorem dL_law_1002 : decode cL_law 1002 = .ok (.ifCond .ne 15, 3) := by decide +kernel
theorem dL_law_1005 : decode cL_law 1005 = .ok (.aload_n 3, 1) := by decide +kernel
theorem dL_law_1006 : decode cL_law 1006 = .ok (.iconst 0, 1) := by decide +kernel
theorem dL_law_1007 : decode cL_law 1007 = .ok (.laload, 1) := by decide +kernel
theorem dL_law_1008 : decode cL_law 1008 = .ok (.iload 6, 2) := by decide +kernel
theorem dL_law_1010 : decode cL_law 1010 = .ok (.i2l, 1) := by decide +kernel
theorem dL_law_1011 : decode cL_law 1011 = .ok (.lcmp, 1) := by decide +kernel
theorem dL_law_1012 : decode cL_law 1012 = .ok (.ifCond .eq 5, 3) := by decide +kernel
theorem dL_law_1015 : decode cL_law 1015 = .ok (.iconst 0, 1) := by decide +kernel
theorem dL_law_1016 : decode cL_law 1016 = .ok (.ireturn, 1) := by decide +kernel
theorem dL_law_1017 : decode cL_law 1017 = .ok (.goto 619, 3) := by decide +kernel
theorem dL_law_1020 : decode cL_law 1020 = .ok (.aload_n 1, 1) := by decide +kernel
theorem dL_law_1021 : decode cL_law 1021 = .ok (.aload_n 0, 1) := by decide +kernel
theorem dL_law_1022 : decode cL_law 1022 = .ok (.iload 4, 2) := by decide +kernel
theorem dL_law_1024 : decode cL_law 1024 = .ok (.iconst 1, 1) := by decide +kernel
theorem dL_law_1025 : decode cL_law 1025 = .ok (.iadd, 1) := by decide +kernel
theorem dL_law_1026 : decode cL_law 1026 = .ok (.iaload, 1) := by decide +kernel
theorem dL_law_1027 : decode cL_law 1027 = .ok (.aload_n 0, 1) := by decide +kernel
theorem dL_law_1028 : decode cL_law 1028 = .ok (.iload 4, 2) := by decide +kernel
theorem dL_law_1030 : decode cL_law 1030 = .ok (.iconst 2, 1) := by decide +kernel
theorem dL_law_1031 : decode cL_law 1031 = .ok (.iadd, 1) := by decide +kernel
theorem dL_law_1032 : decode cL_law 1032 = .ok (.iaload, 1) := by decide +kernel
theorem dL_law_1033 : decode cL_law 1033 = .ok (.aload_n 3, 1) := by decide +kernel
theorem dL_law_1034 : decode cL_law 1034 = .ok (.invokestatic 164, 3) := by decide +kernel
theorem dL_law_1037 : decode cL_law 1037 = .ok (.istore 5, 2) := by decide +kernel
theorem dL_law_1039 : decode cL_law 1039 = .ok (.aload_n 2, 1) := by decide +kernel
theorem dL_law_1040 : decode cL_law 1040 = .ok (.aload_n 0, 1) := by decide +kernel
theorem dL_law_1041 : decode cL_law 1041 = .ok (.iload 4, 2) := by decide +kernel
theorem dL_law_1043 : decode cL_law 1043 = .ok (.iconst 1, 1) := by decide +kernel
theorem dL_law_1044 : decode cL_law 1044 = .ok (.iadd, 1) := by decide +kernel
theorem dL_law_1045 : decode cL_law 1045 = .ok (.iaload, 1) := by decide +kernel
theorem dL_law_1046 : decode cL_law 1046 = .ok (.aload_n 0, 1) := by decide +kernel
theorem dL_law_1047 : decode cL_law 1047 = .ok (.iload 4, 2) := by decide +kernel
theorem dL_law_1049 : decode cL_law 1049 = .ok (.iconst 2, 1) := by decide +kernel
theorem dL_law_1050 : decode cL_law 1050 = .ok (.iadd, 1) := by decide +kernel
theorem dL_law_1051 : decode cL_law 1051 = .ok (.iaload, 1) := by decide +kernel
theorem dL_law_1052 : decode cL_law 1052 = .ok (.invokevirtual 166, 3) := by decide +kernel
theorem dL_law_1055 : decode cL_law 1055 = .ok (.istore 6, 2) := by decide +kernel
theorem dL_law_1057 : decode cL_law 1057 = .ok (.aload_n 2, 1) := by decide +kernel
theorem dL_law_1058 : decode cL_law 1058 = .ok (.invokevirtual 93, 3) := by decide +kernel
end
section
theorem dL_law_1061 : decode cL_law 1061 = .ok (.iload 5, 2) := by decide +kernel
theorem dL_law_1063 : decode cL_law 1063 = .ok (.if_icmp .eq 5, 3) := by decide +kernel
theorem dL_law_1066 : decode cL_law 1066 = .ok (.iconst 0, 1) := by decide +kernel
theorem dL_law_1067 : decode cL_law 1067 = .ok (.ireturn, 1) := by decide +kernel
theorem dL_law_1068 : decode cL_law 1068 = .ok (.iload 5, 2) := by decide +kernel
theorem dL_law_1070 : decode cL_law 1070 = .ok (.ifCond .ne 15, 3) := by decide +kernel
theorem dL_law_1073 : decode cL_law 1073 = .ok (.aload_n 3, 1) := by decide +kernel
theorem dL_law_1074 : decode cL_law 1074 = .ok (.iconst 0, 1) := by decide +kernel
theorem dL_law_1075 : decode cL_law 1075 = .ok (.laload, 1) := by decide +kernel
theorem dL_law_1076 : decode cL_law 1076 = .ok (.iload 6, 2) := by decide +kernel
theorem dL_law_1078 : decode cL_law 1078 = .ok (.i2l, 1) := by decide +kernel
theorem dL_law_1079 : decode cL_law 1079 = .ok (.lcmp, 1) := by decide +kernel
theorem dL_law_1080 : decode cL_law 1080 = .ok (.ifCond .eq 5, 3) := by decide +kernel
theorem dL_law_1083 : decode cL_law 1083 = .ok (.iconst 0, 1) := by decide +kernel
theorem dL_law_1084 : decode cL_law 1084 = .ok (.ireturn, 1) := by decide +kernel
theorem dL_law_1085 : decode cL_law 1085 = .ok (.goto 551, 3) := by decide +kernel
theorem dL_law_1088 : decode cL_law 1088 = .ok (.aload_n 1, 1) := by decide +kernel
theorem dL_law_1089 : decode cL_law 1089 = .ok (.aload_n 0, 1) := by decide +kernel
theorem dL_law_1090 : decode cL_law 1090 = .ok (.iload 4, 2) := by decide +kernel
theorem dL_law_1092 : decode cL_law 1092 = .ok (.iconst 1, 1) := by decide +kernel
theorem dL_law_1093 : decode cL_law 1093 = .ok (.iadd, 1) := by decide +kernel
theorem dL_law_1094 : decode cL_law 1094 = .ok (.iaload, 1) := by decide +kernel
theorem dL_law_1095 : decode cL_law 1095 = .ok (.aload_n 0, 1) := by decide +kernel
theorem dL_law_1096 : decode cL_law 1096 = .ok (.iload 4, 2) := by decide +kernel
theorem dL_law_1098 : decode cL_law 1098 = .ok (.iconst 2, 1) := by decide +kernel
theorem dL_law_1099 : decode cL_law 1099 = .ok (.iadd, 1) := by decide +kernel
theorem dL_law_1100 : decode cL_law 1100 = .ok (.iaload, 1) := by decide +kernel
theorem dL_law_1101 : decode cL_law 1101 = .ok (.aload_n 3, 1) := by decide +kernel
theorem dL_law_1102 : decode cL_law 1102 = .ok (.invokestatic 167, 3) := by decide +kernel
theorem dL_law_1105 : decode cL_law 1105 = .ok (.istore 5, 2) := by decide +kernel
theorem dL_law_1107 : decode cL_law 1107 = .ok (.aload_n 2, 1) := by decide +kernel
theorem dL_law_1108 : decode cL_law 1108 = .ok (.aload_n 0, 1) := by decide +kernel
theorem dL_law_1109 : decode cL_law 1109 = .ok (.iload 4, 2) := by decide +kernel
theorem dL_law_1111 : decode cL_law 1111 = .ok (.iconst 1, 1) := by decide +kernel
theorem dL_law_1112 : decode cL_law 1112 = .ok (.iadd, 1) := by decide +kernel
theorem dL_law_1113 : decode cL_law 1113 = .ok (.iaload, 1) := by decide +kernel
theorem dL_law_1114 : decode cL_law 1114 = .ok (.aload_n 0, 1) := by decide +kernel
theorem dL_law_1115 : decode cL_law 1115 = .ok (.iload 4, 2) := by decide +kernel
theorem dL_law_1117 : decode cL_law 1117 = .ok (.iconst 2, 1) := by decide +kernel
theorem dL_law_1118 : decode cL_law 1118 = .ok (.iadd, 1) := by decide +kernel
theorem dL_law_1119 : decode cL_law 1119 = .ok (.iaload, 1) := by decide +kernel
theorem dL_law_1120 : decode cL_law 1120 = .ok (.invokevirtual 169, 3) := by decide +kernel
theorem dL_law_1123 : decode cL_law 1123 = .ok (.istore 6, 2) := by decide +kernel
theorem dL_law_1125 : decode cL_law 1125 = .ok (.aload_n 2, 1) := by decide +kernel
theorem dL_law_1126 : decode cL_law 1126 = .ok (.invokevirtual 93, 3) := by decide +kernel
theorem dL_law_1129 : decode cL_law 1129 = .ok (.iload 5, 2) := by decide +kernel
theorem dL_law_1131 : decode cL_law 1131 = .ok (.if_icmp .eq 5, 3) := by decide +kernel
theorem dL_law_1134 : decode cL_law 1134 = .ok (.iconst 0, 1) := by decide +kernel
theorem dL_law_1135 : decode cL_law 1135 = .ok (.ireturn, 1) := by decide +kernel
theorem dL_law_1136 : decode cL_law 1136 = .ok (.iload 5, 2) := by decide +kernel
theorem dL_law_1138 : decode cL_law 1138 = .ok (.ifCond .ne 15, 3) := by decide +kernel
theorem dL_law_1141 : decode cL_law 1141 = .ok (.aload_n 3, 1) := by decide +kernel
theorem dL_law_1142 : decode cL_law 1142 = .ok (.iconst 0, 1) := by decide +kernel
theorem dL_law_1143 : decode cL_law 1143 = .ok (.laload, 1) := by decide +kernel
theorem dL_law_1144 : decode cL_law 1144 = .ok (.iload 6, 2) := by decide +kernel
theorem dL_law_1146 : decode cL_law 1146 = .ok (.i2l, 1) := by decide +kernel
theorem dL_law_1147 : decode cL_law 1147 = .ok (.lcmp, 1) := by decide +kernel
theorem dL_law_1148 : decode cL_law 1148 = .ok (.ifCond .eq 5, 3) := by decide +kernel
theorem dL_law_1151 : decode cL_law 1151 = .ok (.iconst 0, 1) := by decide +kernel
theorem dL_law_1152 : decode cL_law 1152 = .ok (.ireturn, 1) := by decide +kernel
theorem dL_law_1153 : decode cL_law 1153 = .ok (.goto 483, 3) := by decide +kernel
theorem dL_law_1156 : decode cL_law 1156 = .ok (.aload_n 1, 1) := by decide +kernel
theorem dL_law_1157 : decode cL_law 1157 = .ok (.invokevirtual 170, 3) := by decide +kernel
theorem dL_law_1160 : decode cL_law 1160 = .ok (.aload_n 2, 1) := by decide +kernel
theorem dL_law_1161 : decode cL_law 1161 = .ok (.invokevirtual 173, 3) := by decide +kernel
theorem dL_law_1164 : decode cL_law 1164 = .ok (.if_icmp .eq 472, 3) := by decide +kernel
theorem dL_law_1167 : decode cL_law 1167 = .ok (.iconst 0, 1) := by decide +kernel
theorem dL_law_1168 : decode cL_law 1168 = .ok (.ireturn, 1) := by decide +kernel
theorem dL_law_1169 : decode cL_law 1169 = .ok (.aload_n 1, 1) := by decide +kernel
theorem dL_law_1170 : decode cL_law 1170 = .ok (.aload_n 0, 1) := by decide +kernel
theorem dL_law_1171 : decode cL_law 1171 = .ok (.iload 4, 2) := by decide +kernel
theorem dL_law_1173 : decode cL_law 1173 = .ok (.iconst 1, 1) := by decide +kernel
theorem dL_law_1174 : decode cL_law 1174 = .ok (.iadd, 1) := by decide +kernel
theorem dL_law_1175 : decode cL_law 1175 = .ok (.iaload, 1) := by decide +kernel
theorem dL_law_1176 : decode cL_law 1176 = .ok (.aload_n 3, 1) := by decide +kernel
theorem dL_law_1177 : decode cL_law 1177 = .ok (.invokestatic 174, 3) := by decide +kernel
theorem dL_law_1180 : decode cL_law 1180 = .ok (.istore 5, 2) := by decide +kernel
theorem dL_law_1182 : decode cL_law 1182 = .ok (.aload_n 2, 1) := by decide +kernel
theorem dL_law_1183 : decode cL_law 1183 = .ok (.aload_n 0, 1) := by decide +kernel
theorem dL_law_1184 : decode cL_law 1184 = .ok (.iload 4, 2) := by decide +kernel
theorem dL_law_1186 : decode cL_law 1186 = .ok (.iconst 1, 1) := by decide +kernel
theorem dL_law_1187 : decode cL_law 1187 = .ok (.iadd, 1) := by decide +kernel
theorem dL_law_1188 : decode cL_law 1188 = .ok (.iaload, 1) := by decide +kernel
theorem dL_law_1189 : decode cL_law 1189 = .ok (.invokevirtual 176, 3) := by decide +kernel
theorem dL_law_1192 : decode cL_law 1192 = .ok (.istore 6, 2) := by decide +kernel
theorem dL_law_1194 : decode cL_law 1194 = .ok (.aload_n 2, 1) := by decide +kernel
theorem dL_law_1195 : decode cL_law 1195 = .ok (.invokevirtual 93, 3) := by decide +kernel
theorem dL_law_1198 : decode cL_law 1198 = .ok (.iload 5, 2) := by decide +kernel
theorem dL_law_1200 : decode cL_law 1200 = .ok (.if_icmp .eq 5, 3) := by decide +kernel
theorem dL_law_1203 : decode cL_law 1203 = .ok (.iconst 0, 1) := by decide +kernel
theorem dL_law_1204 : decode cL_law 1204 = .ok (.ireturn, 1) := by decide +kernel
theorem dL_law_1205 : decode cL_law 1205 = .ok (.iload 5, 2) := by decide +kernel
theorem dL_law_1207 : decode cL_law 1207 = .ok (.ifCond .ne 15, 3) := by decide +kernel
theorem dL_law_1210 : decode cL_law 1210 = .ok (.aload_n 3, 1) := by decide +kernel
theorem dL_law_1211 : decode cL_law 1211 = .ok (.iconst 0, 1) := by decide +kernel
theorem dL_law_1212 : decode cL_law 1212 = .ok (.laload, 1) := by decide +kernel
theorem dL_law_1213 : decode cL_law 1213 = .ok (.iload 6, 2) := by decide +kernel
theorem dL_law_1215 : decode cL_law 1215 = .ok (.i2l, 1) := by decide +kernel
theorem dL_law_1216 : decode cL_law 1216 = .ok (.lcmp, 1) := by decide +kernel
theorem dL_law_1217 : decode cL_law 1217 = .ok (.ifCond .eq 5, 3) := by decide +kernel
theorem dL_law_1220 : decode cL_law 1220 = .ok (.iconst 0, 1) := by decide +kernel
theorem dL_law_1221 : decode cL_law 1221 = .ok (.ireturn, 1) := by decide +kernel
theorem dL_law_1222 : decode cL_law 1222 = .ok (.goto 414, 3) := by decide +kernel
theorem dL_law_1225 : decode cL_law 1225 = .ok (.aload_n 1, 1) := by decide +kernel
theorem dL_law_1226 : decode cL_law 1226 = .ok (.aload_n 0, 1) := by decide +kernel
theorem dL_law_1227 : decode cL_law 1227 = .ok (.iload 4, 2) := by decide +kernel
theorem dL_law_1229 : decode cL_law 1229 = .ok (.iconst 1, 1) := by decide +kernel
theorem dL_law_1230 : decode cL_law 1230 = .ok (.iadd, 1) := by decide +kernel
theorem dL_law_1231 : decode cL_law 1231 = .ok (.iaload, 1) := by decide +kernel
theorem dL_law_1232 : decode cL_law 1232 = .ok (.aload_n 3, 1) := by decide +kernel
theorem dL_law_1233 : decode cL_law 1233 = .ok (.invokestatic 177, 3) := by decide +kernel
theorem dL_law_1236 : decode cL_law 1236 = .ok (.istore 5, 2) := by decide +kernel
theorem dL_law_1238 : decode cL_law 1238 = .ok (.aload_n 2, 1) := by decide +kernel
theorem dL_law_1239 : decode cL_law 1239 = .ok (.aload_n 0, 1) := by decide +kernel
theorem dL_law_1240 : decode cL_law 1240 = .ok (.iload 4, 2) := by decide +kernel
theorem dL_law_1242 : decode cL_law 1242 = .ok (.iconst 1, 1) := by decide +kernel
theorem dL_law_1243 : decode cL_law 1243 = .ok (.iadd, 1) := by decide +kernel
theorem dL_law_1244 : decode cL_law 1244 = .ok (.iaload, 1) := by decide +kernel
theorem dL_law_1245 : decode cL_law 1245 = .ok (.invokevirtual 179, 3) := by decide +kernel
theorem dL_law_1248 : decode cL_law 1248 = .ok (.istore 6, 2) := by decide +kernel
theorem dL_law_1250 : decode cL_law 1250 = .ok (.aload_n 2, 1) := by decide +kernel
theorem dL_law_1251 : decode cL_law 1251 = .ok (.invokevirtual 93, 3) := by decide +kernel
theorem dL_law_1254 : decode cL_law 1254 = .ok (.iload 5, 2) := by decide +kernel
theorem dL_law_1256 : decode cL_law 1256 = .ok (.if_icmp .eq 5, 3) := by decide +kernel
theorem dL_law_1259 : decode cL_law 1259 = .ok (.iconst 0, 1) := by decide +kernel
theorem dL_law_1260 : decode cL_law 1260 = .ok (.ireturn, 1) := by decide +kernel
theorem dL_law_1261 : decode cL_law 1261 = .ok (.iload 5, 2) := by decide +kernel
theorem dL_law_1263 : decode cL_law 1263 = .ok (.ifCond .ne 15, 3) := by decide +kernel
theorem dL_law_1266 : decode cL_law 1266 = .ok (.aload_n 3, 1) := by decide +kernel
theorem dL_law_1267 : decode cL_law 1267 = .ok (.iconst 0, 1) := by decide +kernel
theorem dL_law_1268 : decode cL_law 1268 = .ok (.laload, 1) := by decide +kernel
theorem dL_law_1269 : decode cL_law 1269 = .ok (.iload 6, 2) := by decide +kernel
theorem dL_law_1271 : decode cL_law 1271 = .ok (.i2l, 1) := by decide +kernel
theorem dL_law_1272 : decode cL_law 1272 = .ok (.lcmp, 1) := by decide +kernel
theorem dL_law_1273 : decode cL_law 1273 = .ok (.ifCond .eq 5, 3) := by decide +kernel
theorem dL_law_1276 : decode cL_law 1276 = .ok (.iconst 0, 1) := by decide +kernel
theorem dL_law_1277 : decode cL_law 1277 = .ok (.ireturn, 1) := by decide +kernel
theorem dL_law_1278 : decode cL_law 1278 = .ok (.goto 358, 3) := by decide +kernel
theorem dL_law_1281 : decode cL_law 1281 = .ok (.aload_n 1, 1) := by decide +kernel
theorem dL_law_1282 : decode cL_law 1282 = .ok (.aload_n 0, 1) := by decide +kernel
theorem dL_law_1283 : decode cL_law 1283 = .ok (.iload 4, 2) := by decide +kernel
theorem dL_law_1285 : decode cL_law 1285 = .ok (.iconst 1, 1) := by decide +kernel
theorem dL_law_1286 : decode cL_law 1286 = .ok (.iadd, 1) := by decide +kernel
theorem dL_law_1287 : decode cL_law 1287 = .ok (.iaload, 1) := by decide +kernel
theorem dL_law_1288 : decode cL_law 1288 = .ok (.aload_n 3, 1) := by decide +kernel
theorem dL_law_1289 : decode cL_law 1289 = .ok (.invokestatic 180, 3) := by decide +kernel
theorem dL_law_1292 : decode cL_law 1292 = .ok (.istore 5, 2) := by decide +kernel
theorem dL_law_1294 : decode cL_law 1294 = .ok (.aload_n 2, 1) := by decide +kernel
theorem dL_law_1295 : decode cL_law 1295 = .ok (.aload_n 0, 1) := by decide +kernel
theorem dL_law_1296 : decode cL_law 1296 = .ok (.iload 4, 2) := by decide +kernel
theorem dL_law_1298 : decode cL_law 1298 = .ok (.iconst 1, 1) := by decide +kernel
theorem dL_law_1299 : decode cL_law 1299 = .ok (.iadd, 1) := by decide +kernel
theorem dL_law_1300 : decode cL_law 1300 = .ok (.iaload, 1) := by decide +kernel
theorem dL_law_1301 : decode cL_law 1301 = .ok (.invokevirtual 182, 3) := by decide +kernel
theorem dL_law_1304 : decode cL_law 1304 = .ok (.istore 6, 2) := by decide +kernel
theorem dL_law_1306 : decode cL_law 1306 = .ok (.aload_n 2, 1) := by decide +kernel
theorem dL_law_1307 : decode cL_law 1307 = .ok (.invokevirtual 93, 3) := by decide +kernel
theorem dL_law_1310 : decode cL_law 1310 = .ok (.iload 5, 2) := by decide +kernel
theorem dL_law_1312 : decode cL_law 1312 = .ok (.if_icmp .eq 5, 3) := by decide +kernel
theorem dL_law_1315 : decode cL_law 1315 = .ok (.iconst 0, 1) := by decide +kernel
theorem dL_law_1316 : decode cL_law 1316 = .ok (.ireturn, 1) := by decide +kernel
theorem dL_law_1317 : decode cL_law 1317 = .ok (.iload 5, 2) := by decide +kernel
theorem dL_law_1319 : decode cL_law 1319 = .ok (.ifCond .ne 15, 3) := by decide +kernel
theorem dL_law_1322 : decode cL_law 1322 = .ok (.aload_n 3, 1) := by decide +kernel
theorem dL_law_1323 : decode cL_law 1323 = .ok (.iconst 0, 1) := by decide +kernel
theorem dL_law_1324 : decode cL_law 1324 = .ok (.laload, 1) := by decide +kernel
theorem dL_law_1325 : decode cL_law 1325 = .ok (.iload 6, 2) := by decide +kernel
theorem dL_law_1327 : decode cL_law 1327 = .ok (.i2l, 1) := by decide +kernel
theorem dL_law_1328 : decode cL_law 1328 = .ok (.lcmp, 1) := by decide +kernel
theorem dL_law_1329 : decode cL_law 1329 = .ok (.ifCond .eq 5, 3) := by decide +kernel
theorem dL_law_1332 : decode cL_law 1332 = .ok (.iconst 0, 1) := by decide +kernel
theorem dL_law_1333 : decode cL_law 1333 = .ok (.ireturn, 1) := by decide +kernel
theorem dL_law_1334 : decode cL_law 1334 = .ok (.goto 302, 3) := by decide +kernel
theorem dL_law_1337 : decode cL_law 1337 = .ok (.aload_n 1, 1) := by decide +kernel
theorem dL_law_1338 : decode cL_law 1338 = .ok (.aload_n 0, 1) := by decide +kernel
theorem dL_law_1339 : decode cL_law 1339 = .ok (.iload 4, 2) := by decide +kernel
theorem dL_law_1341 : decode cL_law 1341 = .ok (.iconst 1, 1) := by decide +kernel
theorem dL_law_1342 : decode cL_law 1342 = .ok (.iadd, 1) := by decide +kernel
theorem dL_law_1343 : decode cL_law 1343 = .ok (.iaload, 1) := by decide +kernel
theorem dL_law_1344 : decode cL_law 1344 = .ok (.aload_n 3, 1) := by decide +kernel
theorem dL_law_1345 : decode cL_law 1345 = .ok (.invokestatic 183, 3) := by decide +kernel
theorem dL_law_1348 : decode cL_law 1348 = .ok (.istore 5, 2) := by decide +kernel
theorem dL_law_1350 : decode cL_law 1350 = .ok (.aload_n 2, 1) := by decide +kernel
theorem dL_law_1351 : decode cL_law 1351 = .ok (.aload_n 0, 1) := by decide +kernel
theorem dL_law_1352 : decode cL_law 1352 = .ok (.iload 4, 2) := by decide +kernel
theorem dL_law_1354 : decode cL_law 1354 = .ok (.iconst 1, 1) := by decide +kernel
theorem dL_law_1355 : decode cL_law 1355 = .ok (.iadd, 1) := by decide +kernel
theorem dL_law_1356 : decode cL_law 1356 = .ok (.iaload, 1) := by decide +kernel
theorem dL_law_1357 : decode cL_law 1357 = .ok (.invokevirtual 185, 3) := by decide +kernel
theorem dL_law_1360 : decode cL_law 1360 = .ok (.istore 6, 2) := by decide +kernel
end
section
theorem dL_law_1362 : decode cL_law 1362 = .ok (.aload_n 2, 1) := by decide +kernel
theorem dL_law_1363 : decode cL_law 1363 = .ok (.invokevirtual 93, 3) := by decide +kernel
theorem dL_law_1366 : decode cL_law 1366 = .ok (.iload 5, 2) := by decide +kernel
theorem dL_law_1368 : decode cL_law 1368 = .ok (.if_icmp .eq 5, 3) := by decide +kernel
theorem dL_law_1371 : decode cL_law 1371 = .ok (.iconst 0, 1) := by decide +kernel
theorem dL_law_1372 : decode cL_law 1372 = .ok (.ireturn, 1) := by decide +kernel
theorem dL_law_1373 : decode cL_law 1373 = .ok (.iload 5, 2) := by decide +kernel
theorem dL_law_1375 : decode cL_law 1375 = .ok (.ifCond .ne 15, 3) := by decide +kernel
theorem dL_law_1378 : decode cL_law 1378 = .ok (.aload_n 3, 1) := by decide +kernel
theorem dL_law_1379 : decode cL_law 1379 = .ok (.iconst 0, 1) := by decide +kernel
theorem dL_law_1380 : decode cL_law 1380 = .ok (.laload, 1) := by decide +kernel
theorem dL_law_1381 : decode cL_law 1381 = .ok (.iload 6, 2) := by decide +kernel
theorem dL_law_1383 : decode cL_law 1383 = .ok (.i2l, 1) := by decide +kernel
theorem dL_law_1384 : decode cL_law 1384 = .ok (.lcmp, 1) := by decide +kernel
theorem dL_law_1385 : decode cL_law 1385 = .ok (.ifCond .eq 5, 3) := by decide +kernel
theorem dL_law_1388 : decode cL_law 1388 = .ok (.iconst 0, 1) := by decide +kernel
theorem dL_law_1389 : decode cL_law 1389 = .ok (.ireturn, 1) := by decide +kernel
theorem dL_law_1390 : decode cL_law 1390 = .ok (.goto 246, 3) := by decide +kernel
theorem dL_law_1393 : decode cL_law 1393 = .ok (.aload_n 1, 1) := by decide +kernel
theorem dL_law_1394 : decode cL_law 1394 = .ok (.aload_n 0, 1) := by decide +kernel
theorem dL_law_1395 : decode cL_law 1395 = .ok (.iload 4, 2) := by decide +kernel
theorem dL_law_1397 : decode cL_law 1397 = .ok (.iconst 1, 1) := by decide +kernel
theorem dL_law_1398 : decode cL_law 1398 = .ok (.iadd, 1) := by decide +kernel
theorem dL_law_1399 : decode cL_law 1399 = .ok (.iaload, 1) := by decide +kernel
theorem dL_law_1400 : decode cL_law 1400 = .ok (.aload_n 3, 1) := by decide +kernel
theorem dL_law_1401 : decode cL_law 1401 = .ok (.invokestatic 186, 3) := by decide +kernel
theorem dL_law_1404 : decode cL_law 1404 = .ok (.istore 5, 2) := by decide +kernel
theorem dL_law_1406 : decode cL_law 1406 = .ok (.aload_n 2, 1) := by decide +kernel
theorem dL_law_1407 : decode cL_law 1407 = .ok (.aload_n 0, 1) := by decide +kernel
theorem dL_law_1408 : decode cL_law 1408 = .ok (.iload 4, 2) := by decide +kernel
theorem dL_law_1410 : decode cL_law 1410 = .ok (.iconst 1, 1) := by decide +kernel
theorem dL_law_1411 : decode cL_law 1411 = .ok (.iadd, 1) := by decide +kernel
theorem dL_law_1412 : decode cL_law 1412 = .ok (.iaload, 1) := by decide +kernel
theorem dL_law_1413 : decode cL_law 1413 = .ok (.invokevirtual 188, 3) := by decide +kernel
theorem dL_law_1416 : decode cL_law 1416 = .ok (.istore 6, 2) := by decide +kernel
theorem dL_law_1418 : decode cL_law 1418 = .ok (.aload_n 2, 1) := by decide +kernel
theorem dL_law_1419 : decode cL_law 1419 = .ok (.invokevirtual 93, 3) := by decide +kernel
theorem dL_law_1422 : decode cL_law 1422 = .ok (.iload 5, 2) := by decide +kernel
theorem dL_law_1424 : decode cL_law 1424 = .ok (.if_icmp .eq 5, 3) := by decide +kernel
theorem dL_law_1427 : decode cL_law 1427 = .ok (.iconst 0, 1) := by decide +kernel
theorem dL_law_1428 : decode cL_law 1428 = .ok (.ireturn, 1) := by decide +kernel
theorem dL_law_1429 : decode cL_law 1429 = .ok (.iload 5, 2) := by decide +kernel
theorem dL_law_1431 : decode cL_law 1431 = .ok (.ifCond .ne 22, 3) := by decide +kernel
theorem dL_law_1434 : decode cL_law 1434 = .ok (.aload_n 3, 1) := by decide +kernel
theorem dL_law_1435 : decode cL_law 1435 = .ok (.iconst 0, 1) := by decide +kernel
theorem dL_law_1436 : decode cL_law 1436 = .ok (.laload, 1) := by decide +kernel
theorem dL_law_1437 : decode cL_law 1437 = .ok (.iload 6, 2) := by decide +kernel
theorem dL_law_1439 : decode cL_law 1439 = .ok (.ifCond .eq 7, 3) := by decide +kernel
theorem dL_law_1442 : decode cL_law 1442 = .ok (.lconst 1, 1) := by decide +kernel
theorem dL_law_1443 : decode cL_law 1443 = .ok (.goto 4, 3) := by decide +kernel
theorem dL_law_1446 : decode cL_law 1446 = .ok (.lconst 0, 1) := by decide +kernel
theorem dL_law_1447 : decode cL_law 1447 = .ok (.lcmp, 1) := by decide +kernel
theorem dL_law_1448 : decode cL_law 1448 = .ok (.ifCond .eq 5, 3) := by decide +kernel
theorem dL_law_1451 : decode cL_law 1451 = .ok (.iconst 0, 1) := by decide +kernel
theorem dL_law_1452 : decode cL_law 1452 = .ok (.ireturn, 1) := by decide +kernel
theorem dL_law_1453 : decode cL_law 1453 = .ok (.goto 183, 3) := by decide +kernel
theorem dL_law_1456 : decode cL_law 1456 = .ok (.aload_n 1, 1) := by decide +kernel
theorem dL_law_1457 : decode cL_law 1457 = .ok (.aload_n 0, 1) := by decide +kernel
theorem dL_law_1458 : decode cL_law 1458 = .ok (.iload 4, 2) := by decide +kernel
theorem dL_law_1460 : decode cL_law 1460 = .ok (.iconst 1, 1) := by decide +kernel
theorem dL_law_1461 : decode cL_law 1461 = .ok (.iadd, 1) := by decide +kernel
theorem dL_law_1462 : decode cL_law 1462 = .ok (.iaload, 1) := by decide +kernel
theorem dL_law_1463 : decode cL_law 1463 = .ok (.aload_n 3, 1) := by decide +kernel
theorem dL_law_1464 : decode cL_law 1464 = .ok (.invokestatic 189, 3) := by decide +kernel
theorem dL_law_1467 : decode cL_law 1467 = .ok (.istore 5, 2) := by decide +kernel
theorem dL_law_1469 : decode cL_law 1469 = .ok (.aload_n 2, 1) := by decide +kernel
theorem dL_law_1470 : decode cL_law 1470 = .ok (.aload_n 0, 1) := by decide +kernel
theorem dL_law_1471 : decode cL_law 1471 = .ok (.iload 4, 2) := by decide +kernel
theorem dL_law_1473 : decode cL_law 1473 = .ok (.iconst 1, 1) := by decide +kernel
theorem dL_law_1474 : decode cL_law 1474 = .ok (.iadd, 1) := by decide +kernel
theorem dL_law_1475 : decode cL_law 1475 = .ok (.iaload, 1) := by decide +kernel
theorem dL_law_1476 : decode cL_law 1476 = .ok (.invokevirtual 191, 3) := by decide +kernel
theorem dL_law_1479 : decode cL_law 1479 = .ok (.istore 6, 2) := by decide +kernel
theorem dL_law_1481 : decode cL_law 1481 = .ok (.aload_n 2, 1) := by decide +kernel
theorem dL_law_1482 : decode cL_law 1482 = .ok (.invokevirtual 93, 3) := by decide +kernel
theorem dL_law_1485 : decode cL_law 1485 = .ok (.iload 5, 2) := by decide +kernel
theorem dL_law_1487 : decode cL_law 1487 = .ok (.if_icmp .eq 5, 3) := by decide +kernel
theorem dL_law_1490 : decode cL_law 1490 = .ok (.iconst 0, 1) := by decide +kernel
theorem dL_law_1491 : decode cL_law 1491 = .ok (.ireturn, 1) := by decide +kernel
theorem dL_law_1492 : decode cL_law 1492 = .ok (.iload 5, 2) := by decide +kernel
theorem dL_law_1494 : decode cL_law 1494 = .ok (.ifCond .ne 15, 3) := by decide +kernel
theorem dL_law_1497 : decode cL_law 1497 = .ok (.aload_n 3, 1) := by decide +kernel
theorem dL_law_1498 : decode cL_law 1498 = .ok (.iconst 0, 1) := by decide +kernel
theorem dL_law_1499 : decode cL_law 1499 = .ok (.laload, 1) := by decide +kernel
theorem dL_law_1500 : decode cL_law 1500 = .ok (.iload 6, 2) := by decide +kernel
theorem dL_law_1502 : decode cL_law 1502 = .ok (.i2l, 1) := by decide +kernel
theorem dL_law_1503 : decode cL_law 1503 = .ok (.lcmp, 1) := by decide +kernel
theorem dL_law_1504 : decode cL_law 1504 = .ok (.ifCond .eq 5, 3) := by decide +kernel
theorem dL_law_1507 : decode cL_law 1507 = .ok (.iconst 0, 1) := by decide +kernel
theorem dL_law_1508 : decode cL_law 1508 = .ok (.ireturn, 1) := by decide +kernel
theorem dL_law_1509 : decode cL_law 1509 = .ok (.goto 127, 3) := by decide +kernel
theorem dL_law_1512 : decode cL_law 1512 = .ok (.aload_n 1, 1) := by decide +kernel
theorem dL_law_1513 : decode cL_law 1513 = .ok (.aload_n 0, 1) := by decide +kernel
theorem dL_law_1514 : decode cL_law 1514 = .ok (.iload 4, 2) := by decide +kernel
theorem dL_law_1516 : decode cL_law 1516 = .ok (.iconst 1, 1) := by decide +kernel
theorem dL_law_1517 : decode cL_law 1517 = .ok (.iadd, 1) := by decide +kernel
theorem dL_law_1518 : decode cL_law 1518 = .ok (.iaload, 1) := by decide +kernel
theorem dL_law_1519 : decode cL_law 1519 = .ok (.aload_n 3, 1) := by decide +kernel
theorem dL_law_1520 : decode cL_law 1520 = .ok (.invokestatic 192, 3) := by decide +kernel
theorem dL_law_1523 : decode cL_law 1523 = .ok (.istore 5, 2) := by decide +kernel
theorem dL_law_1525 : decode cL_law 1525 = .ok (.aload_n 2, 1) := by decide +kernel
theorem dL_law_1526 : decode cL_law 1526 = .ok (.aload_n 0, 1) := by decide +kernel
theorem dL_law_1527 : decode cL_law 1527 = .ok (.iload 4, 2) := by decide +kernel
theorem dL_law_1529 : decode cL_law 1529 = .ok (.iconst 1, 1) := by decide +kernel
theorem dL_law_1530 : decode cL_law 1530 = .ok (.iadd, 1) := by decide +kernel
theorem dL_law_1531 : decode cL_law 1531 = .ok (.iaload, 1) := by decide +kernel
theorem dL_law_1532 : decode cL_law 1532 = .ok (.invokevirtual 194, 3) := by decide +kernel
theorem dL_law_1535 : decode cL_law 1535 = .ok (.istore 6, 2) := by decide +kernel
theorem dL_law_1537 : decode cL_law 1537 = .ok (.aload_n 2, 1) := by decide +kernel
theorem dL_law_1538 : decode cL_law 1538 = .ok (.invokevirtual 93, 3) := by decide +kernel
theorem dL_law_1541 : decode cL_law 1541 = .ok (.iload 5, 2) := by decide +kernel
theorem dL_law_1543 : decode cL_law 1543 = .ok (.if_icmp .eq 5, 3) := by decide +kernel
theorem dL_law_1546 : decode cL_law 1546 = .ok (.iconst 0, 1) := by decide +kernel
theorem dL_law_1547 : decode cL_law 1547 = .ok (.ireturn, 1) := by decide +kernel
theorem dL_law_1548 : decode cL_law 1548 = .ok (.iload 5, 2) := by decide +kernel
theorem dL_law_1550 : decode cL_law 1550 = .ok (.ifCond .ne 15, 3) := by decide +kernel
theorem dL_law_1553 : decode cL_law 1553 = .ok (.aload_n 3, 1) := by decide +kernel
theorem dL_law_1554 : decode cL_law 1554 = .ok (.iconst 0, 1) := by decide +kernel
theorem dL_law_1555 : decode cL_law 1555 = .ok (.laload, 1) := by decide +kernel
theorem dL_law_1556 : decode cL_law 1556 = .ok (.iload 6, 2) := by decide +kernel
theorem dL_law_1558 : decode cL_law 1558 = .ok (.i2l, 1) := by decide +kernel
theorem dL_law_1559 : decode cL_law 1559 = .ok (.lcmp, 1) := by decide +kernel
theorem dL_law_1560 : decode cL_law 1560 = .ok (.ifCond .eq 5, 3) := by decide +kernel
theorem dL_law_1563 : decode cL_law 1563 = .ok (.iconst 0, 1) := by decide +kernel
theorem dL_law_1564 : decode cL_law 1564 = .ok (.ireturn, 1) := by decide +kernel
theorem dL_law_1565 : decode cL_law 1565 = .ok (.goto 71, 3) := by decide +kernel
theorem dL_law_1568 : decode cL_law 1568 = .ok (.aload_n 1, 1) := by decide +kernel
theorem dL_law_1569 : decode cL_law 1569 = .ok (.invokevirtual 195, 3) := by decide +kernel
theorem dL_law_1572 : decode cL_law 1572 = .ok (.aload_n 2, 1) := by decide +kernel
theorem dL_law_1573 : decode cL_law 1573 = .ok (.invokevirtual 198, 3) := by decide +kernel
theorem dL_law_1576 : decode cL_law 1576 = .ok (.if_icmp .eq 60, 3) := by decide +kernel
theorem dL_law_1579 : decode cL_law 1579 = .ok (.iconst 0, 1) := by decide +kernel
theorem dL_law_1580 : decode cL_law 1580 = .ok (.ireturn, 1) := by decide +kernel
theorem dL_law_1581 : decode cL_law 1581 = .ok (.aload_n 1, 1) := by decide +kernel
theorem dL_law_1582 : decode cL_law 1582 = .ok (.invokevirtual 199, 3) := by decide +kernel
theorem dL_law_1585 : decode cL_law 1585 = .ok (.dstore 5, 2) := by decide +kernel
theorem dL_law_1587 : decode cL_law 1587 = .ok (.aload_n 2, 1) := by decide +kernel
theorem dL_law_1588 : decode cL_law 1588 = .ok (.invokevirtual 203, 3) := by decide +kernel
theorem dL_law_1591 : decode cL_law 1591 = .ok (.dstore 7, 2) := by decide +kernel
theorem dL_law_1593 : decode cL_law 1593 = .ok (.dload 5, 2) := by decide +kernel
theorem dL_law_1595 : decode cL_law 1595 = .ok (.dload 7, 2) := by decide +kernel
theorem dL_law_1597 : decode cL_law 1597 = .ok (.dcmp .l, 1) := by decide +kernel
theorem dL_law_1598 : decode cL_law 1598 = .ok (.ifCond .eq 21, 3) := by decide +kernel
theorem dL_law_1601 : decode cL_law 1601 = .ok (.dload 5, 2) := by decide +kernel
theorem dL_law_1603 : decode cL_law 1603 = .ok (.dload 5, 2) := by decide +kernel
theorem dL_law_1605 : decode cL_law 1605 = .ok (.dcmp .l, 1) := by decide +kernel
theorem dL_law_1606 : decode cL_law 1606 = .ok (.ifCond .eq 11, 3) := by decide +kernel
theorem dL_law_1609 : decode cL_law 1609 = .ok (.dload 7, 2) := by decide +kernel
theorem dL_law_1611 : decode cL_law 1611 = .ok (.dload 7, 2) := by decide +kernel
theorem dL_law_1613 : decode cL_law 1613 = .ok (.dcmp .l, 1) := by decide +kernel
theorem dL_law_1614 : decode cL_law 1614 = .ok (.ifCond .ne 5, 3) := by decide +kernel
theorem dL_law_1617 : decode cL_law 1617 = .ok (.iconst 0, 1) := by decide +kernel
theorem dL_law_1618 : decode cL_law 1618 = .ok (.ireturn, 1) := by decide +kernel
theorem dL_law_1619 : decode cL_law 1619 = .ok (.goto 17, 3) := by decide +kernel
theorem dL_law_1622 : decode cL_law 1622 = .ok (.aload_n 1, 1) := by decide +kernel
theorem dL_law_1623 : decode cL_law 1623 = .ok (.invokevirtual 204, 3) := by decide +kernel
theorem dL_law_1626 : decode cL_law 1626 = .ok (.aload_n 2, 1) := by decide +kernel
theorem dL_law_1627 : decode cL_law 1627 = .ok (.invokevirtual 208, 3) := by decide +kernel
theorem dL_law_1630 : decode cL_law 1630 = .ok (.lcmp, 1) := by decide +kernel
theorem dL_law_1631 : decode cL_law 1631 = .ok (.ifCond .eq 5, 3) := by decide +kernel
theorem dL_law_1634 : decode cL_law 1634 = .ok (.iconst 0, 1) := by decide +kernel
theorem dL_law_1635 : decode cL_law 1635 = .ok (.ireturn, 1) := by decide +kernel
theorem dL_law_1636 : decode cL_law 1636 = .ok (.iinc 4 5, 3) := by decide +kernel
theorem dL_law_1639 : decode cL_law 1639 = .ok (.goto (-1616), 3) := by decide +kernel
theorem dL_law_1642 : decode cL_law 1642 = .ok (.iconst 1, 1) := by decide +kernel
theorem dL_law_1643 : decode cL_law 1643 = .ok (.ireturn, 1) := by decide +kernel
end
section
theorem dJ9_max_7cf53_0 : decode cJ9_max_7cf53 0 = .ok (.iload_n 0, 1) := by decide +kernel
theorem dJ9_max_7cf53_1 : decode cJ9_max_7cf53 1 = .ok (.iload_n 1, 1) := by decide +kernel
theorem dJ9_max_7cf53_2 : decode cJ9_max_7cf53 2 = .ok (.if_icmp .lt 7, 3) := by decide +kernel
theorem dJ9_max_7cf53_5 : decode cJ9_max_7cf53 5 = .ok (.iload_n 0, 1) := by decide +kernel
theorem dJ9_max_7cf53_6 : decode cJ9_max_7cf53 6 = .ok (.goto 4, 3) := by decide +kernel
theorem dJ9_max_7cf53_9 : decode cJ9_max_7cf53 9 = .ok (.iload_n 1, 1) := by decide +kernel
theorem dJ9_max_7cf53_10 : decode cJ9_max_7cf53 10 = .ok (.ireturn, 1) := by decide +kernel
theorem dJ9_min_7cf53_0 : decode cJ9_min_7cf53 0 = .ok (.iload_n 0, 1) := by decide +kernel
theorem dJ9_min_7cf53_1 : decode cJ9_min_7cf53 1 = .ok (.iload_n 1, 1) := by decide +kernel
theorem dJ9_min_7cf53_2 : decode cJ9_min_7cf53 2 = .ok (.if_icmp .gt 7, 3) := by decide +kernel
theorem dJ9_min_7cf53_5 : decode cJ9_min_7cf53 5 = .ok (.iload_n 0, 1) := by decide +kernel
theorem dJ9_min_7cf53_6 : decode cJ9_min_7cf53 6 = .ok (.goto 4, 3) := by decide +kernel
theorem dJ9_min_7cf53_9 : decode cJ9_min_7cf53 9 = .ok (.iload_n 1, 1) := by decide +kernel
theorem dJ9_min_7cf53_10 : decode cJ9_min_7cf53 10 = .ok (.ireturn, 1) := by decide +kernel
end
section
/-! THE LAYER: numbers as Int under enc; one list of words lwA; the judgement T (a T-row an instruction); contracts Ct -/
def enc (z : Int) : Int32 := Int32.ofInt z
def In (z : Int) : Prop := -2147483648 ≤ z ∧ z < 2147483648
theorem enc_toInt {z : Int} (h : In z) : (enc z).toInt = z := Int32.toInt_ofInt_of_le (by have := h.1; omega) (by have := h.2; omega)
theorem enc_of (x : Int32) : enc x.toInt = x := Int32.ofInt_toInt x
theorem enc_add (a b : Int) : enc a + enc b = enc (a + b) := by unfold enc; rw [Int32.ofInt_add]
theorem enc_sub (a b : Int) : enc a - enc b = enc (a - b) := by unfold enc; rw [Int32.ofInt_sub]
theorem enc_mul (a b : Int) : enc a * enc b = enc (a * b) := by unfold enc; rw [Int32.ofInt_mul]
theorem enc_eq {a b : Int} (ha : In a) (hb : In b) : enc a = enc b ↔ a = b := by
  rw [← Int32.toInt_inj, enc_toInt ha, enc_toInt hb]
theorem enc_lt {a b : Int} (ha : In a) (hb : In b) : enc a < enc b ↔ a < b := by
  rw [Int32.lt_iff_toInt_lt, enc_toInt ha, enc_toInt hb]
theorem enc_le {a b : Int} (ha : In a) (hb : In b) : enc a ≤ enc b ↔ a ≤ b := by
  rw [Int32.le_iff_toInt_le, enc_toInt ha, enc_toInt hb]
theorem enc_0 : enc 0 = 0 := rfl
theorem In0 : In 0 := ⟨by decide, by decide⟩
theorem enc_nat {z : Int} (h : In z) : (enc z).toNatClampNeg = z.toNat := by
  rw [← Int32.toNat_toInt, enc_toInt h]
theorem enc_in {z : Int} {n : Nat} (h : 0 ≤ z ∧ z < n) (hn : n < 2147483648) : vp_in (enc z) n := by
  rw [vp_in_iff, enc_toInt ⟨by omega, by omega⟩]
  exact h
theorem enc_l {z : Int} (h : In z) : (enc z).toInt64 = Int64.ofInt z := by
  unfold enc
  exact Int32.toInt64_ofInt (by have := h.1; show (-2147483648 : Int) ≤ z; exact this) (by have := h.2; show z ≤ (2147483647 : Int); omega)
/-- an array of ints out of a function of Int -/
def ea (f : Int → Int) : Nat → Int32 := fun j => enc (f j)
def ups (f : Int → Int) (i v : Int) : Int → Int := fun j => if j = i then v else f j
theorem ups_same (f : Int → Int) (i v : Int) : ups f i v i = v := if_pos rfl
theorem ups_ne {f : Int → Int} {i j : Int} (v : Int) (h : j ≠ i) : ups f i v j = f j := if_neg h
theorem ea_upd (f : Int → Int) {i : Int} (h : 0 ≤ i) (hi : In i) (v : Int) : upd (ea f) (enc i).toNatClampNeg (enc v) = ea (ups f i v) := by
  funext j
  rw [enc_nat hi]
  unfold upd ea ups
  by_cases hj : j = i.toNat
  · rw [if_pos hj, if_pos (by omega)]
  · rw [if_neg hj, if_neg (by omega)]
theorem ea_at (f : Int → Int) {i : Int} (h : 0 ≤ i) (hi : In i) : ea f (enc i).toNatClampNeg = enc (f i) := by
  rw [enc_nat hi]
  unfold ea
  rw [show ((i.toNat : Nat) : Int) = i by omega]
theorem cell_congr {cA : ClassId} {n : Nat} {f g : Nat → Int32} (h : ∀ j, j < n → f j = g j) : vp_cell cA (n, .inl f) = vp_cell cA (n, .inl g) := by
  have e : (Array.ofFn (n := n) fun j => Value.int (f j.val)) = Array.ofFn (n := n) fun j => Value.int (g j.val) := by
    congr 1
    funext j
    rw [h j.val j.isLt]
  show ({ cls := cA, slots := Array.ofFn (n := n) fun j => Value.int (f j.val), vm := .none } : Cell) = _
  rw [e]
  rfl
/-! the one list of words -/
def lwA : List Cond := lw_tbl.filter goodWord
theorem lwA_tbl {w : Cond} (h : w ∈ lwA) : w ∈ lw_tbl := (List.mem_filter.mp h).1
theorem wdm {w : Cond} (i : Nat) (h : tables_1[i]? = some w) (g : goodWord w = true) : w ∈ lwA := List.mem_filter.mpr ⟨List.mem_append_right _ (List.mem_of_getElem? h), g⟩
theorem wds {w : Cond} (i : Nat) (h : (k2_sels lw_privs)[i]? = some w) (g : goodWord w = true) : w ∈ lwA := List.mem_filter.mpr ⟨List.mem_append_left _ (List.mem_of_getElem? h), g⟩
theorem lwA_good : GoodIn lwA lwA := fun _ h => ⟨h, good_of_word (List.mem_filter.mp h).2⟩
def ws_ (y : MethodName) (b : ByteArray) (mL : Nat) (ret : Option FieldType) : List Cond := .code y b mL ret :: lwA
theorem ws_good {y : MethodName} {b : ByteArray} {mL : Nat} {ret : Option FieldType} (h : Cond.code y b mL ret ∈ lwA) : GoodIn lwA (ws_ y b mL ret) := fun w hw => (List.mem_cons.mp hw).elim (fun e => by rw [e]; exact lwA_good _ h) (fun h => lwA_good w h)
/-! the judgement -/
abbrev Cx : Type := Program × Launch × Env × State × MethodId × Array Value × List Frame × Method × Code × (State → Prop) × (Nat → Prop) × Heap
def T (G : va_G) (c : Cx) (R : Room) (nL : Nat) (k n : Nat) (ws : va_W) (pc : Nat) (lv : List (Nat × Value)) (st : List Value) : Prop :=
  match c with
  | (p, l, e, s, m, args, below, meth, cd, Q, A, H0) => ∀ (H : Heap) (locs : List Loc) (ls : Array Slot), va_P G vwCl ws H → va_D A ws → va_S A H0 H locs → lv_has ls nL lv → W p l e R s m args below meth cd H locs k n Q (F0 m pc ls st)
def Ok (G : va_G) (cy : ClassId) (c : Cx) (cc : ByteArray) (own : String) (nL : Nat) (R : Room) : Prop :=
  match c with
  | (p, _, _, s, m, args, _, _, cd, _, A, H0) => p.tables.exec = Jvm.exec ∧ cd.code = cc ∧ (∀ w ∈ lwA, w.before args s = true) ∧ s.vm.findClass own = some m.cls ∧ cd.maxLocals = nL ∧ va_K G vwCl [(cy, .int)] s ∧ ∀ q, H0.size ≤ q → A q
section TR
variable {G : va_G} {cy : ClassId} {c : Cx} {cc : ByteArray} {own : String} {nL : Nat} {R : Room} {k n : Nat} {ws : va_W} {pc : Nat} {lv : List (Nat × Value)} {st : List Value}
theorem Teq {ws' : va_W} {lv' : List (Nat × Value)} {st' : List Value} (h1 : ws = ws') (h2 : lv = lv') (h3 : st = st') (kk : T G c R nL k n ws' pc lv' st') : T G c R nL k n ws pc lv st := by
  subst h1; subst h2; subst h3; exact kk
theorem Tws {ws' : va_W} (h1 : ws = ws') (kk : T G c R nL k n ws' pc lv st) : T G c R nL k n ws pc lv st := by
  subst h1; exact kk
theorem Tst {st' : List Value} (h1 : st = st') (kk : T G c R nL k n ws pc lv st') : T G c R nL k n ws pc lv st := by
  subst h1; exact kk
theorem Tlv {lv' : List (Nat × Value)} (h1 : lv = lv') (kk : T G c R nL k n ws pc lv' st) : T G c R nL k n ws pc lv st := by
  subst h1; exact kk
/-- fewer locals, by their places -/
theorem Tsub {lv' : List (Nat × Value)} (ks : List Nat) (hl : lv_pick lv ks = lv') (kk : T G c R nL k n ws pc lv' st) : T G c R nL k n ws pc lv st := by
  obtain ⟨p, l, e, s, m, args, below, meth, cd, Q, A, H0⟩ := c
  intro H locs ls hP hD hS h
  exact kk H locs ls hP hD hS (lv_sub h ks hl)
/-- the world's cells hold the same where it can be seen -/
theorem Tcells {ws' : va_W} (h : ∀ H : Heap, va_P G vwCl ws H → va_P G vwCl ws' H) (h2 : ∀ A : Nat → Prop, va_D A ws → va_D A ws') (kk : T G c R nL k n ws' pc lv st) : T G c R nL k n ws pc lv st := by
  obtain ⟨p, l, e, s, m, args, below, meth, cd, Q, A, H0⟩ := c
  intro H locs ls hP hD hS hl
  exact kk H locs ls (h H hP) (h2 A hD) hS hl
theorem Twiden {k' n' : Nat} (h1 : k ≤ k') (h2 : n ≤ n') (kk : T G c R nL k' n' ws pc lv st) : T G c R nL k n ws pc lv st := by
  obtain ⟨p, l, e, s, m, args, below, meth, cd, Q, A, H0⟩ := c
  intro H locs ls hP hD hS hl
  exact W.widen h1 h2 (kk H locs ls hP hD hS hl)
theorem tw_iconst (X : Ok G cy c cc own nL R) {z : Int} (d : decode cc pc = .ok (.iconst z, 1)) (kk : T G c R nL k n ws (pc + 1) lv (.int (enc z) :: st)) : T G c R nL k n ws pc lv st := by
  obtain ⟨p, l, e, s, m, args, below, meth, cd, Q, A, H0⟩ := c
  obtain ⟨hx, hb, hts, hown, hml, hK, hA⟩ := X
  intro H locs ls hP hD hS hl
  exact lv_iconst (v := enc z) hx hb d rfl (kk H locs ls hP hD hS hl)
theorem tw_bipush (X : Ok G cy c cc own nL R) {z : Int} (d : decode cc pc = .ok (.bipush z, 2)) (hz : (Int8.ofInt z).toInt32 = enc z) (kk : T G c R nL k n ws (pc + 2) lv (.int (enc z) :: st)) : T G c R nL k n ws pc lv st := by
  obtain ⟨p, l, e, s, m, args, below, meth, cd, Q, A, H0⟩ := c
  obtain ⟨hx, hb, hts, hown, hml, hK, hA⟩ := X
  intro H locs ls hP hD hS hl
  exact lv_bipush (v := enc z) hx hb d hz (kk H locs ls hP hD hS hl)
theorem tw_sipush (X : Ok G cy c cc own nL R) {z : Int} (d : decode cc pc = .ok (.sipush z, 3)) (hz : (Int16.ofInt z).toInt32 = enc z) (kk : T G c R nL k n ws (pc + 3) lv (.int (enc z) :: st)) : T G c R nL k n ws pc lv st := by
  obtain ⟨p, l, e, s, m, args, below, meth, cd, Q, A, H0⟩ := c
  obtain ⟨hx, hb, hts, hown, hml, hK, hA⟩ := X
  intro H locs ls hP hD hS hl
  exact lv_sipush (v := enc z) hx hb d hz (kk H locs ls hP hD hS hl)
theorem tw_ldc (X : Ok G cy c cc own nL R) {i : Nat} {v : Int32} {z : Int} (hw : Cond.constant own i v ∈ lwA) (hz : v = enc z) (d : decode cc pc = .ok (.ldc i, 2)) (kk : T G c R nL k n ws (pc + 2) lv (.int (enc z) :: st)) : T G c R nL k n ws pc lv st := by
  obtain ⟨p, l, e, s, m, args, below, meth, cd, Q, A, H0⟩ := c
  obtain ⟨hx, hb, hts, hown, hml, hK, hA⟩ := X
  intro H locs ls hP hD hS hl
  subst hz
  exact lv_ldc hx hb hown (hts _ hw) d (kk H locs ls hP hD hS hl)
theorem tw_ldc2 (X : Ok G cy c cc own nL R) {i : Nat} {v : Int64} (hw : Cond.constantLong own i v ∈ lwA) (d : decode cc pc = .ok (.ldc2_w i, 3)) (kk : T G c R nL k n ws (pc + 3) lv (.long v :: st)) : T G c R nL k n ws pc lv st := by
  obtain ⟨p, l, e, s, m, args, below, meth, cd, Q, A, H0⟩ := c
  obtain ⟨hx, hb, hts, hown, hml, hK, hA⟩ := X
  intro H locs ls hP hD hS hl
  exact lv_ldc2 hx hb hown (hts _ hw) d (kk H locs ls hP hD hS hl)
theorem tw_lconst (X : Ok G cy c cc own nL R) {z : Fin 2} {v : Int64} (d : decode cc pc = .ok (.lconst z, 1)) (hv : Int64.ofNat (z : Nat) = v) (kk : T G c R nL k n ws (pc + 1) lv (.long v :: st)) : T G c R nL k n ws pc lv st := by
  obtain ⟨p, l, e, s, m, args, below, meth, cd, Q, A, H0⟩ := c
  obtain ⟨hx, hb, hts, hown, hml, hK, hA⟩ := X
  intro H locs ls hP hD hS hl
  exact lv_lconst hx hb d hv (kk H locs ls hP hD hS hl)
theorem tw_iload_n (X : Ok G cy c cc own nL R) {i : Fin 4} {j : Nat} {x : Int32} (d : decode cc pc = .ok (.iload_n i, 1)) (q : Nat) (hj : (i : Nat) = j) (hq : lv[q]? = some (j, .int x)) (kk : T G c R nL k n ws (pc + 1) lv (.int x :: st)) : T G c R nL k n ws pc lv st := by
  obtain ⟨p, l, e, s, m, args, below, meth, cd, Q, A, H0⟩ := c
  obtain ⟨hx, hb, hts, hown, hml, hK, hA⟩ := X
  intro H locs ls hP hD hS hl
  exact lv_iload_n hx hb d hj (lv_at hl q hq) (kk H locs ls hP hD hS hl)
theorem tw_lload_n (X : Ok G cy c cc own nL R) {i : Fin 4} {j : Nat} {x : Int64} (d : decode cc pc = .ok (.lload_n i, 1)) (q : Nat) (hj : (i : Nat) = j) (hq : lv[q]? = some (j, .long x)) (kk : T G c R nL k n ws (pc + 1) lv (.long x :: st)) : T G c R nL k n ws pc lv st := by
  obtain ⟨p, l, e, s, m, args, below, meth, cd, Q, A, H0⟩ := c
  obtain ⟨hx, hb, hts, hown, hml, hK, hA⟩ := X
  intro H locs ls hP hD hS hl
  exact lv_lload_n hx hb d hj (lv_at hl q hq) (kk H locs ls hP hD hS hl)
theorem tw_aload_n (X : Ok G cy c cc own nL R) {i : Fin 4} {j : Nat} {x : Nat} (d : decode cc pc = .ok (.aload_n i, 1)) (q : Nat) (hj : (i : Nat) = j) (hq : lv[q]? = some (j, .ref x)) (kk : T G c R nL k n ws (pc + 1) lv (.ref x :: st)) : T G c R nL k n ws pc lv st := by
  obtain ⟨p, l, e, s, m, args, below, meth, cd, Q, A, H0⟩ := c
  obtain ⟨hx, hb, hts, hown, hml, hK, hA⟩ := X
  intro H locs ls hP hD hS hl
  exact lv_aload_n hx hb d hj (lv_at hl q hq) (kk H locs ls hP hD hS hl)
theorem tw_iload (X : Ok G cy c cc own nL R) {j : Nat} {x : Int32} (d : decode cc pc = .ok (.iload j, 2)) (q : Nat) (hq : lv[q]? = some (j, .int x)) (kk : T G c R nL k n ws (pc + 2) lv (.int x :: st)) : T G c R nL k n ws pc lv st := by
  obtain ⟨p, l, e, s, m, args, below, meth, cd, Q, A, H0⟩ := c
  obtain ⟨hx, hb, hts, hown, hml, hK, hA⟩ := X
  intro H locs ls hP hD hS hl
  exact lv_iload hx hb d (lv_at hl q hq) (kk H locs ls hP hD hS hl)
theorem tw_lload (X : Ok G cy c cc own nL R) {j : Nat} {x : Int64} (d : decode cc pc = .ok (.lload j, 2)) (q : Nat) (hq : lv[q]? = some (j, .long x)) (kk : T G c R nL k n ws (pc + 2) lv (.long x :: st)) : T G c R nL k n ws pc lv st := by
  obtain ⟨p, l, e, s, m, args, below, meth, cd, Q, A, H0⟩ := c
  obtain ⟨hx, hb, hts, hown, hml, hK, hA⟩ := X
  intro H locs ls hP hD hS hl
  exact lv_lload hx hb d (lv_at hl q hq) (kk H locs ls hP hD hS hl)
theorem tw_aload (X : Ok G cy c cc own nL R) {j : Nat} {x : Nat} (d : decode cc pc = .ok (.aload j, 2)) (q : Nat) (hq : lv[q]? = some (j, .ref x)) (kk : T G c R nL k n ws (pc + 2) lv (.ref x :: st)) : T G c R nL k n ws pc lv st := by
  obtain ⟨p, l, e, s, m, args, below, meth, cd, Q, A, H0⟩ := c
  obtain ⟨hx, hb, hts, hown, hml, hK, hA⟩ := X
  intro H locs ls hP hD hS hl
  exact lv_aload hx hb d (lv_at hl q hq) (kk H locs ls hP hD hS hl)
theorem tw_dload (X : Ok G cy c cc own nL R) {j : Nat} {x : UInt64} (d : decode cc pc = .ok (.dload j, 2)) (q : Nat) (hq : lv[q]? = some (j, .double x)) (kk : T G c R nL k n ws (pc + 2) lv (.double x :: st)) : T G c R nL k n ws pc lv st := by
  obtain ⟨p, l, e, s, m, args, below, meth, cd, Q, A, H0⟩ := c
  obtain ⟨hx, hb, hts, hown, hml, hK, hA⟩ := X
  intro H locs ls hP hD hS hl
  exact lv_dload hx hb d (lv_at hl q hq) (kk H locs ls hP hD hS hl)
theorem tw_istore_n (X : Ok G cy c cc own nL R) {i : Fin 4} {j : Nat} {x : Int32} {lv' : List (Nat × Value)} (d : decode cc pc = .ok (.istore_n i, 1)) (hj : (i : Nat) = j) (hn : j < nL) (hv : (j, Value.int x) :: lv.filter (fun q => !(q.1 == j) && !(q.1 + 1 == j && q.2.category == 2)) = lv') (kk : T G c R nL k n ws (pc + 1) lv' st) : T G c R nL k n ws pc lv (.int x :: st) := by
  obtain ⟨p, l, e, s, m, args, below, meth, cd, Q, A, H0⟩ := c
  obtain ⟨hx, hb, hts, hown, hml, hK, hA⟩ := X
  intro H locs ls hP hD hS hl
  exact lv_istore_n hx hb d hj hl hn hv (fun ls hl => kk H locs ls hP hD hS hl)
theorem tw_astore_n (X : Ok G cy c cc own nL R) {i : Fin 4} {j : Nat} {x : Nat} {lv' : List (Nat × Value)} (d : decode cc pc = .ok (.astore_n i, 1)) (hj : (i : Nat) = j) (hn : j < nL) (hv : (j, Value.ref x) :: lv.filter (fun q => !(q.1 == j) && !(q.1 + 1 == j && q.2.category == 2)) = lv') (kk : T G c R nL k n ws (pc + 1) lv' st) : T G c R nL k n ws pc lv (.ref x :: st) := by
  obtain ⟨p, l, e, s, m, args, below, meth, cd, Q, A, H0⟩ := c
  obtain ⟨hx, hb, hts, hown, hml, hK, hA⟩ := X
  intro H locs ls hP hD hS hl
  exact lv_astore_n hx hb d hj hl hn hv (fun ls hl => kk H locs ls hP hD hS hl)
theorem tw_lstore_n (X : Ok G cy c cc own nL R) {i : Fin 4} {j : Nat} {x : Int64} {lv' : List (Nat × Value)} (d : decode cc pc = .ok (.lstore_n i, 1)) (hj : (i : Nat) = j) (hn : j + 1 < nL) (hv : (j, Value.long x) :: lv.filter (fun q => !(q.1 == j) && (!(q.1 == j + 1) && !(q.1 + 1 == j && q.2.category == 2))) = lv') (kk : T G c R nL k n ws (pc + 1) lv' st) : T G c R nL k n ws pc lv (.long x :: st) := by
  obtain ⟨p, l, e, s, m, args, below, meth, cd, Q, A, H0⟩ := c
  obtain ⟨hx, hb, hts, hown, hml, hK, hA⟩ := X
  intro H locs ls hP hD hS hl
  exact lv_lstore_n hx hb d hj hl hn hv (fun ls hl => kk H locs ls hP hD hS hl)
theorem tw_istore (X : Ok G cy c cc own nL R) {j : Nat} {x : Int32} {lv' : List (Nat × Value)} (d : decode cc pc = .ok (.istore j, 2)) (hn : j < nL) (hv : (j, Value.int x) :: lv.filter (fun q => !(q.1 == j) && !(q.1 + 1 == j && q.2.category == 2)) = lv') (kk : T G c R nL k n ws (pc + 2) lv' st) : T G c R nL k n ws pc lv (.int x :: st) := by
  obtain ⟨p, l, e, s, m, args, below, meth, cd, Q, A, H0⟩ := c
  obtain ⟨hx, hb, hts, hown, hml, hK, hA⟩ := X
  intro H locs ls hP hD hS hl
  exact lv_istore hx hb d hl hn hv (fun ls hl => kk H locs ls hP hD hS hl)
theorem tw_astore (X : Ok G cy c cc own nL R) {j : Nat} {x : Nat} {lv' : List (Nat × Value)} (d : decode cc pc = .ok (.astore j, 2)) (hn : j < nL) (hv : (j, Value.ref x) :: lv.filter (fun q => !(q.1 == j) && !(q.1 + 1 == j && q.2.category == 2)) = lv') (kk : T G c R nL k n ws (pc + 2) lv' st) : T G c R nL k n ws pc lv (.ref x :: st) := by
  obtain ⟨p, l, e, s, m, args, below, meth, cd, Q, A, H0⟩ := c
  obtain ⟨hx, hb, hts, hown, hml, hK, hA⟩ := X
  intro H locs ls hP hD hS hl
  exact lv_astore hx hb d hl hn hv (fun ls hl => kk H locs ls hP hD hS hl)
theorem tw_lstore (X : Ok G cy c cc own nL R) {j : Nat} {x : Int64} {lv' : List (Nat × Value)} (d : decode cc pc = .ok (.lstore j, 2)) (hn : j + 1 < nL) (hv : (j, Value.long x) :: lv.filter (fun q => !(q.1 == j) && (!(q.1 == j + 1) && !(q.1 + 1 == j && q.2.category == 2))) = lv') (kk : T G c R nL k n ws (pc + 2) lv' st) : T G c R nL k n ws pc lv (.long x :: st) := by
  obtain ⟨p, l, e, s, m, args, below, meth, cd, Q, A, H0⟩ := c
  obtain ⟨hx, hb, hts, hown, hml, hK, hA⟩ := X
  intro H locs ls hP hD hS hl
  exact lv_lstore hx hb d hl hn hv (fun ls hl => kk H locs ls hP hD hS hl)
theorem tw_dstore (X : Ok G cy c cc own nL R) {j : Nat} {x : UInt64} {lv' : List (Nat × Value)} (d : decode cc pc = .ok (.dstore j, 2)) (hn : j + 1 < nL) (hv : (j, Value.double x) :: lv.filter (fun q => !(q.1 == j) && (!(q.1 == j + 1) && !(q.1 + 1 == j && q.2.category == 2))) = lv') (kk : T G c R nL k n ws (pc + 2) lv' st) : T G c R nL k n ws pc lv (.double x :: st) := by
  obtain ⟨p, l, e, s, m, args, below, meth, cd, Q, A, H0⟩ := c
  obtain ⟨hx, hb, hts, hown, hml, hK, hA⟩ := X
  intro H locs ls hP hD hS hl
  exact lv_dstore hx hb d hl hn hv (fun ls hl => kk H locs ls hP hD hS hl)
theorem tw_iinc (X : Ok G cy c cc own nL R) {j q : Nat} {z x y : Int} {lv' : List (Nat × Value)} (d : decode cc pc = .ok (.iinc j z, 3)) (hq : lv[q]? = some (j, .int (enc x))) (hy : x + z = y) (hn : j < nL) (hv : (j, Value.int (enc y)) :: lv.filter (fun q => !(q.1 == j) && !(q.1 + 1 == j && q.2.category == 2)) = lv') (kk : T G c R nL k n ws (pc + 3) lv' st) : T G c R nL k n ws pc lv st := by
  obtain ⟨p, l, e, s, m, args, below, meth, cd, Q, A, H0⟩ := c
  obtain ⟨hx, hb, hts, hown, hml, hK, hA⟩ := X
  intro H locs ls hP hD hS hl
  subst hy
  exact lv_iinc (v := enc (x + z)) hx hb d hl hq (enc_add x z) hn hv (fun ls hl => kk H locs ls hP hD hS hl)
theorem tw_iadd (X : Ok G cy c cc own nL R) {a b z : Int} (d : decode cc pc = .ok (.iadd, 1)) (hz : a + b = z) (kk : T G c R nL k n ws (pc + 1) lv (.int (enc z) :: st)) : T G c R nL k n ws pc lv (.int (enc b) :: .int (enc a) :: st) := by
  obtain ⟨p, l, e, s, m, args, below, meth, cd, Q, A, H0⟩ := c
  obtain ⟨hx, hb, hts, hown, hml, hK, hA⟩ := X
  intro H locs ls hP hD hS hl
  subst hz
  refine lv_iadd hx hb d ?_
  rw [enc_add]
  exact kk H locs ls hP hD hS hl
theorem tw_isub (X : Ok G cy c cc own nL R) {a b z : Int} (d : decode cc pc = .ok (.isub, 1)) (hz : a - b = z) (kk : T G c R nL k n ws (pc + 1) lv (.int (enc z) :: st)) : T G c R nL k n ws pc lv (.int (enc b) :: .int (enc a) :: st) := by
  obtain ⟨p, l, e, s, m, args, below, meth, cd, Q, A, H0⟩ := c
  obtain ⟨hx, hb, hts, hown, hml, hK, hA⟩ := X
  intro H locs ls hP hD hS hl
  subst hz
  refine lv_isub hx hb d ?_
  rw [enc_sub]
  exact kk H locs ls hP hD hS hl
theorem tw_imul (X : Ok G cy c cc own nL R) {a b z : Int} (d : decode cc pc = .ok (.imul, 1)) (hz : a * b = z) (kk : T G c R nL k n ws (pc + 1) lv (.int (enc z) :: st)) : T G c R nL k n ws pc lv (.int (enc b) :: .int (enc a) :: st) := by
  obtain ⟨p, l, e, s, m, args, below, meth, cd, Q, A, H0⟩ := c
  obtain ⟨hx, hb, hts, hown, hml, hK, hA⟩ := X
  intro H locs ls hP hD hS hl
  subst hz
  refine lv_imul hx hb d ?_
  rw [enc_mul]
  exact kk H locs ls hP hD hS hl
theorem tw_ladd (X : Ok G cy c cc own nL R) {a b : Int64} (d : decode cc pc = .ok (.ladd, 1)) (kk : T G c R nL k n ws (pc + 1) lv (.long (a + b) :: st)) : T G c R nL k n ws pc lv (.long b :: .long a :: st) := by
  obtain ⟨p, l, e, s, m, args, below, meth, cd, Q, A, H0⟩ := c
  obtain ⟨hx, hb, hts, hown, hml, hK, hA⟩ := X
  intro H locs ls hP hD hS hl
  exact lv_ladd hx hb d (kk H locs ls hP hD hS hl)
theorem tw_lmul (X : Ok G cy c cc own nL R) {a b : Int64} (d : decode cc pc = .ok (.lmul, 1)) (kk : T G c R nL k n ws (pc + 1) lv (.long (a * b) :: st)) : T G c R nL k n ws pc lv (.long b :: .long a :: st) := by
  obtain ⟨p, l, e, s, m, args, below, meth, cd, Q, A, H0⟩ := c
  obtain ⟨hx, hb, hts, hown, hml, hK, hA⟩ := X
  intro H locs ls hP hD hS hl
  exact lv_lmul hx hb d (kk H locs ls hP hD hS hl)
theorem tw_i2l (X : Ok G cy c cc own nL R) {z : Int} (hz : In z) (d : decode cc pc = .ok (.i2l, 1)) (kk : T G c R nL k n ws (pc + 1) lv (.long (Int64.ofInt z) :: st)) : T G c R nL k n ws pc lv (.int (enc z) :: st) := by
  obtain ⟨p, l, e, s, m, args, below, meth, cd, Q, A, H0⟩ := c
  obtain ⟨hx, hb, hts, hown, hml, hK, hA⟩ := X
  intro H locs ls hP hD hS hl
  exact lv_i2l hx hb d (enc_l hz) (kk H locs ls hP hD hS hl)
theorem tw_i2d (X : Ok G cy c cc own nL R) {x : Int32} (d : decode cc pc = .ok (.i2d, 1)) (kk : T G c R nL k n ws (pc + 1) lv (.double (FP.i2d x) :: st)) : T G c R nL k n ws pc lv (.int x :: st) := by
  obtain ⟨p, l, e, s, m, args, below, meth, cd, Q, A, H0⟩ := c
  obtain ⟨hx, hb, hts, hown, hml, hK, hA⟩ := X
  intro H locs ls hP hD hS hl
  exact lv_i2d hx hb d (kk H locs ls hP hD hS hl)
theorem tw_ddiv (X : Ok G cy c cc own nL R) {x y : UInt64} (hne : vf_n64 (FP.ddiv x y)) (d : decode cc pc = .ok (.ddiv, 1)) (kk : T G c R nL k n ws (pc + 1) lv (.double (FP.ddiv x y) :: st)) : T G c R nL k n ws pc lv (.double y :: .double x :: st) := by
  obtain ⟨p, l, e, s, m, args, below, meth, cd, Q, A, H0⟩ := c
  obtain ⟨hx, hb, hts, hown, hml, hK, hA⟩ := X
  intro H locs ls hP hD hS hl
  exact lv_ddiv hx hb d hne (kk H locs ls hP hD hS hl)
theorem tw_dcmp (X : Ok G cy c cc own nL R) {x y : UInt64} {op : CmpOp} (d : decode cc pc = .ok (.dcmp op, 1)) (kk : T G c R nL k n ws (pc + 1) lv (.int (Op.cmpValue (FP.dcmp x y) op) :: st)) : T G c R nL k n ws pc lv (.double y :: .double x :: st) := by
  obtain ⟨p, l, e, s, m, args, below, meth, cd, Q, A, H0⟩ := c
  obtain ⟨hx, hb, hts, hown, hml, hK, hA⟩ := X
  intro H locs ls hP hD hS hl
  exact lv_dcmp hx hb d (kk H locs ls hP hD hS hl)
theorem tw_dconst0 (X : Ok G cy c cc own nL R) (d : decode cc pc = .ok (.dconst 0, 1)) (kk : T G c R nL k n ws (pc + 1) lv (.double FP.dconst0 :: st)) : T G c R nL k n ws pc lv st := by
  obtain ⟨p, l, e, s, m, args, below, meth, cd, Q, A, H0⟩ := c
  obtain ⟨hx, hb, hts, hown, hml, hK, hA⟩ := X
  intro H locs ls hP hD hS hl
  exact lv_dconst0 hx hb d (kk H locs ls hP hD hS hl)
theorem tw_dup (X : Ok G cy c cc own nL R) {v : Value} (d : decode cc pc = .ok (.dup, 1)) (hv : v.category = 1) (kk : T G c R nL k n ws (pc + 1) lv (v :: v :: st)) : T G c R nL k n ws pc lv (v :: st) := by
  obtain ⟨p, l, e, s, m, args, below, meth, cd, Q, A, H0⟩ := c
  obtain ⟨hx, hb, hts, hown, hml, hK, hA⟩ := X
  intro H locs ls hP hD hS hl
  exact lv_dup hx hb d hv (kk H locs ls hP hD hS hl)
theorem tw_dup2 (X : Ok G cy c cc own nL R) {v w : Value} (d : decode cc pc = .ok (.dup2, 1)) (hv : v.category = 1) (hw : w.category = 1) (kk : T G c R nL k n ws (pc + 1) lv (v :: w :: v :: w :: st)) : T G c R nL k n ws pc lv (v :: w :: st) := by
  obtain ⟨p, l, e, s, m, args, below, meth, cd, Q, A, H0⟩ := c
  obtain ⟨hx, hb, hts, hown, hml, hK, hA⟩ := X
  intro H locs ls hP hD hS hl
  exact lv_dup2_11 hx hb d hv hw (kk H locs ls hP hD hS hl)
theorem tw_goto (X : Ok G cy c cc own nL R) {off : Int} {tgt : Nat} (d : decode cc pc = .ok (.goto off, 3)) (ht : (pc : Int) + off = (tgt : Int)) (kk : T G c R nL k n ws tgt lv st) : T G c R nL k n ws pc lv st := by
  obtain ⟨p, l, e, s, m, args, below, meth, cd, Q, A, H0⟩ := c
  obtain ⟨hx, hb, hts, hown, hml, hK, hA⟩ := X
  intro H locs ls hP hD hS hl
  exact lv_goto hx hb d ht (kk H locs ls hP hD hS hl)
theorem tw_lcmp (X : Ok G cy c cc own nL R) {x y : Int64} (d : decode cc pc = .ok (.lcmp, 1)) (kk : T G c R nL k n ws (pc + 1) lv (.int (lg_cmp x y) :: st)) : T G c R nL k n ws pc lv (.long y :: .long x :: st) := by
  obtain ⟨p, l, e, s, m, args, below, meth, cd, Q, A, H0⟩ := c
  obtain ⟨hx, hb, hts, hown, hml, hK, hA⟩ := X
  intro H locs ls hP hD hS hl
  exact W.lcmp hx hb d (kk H locs ls hP hD hS hl)
theorem tw_if_eq (X : Ok G cy c cc own nL R) {a : Int} {off : Int} {tgt : Nat} (h : In a) (d : decode cc pc = .ok (.ifCond .eq off, 3)) (ht : (pc : Int) + off = (tgt : Int)) (kt : a = 0 → T G c R nL k n ws tgt lv st) (kf : a ≠ 0 → T G c R nL k n ws (pc + 3) lv st) : T G c R nL k n ws pc lv (.int (enc a) :: st) := by
  obtain ⟨p, l, e, s, m, args, below, meth, cd, Q, A, H0⟩ := c
  obtain ⟨hx, hb, hts, hown, hml, hK, hA⟩ := X
  intro H locs ls hP hD hS hl
  exact lv_if_eq hx hb d ht (fun q => kt ((by rw [← enc_0] at q; exact (enc_eq h In0).mp q)) H locs ls hP hD hS hl) (fun q => kf ((by rw [← enc_0] at q; exact fun z => q ((enc_eq h In0).mpr z))) H locs ls hP hD hS hl)
theorem tw_if_ne (X : Ok G cy c cc own nL R) {a : Int} {off : Int} {tgt : Nat} (h : In a) (d : decode cc pc = .ok (.ifCond .ne off, 3)) (ht : (pc : Int) + off = (tgt : Int)) (kt : a ≠ 0 → T G c R nL k n ws tgt lv st) (kf : a = 0 → T G c R nL k n ws (pc + 3) lv st) : T G c R nL k n ws pc lv (.int (enc a) :: st) := by
  obtain ⟨p, l, e, s, m, args, below, meth, cd, Q, A, H0⟩ := c
  obtain ⟨hx, hb, hts, hown, hml, hK, hA⟩ := X
  intro H locs ls hP hD hS hl
  exact lv_if_ne hx hb d ht (fun q => kt ((by rw [← enc_0] at q; exact fun z => q ((enc_eq h In0).mpr z))) H locs ls hP hD hS hl) (fun q => kf ((by rw [← enc_0] at q; exact (enc_eq h In0).mp q)) H locs ls hP hD hS hl)
theorem tw_if_lt (X : Ok G cy c cc own nL R) {a : Int} {off : Int} {tgt : Nat} (h : In a) (d : decode cc pc = .ok (.ifCond .lt off, 3)) (ht : (pc : Int) + off = (tgt : Int)) (kt : a < 0 → T G c R nL k n ws tgt lv st) (kf : 0 ≤ a → T G c R nL k n ws (pc + 3) lv st) : T G c R nL k n ws pc lv (.int (enc a) :: st) := by
  obtain ⟨p, l, e, s, m, args, below, meth, cd, Q, A, H0⟩ := c
  obtain ⟨hx, hb, hts, hown, hml, hK, hA⟩ := X
  intro H locs ls hP hD hS hl
  exact lv_if_lt hx hb d ht (fun q => kt ((by rw [← enc_0] at q; exact (enc_lt h In0).mp q)) H locs ls hP hD hS hl) (fun q => kf ((by rw [← enc_0] at q; exact Int.not_lt.mp (fun z => q ((enc_lt h In0).mpr z)))) H locs ls hP hD hS hl)
theorem tw_if_ge (X : Ok G cy c cc own nL R) {a : Int} {off : Int} {tgt : Nat} (h : In a) (d : decode cc pc = .ok (.ifCond .ge off, 3)) (ht : (pc : Int) + off = (tgt : Int)) (kt : 0 ≤ a → T G c R nL k n ws tgt lv st) (kf : a < 0 → T G c R nL k n ws (pc + 3) lv st) : T G c R nL k n ws pc lv (.int (enc a) :: st) := by
  obtain ⟨p, l, e, s, m, args, below, meth, cd, Q, A, H0⟩ := c
  obtain ⟨hx, hb, hts, hown, hml, hK, hA⟩ := X
  intro H locs ls hP hD hS hl
  exact lv_if_ge hx hb d ht (fun q => kt ((by rw [← enc_0] at q; exact (enc_le In0 h).mp q)) H locs ls hP hD hS hl) (fun q => kf ((by rw [← enc_0] at q; exact Int.not_le.mp (fun z => q ((enc_le In0 h).mpr z)))) H locs ls hP hD hS hl)
theorem tw_if_le (X : Ok G cy c cc own nL R) {a : Int} {off : Int} {tgt : Nat} (h : In a) (d : decode cc pc = .ok (.ifCond .le off, 3)) (ht : (pc : Int) + off = (tgt : Int)) (kt : a ≤ 0 → T G c R nL k n ws tgt lv st) (kf : 0 < a → T G c R nL k n ws (pc + 3) lv st) : T G c R nL k n ws pc lv (.int (enc a) :: st) := by
  obtain ⟨p, l, e, s, m, args, below, meth, cd, Q, A, H0⟩ := c
  obtain ⟨hx, hb, hts, hown, hml, hK, hA⟩ := X
  intro H locs ls hP hD hS hl
  exact lv_if_le hx hb d ht (fun q => kt ((by rw [← enc_0] at q; exact (enc_le h In0).mp q)) H locs ls hP hD hS hl) (fun q => kf ((by rw [← enc_0] at q; exact Int.not_le.mp (fun z => q ((enc_le h In0).mpr z)))) H locs ls hP hD hS hl)
theorem tw_if_gt (X : Ok G cy c cc own nL R) {a : Int} {off : Int} {tgt : Nat} (h : In a) (d : decode cc pc = .ok (.ifCond .gt off, 3)) (ht : (pc : Int) + off = (tgt : Int)) (kt : 0 < a → T G c R nL k n ws tgt lv st) (kf : a ≤ 0 → T G c R nL k n ws (pc + 3) lv st) : T G c R nL k n ws pc lv (.int (enc a) :: st) := by
  obtain ⟨p, l, e, s, m, args, below, meth, cd, Q, A, H0⟩ := c
  obtain ⟨hx, hb, hts, hown, hml, hK, hA⟩ := X
  intro H locs ls hP hD hS hl
  exact lv_if_gt hx hb d ht (fun q => kt ((by rw [← enc_0] at q; exact (enc_lt In0 h).mp q)) H locs ls hP hD hS hl) (fun q => kf ((by rw [← enc_0] at q; exact Int.not_lt.mp (fun z => q ((enc_lt In0 h).mpr z)))) H locs ls hP hD hS hl)
theorem tw_icmp_eq (X : Ok G cy c cc own nL R) {a b : Int} {off : Int} {tgt : Nat} (h : In a) (h2 : In b) (d : decode cc pc = .ok (.if_icmp .eq off, 3)) (ht : (pc : Int) + off = (tgt : Int)) (kt : a = b → T G c R nL k n ws tgt lv st) (kf : a ≠ b → T G c R nL k n ws (pc + 3) lv st) : T G c R nL k n ws pc lv (.int (enc b) :: .int (enc a) :: st) := by
  obtain ⟨p, l, e, s, m, args, below, meth, cd, Q, A, H0⟩ := c
  obtain ⟨hx, hb, hts, hown, hml, hK, hA⟩ := X
  intro H locs ls hP hD hS hl
  exact lv_icmp_eq hx hb d ht (fun q => kt ((enc_eq h h2).mp q) H locs ls hP hD hS hl) (fun q => kf (fun z => q ((enc_eq h h2).mpr z)) H locs ls hP hD hS hl)
theorem tw_icmp_ne (X : Ok G cy c cc own nL R) {a b : Int} {off : Int} {tgt : Nat} (h : In a) (h2 : In b) (d : decode cc pc = .ok (.if_icmp .ne off, 3)) (ht : (pc : Int) + off = (tgt : Int)) (kt : a ≠ b → T G c R nL k n ws tgt lv st) (kf : a = b → T G c R nL k n ws (pc + 3) lv st) : T G c R nL k n ws pc lv (.int (enc b) :: .int (enc a) :: st) := by
  obtain ⟨p, l, e, s, m, args, below, meth, cd, Q, A, H0⟩ := c
  obtain ⟨hx, hb, hts, hown, hml, hK, hA⟩ := X
  intro H locs ls hP hD hS hl
  exact lv_icmp_ne hx hb d ht (fun q => kt (fun z => q ((enc_eq h h2).mpr z)) H locs ls hP hD hS hl) (fun q => kf ((enc_eq h h2).mp q) H locs ls hP hD hS hl)
theorem tw_icmp_lt (X : Ok G cy c cc own nL R) {a b : Int} {off : Int} {tgt : Nat} (h : In a) (h2 : In b) (d : decode cc pc = .ok (.if_icmp .lt off, 3)) (ht : (pc : Int) + off = (tgt : Int)) (kt : a < b → T G c R nL k n ws tgt lv st) (kf : b ≤ a → T G c R nL k n ws (pc + 3) lv st) : T G c R nL k n ws pc lv (.int (enc b) :: .int (enc a) :: st) := by
  obtain ⟨p, l, e, s, m, args, below, meth, cd, Q, A, H0⟩ := c
  obtain ⟨hx, hb, hts, hown, hml, hK, hA⟩ := X
  intro H locs ls hP hD hS hl
  exact lv_icmp_lt hx hb d ht (fun q => kt ((enc_lt h h2).mp q) H locs ls hP hD hS hl) (fun q => kf (Int.not_lt.mp (fun z => q ((enc_lt h h2).mpr z))) H locs ls hP hD hS hl)
theorem tw_icmp_ge (X : Ok G cy c cc own nL R) {a b : Int} {off : Int} {tgt : Nat} (h : In a) (h2 : In b) (d : decode cc pc = .ok (.if_icmp .ge off, 3)) (ht : (pc : Int) + off = (tgt : Int)) (kt : b ≤ a → T G c R nL k n ws tgt lv st) (kf : a < b → T G c R nL k n ws (pc + 3) lv st) : T G c R nL k n ws pc lv (.int (enc b) :: .int (enc a) :: st) := by
  obtain ⟨p, l, e, s, m, args, below, meth, cd, Q, A, H0⟩ := c
  obtain ⟨hx, hb, hts, hown, hml, hK, hA⟩ := X
  intro H locs ls hP hD hS hl
  exact lv_icmp_ge hx hb d ht (fun q => kt ((enc_le h2 h).mp q) H locs ls hP hD hS hl) (fun q => kf (Int.not_le.mp (fun z => q ((enc_le h2 h).mpr z))) H locs ls hP hD hS hl)
theorem tw_icmp_le (X : Ok G cy c cc own nL R) {a b : Int} {off : Int} {tgt : Nat} (h : In a) (h2 : In b) (d : decode cc pc = .ok (.if_icmp .le off, 3)) (ht : (pc : Int) + off = (tgt : Int)) (kt : a ≤ b → T G c R nL k n ws tgt lv st) (kf : b < a → T G c R nL k n ws (pc + 3) lv st) : T G c R nL k n ws pc lv (.int (enc b) :: .int (enc a) :: st) := by
  obtain ⟨p, l, e, s, m, args, below, meth, cd, Q, A, H0⟩ := c
  obtain ⟨hx, hb, hts, hown, hml, hK, hA⟩ := X
  intro H locs ls hP hD hS hl
  exact lv_icmp_le hx hb d ht (fun q => kt ((enc_le h h2).mp q) H locs ls hP hD hS hl) (fun q => kf (Int.not_le.mp (fun z => q ((enc_le h h2).mpr z))) H locs ls hP hD hS hl)
theorem tw_icmp_gt (X : Ok G cy c cc own nL R) {a b : Int} {off : Int} {tgt : Nat} (h : In a) (h2 : In b) (d : decode cc pc = .ok (.if_icmp .gt off, 3)) (ht : (pc : Int) + off = (tgt : Int)) (kt : b < a → T G c R nL k n ws tgt lv st) (kf : a ≤ b → T G c R nL k n ws (pc + 3) lv st) : T G c R nL k n ws pc lv (.int (enc b) :: .int (enc a) :: st) := by
  obtain ⟨p, l, e, s, m, args, below, meth, cd, Q, A, H0⟩ := c
  obtain ⟨hx, hb, hts, hown, hml, hK, hA⟩ := X
  intro H locs ls hP hD hS hl
  exact lv_icmp_gt hx hb d ht (fun q => kt ((enc_lt h2 h).mp q) H locs ls hP hD hS hl) (fun q => kf (Int.not_lt.mp (fun z => q ((enc_lt h2 h).mpr z))) H locs ls hP hD hS hl)
theorem tw_iald (X : Ok G cy c cc own nL R) {a : Nat} {N : Nat} {f : Int → Int} {i : Int} (q : Nat) (hq : ws[q]? = some (a, .inl (cy, N, .inl (ea f)))) (hN : N < 2147483648) (hi : 0 ≤ i ∧ i < N) (d : decode cc pc = .ok (.iaload, 1)) (kk : T G c R nL k n ws (pc + 1) lv (.int (enc (f i)) :: st)) : T G c R nL k n ws pc lv (.int (enc i) :: .ref a :: st) := by
  obtain ⟨p, l, e, s, m, args, below, meth, cd, Q, A, H0⟩ := c
  obtain ⟨hx, hb, hts, hown, hml, hK, hA⟩ := X
  intro H locs ls hP hD hS hl
  refine va_iald hx hb hK hP q 0 hq rfl (enc_in hi hN) d ?_
  rw [ea_at f hi.1 ⟨by omega, by omega⟩]
  exact kk H locs ls hP hD hS hl
theorem tw_iast (X : Ok G cy c cc own nL R) {a : Nat} {N : Nat} {f : Int → Int} {i v : Int} {ws' : va_W} (q : Nat) (hq : ws[q]? = some (a, .inl (cy, N, .inl (ea f)))) (hN : N < 2147483648) (hi : 0 ≤ i ∧ i < N) (d : decode cc pc = .ok (.iastore, 1)) (hw : ws.set q (a, .inl (cy, N, .inl (ea (ups f i v)))) = ws') (kk : T G c R nL k n ws' (pc + 1) lv st) : T G c R nL k n ws pc lv (.int (enc v) :: .int (enc i) :: .ref a :: st) := by
  obtain ⟨p, l, e, s, m, args, below, meth, cd, Q, A, H0⟩ := c
  obtain ⟨hx, hb, hts, hown, hml, hK, hA⟩ := X
  intro H locs ls hP hD hS hl
  refine va_iast hx hb hK hP hD hS q 0 hq rfl (enc_in hi hN) d (fun H1 locs1 hP hD hS => ?_)
  rw [ea_upd f hi.1 ⟨by omega, by omega⟩] at hP hD
  rw [hw] at hP hD
  exact kk H1 locs1 ls hP hD hS hl
theorem tw_alen (X : Ok G cy c cc own nL R) {a : Nat} {N : Nat} {f : Nat → Int32} (q : Nat) (hq : ws[q]? = some (a, .inl (cy, N, .inl f))) (d : decode cc pc = .ok (.arraylength, 1)) (kk : T G c R nL k n ws (pc + 1) lv (.int (enc N) :: st)) : T G c R nL k n ws pc lv (.ref a :: st) := by
  obtain ⟨p, l, e, s, m, args, below, meth, cd, Q, A, H0⟩ := c
  obtain ⟨hx, hb, hts, hown, hml, hK, hA⟩ := X
  intro H locs ls hP hD hS hl
  exact va_alen (x := (N, .inl f)) (ty := .int) hx hb hK hP q 0 hq rfl (by show Int32.ofNat N = Int32.ofInt (N : Int); rw [Int32.ofInt_eq_ofNat]) d (kk H locs ls hP hD hS hl)
theorem tw_get (X : Ok G cy c cc own nL R) {C ref : String} {TF : u_T} {N ci idx a : Nat} (hin : ∀ w ∈ u_ws C TF N, w ∈ lwA) (hc : vwCl[ci]? = some (C, TF, N)) (j : Nat) (hj : j < N) (hlk : Cond.fieldLink own idx ref (TF j).2.1 (TF j).2.2.1 ∈ lwA) (hr : (TF j).1 = ref) (q : Nat) {fs : List Value} {v : Value} (he : ws[q]? = some (a, .inr (ci, fs))) (hv : fs[j]? = some v) (d : decode cc pc = .ok (.getfield idx, 3)) (kk : T G c R nL k n ws (pc + 3) lv (v :: st)) : T G c R nL k n ws pc lv (.ref a :: st) := by
  obtain ⟨p, l, e, s, m, args, below, meth, cd, Q, A, H0⟩ := c
  obtain ⟨hx, hb, hts, hown, hml, hK, hA⟩ := X
  intro H locs ls hP hD hS hl
  subst hr
  exact va_get hx hb hts hin hown hK hP q he hc j hj (hts _ hlk) (fun _ h9 => h9) hv d (kk H locs ls hP hD hS hl)
theorem tw_put (X : Ok G cy c cc own nL R) {C ref : String} {TF : u_T} {N ci idx a : Nat} (hin : ∀ w ∈ u_ws C TF N, w ∈ lwA) (hc : vwCl[ci]? = some (C, TF, N)) (ty0 : Nat → FieldType) (hty : ∀ k, k < N → parseFieldDescriptor (TF k).2.2.1 = some (ty0 k)) (hnm : ∀ a, a < N → ∀ b, b < N → a ≠ b → (TF a).2.1 ≠ (TF b).2.1) (j : Nat) (hj : j < N) (hlk : Cond.fieldLink own idx ref (TF j).2.1 (TF j).2.2.1 ∈ lwA) (hr : (TF j).1 = ref) (hfin : (TF j).2.2.2 = false) (q : Nat) {fs : List Value} {v : Value} {ws' : va_W} (he : ws[q]? = some (a, .inr (ci, fs))) (hl9 : j < fs.length) (hnw : narrow (ty0 j) v = v) (hft : fits (ty0 j) v = true) (d : decode cc pc = .ok (.putfield idx, 3)) (hw : ws.set q (a, .inr (ci, fs.set j v)) = ws') (kk : T G c R nL k n ws' (pc + 3) lv st) : T G c R nL k n ws pc lv (v :: .ref a :: st) := by
  obtain ⟨p, l, e, s, m, args, below, meth, cd, Q, A, H0⟩ := c
  obtain ⟨hx, hb, hts, hown, hml, hK, hA⟩ := X
  intro H locs ls hP hD hS hl
  subst hr
  refine va_put hx hb hts hin ty0 hty hnm hown hK hP hD hS q he hc j hj (hts _ hlk) (fun _ h9 => h9) hfin (hty j hj) hnw hft hl9 d (fun H1 locs1 hP hD hS => ?_)
  rw [hw] at hP hD
  exact kk H1 locs1 ls hP hD hS hl
end TR
end
section
/-! CONTRACTS over T: Ct (a method that returns), its body, and calling it; the frame rule by segments: ws = Y ++ (ws1 ++ Z) -/
theorem seg_get {Y w Z : va_W} {i : Nat} {q : Nat × va_E} (h : (Y ++ (w ++ Z))[i]? = some q) : (i < Y.length ∧ Y[i]? = some q) ∨ (Y.length ≤ i ∧ i < Y.length + w.length ∧ w[i - Y.length]? = some q) ∨ (Y.length + w.length ≤ i ∧ Z[i - Y.length - w.length]? = some q) := by
  rw [List.getElem?_append] at h
  split at h
  · exact Or.inl ⟨by assumption, h⟩
  · rw [List.getElem?_append] at h
    split at h
    · exact Or.inr (Or.inl ⟨by omega, by omega, h⟩)
    · exact Or.inr (Or.inr ⟨by omega, h⟩)
theorem seg_Y {Y w Z : va_W} {i : Nat} {q : Nat × va_E} (h : Y[i]? = some q) : (Y ++ (w ++ Z))[i]? = some q := by
  have hl := (List.getElem?_eq_some_iff.mp h).1
  rw [List.getElem?_append_left hl]; exact h
theorem seg_w {Y w Z : va_W} {i : Nat} {q : Nat × va_E} (h : w[i]? = some q) : (Y ++ (w ++ Z))[Y.length + i]? = some q := by
  have hl := (List.getElem?_eq_some_iff.mp h).1
  rw [List.getElem?_append_right (by omega), show Y.length + i - Y.length = i by omega, List.getElem?_append_left hl]; exact h
theorem seg_Z {Y w Z : va_W} {i : Nat} {q : Nat × va_E} (h : Z[i]? = some q) : (Y ++ (w ++ Z))[Y.length + (w.length + i)]? = some q := by
  rw [List.getElem?_append_right (by omega), show Y.length + (w.length + i) - Y.length = w.length + i by omega, List.getElem?_append_right (by omega), show w.length + i - w.length = i by omega]; exact h
theorem segP {G : va_G} {Y w Z : va_W} {H : Heap} (h : va_P G vwCl (Y ++ (w ++ Z)) H) : va_P G vwCl w H := fun _ q hq => h _ q (seg_w hq)
theorem segD {A : Nat → Prop} {Y w Z : va_W} (h : va_D A (Y ++ (w ++ Z))) : va_D A w := ⟨fun i j p q hp hq e => by
  have := h.1 _ _ p q (seg_w hp) (seg_w hq) e
  omega, fun _ q hq => h.2 _ q (seg_w hq)⟩
/-- behind a call: the segment's new cells beside the rest, which is unchanged -/
theorem seg_join {G : va_G} {A : Nat → Prop} {Y w w1 Z : va_W} {H H1 : Heap} (hP : va_P G vwCl (Y ++ (w ++ Z)) H) (hD : va_D A (Y ++ (w ++ Z))) (hF : ∀ q, va_A w H.size q → A q)
    (hk : ∀ q : Nat, q < H.size → ¬ va_A w H.size q → H1[q]? = H[q]?) (hP1 : va_P G vwCl w1 H1) (hD1 : va_D (va_A w H.size) w1) : va_P G vwCl (Y ++ (w1 ++ Z)) H1 ∧ va_D A (Y ++ (w1 ++ Z)) := by
  have off : ∀ (i : Nat) (q : Nat × va_E), (Y ++ (w ++ Z))[i]? = some q → (i < Y.length ∨ Y.length + w.length ≤ i) → q.1 < H.size ∧ ¬ va_A w H.size q.1 := by
    intro i q hq hi
    have hl := (hP i q hq).lt
    refine ⟨hl, fun h => ?_⟩
    rcases h with ⟨k2, e, h⟩ | h
    · have h4 := (List.getElem?_eq_some_iff.mp h).1
      have := hD.1 i _ q (q.1, e) hq (seg_w h) rfl
      omega
    · omega
  have key : ∀ (i : Nat) (q : Nat × va_E), (Y ++ (w1 ++ Z))[i]? = some q → (Y.length ≤ i ∧ i < Y.length + w1.length ∧ w1[i - Y.length]? = some q) ∨ (∃ j, (Y ++ (w ++ Z))[j]? = some q ∧ ((i < Y.length ∧ j = i) ∨ (Y.length + w1.length ≤ i ∧ j = i - w1.length + w.length))) := by
    intro i q hq
    rcases seg_get hq with ⟨h1, h2⟩ | h | ⟨h1, h2⟩
    · exact Or.inr ⟨i, seg_Y h2, Or.inl ⟨h1, rfl⟩⟩
    · exact Or.inl h
    · refine Or.inr ⟨Y.length + (w.length + (i - Y.length - w1.length)), seg_Z h2, Or.inr ⟨h1, by omega⟩⟩
  refine ⟨fun i q hq => ?_, fun i j p q hp hq e => ?_, fun i q hq => ?_⟩
  · rcases key i q hq with ⟨-, -, h⟩ | ⟨j, h, hj⟩
    · exact hP1 _ q h
    · obtain ⟨g1, g2⟩ := off j q h (by omega)
      exact (hP j q h).kept (hk q.1 g1 g2)
  · rcases key i p hp with ⟨a1, a2, a3⟩ | ⟨i', a1, a2⟩ <;> rcases key j q hq with ⟨b1, b2, b3⟩ | ⟨j', b1, b2⟩
    · have := hD1.1 _ _ p q a3 b3 e
      omega
    · have g := (off j' q b1 (by omega)).2
      rw [← e] at g
      exact absurd (hD1.2 _ p a3) g
    · have g := (off i' p a1 (by omega)).2
      rw [e] at g
      exact absurd (hD1.2 _ q b3) g
    · have := hD.1 i' j' p q a1 b1 e
      omega
  · rcases key i q hq with ⟨-, -, h⟩ | ⟨j, h, -⟩
    · exact hF _ (hD1.2 _ q h)
    · exact hD.2 _ q h
theorem seg_free {A : Nat → Prop} {Y w Z : va_W} {H0 H : Heap} {locs : List Loc} (hD : va_D A (Y ++ (w ++ Z))) (hS : va_S A H0 H locs) (hA : ∀ q, H0.size ≤ q → A q) : ∀ q, va_A w H.size q → A q := by
  intro q h
  rcases h with ⟨k, e, h⟩ | h
  · exact hD.2 _ (q, e) (seg_w h)
  · exact hA q (Nat.le_trans hS.1 h)
/-- what is at a method's start, and its contract: from the cells ws to the cells w1 with 'post answer w1' -/
def CtB (G : va_G) (cy : ClassId) (ws : va_W) (sz : Nat) : State → Prop := fun U => U.heap.size = sz ∧ va_P G vwCl ws U.heap ∧ va_K G vwCl [(cy, .int)] U ∧ va_D (fun _ => True) ws
def CtQ (G : va_G) (cy : ClassId) (ws : va_W) (sz : Nat) (post : Option Value → va_W → Prop) : Array Value → State → Outcome → State → Prop := fun _ st oc t => (∃ (v : Option Value) (w1 : va_W), oc = .returned v ∧ post v w1 ∧ va_P G vwCl w1 t.heap ∧ va_D (va_A ws sz) w1) ∧ va_F (va_A ws sz) st t
def Ct (G : va_G) (cy : ClassId) (y : MethodName) (b : ByteArray) (mL : Nat) (ret : Option FieldType) (rm : Room) (mc ms : Nat) (av : List Value) (ws : va_W) (post : Option Value → va_W → Prop) : Prop :=
  ∀ (l : Launch) (sz : Nat), Met l y (ws_ y b mL ret) rm (va_Pc av (CtB G cy ws sz)) (CtQ G cy ws sz post) mc ms (va_A ws sz)
/-- a method's own end, of each kind of answer -/
def RetI (G : va_G) (c : Cx) (R : Room) (nL mc ms : Nat) (cc : ByteArray) (post : Option Value → va_W → Prop) : Prop := ∀ (pc : Nat) (lv : List (Nat × Value)) (x : Int32) (w1 : va_W), decode cc pc = .ok (.ireturn, 1) → post (some (.int x)) w1 → T G c R nL mc ms w1 pc lv [.int x]
def RetV (G : va_G) (c : Cx) (R : Room) (nL mc ms : Nat) (cc : ByteArray) (post : Option Value → va_W → Prop) : Prop := ∀ (pc : Nat) (lv : List (Nat × Value)) (w1 : va_W), decode cc pc = .ok (.return_, 1) → post none w1 → T G c R nL mc ms w1 pc lv []
def RetL (G : va_G) (c : Cx) (R : Room) (nL mc ms : Nat) (cc : ByteArray) (post : Option Value → va_W → Prop) : Prop := ∀ (pc : Nat) (lv : List (Nat × Value)) (x : Int64) (w1 : va_W), decode cc pc = .ok (.lreturn, 1) → post (some (.long x)) w1 → T G c R nL mc ms w1 pc lv [.long x]
def RetD (G : va_G) (c : Cx) (R : Room) (nL mc ms : Nat) (cc : ByteArray) (post : Option Value → va_W → Prop) : Prop := ∀ (pc : Nat) (lv : List (Nat × Value)) (x : UInt64) (w1 : va_W), decode cc pc = .ok (.dreturn, 1) → post (some (.double x)) w1 → T G c R nL mc ms w1 pc lv [.double x]
section CO
variable {G : va_G} {cy : ClassId} {y : MethodName} {b : ByteArray} {mL : Nat} {ret : Option FieldType} {rm : Room} {mc ms : Nat} {av : List Value} {ws : va_W} {post : Option Value → va_W → Prop}
/-- the body of a method, to its own end: the general form -/
theorem Ct.body (hy : plainName y.cls = true) (hav : (lg_sl av).length ≤ mL)
    (body : ∀ (p : Program) (l : Launch) (e : Env) (s : State) (m : MethodId) (args : Array Value) (below : List Frame) (meth : Method) (cd : Code), meth.sig.returnType = ret → meth.locks = false → (y.name = "<init>" → meth.name = "<init>") → Ok G cy (p, l, e, s, m, args, below, meth, cd, MQ below (CtQ G cy ws s.heap.size post) args s mc ms (va_A ws s.heap.size), va_A ws s.heap.size, s.heap) b y.cls mL rm → T G (p, l, e, s, m, args, below, meth, cd, MQ below (CtQ G cy ws s.heap.size post) args s mc ms (va_A ws s.heap.size), va_A ws s.heap.size, s.heap) rm mL 0 0 ws 0 (lv_args 0 av) []) :
    Ct G cy y b mL ret rm mc ms av ws post := by
  intro l sz
  refine Met.ofW (cc := b) (maxL := mL) (ret := ret) hy rfl ?_
  intro p e s m args below meth c s₁ B hml hv
  obtain ⟨rfl, hsz, hP, hK, hD0⟩ := hv
  subst hsz
  have hts := atoms_spec (ws := ws_ y b mL ret) B.pre
  rw [lg_entry_eq]
  refine body p l e s m av.toArray below meth c B.returns B.notSynchronized (fun hn => (name_of_methodNamed B.named B.method).1.trans hn) ⟨B.exec, B.bytes, fun w h => hts w (List.mem_cons_of_mem _ h), findClass_of_methodNamed B.named, hml, hK, fun q h => Or.inr h⟩ s.heap [] _ hP hD0.self va_S.rf (lv_entry av hav)
theorem Ct.ofI (hy : plainName y.cls = true) (hav : (lg_sl av).length ≤ mL) {own : String} (ho : y.cls = own) {ty : FieldType} (hret : ret = some ty) (hn : ∀ x w1, post (some (.int x)) w1 → narrow ty (.int x) = .int x)
    (body : ∀ c : Cx, Ok G cy c b own mL rm → RetI G c rm mL mc ms b post → T G c rm mL 0 0 ws 0 (lv_args 0 av) []) : Ct G cy y b mL ret rm mc ms av ws post := by
  subst ho; subst hret
  refine Ct.body hy hav (fun p l e s m args below meth cd hr hlo _ X => body _ X ?_)
  intro pc lv x w1 d hpost H locs ls hP hD hS hl
  exact W.zret X.1 X.2.1 hr (hn x w1 hpost) (fun t ht _ => ⟨⟨_, w1, rfl, hpost, by rw [ht]; exact hP, hD⟩, hS.F ht⟩) hS.2.2 d hlo
theorem Ct.ofV (hy : plainName y.cls = true) (hav : (lg_sl av).length ≤ mL) {own : String} (ho : y.cls = own) (hret : ret = none)
    (body : ∀ c : Cx, Ok G cy c b own mL rm → RetV G c rm mL mc ms b post → T G c rm mL 0 0 ws 0 (lv_args 0 av) []) : Ct G cy y b mL ret rm mc ms av ws post := by
  subst ho; subst hret
  refine Ct.body hy hav (fun p l e s m args below meth cd hr hlo _ X => body _ X ?_)
  intro pc lv w1 d hpost H locs ls hP hD hS hl
  exact W.vret X.1 X.2.1 hr (fun t ht _ => ⟨⟨_, w1, rfl, hpost, by rw [ht]; exact hP, hD⟩, hS.F ht⟩) hS.2.2 d hlo
theorem Ct.ofL (hy : plainName y.cls = true) (hav : (lg_sl av).length ≤ mL) {own : String} (ho : y.cls = own) (hret : ret = some .long)
    (body : ∀ c : Cx, Ok G cy c b own mL rm → RetL G c rm mL mc ms b post → T G c rm mL 0 0 ws 0 (lv_args 0 av) []) : Ct G cy y b mL ret rm mc ms av ws post := by
  subst ho; subst hret
  refine Ct.body hy hav (fun p l e s m args below meth cd hr hlo _ X => body _ X ?_)
  intro pc lv x w1 d hpost H locs ls hP hD hS hl
  exact W.lret X.1 X.2.1 hr (fun t ht _ => ⟨⟨_, w1, rfl, hpost, by rw [ht]; exact hP, hD⟩, hS.F ht⟩) hS.2.2 d hlo
theorem Ct.ofD (hy : plainName y.cls = true) (hav : (lg_sl av).length ≤ mL) {own : String} (ho : y.cls = own) (hret : ret = some .double)
    (body : ∀ c : Cx, Ok G cy c b own mL rm → RetD G c rm mL mc ms b post → T G c rm mL 0 0 ws 0 (lv_args 0 av) []) : Ct G cy y b mL ret rm mc ms av ws post := by
  subst ho; subst hret
  refine Ct.body hy hav (fun p l e s m args below meth cd hr hlo _ X => body _ X ?_)
  intro pc lv x w1 d hpost H locs ls hP hD hS hl
  exact W.dret X.1 X.2.1 hr (fun t ht _ => ⟨⟨_, w1, rfl, hpost, by rw [ht]; exact hP, hD⟩, hS.F ht⟩) hS.2.2 d hlo
theorem Ct.weak {post' : Option Value → va_W → Prop} (h : Ct G cy y b mL ret rm mc ms av ws post) (hp : ∀ v w1, post v w1 → post' v w1) : Ct G cy y b mL ret rm mc ms av ws post' := by
  intro l sz
  intro p e ha hc hk s m args below hf happ hpre hkk
  obtain ⟨k, o, h1, h2, h3, ⟨⟨v, w1, q1, q2, q3⟩, q4⟩, q5⟩ := h l sz p e ha hc hk s m args below hf happ hpre hkk
  exact ⟨k, o, h1, h2, h3, ⟨⟨v, w1, q1, hp v w1 q2, q3⟩, q4⟩, q5⟩
end CO
/-- the words of a call: link, kind, code; and what its descriptor says -/
def VW (own : String) (idx : Nat) (C : String) (y : MethodName) (b : ByteArray) (mL : Nat) (ret : Option FieldType) (np : Nat) : Prop := Cond.methodLink own idx y ∈ lwA ∧ Cond.instanceMethod y ∈ lwA ∧ Cond.selects C y y ∈ lwA ∧ Cond.initialized C ∈ lwA ∧ Cond.code y b mL ret ∈ lwA ∧ y.cls = C ∧ y.cls ≠ "java/lang/invoke/MethodHandle" ∧ y.cls ≠ "java/lang/invoke/VarHandle" ∧ (parseMethodDescriptor y.desc).map (fun d => d.parameters.length) = some np
def SW (own : String) (idx : Nat) (y : MethodName) (b : ByteArray) (mL : Nat) (ret : Option FieldType) (np : Nat) : Prop := Cond.methodLink own idx y ∈ lwA ∧ Cond.static y ∈ lwA ∧ Cond.initialized y.cls ∈ lwA ∧ Cond.code y b mL ret ∈ lwA ∧ y.cls ≠ "java/lang/invoke/MethodHandle" ∧ y.cls ≠ "java/lang/invoke/VarHandle" ∧ (parseMethodDescriptor y.desc).map (fun d => d.parameters.length) = some np
theorem CtB.blind {G : va_G} {cy : ClassId} {ws : va_W} {sz : Nat} {av : List Value} : FrameBlind (va_Pc av (CtB G cy ws sz)) := fun a U g mk q => ⟨q.1, q.2.1, q.2.2.1, va_K.moved (u := U) (U := U.calling g mk a) (Vm.Alike.refl U.vm) q.2.2.2.1, q.2.2.2.2⟩
section CA
variable {G : va_G} {cy : ClassId} {c : Cx} {cc : ByteArray} {own : String} {nL : Nat} {R : Room} {k n : Nat} {ws : va_W} {pc : Nat} {lv : List (Nat × Value)} {st : List Value}
variable {y : MethodName} {b : ByteArray} {mL : Nat} {ret : Option FieldType} {rm : Room} {mc ms : Nat} {post : Option Value → va_W → Prop}
theorem tw_callV (X : Ok G cy c cc own nL R) {C : String} {idx np : Nat} {a : Nat} {As : List Value} {ws1 : va_W} (hV : VW own idx C y b mL ret np) (hM : Ct G cy y b mL ret rm mc ms (.ref a :: As) ws1 post) {st0 : List Value} (Y Z : va_W) (hws : ws = Y ++ (ws1 ++ Z)) (hst : st0 = As.reverse ++ .ref a :: st)
    {q0 ci : Nat} {fs : List Value} {TF : u_T} {N : Nat} (he : ws1[q0]? = some (a, .inr (ci, fs))) (hc : vwCl[ci]? = some (C, TF, N)) (hnp : As.length = np) (hR : rm.cells = mc ∧ rm.slots = ms ∧ rm.frames + 1 ≤ R.frames ∧ 8 + (mL + 11) + rm.locals ≤ R.locals) (hk : k + mc ≤ R.cells ∧ n + ms ≤ R.slots) (hcat : (st.map fun v => v.category).sum ≤ 8)
    (d : decode cc pc = .ok (.invokevirtual idx, 3)) (kk : ∀ (v : Option Value) (w1 : va_W), post v w1 → T G c R nL (k + mc) (n + ms) (Y ++ (w1 ++ Z)) (pc + 3) lv (v.toList ++ st)) : T G c R nL k n ws pc lv st0 := by
  subst hws; subst hst; subst hnp
  obtain ⟨p, l, e, s, m, args, below, meth, cd, Q, A, H0⟩ := c
  obtain ⟨hx, hb, hts, hown, hml, hK, hA⟩ := X
  obtain ⟨v1, v2, v3, v4, v5, v6, v7, v8, v9⟩ := hV
  subst v6
  intro H locs ls hP hD hS hl
  have hPc := segP hP
  have hDc := segD hD
  have hF := seg_free hD hS hA
  have hG : GoodIn lwA (ws_ y b mL ret) := ws_good v5
  have cw : CallW R s args own y.cls idx y b mL ret (ws_ y b mL ret) rm mc ms As.length := ⟨callB_of As.length hts hG rfl hR.1 hR.2.1 (hts _ v4) (hts _ v1) ⟨v7, v8, v9⟩ ⟨hR.2.2.1, hR.2.2.2⟩, hts _ v2, hts _ v3⟩
  have run := va_runV (l := l) (e := e) (below := below) (meth := meth) (locs := locs) (g := F0 m pc ls (As.reverse ++ .ref a :: st)) (As := As) (rest := st) ⟨hx, hb, hml, hown, hts⟩ (hM l H.size) cw ⟨CtB.blind, va_recv hK hPc hc he, fun U hU hW => ⟨rfl, by rw [hU], by rw [hU]; exact hPc, va_K.moved hW.alike hK, hDc.weaken (fun _ _ _ _ => trivial)⟩⟩ rfl rfl hl.1 rfl (lv_room hcat) d hk
  intro T0 hT0 X0
  obtain ⟨v, st₀, t, T', L, h0, X', hL, e1, e2, ⟨⟨v', w1, hv, hp, hP1, hD1⟩, hz, hkp⟩, go⟩ := run T0 hT0 X0
  cases hv
  rw [h0] at hz hkp
  have hkp' : ∀ q : Nat, q < H.size → ¬ va_A ws1 H.size q → T'.heap[q]? = H[q]? := fun q h1 h2 => by rw [e1]; exact hkp q h1 h2
  have hz' : H.size ≤ T'.heap.size := by rw [e1]; exact hz
  rw [← e1] at hP1
  obtain ⟨hP2, hD2⟩ := seg_join hP hD hF hkp' hP1 hD1
  have hS2 : va_S A H0 T'.heap (locs ++ L) := ⟨Nat.le_trans hS.1 hz', fun q h1 h2 => by
    rw [hkp' q (Nat.lt_of_lt_of_le h1 hS.1) (fun z => h2 (hF q z))]; exact hS.2.1 q h1 h2, fun q hq => by
    rcases List.mem_append.mp hq with h | h
    · exact hS.2.2 q h
    · exact hF _ (hL q h)⟩
  obtain ⟨t2, a1, b1⟩ := kk v w1 hp T'.heap (locs ++ L) ls hP2 hD2 hS2 hl T' rfl X'
  exact ⟨t2, go t2 a1, b1⟩
theorem tw_callS (X : Ok G cy c cc own nL R) {idx np : Nat} {As : List Value} {ws1 : va_W} (hV : SW own idx y b mL ret np) (hM : Ct G cy y b mL ret rm mc ms As ws1 post) {st0 : List Value} (Y Z : va_W) (hws : ws = Y ++ (ws1 ++ Z)) (hst : st0 = As.reverse ++ st)
    (hnp : As.length = np) (hR : rm.cells = mc ∧ rm.slots = ms ∧ rm.frames + 1 ≤ R.frames ∧ 8 + (mL + 11) + rm.locals ≤ R.locals) (hk : k + mc ≤ R.cells ∧ n + ms ≤ R.slots) (hcat : (st.map fun v => v.category).sum ≤ 8)
    (d : decode cc pc = .ok (.invokestatic idx, 3)) (kk : ∀ (v : Option Value) (w1 : va_W), post v w1 → T G c R nL (k + mc) (n + ms) (Y ++ (w1 ++ Z)) (pc + 3) lv (v.toList ++ st)) : T G c R nL k n ws pc lv st0 := by
  subst hws; subst hst; subst hnp
  obtain ⟨p, l, e, s, m, args, below, meth, cd, Q, A, H0⟩ := c
  obtain ⟨hx, hb, hts, hown, hml, hK, hA⟩ := X
  obtain ⟨v1, v2, v4, v5, v7, v8, v9⟩ := hV
  intro H locs ls hP hD hS hl
  have hPc := segP hP
  have hDc := segD hD
  have hF := seg_free hD hS hA
  have hG : GoodIn lwA (ws_ y b mL ret) := ws_good v5
  have cw : CallB R s args own idx y b mL ret (ws_ y b mL ret) rm mc ms As.length ∧ (Cond.static y).before args s = true := ⟨callB_of As.length hts hG rfl hR.1 hR.2.1 (hts _ v4) (hts _ v1) ⟨v7, v8, v9⟩ ⟨hR.2.2.1, hR.2.2.2⟩, hts _ v2⟩
  have run := va_runS (l := l) (e := e) (below := below) (meth := meth) (locs := locs) (g := F0 m pc ls (As.reverse ++ st)) (As := As) (rest := st) ⟨hx, hb, hml, hown, hts⟩ (hM l H.size) cw ⟨CtB.blind, fun U hU hW => ⟨rfl, by rw [hU], by rw [hU]; exact hPc, va_K.moved hW.alike hK, hDc.weaken (fun _ _ _ _ => trivial)⟩⟩ rfl rfl hl.1 rfl (lv_room hcat) d hk
  intro T0 hT0 X0
  obtain ⟨v, st₀, t, T', L, h0, X', hL, e1, e2, ⟨⟨v', w1, hv, hp, hP1, hD1⟩, hz, hkp⟩, go⟩ := run T0 hT0 X0
  cases hv
  rw [h0] at hz hkp
  have hkp' : ∀ q : Nat, q < H.size → ¬ va_A ws1 H.size q → T'.heap[q]? = H[q]? := fun q h1 h2 => by rw [e1]; exact hkp q h1 h2
  have hz' : H.size ≤ T'.heap.size := by rw [e1]; exact hz
  rw [← e1] at hP1
  obtain ⟨hP2, hD2⟩ := seg_join hP hD hF hkp' hP1 hD1
  have hS2 : va_S A H0 T'.heap (locs ++ L) := ⟨Nat.le_trans hS.1 hz', fun q h1 h2 => by
    rw [hkp' q (Nat.lt_of_lt_of_le h1 hS.1) (fun z => h2 (hF q z))]; exact hS.2.1 q h1 h2, fun q hq => by
    rcases List.mem_append.mp hq with h | h
    · exact hS.2.2 q h
    · exact hF _ (hL q h)⟩
  obtain ⟨t2, a1, b1⟩ := kk v w1 hp T'.heap (locs ++ L) ls hP2 hD2 hS2 hl T' rfl X'
  exact ⟨t2, go t2 a1, b1⟩
theorem tw_max (X : Ok G cy c cc own nL R) {idx : Nat} {a b z : Int} (ha : In a) (hb9 : In b) (h1 : Cond.methodLink own idx Lib.Math.max.name ∈ lwA) (h2 : Cond.static Lib.Math.max.name ∈ lwA) (h3 : Cond.initialized "java/lang/Math" ∈ lwA) (h4 : Cond.code Lib.Math.max.name Lib.Math.max.code 2 (some .int) ∈ lwA) (hf : 1 ≤ R.frames) (hlo : (st.map fun v => v.category).sum + 13 ≤ R.locals) (hk : k ≤ R.cells ∧ n ≤ R.slots) (d : decode cc pc = .ok (.invokestatic idx, 3)) (hz : (if a < b then b else a) = z) (kk : T G c R nL k n ws (pc + 3) lv (.int (enc z) :: st)) : T G c R nL k n ws pc lv (.int (enc b) :: .int (enc a) :: st) := by
  obtain ⟨p, l, e, s, m, args, below, meth, cd, Q, A, H0⟩ := c
  obtain ⟨hx, hb, hts, hown, hml, hK, hA⟩ := X
  intro H locs ls hP hD hS hl
  refine va_mmax hx hb (by rw [hml]; exact hl.1.symm) hown (hts _ h1) (hts _ h2) (hts _ h3) (hts _ h4) hf hlo hk.1 hk.2 d ?_
  rw [show (if enc a < enc b then enc b else enc a) = enc z by
    rw [← hz]
    by_cases h : a < b
    · rw [if_pos h, if_pos ((enc_lt ha hb9).mpr h)]
    · rw [if_neg h, if_neg (fun q => h ((enc_lt ha hb9).mp q))]]
  exact kk H locs ls hP hD hS hl
theorem tw_min (X : Ok G cy c cc own nL R) {idx : Nat} {a b z : Int} (ha : In a) (hb9 : In b) (h1 : Cond.methodLink own idx Lib.Math.min.name ∈ lwA) (h2 : Cond.static Lib.Math.min.name ∈ lwA) (h3 : Cond.initialized "java/lang/Math" ∈ lwA) (h4 : Cond.code Lib.Math.min.name Lib.Math.min.code 2 (some .int) ∈ lwA) (hf : 1 ≤ R.frames) (hlo : (st.map fun v => v.category).sum + 13 ≤ R.locals) (hk : k ≤ R.cells ∧ n ≤ R.slots) (d : decode cc pc = .ok (.invokestatic idx, 3)) (hz : (if b < a then b else a) = z) (kk : T G c R nL k n ws (pc + 3) lv (.int (enc z) :: st)) : T G c R nL k n ws pc lv (.int (enc b) :: .int (enc a) :: st) := by
  obtain ⟨p, l, e, s, m, args, below, meth, cd, Q, A, H0⟩ := c
  obtain ⟨hx, hb, hts, hown, hml, hK, hA⟩ := X
  intro H locs ls hP hD hS hl
  refine va_mmin hx hb (by rw [hml]; exact hl.1.symm) hown (hts _ h1) (hts _ h2) (hts _ h3) (hts _ h4) hf hlo hk.1 hk.2 d ?_
  rw [show (if enc b < enc a then enc b else enc a) = enc z by
    rw [← hz]
    by_cases h : b < a
    · rw [if_pos h, if_pos ((enc_lt hb9 ha).mpr h)]
    · rw [if_neg h, if_neg (fun q => h ((enc_lt hb9 ha).mp q))]]
  exact kk H locs ls hP hD hS hl
/-- the whole of one int array over the whole of another -/
theorem tw_copy (X : Ok G cy c cc own nL R) {idx a a0 N : Nat} {z : Int} {f g : Int → Int} {ws' : va_W} (q0 q1 : Nat) (h1 : Cond.methodLink own idx arraycopyName ∈ lwA) (h2 : Cond.native arraycopyName ∈ lwA) (h3 : Cond.static arraycopyName ∈ lwA) (h4 : Cond.initialized "java/lang/System" ∈ lwA) (ha0 : ws[q0]? = some (a0, .inl (cy, N, .inl (ea f)))) (ha1 : ws[q1]? = some (a, .inl (cy, N, .inl (ea g)))) (hz : z = N) (hN : N < 2147483648) (hf : 1 ≤ R.frames) (hlo : (st.map fun v => v.category).sum + (nativeFrameWords "java/lang/System" "arraycopy" 5 + 11) ≤ R.locals) (d : decode cc pc = .ok (.invokestatic idx, 3)) (hw : ws.set q1 (a, .inl (cy, N, .inl (ea f))) = ws') (kk : T G c R nL k n ws' (pc + 3) lv st) : T G c R nL k n ws pc lv (.int (enc z) :: .int (enc 0) :: .ref a :: .int (enc 0) :: .ref a0 :: st) := by
  obtain ⟨p, l, e, s, m, args, below, meth, cd, Q, A, H0⟩ := c
  obtain ⟨hx, hb, hts, hown, hml, hK, hA⟩ := X
  subst hz
  intro H locs ls hP hD hS hl
  have hIn : In (N : Int) := ⟨by omega, by omega⟩
  have e0 : (enc 0).toNatClampNeg = 0 := rfl
  have eN : (enc (N : Int)).toNatClampNeg = N := by rw [enc_nat hIn]; rfl
  refine va_copyi hx hb (by rw [hml]; exact hl.1.symm) hown (hts _ h1) (hts _ h2) (hts _ h3) (hts _ h4) hK hP hD hS q0 q1 0 0 ha0 ha1 rfl rfl rfl (by decide) (by decide) (fun h => by rw [← enc_0, enc_lt hIn In0] at h; omega) (by rw [e0, eN]; omega) (by rw [e0, eN]; omega) (fun _ _ => rfl) hf hlo d (fun H1 locs1 hP hD hS => ?_)
  rw [e0, eN] at hP hD
  have hl2 : q1 < ws.length := (List.getElem?_eq_some_iff.mp ha1).1
  have hP' : va_P G vwCl ws' H1 := by
    rw [← hw]
    intro i q hq
    by_cases hi : i = q1
    · subst hi
      rw [List.getElem?_set_self hl2] at hq
      cases hq
      have h := hP i _ (List.getElem?_set_self hl2)
      show H1[a]? = some (vp_cell cy (N, .inl (ea f)))
      rw [← cell_congr (f := va_cpy (ea f) (ea g) 0 0 N) (fun j hj => by rw [pk_cpy_in (Nat.zero_le j) (by omega)]; simp)]
      exact h
    · rw [List.getElem?_set_ne (Ne.symm hi)] at hq
      exact hP i q (by rw [List.getElem?_set_ne (Ne.symm hi)]; exact hq)
  have hD' : va_D A ws' := by
    rw [← hw]
    have key : ∀ (i : Nat) (q : Nat × va_E), (ws.set q1 (a, .inl (cy, N, .inl (ea f))))[i]? = some q → ∃ q9, (ws.set q1 (a, .inl (cy, N, .inl (va_cpy (ea f) (ea g) 0 0 N))))[i]? = some q9 ∧ q9.1 = q.1 := by
      intro i q hq
      by_cases hi : i = q1
      · subst hi
        rw [List.getElem?_set_self hl2] at hq
        cases hq
        exact ⟨_, List.getElem?_set_self hl2, rfl⟩
      · rw [List.getElem?_set_ne (Ne.symm hi)] at hq
        exact ⟨q, by rw [List.getElem?_set_ne (Ne.symm hi)]; exact hq, rfl⟩
    refine ⟨fun i j p q hp hq e => ?_, fun i q hq => ?_⟩
    · obtain ⟨p9, g1, g2⟩ := key i p hp
      obtain ⟨q9, g3, g4⟩ := key j q hq
      exact hD.1 i j p9 q9 g1 g3 (g2.trans (e.trans g4.symm))
    · obtain ⟨q9, g1, g2⟩ := key i q hq
      rw [← g2]
      exact hD.2 i q9 g1
  exact kk H1 locs1 ls hP' hD' hS hl
end CA
end
section
theorem inA_X0 : ∀ w ∈ u_ws RX0 TX0 8, w ∈ lwA := show ∀ w ∈ ([.laysFinal "DetourLoom$Roads" "DetourLoom$Roads" "one" "[I", .laysFinal "DetourLoom$Roads" "DetourLoom$Roads" "other" "[I", .laysFinal "DetourLoom$Roads" "DetourLoom$Roads" "firstLength" "[I", .laysFinal "DetourLoom$Roads" "DetourLoom$Roads" "dye" "[I", .laysFinal "DetourLoom$Roads" "DetourLoom$Roads" "wear" "[I", .laysFinal "DetourLoom$Roads" "DetourLoom$Roads" "knots" "[I", .laysFinal "DetourLoom$Roads" "DetourLoom$Roads" "closed" "[I", .lays "DetourLoom$Roads" "DetourLoom$Roads" "count" "I"] : List Cond), w ∈ lwA from List.forall_mem_cons.mpr ⟨wdm 56 (by decide +kernel) rfl, List.forall_mem_cons.mpr ⟨wdm 58 (by decide +kernel) rfl, List.forall_mem_cons.mpr ⟨wdm 60 (by decide +kernel) rfl, List.forall_mem_cons.mpr ⟨wdm 62 (by decide +kernel) rfl, List.forall_mem_cons.mpr ⟨wdm 64 (by decide +kernel) rfl, List.forall_mem_cons.mpr ⟨wdm 66 (by decide +kernel) rfl, List.forall_mem_cons.mpr ⟨wdm 68 (by decide +kernel) rfl, List.forall_mem_cons.mpr ⟨wdm 70 (by decide +kernel) rfl, fun _ h => absurd h List.not_mem_nil⟩⟩⟩⟩⟩⟩⟩⟩
theorem inA_X1 : ∀ w ∈ u_ws RX1 TX1 11, w ∈ lwA := show ∀ w ∈ ([.laysFinal "DetourLoom$Tourists" "DetourLoom$Tourists" "place" "[I", .laysFinal "DetourLoom$Tourists" "DetourLoom$Tourists" "road" "[I", .laysFinal "DetourLoom$Tourists" "DetourLoom$Tourists" "end" "[I", .laysFinal "DetourLoom$Tourists" "DetourLoom$Tourists" "toGo" "[I", .laysFinal "DetourLoom$Tourists" "DetourLoom$Tourists" "goal" "[I", .laysFinal "DetourLoom$Tourists" "DetourLoom$Tourists" "dye" "[I", .laysFinal "DetourLoom$Tourists" "DetourLoom$Tourists" "began" "[I", .laysFinal "DetourLoom$Tourists" "DetourLoom$Tourists" "shortest" "[I", .laysFinal "DetourLoom$Tourists" "DetourLoom$Tourists" "took" "[I", .lays "DetourLoom$Tourists" "DetourLoom$Tourists" "count" "I", .lays "DetourLoom$Tourists" "DetourLoom$Tourists" "in" "I"] : List Cond), w ∈ lwA from List.forall_mem_cons.mpr ⟨wdm 102 (by decide +kernel) rfl, List.forall_mem_cons.mpr ⟨wdm 104 (by decide +kernel) rfl, List.forall_mem_cons.mpr ⟨wdm 106 (by decide +kernel) rfl, List.forall_mem_cons.mpr ⟨wdm 108 (by decide +kernel) rfl, List.forall_mem_cons.mpr ⟨wdm 110 (by decide +kernel) rfl, List.forall_mem_cons.mpr ⟨wdm 112 (by decide +kernel) rfl, List.forall_mem_cons.mpr ⟨wdm 114 (by decide +kernel) rfl, List.forall_mem_cons.mpr ⟨wdm 116 (by decide +kernel) rfl, List.forall_mem_cons.mpr ⟨wdm 118 (by decide +kernel) rfl, List.forall_mem_cons.mpr ⟨wdm 120 (by decide +kernel) rfl, List.forall_mem_cons.mpr ⟨wdm 122 (by decide +kernel) rfl, fun _ h => absurd h List.not_mem_nil⟩⟩⟩⟩⟩⟩⟩⟩⟩⟩⟩
theorem inA_X2 : ∀ w ∈ u_ws RX2 TX2 1, w ∈ lwA := show ∀ w ∈ ([.laysFinal "DetourLoom$Ways" "DetourLoom$Ways" "sums" "[I"] : List Cond), w ∈ lwA from List.forall_mem_cons.mpr ⟨wdm 133 (by decide +kernel) rfl, fun _ h => absurd h List.not_mem_nil⟩
theorem inA_X3 : ∀ w ∈ u_ws RX3 TX3 6, w ∈ lwA := show ∀ w ∈ ([.laysFinal "DetourLoom$Weave" "DetourLoom$Weave" "roads" "LDetourLoom$Roads;", .laysFinal "DetourLoom$Weave" "DetourLoom$Weave" "tourists" "LDetourLoom$Tourists;", .laysFinal "DetourLoom$Weave" "DetourLoom$Weave" "openWays" "LDetourLoom$Ways;", .lays "DetourLoom$Weave" "DetourLoom$Weave" "crossings" "I", .lays "DetourLoom$Weave" "DetourLoom$Weave" "hour" "I", .lays "DetourLoom$Weave" "DetourLoom$Weave" "openWaysAreOld" "Z"] : List Cond), w ∈ lwA from List.forall_mem_cons.mpr ⟨wdm 147 (by decide +kernel) rfl, List.forall_mem_cons.mpr ⟨wdm 149 (by decide +kernel) rfl, List.forall_mem_cons.mpr ⟨wdm 151 (by decide +kernel) rfl, List.forall_mem_cons.mpr ⟨wdm 153 (by decide +kernel) rfl, List.forall_mem_cons.mpr ⟨wdm 155 (by decide +kernel) rfl, List.forall_mem_cons.mpr ⟨wdm 157 (by decide +kernel) rfl, fun _ h => absurd h List.not_mem_nil⟩⟩⟩⟩⟩⟩
theorem inA_X4 : ∀ w ∈ u_ws RX4 TX4 3, w ∈ lwA := show ∀ w ∈ ([.laysFinal "DetourLoom" "DetourLoom" "now" "LDetourLoom$Weave;", .laysFinal "DetourLoom" "DetourLoom" "trial" "LDetourLoom$Weave;", .laysFinal "DetourLoom" "DetourLoom" "allWays" "LDetourLoom$Ways;"] : List Cond), w ∈ lwA from List.forall_mem_cons.mpr ⟨wdm 165 (by decide +kernel) rfl, List.forall_mem_cons.mpr ⟨wdm 167 (by decide +kernel) rfl, List.forall_mem_cons.mpr ⟨wdm 169 (by decide +kernel) rfl, fun _ h => absurd h List.not_mem_nil⟩⟩⟩
theorem inA_X5 : ∀ w ∈ u_ws RX5 TX5 14, w ∈ lwA := show ∀ w ∈ ([.lays "DetourLoomModel" "DetourLoomModel" "thrown" "I", .lays "DetourLoomModel" "DetourLoomModel" "crossings" "I", .lays "DetourLoomModel" "DetourLoomModel" "roads" "I", .lays "DetourLoomModel" "DetourLoomModel" "tourists" "I", .laysFinal "DetourLoomModel" "DetourLoomModel" "one" "[I", .laysFinal "DetourLoomModel" "DetourLoomModel" "other" "[I", .laysFinal "DetourLoomModel" "DetourLoomModel" "length" "[I", .laysFinal "DetourLoomModel" "DetourLoomModel" "dye" "[I", .laysFinal "DetourLoomModel" "DetourLoomModel" "goal" "[I", .laysFinal "DetourLoomModel" "DetourLoomModel" "since" "[I", .laysFinal "DetourLoomModel" "DetourLoomModel" "least" "[I", .laysFinal "DetourLoomModel" "DetourLoomModel" "now" "[I", .laysFinal "DetourLoomModel" "DetourLoomModel" "kept" "[I", .laysFinal "DetourLoomModel" "DetourLoomModel" "far" "[I"] : List Cond), w ∈ lwA from List.forall_mem_cons.mpr ⟨wdm 704 (by decide +kernel) rfl, List.forall_mem_cons.mpr ⟨wdm 706 (by decide +kernel) rfl, List.forall_mem_cons.mpr ⟨wdm 708 (by decide +kernel) rfl, List.forall_mem_cons.mpr ⟨wdm 710 (by decide +kernel) rfl, List.forall_mem_cons.mpr ⟨wdm 712 (by decide +kernel) rfl, List.forall_mem_cons.mpr ⟨wdm 714 (by decide +kernel) rfl, List.forall_mem_cons.mpr ⟨wdm 716 (by decide +kernel) rfl, List.forall_mem_cons.mpr ⟨wdm 718 (by decide +kernel) rfl, List.forall_mem_cons.mpr ⟨wdm 720 (by decide +kernel) rfl, List.forall_mem_cons.mpr ⟨wdm 722 (by decide +kernel) rfl, List.forall_mem_cons.mpr ⟨wdm 724 (by decide +kernel) rfl, List.forall_mem_cons.mpr ⟨wdm 726 (by decide +kernel) rfl, List.forall_mem_cons.mpr ⟨wdm 728 (by decide +kernel) rfl, List.forall_mem_cons.mpr ⟨wdm 730 (by decide +kernel) rfl, fun _ h => absurd h List.not_mem_nil⟩⟩⟩⟩⟩⟩⟩⟩⟩⟩⟩⟩⟩⟩
theorem wc_L_8 : Cond.classLink RL 8 "DetourLoom" ∈ lwA := wdm 15 (by decide +kernel) rfl
theorem wi_X4 : Cond.instantiable RX4 3 ∈ lwA := wdm 16 (by decide +kernel) rfl
theorem wl_X4_1 : Cond.methodLink RX4 1 objectInit ∈ lwA := wdm 20 (by decide +kernel) rfl
theorem wc_X4_7 : Cond.classLink RX4 7 "DetourLoom$Weave" ∈ lwA := wdm 23 (by decide +kernel) rfl
theorem wi_X3 : Cond.instantiable RX3 6 ∈ lwA := wdm 24 (by decide +kernel) rfl
theorem wl_X3_3 : Cond.methodLink RX3 3 objectInit ∈ lwA := wdm 28 (by decide +kernel) rfl
theorem wc_X3_9 : Cond.classLink RX3 9 "DetourLoom$Roads" ∈ lwA := wdm 29 (by decide +kernel) rfl
theorem wi_X0 : Cond.instantiable RX0 8 ∈ lwA := wdm 30 (by decide +kernel) rfl
theorem wl_X0_3 : Cond.methodLink RX0 3 objectInit ∈ lwA := wdm 34 (by decide +kernel) rfl
theorem wf_X0_9 : Cond.fieldLink RX0 9 RX0 "one" "[I" ∈ lwA := wdm 35 (by decide +kernel) rfl
theorem gf_X0_9 {G : va_G} {cy : ClassId} {c : Cx} {cc : ByteArray} {nL : Nat} {R : Room} {k n : Nat} {ws : va_W} {pc : Nat} {lv : List (Nat × Value)} {st : List Value} (X : Ok G cy c cc RX0 nL R) {a : Nat} (q : Nat) {fs : List Value} {v : Value} (he : ws[q]? = some (a, .inr (0, fs))) (hv : fs[0]? = some v) (d : decode cc pc = .ok (.getfield 9, 3)) (kk : T G c R nL k n ws (pc + 3) lv (v :: st)) : T G c R nL k n ws pc lv (.ref a :: st) := tw_get X (C := RX0) (TF := TX0) (N := 8) (ci := 0) inA_X0 rfl 0 (by decide) wf_X0_9 rfl q he hv d kk
theorem wf_X2_30 : Cond.fieldLink RX2 30 RX0 "one" "[I" ∈ lwA := wdm 36 (by decide +kernel) rfl
theorem gf_X2_30 {G : va_G} {cy : ClassId} {c : Cx} {cc : ByteArray} {nL : Nat} {R : Room} {k n : Nat} {ws : va_W} {pc : Nat} {lv : List (Nat × Value)} {st : List Value} (X : Ok G cy c cc RX2 nL R) {a : Nat} (q : Nat) {fs : List Value} {v : Value} (he : ws[q]? = some (a, .inr (0, fs))) (hv : fs[0]? = some v) (d : decode cc pc = .ok (.getfield 30, 3)) (kk : T G c R nL k n ws (pc + 3) lv (v :: st)) : T G c R nL k n ws pc lv (.ref a :: st) := tw_get X (C := RX0) (TF := TX0) (N := 8) (ci := 0) inA_X0 rfl 0 (by decide) wf_X2_30 rfl q he hv d kk
theorem wf_X0_15 : Cond.fieldLink RX0 15 RX0 "other" "[I" ∈ lwA := wdm 37 (by decide +kernel) rfl
theorem gf_X0_15 {G : va_G} {cy : ClassId} {c : Cx} {cc : ByteArray} {nL : Nat} {R : Room} {k n : Nat} {ws : va_W} {pc : Nat} {lv : List (Nat × Value)} {st : List Value} (X : Ok G cy c cc RX0 nL R) {a : Nat} (q : Nat) {fs : List Value} {v : Value} (he : ws[q]? = some (a, .inr (0, fs))) (hv : fs[1]? = some v) (d : decode cc pc = .ok (.getfield 15, 3)) (kk : T G c R nL k n ws (pc + 3) lv (v :: st)) : T G c R nL k n ws pc lv (.ref a :: st) := tw_get X (C := RX0) (TF := TX0) (N := 8) (ci := 0) inA_X0 rfl 1 (by decide) wf_X0_15 rfl q he hv d kk
theorem wf_X2_33 : Cond.fieldLink RX2 33 RX0 "other" "[I" ∈ lwA := wdm 38 (by decide +kernel) rfl
theorem gf_X2_33 {G : va_G} {cy : ClassId} {c : Cx} {cc : ByteArray} {nL : Nat} {R : Room} {k n : Nat} {ws : va_W} {pc : Nat} {lv : List (Nat × Value)} {st : List Value} (X : Ok G cy c cc RX2 nL R) {a : Nat} (q : Nat) {fs : List Value} {v : Value} (he : ws[q]? = some (a, .inr (0, fs))) (hv : fs[1]? = some v) (d : decode cc pc = .ok (.getfield 33, 3)) (kk : T G c R nL k n ws (pc + 3) lv (v :: st)) : T G c R nL k n ws pc lv (.ref a :: st) := tw_get X (C := RX0) (TF := TX0) (N := 8) (ci := 0) inA_X0 rfl 1 (by decide) wf_X2_33 rfl q he hv d kk
theorem wf_X0_18 : Cond.fieldLink RX0 18 RX0 "firstLength" "[I" ∈ lwA := wdm 39 (by decide +kernel) rfl
theorem gf_X0_18 {G : va_G} {cy : ClassId} {c : Cx} {cc : ByteArray} {nL : Nat} {R : Room} {k n : Nat} {ws : va_W} {pc : Nat} {lv : List (Nat × Value)} {st : List Value} (X : Ok G cy c cc RX0 nL R) {a : Nat} (q : Nat) {fs : List Value} {v : Value} (he : ws[q]? = some (a, .inr (0, fs))) (hv : fs[2]? = some v) (d : decode cc pc = .ok (.getfield 18, 3)) (kk : T G c R nL k n ws (pc + 3) lv (v :: st)) : T G c R nL k n ws pc lv (.ref a :: st) := tw_get X (C := RX0) (TF := TX0) (N := 8) (ci := 0) inA_X0 rfl 2 (by decide) wf_X0_18 rfl q he hv d kk
theorem wf_X0_21 : Cond.fieldLink RX0 21 RX0 "dye" "[I" ∈ lwA := wdm 40 (by decide +kernel) rfl
theorem gf_X0_21 {G : va_G} {cy : ClassId} {c : Cx} {cc : ByteArray} {nL : Nat} {R : Room} {k n : Nat} {ws : va_W} {pc : Nat} {lv : List (Nat × Value)} {st : List Value} (X : Ok G cy c cc RX0 nL R) {a : Nat} (q : Nat) {fs : List Value} {v : Value} (he : ws[q]? = some (a, .inr (0, fs))) (hv : fs[3]? = some v) (d : decode cc pc = .ok (.getfield 21, 3)) (kk : T G c R nL k n ws (pc + 3) lv (v :: st)) : T G c R nL k n ws pc lv (.ref a :: st) := tw_get X (C := RX0) (TF := TX0) (N := 8) (ci := 0) inA_X0 rfl 3 (by decide) wf_X0_21 rfl q he hv d kk
theorem wf_X3_124 : Cond.fieldLink RX3 124 RX0 "dye" "[I" ∈ lwA := wdm 41 (by decide +kernel) rfl
theorem gf_X3_124 {G : va_G} {cy : ClassId} {c : Cx} {cc : ByteArray} {nL : Nat} {R : Room} {k n : Nat} {ws : va_W} {pc : Nat} {lv : List (Nat × Value)} {st : List Value} (X : Ok G cy c cc RX3 nL R) {a : Nat} (q : Nat) {fs : List Value} {v : Value} (he : ws[q]? = some (a, .inr (0, fs))) (hv : fs[3]? = some v) (d : decode cc pc = .ok (.getfield 124, 3)) (kk : T G c R nL k n ws (pc + 3) lv (v :: st)) : T G c R nL k n ws pc lv (.ref a :: st) := tw_get X (C := RX0) (TF := TX0) (N := 8) (ci := 0) inA_X0 rfl 3 (by decide) wf_X3_124 rfl q he hv d kk
theorem wf_X0_24 : Cond.fieldLink RX0 24 RX0 "wear" "[I" ∈ lwA := wdm 42 (by decide +kernel) rfl
theorem gf_X0_24 {G : va_G} {cy : ClassId} {c : Cx} {cc : ByteArray} {nL : Nat} {R : Room} {k n : Nat} {ws : va_W} {pc : Nat} {lv : List (Nat × Value)} {st : List Value} (X : Ok G cy c cc RX0 nL R) {a : Nat} (q : Nat) {fs : List Value} {v : Value} (he : ws[q]? = some (a, .inr (0, fs))) (hv : fs[4]? = some v) (d : decode cc pc = .ok (.getfield 24, 3)) (kk : T G c R nL k n ws (pc + 3) lv (v :: st)) : T G c R nL k n ws pc lv (.ref a :: st) := tw_get X (C := RX0) (TF := TX0) (N := 8) (ci := 0) inA_X0 rfl 4 (by decide) wf_X0_24 rfl q he hv d kk
theorem wf_X4_105 : Cond.fieldLink RX4 105 RX0 "wear" "[I" ∈ lwA := wdm 43 (by decide +kernel) rfl
theorem gf_X4_105 {G : va_G} {cy : ClassId} {c : Cx} {cc : ByteArray} {nL : Nat} {R : Room} {k n : Nat} {ws : va_W} {pc : Nat} {lv : List (Nat × Value)} {st : List Value} (X : Ok G cy c cc RX4 nL R) {a : Nat} (q : Nat) {fs : List Value} {v : Value} (he : ws[q]? = some (a, .inr (0, fs))) (hv : fs[4]? = some v) (d : decode cc pc = .ok (.getfield 105, 3)) (kk : T G c R nL k n ws (pc + 3) lv (v :: st)) : T G c R nL k n ws pc lv (.ref a :: st) := tw_get X (C := RX0) (TF := TX0) (N := 8) (ci := 0) inA_X0 rfl 4 (by decide) wf_X4_105 rfl q he hv d kk
theorem wf_X3_128 : Cond.fieldLink RX3 128 RX0 "wear" "[I" ∈ lwA := wdm 44 (by decide +kernel) rfl
theorem gf_X3_128 {G : va_G} {cy : ClassId} {c : Cx} {cc : ByteArray} {nL : Nat} {R : Room} {k n : Nat} {ws : va_W} {pc : Nat} {lv : List (Nat × Value)} {st : List Value} (X : Ok G cy c cc RX3 nL R) {a : Nat} (q : Nat) {fs : List Value} {v : Value} (he : ws[q]? = some (a, .inr (0, fs))) (hv : fs[4]? = some v) (d : decode cc pc = .ok (.getfield 128, 3)) (kk : T G c R nL k n ws (pc + 3) lv (v :: st)) : T G c R nL k n ws pc lv (.ref a :: st) := tw_get X (C := RX0) (TF := TX0) (N := 8) (ci := 0) inA_X0 rfl 4 (by decide) wf_X3_128 rfl q he hv d kk
theorem wf_X0_27 : Cond.fieldLink RX0 27 RX0 "knots" "[I" ∈ lwA := wdm 45 (by decide +kernel) rfl
theorem gf_X0_27 {G : va_G} {cy : ClassId} {c : Cx} {cc : ByteArray} {nL : Nat} {R : Room} {k n : Nat} {ws : va_W} {pc : Nat} {lv : List (Nat × Value)} {st : List Value} (X : Ok G cy c cc RX0 nL R) {a : Nat} (q : Nat) {fs : List Value} {v : Value} (he : ws[q]? = some (a, .inr (0, fs))) (hv : fs[5]? = some v) (d : decode cc pc = .ok (.getfield 27, 3)) (kk : T G c R nL k n ws (pc + 3) lv (v :: st)) : T G c R nL k n ws pc lv (.ref a :: st) := tw_get X (C := RX0) (TF := TX0) (N := 8) (ci := 0) inA_X0 rfl 5 (by decide) wf_X0_27 rfl q he hv d kk
theorem wf_X3_61 : Cond.fieldLink RX3 61 RX0 "knots" "[I" ∈ lwA := wdm 46 (by decide +kernel) rfl
theorem gf_X3_61 {G : va_G} {cy : ClassId} {c : Cx} {cc : ByteArray} {nL : Nat} {R : Room} {k n : Nat} {ws : va_W} {pc : Nat} {lv : List (Nat × Value)} {st : List Value} (X : Ok G cy c cc RX3 nL R) {a : Nat} (q : Nat) {fs : List Value} {v : Value} (he : ws[q]? = some (a, .inr (0, fs))) (hv : fs[5]? = some v) (d : decode cc pc = .ok (.getfield 61, 3)) (kk : T G c R nL k n ws (pc + 3) lv (v :: st)) : T G c R nL k n ws pc lv (.ref a :: st) := tw_get X (C := RX0) (TF := TX0) (N := 8) (ci := 0) inA_X0 rfl 5 (by decide) wf_X3_61 rfl q he hv d kk
theorem wf_X4_135 : Cond.fieldLink RX4 135 RX0 "knots" "[I" ∈ lwA := wdm 47 (by decide +kernel) rfl
theorem gf_X4_135 {G : va_G} {cy : ClassId} {c : Cx} {cc : ByteArray} {nL : Nat} {R : Room} {k n : Nat} {ws : va_W} {pc : Nat} {lv : List (Nat × Value)} {st : List Value} (X : Ok G cy c cc RX4 nL R) {a : Nat} (q : Nat) {fs : List Value} {v : Value} (he : ws[q]? = some (a, .inr (0, fs))) (hv : fs[5]? = some v) (d : decode cc pc = .ok (.getfield 135, 3)) (kk : T G c R nL k n ws (pc + 3) lv (v :: st)) : T G c R nL k n ws pc lv (.ref a :: st) := tw_get X (C := RX0) (TF := TX0) (N := 8) (ci := 0) inA_X0 rfl 5 (by decide) wf_X4_135 rfl q he hv d kk
theorem wf_X0_30 : Cond.fieldLink RX0 30 RX0 "closed" "[I" ∈ lwA := wdm 48 (by decide +kernel) rfl
theorem gf_X0_30 {G : va_G} {cy : ClassId} {c : Cx} {cc : ByteArray} {nL : Nat} {R : Room} {k n : Nat} {ws : va_W} {pc : Nat} {lv : List (Nat × Value)} {st : List Value} (X : Ok G cy c cc RX0 nL R) {a : Nat} (q : Nat) {fs : List Value} {v : Value} (he : ws[q]? = some (a, .inr (0, fs))) (hv : fs[6]? = some v) (d : decode cc pc = .ok (.getfield 30, 3)) (kk : T G c R nL k n ws (pc + 3) lv (v :: st)) : T G c R nL k n ws pc lv (.ref a :: st) := tw_get X (C := RX0) (TF := TX0) (N := 8) (ci := 0) inA_X0 rfl 6 (by decide) wf_X0_30 rfl q he hv d kk
theorem wf_X2_40 : Cond.fieldLink RX2 40 RX0 "closed" "[I" ∈ lwA := wdm 49 (by decide +kernel) rfl
theorem gf_X2_40 {G : va_G} {cy : ClassId} {c : Cx} {cc : ByteArray} {nL : Nat} {R : Room} {k n : Nat} {ws : va_W} {pc : Nat} {lv : List (Nat × Value)} {st : List Value} (X : Ok G cy c cc RX2 nL R) {a : Nat} (q : Nat) {fs : List Value} {v : Value} (he : ws[q]? = some (a, .inr (0, fs))) (hv : fs[6]? = some v) (d : decode cc pc = .ok (.getfield 40, 3)) (kk : T G c R nL k n ws (pc + 3) lv (v :: st)) : T G c R nL k n ws pc lv (.ref a :: st) := tw_get X (C := RX0) (TF := TX0) (N := 8) (ci := 0) inA_X0 rfl 6 (by decide) wf_X2_40 rfl q he hv d kk
theorem wf_X3_57 : Cond.fieldLink RX3 57 RX0 "closed" "[I" ∈ lwA := wdm 50 (by decide +kernel) rfl
theorem gf_X3_57 {G : va_G} {cy : ClassId} {c : Cx} {cc : ByteArray} {nL : Nat} {R : Room} {k n : Nat} {ws : va_W} {pc : Nat} {lv : List (Nat × Value)} {st : List Value} (X : Ok G cy c cc RX3 nL R) {a : Nat} (q : Nat) {fs : List Value} {v : Value} (he : ws[q]? = some (a, .inr (0, fs))) (hv : fs[6]? = some v) (d : decode cc pc = .ok (.getfield 57, 3)) (kk : T G c R nL k n ws (pc + 3) lv (v :: st)) : T G c R nL k n ws pc lv (.ref a :: st) := tw_get X (C := RX0) (TF := TX0) (N := 8) (ci := 0) inA_X0 rfl 6 (by decide) wf_X3_57 rfl q he hv d kk
theorem wf_X4_95 : Cond.fieldLink RX4 95 RX0 "closed" "[I" ∈ lwA := wdm 51 (by decide +kernel) rfl
theorem gf_X4_95 {G : va_G} {cy : ClassId} {c : Cx} {cc : ByteArray} {nL : Nat} {R : Room} {k n : Nat} {ws : va_W} {pc : Nat} {lv : List (Nat × Value)} {st : List Value} (X : Ok G cy c cc RX4 nL R) {a : Nat} (q : Nat) {fs : List Value} {v : Value} (he : ws[q]? = some (a, .inr (0, fs))) (hv : fs[6]? = some v) (d : decode cc pc = .ok (.getfield 95, 3)) (kk : T G c R nL k n ws (pc + 3) lv (v :: st)) : T G c R nL k n ws pc lv (.ref a :: st) := tw_get X (C := RX0) (TF := TX0) (N := 8) (ci := 0) inA_X0 rfl 6 (by decide) wf_X4_95 rfl q he hv d kk
theorem wf_X0_39 : Cond.fieldLink RX0 39 RX0 "count" "I" ∈ lwA := wdm 52 (by decide +kernel) rfl
theorem gf_X0_39 {G : va_G} {cy : ClassId} {c : Cx} {cc : ByteArray} {nL : Nat} {R : Room} {k n : Nat} {ws : va_W} {pc : Nat} {lv : List (Nat × Value)} {st : List Value} (X : Ok G cy c cc RX0 nL R) {a : Nat} (q : Nat) {fs : List Value} {v : Value} (he : ws[q]? = some (a, .inr (0, fs))) (hv : fs[7]? = some v) (d : decode cc pc = .ok (.getfield 39, 3)) (kk : T G c R nL k n ws (pc + 3) lv (v :: st)) : T G c R nL k n ws pc lv (.ref a :: st) := tw_get X (C := RX0) (TF := TX0) (N := 8) (ci := 0) inA_X0 rfl 7 (by decide) wf_X0_39 rfl q he hv d kk
theorem pf_X0_39 {G : va_G} {cy : ClassId} {c : Cx} {cc : ByteArray} {nL : Nat} {R : Room} {k n : Nat} {ws : va_W} {pc : Nat} {lv : List (Nat × Value)} {st : List Value} (X : Ok G cy c cc RX0 nL R) {a : Nat} (q : Nat) {fs : List Value} {v : Value} {ws' : va_W} (he : ws[q]? = some (a, .inr (0, fs))) (hl : 7 < fs.length) (hn : narrow (tyX0 7) v = v) (hf : fits (tyX0 7) v = true) (d : decode cc pc = .ok (.putfield 39, 3)) (hw : ws.set q (a, .inr (0, fs.set 7 v)) = ws') (kk : T G c R nL k n ws' (pc + 3) lv st) : T G c R nL k n ws pc lv (v :: .ref a :: st) := tw_put X (C := RX0) (TF := TX0) (N := 8) (ci := 0) inA_X0 rfl tyX0 tyX0_ok nmX0 7 (by decide) wf_X0_39 rfl rfl q he hl hn hf d hw kk
theorem wf_X2_24 : Cond.fieldLink RX2 24 RX0 "count" "I" ∈ lwA := wdm 53 (by decide +kernel) rfl
theorem gf_X2_24 {G : va_G} {cy : ClassId} {c : Cx} {cc : ByteArray} {nL : Nat} {R : Room} {k n : Nat} {ws : va_W} {pc : Nat} {lv : List (Nat × Value)} {st : List Value} (X : Ok G cy c cc RX2 nL R) {a : Nat} (q : Nat) {fs : List Value} {v : Value} (he : ws[q]? = some (a, .inr (0, fs))) (hv : fs[7]? = some v) (d : decode cc pc = .ok (.getfield 24, 3)) (kk : T G c R nL k n ws (pc + 3) lv (v :: st)) : T G c R nL k n ws pc lv (.ref a :: st) := tw_get X (C := RX0) (TF := TX0) (N := 8) (ci := 0) inA_X0 rfl 7 (by decide) wf_X2_24 rfl q he hv d kk
theorem pf_X2_24 {G : va_G} {cy : ClassId} {c : Cx} {cc : ByteArray} {nL : Nat} {R : Room} {k n : Nat} {ws : va_W} {pc : Nat} {lv : List (Nat × Value)} {st : List Value} (X : Ok G cy c cc RX2 nL R) {a : Nat} (q : Nat) {fs : List Value} {v : Value} {ws' : va_W} (he : ws[q]? = some (a, .inr (0, fs))) (hl : 7 < fs.length) (hn : narrow (tyX0 7) v = v) (hf : fits (tyX0 7) v = true) (d : decode cc pc = .ok (.putfield 24, 3)) (hw : ws.set q (a, .inr (0, fs.set 7 v)) = ws') (kk : T G c R nL k n ws' (pc + 3) lv st) : T G c R nL k n ws pc lv (v :: .ref a :: st) := tw_put X (C := RX0) (TF := TX0) (N := 8) (ci := 0) inA_X0 rfl tyX0 tyX0_ok nmX0 7 (by decide) wf_X2_24 rfl rfl q he hl hn hf d hw kk
theorem wf_X4_58 : Cond.fieldLink RX4 58 RX0 "count" "I" ∈ lwA := wdm 54 (by decide +kernel) rfl
theorem gf_X4_58 {G : va_G} {cy : ClassId} {c : Cx} {cc : ByteArray} {nL : Nat} {R : Room} {k n : Nat} {ws : va_W} {pc : Nat} {lv : List (Nat × Value)} {st : List Value} (X : Ok G cy c cc RX4 nL R) {a : Nat} (q : Nat) {fs : List Value} {v : Value} (he : ws[q]? = some (a, .inr (0, fs))) (hv : fs[7]? = some v) (d : decode cc pc = .ok (.getfield 58, 3)) (kk : T G c R nL k n ws (pc + 3) lv (v :: st)) : T G c R nL k n ws pc lv (.ref a :: st) := tw_get X (C := RX0) (TF := TX0) (N := 8) (ci := 0) inA_X0 rfl 7 (by decide) wf_X4_58 rfl q he hv d kk
theorem pf_X4_58 {G : va_G} {cy : ClassId} {c : Cx} {cc : ByteArray} {nL : Nat} {R : Room} {k n : Nat} {ws : va_W} {pc : Nat} {lv : List (Nat × Value)} {st : List Value} (X : Ok G cy c cc RX4 nL R) {a : Nat} (q : Nat) {fs : List Value} {v : Value} {ws' : va_W} (he : ws[q]? = some (a, .inr (0, fs))) (hl : 7 < fs.length) (hn : narrow (tyX0 7) v = v) (hf : fits (tyX0 7) v = true) (d : decode cc pc = .ok (.putfield 58, 3)) (hw : ws.set q (a, .inr (0, fs.set 7 v)) = ws') (kk : T G c R nL k n ws' (pc + 3) lv st) : T G c R nL k n ws pc lv (v :: .ref a :: st) := tw_put X (C := RX0) (TF := TX0) (N := 8) (ci := 0) inA_X0 rfl tyX0 tyX0_ok nmX0 7 (by decide) wf_X4_58 rfl rfl q he hl hn hf d hw kk
theorem wf_X3_69 : Cond.fieldLink RX3 69 RX0 "count" "I" ∈ lwA := wdm 55 (by decide +kernel) rfl
theorem gf_X3_69 {G : va_G} {cy : ClassId} {c : Cx} {cc : ByteArray} {nL : Nat} {R : Room} {k n : Nat} {ws : va_W} {pc : Nat} {lv : List (Nat × Value)} {st : List Value} (X : Ok G cy c cc RX3 nL R) {a : Nat} (q : Nat) {fs : List Value} {v : Value} (he : ws[q]? = some (a, .inr (0, fs))) (hv : fs[7]? = some v) (d : decode cc pc = .ok (.getfield 69, 3)) (kk : T G c R nL k n ws (pc + 3) lv (v :: st)) : T G c R nL k n ws pc lv (.ref a :: st) := tw_get X (C := RX0) (TF := TX0) (N := 8) (ci := 0) inA_X0 rfl 7 (by decide) wf_X3_69 rfl q he hv d kk
theorem pf_X3_69 {G : va_G} {cy : ClassId} {c : Cx} {cc : ByteArray} {nL : Nat} {R : Room} {k n : Nat} {ws : va_W} {pc : Nat} {lv : List (Nat × Value)} {st : List Value} (X : Ok G cy c cc RX3 nL R) {a : Nat} (q : Nat) {fs : List Value} {v : Value} {ws' : va_W} (he : ws[q]? = some (a, .inr (0, fs))) (hl : 7 < fs.length) (hn : narrow (tyX0 7) v = v) (hf : fits (tyX0 7) v = true) (d : decode cc pc = .ok (.putfield 69, 3)) (hw : ws.set q (a, .inr (0, fs.set 7 v)) = ws') (kk : T G c R nL k n ws' (pc + 3) lv st) : T G c R nL k n ws pc lv (v :: .ref a :: st) := tw_put X (C := RX0) (TF := TX0) (N := 8) (ci := 0) inA_X0 rfl tyX0 tyX0_ok nmX0 7 (by decide) wf_X3_69 rfl rfl q he hl hn hf d hw kk
theorem wc_X3_18 : Cond.classLink RX3 18 "DetourLoom$Tourists" ∈ lwA := wdm 74 (by decide +kernel) rfl
theorem wi_X1 : Cond.instantiable RX1 11 ∈ lwA := wdm 75 (by decide +kernel) rfl
theorem wl_X1_3 : Cond.methodLink RX1 3 objectInit ∈ lwA := wdm 79 (by decide +kernel) rfl
theorem wf_X1_9 : Cond.fieldLink RX1 9 RX1 "place" "[I" ∈ lwA := wdm 80 (by decide +kernel) rfl
theorem gf_X1_9 {G : va_G} {cy : ClassId} {c : Cx} {cc : ByteArray} {nL : Nat} {R : Room} {k n : Nat} {ws : va_W} {pc : Nat} {lv : List (Nat × Value)} {st : List Value} (X : Ok G cy c cc RX1 nL R) {a : Nat} (q : Nat) {fs : List Value} {v : Value} (he : ws[q]? = some (a, .inr (1, fs))) (hv : fs[0]? = some v) (d : decode cc pc = .ok (.getfield 9, 3)) (kk : T G c R nL k n ws (pc + 3) lv (v :: st)) : T G c R nL k n ws pc lv (.ref a :: st) := tw_get X (C := RX1) (TF := TX1) (N := 11) (ci := 1) inA_X1 rfl 0 (by decide) wf_X1_9 rfl q he hv d kk
theorem wf_X3_108 : Cond.fieldLink RX3 108 RX1 "place" "[I" ∈ lwA := wdm 81 (by decide +kernel) rfl
theorem gf_X3_108 {G : va_G} {cy : ClassId} {c : Cx} {cc : ByteArray} {nL : Nat} {R : Room} {k n : Nat} {ws : va_W} {pc : Nat} {lv : List (Nat × Value)} {st : List Value} (X : Ok G cy c cc RX3 nL R) {a : Nat} (q : Nat) {fs : List Value} {v : Value} (he : ws[q]? = some (a, .inr (1, fs))) (hv : fs[0]? = some v) (d : decode cc pc = .ok (.getfield 108, 3)) (kk : T G c R nL k n ws (pc + 3) lv (v :: st)) : T G c R nL k n ws pc lv (.ref a :: st) := tw_get X (C := RX1) (TF := TX1) (N := 11) (ci := 1) inA_X1 rfl 0 (by decide) wf_X3_108 rfl q he hv d kk
theorem wf_X4_163 : Cond.fieldLink RX4 163 RX1 "place" "[I" ∈ lwA := wdm 82 (by decide +kernel) rfl
theorem gf_X4_163 {G : va_G} {cy : ClassId} {c : Cx} {cc : ByteArray} {nL : Nat} {R : Room} {k n : Nat} {ws : va_W} {pc : Nat} {lv : List (Nat × Value)} {st : List Value} (X : Ok G cy c cc RX4 nL R) {a : Nat} (q : Nat) {fs : List Value} {v : Value} (he : ws[q]? = some (a, .inr (1, fs))) (hv : fs[0]? = some v) (d : decode cc pc = .ok (.getfield 163, 3)) (kk : T G c R nL k n ws (pc + 3) lv (v :: st)) : T G c R nL k n ws pc lv (.ref a :: st) := tw_get X (C := RX1) (TF := TX1) (N := 11) (ci := 1) inA_X1 rfl 0 (by decide) wf_X4_163 rfl q he hv d kk
theorem wf_X1_15 : Cond.fieldLink RX1 15 RX1 "road" "[I" ∈ lwA := wdm 83 (by decide +kernel) rfl
theorem gf_X1_15 {G : va_G} {cy : ClassId} {c : Cx} {cc : ByteArray} {nL : Nat} {R : Room} {k n : Nat} {ws : va_W} {pc : Nat} {lv : List (Nat × Value)} {st : List Value} (X : Ok G cy c cc RX1 nL R) {a : Nat} (q : Nat) {fs : List Value} {v : Value} (he : ws[q]? = some (a, .inr (1, fs))) (hv : fs[1]? = some v) (d : decode cc pc = .ok (.getfield 15, 3)) (kk : T G c R nL k n ws (pc + 3) lv (v :: st)) : T G c R nL k n ws pc lv (.ref a :: st) := tw_get X (C := RX1) (TF := TX1) (N := 11) (ci := 1) inA_X1 rfl 1 (by decide) wf_X1_15 rfl q he hv d kk
theorem wf_X4_166 : Cond.fieldLink RX4 166 RX1 "road" "[I" ∈ lwA := wdm 84 (by decide +kernel) rfl
theorem gf_X4_166 {G : va_G} {cy : ClassId} {c : Cx} {cc : ByteArray} {nL : Nat} {R : Room} {k n : Nat} {ws : va_W} {pc : Nat} {lv : List (Nat × Value)} {st : List Value} (X : Ok G cy c cc RX4 nL R) {a : Nat} (q : Nat) {fs : List Value} {v : Value} (he : ws[q]? = some (a, .inr (1, fs))) (hv : fs[1]? = some v) (d : decode cc pc = .ok (.getfield 166, 3)) (kk : T G c R nL k n ws (pc + 3) lv (v :: st)) : T G c R nL k n ws pc lv (.ref a :: st) := tw_get X (C := RX1) (TF := TX1) (N := 11) (ci := 1) inA_X1 rfl 1 (by decide) wf_X4_166 rfl q he hv d kk
theorem wf_X1_18 : Cond.fieldLink RX1 18 RX1 "end" "[I" ∈ lwA := wdm 85 (by decide +kernel) rfl
theorem gf_X1_18 {G : va_G} {cy : ClassId} {c : Cx} {cc : ByteArray} {nL : Nat} {R : Room} {k n : Nat} {ws : va_W} {pc : Nat} {lv : List (Nat × Value)} {st : List Value} (X : Ok G cy c cc RX1 nL R) {a : Nat} (q : Nat) {fs : List Value} {v : Value} (he : ws[q]? = some (a, .inr (1, fs))) (hv : fs[2]? = some v) (d : decode cc pc = .ok (.getfield 18, 3)) (kk : T G c R nL k n ws (pc + 3) lv (v :: st)) : T G c R nL k n ws pc lv (.ref a :: st) := tw_get X (C := RX1) (TF := TX1) (N := 11) (ci := 1) inA_X1 rfl 2 (by decide) wf_X1_18 rfl q he hv d kk
theorem wf_X1_21 : Cond.fieldLink RX1 21 RX1 "toGo" "[I" ∈ lwA := wdm 86 (by decide +kernel) rfl
theorem gf_X1_21 {G : va_G} {cy : ClassId} {c : Cx} {cc : ByteArray} {nL : Nat} {R : Room} {k n : Nat} {ws : va_W} {pc : Nat} {lv : List (Nat × Value)} {st : List Value} (X : Ok G cy c cc RX1 nL R) {a : Nat} (q : Nat) {fs : List Value} {v : Value} (he : ws[q]? = some (a, .inr (1, fs))) (hv : fs[3]? = some v) (d : decode cc pc = .ok (.getfield 21, 3)) (kk : T G c R nL k n ws (pc + 3) lv (v :: st)) : T G c R nL k n ws pc lv (.ref a :: st) := tw_get X (C := RX1) (TF := TX1) (N := 11) (ci := 1) inA_X1 rfl 3 (by decide) wf_X1_21 rfl q he hv d kk
theorem wf_X1_24 : Cond.fieldLink RX1 24 RX1 "goal" "[I" ∈ lwA := wdm 87 (by decide +kernel) rfl
theorem gf_X1_24 {G : va_G} {cy : ClassId} {c : Cx} {cc : ByteArray} {nL : Nat} {R : Room} {k n : Nat} {ws : va_W} {pc : Nat} {lv : List (Nat × Value)} {st : List Value} (X : Ok G cy c cc RX1 nL R) {a : Nat} (q : Nat) {fs : List Value} {v : Value} (he : ws[q]? = some (a, .inr (1, fs))) (hv : fs[4]? = some v) (d : decode cc pc = .ok (.getfield 24, 3)) (kk : T G c R nL k n ws (pc + 3) lv (v :: st)) : T G c R nL k n ws pc lv (.ref a :: st) := tw_get X (C := RX1) (TF := TX1) (N := 11) (ci := 1) inA_X1 rfl 4 (by decide) wf_X1_24 rfl q he hv d kk
theorem wf_X3_111 : Cond.fieldLink RX3 111 RX1 "goal" "[I" ∈ lwA := wdm 88 (by decide +kernel) rfl
theorem gf_X3_111 {G : va_G} {cy : ClassId} {c : Cx} {cc : ByteArray} {nL : Nat} {R : Room} {k n : Nat} {ws : va_W} {pc : Nat} {lv : List (Nat × Value)} {st : List Value} (X : Ok G cy c cc RX3 nL R) {a : Nat} (q : Nat) {fs : List Value} {v : Value} (he : ws[q]? = some (a, .inr (1, fs))) (hv : fs[4]? = some v) (d : decode cc pc = .ok (.getfield 111, 3)) (kk : T G c R nL k n ws (pc + 3) lv (v :: st)) : T G c R nL k n ws pc lv (.ref a :: st) := tw_get X (C := RX1) (TF := TX1) (N := 11) (ci := 1) inA_X1 rfl 4 (by decide) wf_X3_111 rfl q he hv d kk
theorem wf_X1_27 : Cond.fieldLink RX1 27 RX1 "dye" "[I" ∈ lwA := wdm 89 (by decide +kernel) rfl
theorem gf_X1_27 {G : va_G} {cy : ClassId} {c : Cx} {cc : ByteArray} {nL : Nat} {R : Room} {k n : Nat} {ws : va_W} {pc : Nat} {lv : List (Nat × Value)} {st : List Value} (X : Ok G cy c cc RX1 nL R) {a : Nat} (q : Nat) {fs : List Value} {v : Value} (he : ws[q]? = some (a, .inr (1, fs))) (hv : fs[5]? = some v) (d : decode cc pc = .ok (.getfield 27, 3)) (kk : T G c R nL k n ws (pc + 3) lv (v :: st)) : T G c R nL k n ws pc lv (.ref a :: st) := tw_get X (C := RX1) (TF := TX1) (N := 11) (ci := 1) inA_X1 rfl 5 (by decide) wf_X1_27 rfl q he hv d kk
theorem wf_X3_121 : Cond.fieldLink RX3 121 RX1 "dye" "[I" ∈ lwA := wdm 90 (by decide +kernel) rfl
theorem gf_X3_121 {G : va_G} {cy : ClassId} {c : Cx} {cc : ByteArray} {nL : Nat} {R : Room} {k n : Nat} {ws : va_W} {pc : Nat} {lv : List (Nat × Value)} {st : List Value} (X : Ok G cy c cc RX3 nL R) {a : Nat} (q : Nat) {fs : List Value} {v : Value} (he : ws[q]? = some (a, .inr (1, fs))) (hv : fs[5]? = some v) (d : decode cc pc = .ok (.getfield 121, 3)) (kk : T G c R nL k n ws (pc + 3) lv (v :: st)) : T G c R nL k n ws pc lv (.ref a :: st) := tw_get X (C := RX1) (TF := TX1) (N := 11) (ci := 1) inA_X1 rfl 5 (by decide) wf_X3_121 rfl q he hv d kk
theorem wf_X4_169 : Cond.fieldLink RX4 169 RX1 "dye" "[I" ∈ lwA := wdm 91 (by decide +kernel) rfl
theorem gf_X4_169 {G : va_G} {cy : ClassId} {c : Cx} {cc : ByteArray} {nL : Nat} {R : Room} {k n : Nat} {ws : va_W} {pc : Nat} {lv : List (Nat × Value)} {st : List Value} (X : Ok G cy c cc RX4 nL R) {a : Nat} (q : Nat) {fs : List Value} {v : Value} (he : ws[q]? = some (a, .inr (1, fs))) (hv : fs[5]? = some v) (d : decode cc pc = .ok (.getfield 169, 3)) (kk : T G c R nL k n ws (pc + 3) lv (v :: st)) : T G c R nL k n ws pc lv (.ref a :: st) := tw_get X (C := RX1) (TF := TX1) (N := 11) (ci := 1) inA_X1 rfl 5 (by decide) wf_X4_169 rfl q he hv d kk
theorem wf_X1_30 : Cond.fieldLink RX1 30 RX1 "began" "[I" ∈ lwA := wdm 92 (by decide +kernel) rfl
theorem gf_X1_30 {G : va_G} {cy : ClassId} {c : Cx} {cc : ByteArray} {nL : Nat} {R : Room} {k n : Nat} {ws : va_W} {pc : Nat} {lv : List (Nat × Value)} {st : List Value} (X : Ok G cy c cc RX1 nL R) {a : Nat} (q : Nat) {fs : List Value} {v : Value} (he : ws[q]? = some (a, .inr (1, fs))) (hv : fs[6]? = some v) (d : decode cc pc = .ok (.getfield 30, 3)) (kk : T G c R nL k n ws (pc + 3) lv (v :: st)) : T G c R nL k n ws pc lv (.ref a :: st) := tw_get X (C := RX1) (TF := TX1) (N := 11) (ci := 1) inA_X1 rfl 6 (by decide) wf_X1_30 rfl q he hv d kk
theorem wf_X4_233 : Cond.fieldLink RX4 233 RX1 "began" "[I" ∈ lwA := wdm 93 (by decide +kernel) rfl
theorem gf_X4_233 {G : va_G} {cy : ClassId} {c : Cx} {cc : ByteArray} {nL : Nat} {R : Room} {k n : Nat} {ws : va_W} {pc : Nat} {lv : List (Nat × Value)} {st : List Value} (X : Ok G cy c cc RX4 nL R) {a : Nat} (q : Nat) {fs : List Value} {v : Value} (he : ws[q]? = some (a, .inr (1, fs))) (hv : fs[6]? = some v) (d : decode cc pc = .ok (.getfield 233, 3)) (kk : T G c R nL k n ws (pc + 3) lv (v :: st)) : T G c R nL k n ws pc lv (.ref a :: st) := tw_get X (C := RX1) (TF := TX1) (N := 11) (ci := 1) inA_X1 rfl 6 (by decide) wf_X4_233 rfl q he hv d kk
theorem wf_X1_33 : Cond.fieldLink RX1 33 RX1 "shortest" "[I" ∈ lwA := wdm 94 (by decide +kernel) rfl
theorem gf_X1_33 {G : va_G} {cy : ClassId} {c : Cx} {cc : ByteArray} {nL : Nat} {R : Room} {k n : Nat} {ws : va_W} {pc : Nat} {lv : List (Nat × Value)} {st : List Value} (X : Ok G cy c cc RX1 nL R) {a : Nat} (q : Nat) {fs : List Value} {v : Value} (he : ws[q]? = some (a, .inr (1, fs))) (hv : fs[7]? = some v) (d : decode cc pc = .ok (.getfield 33, 3)) (kk : T G c R nL k n ws (pc + 3) lv (v :: st)) : T G c R nL k n ws pc lv (.ref a :: st) := tw_get X (C := RX1) (TF := TX1) (N := 11) (ci := 1) inA_X1 rfl 7 (by decide) wf_X1_33 rfl q he hv d kk
theorem wf_X1_36 : Cond.fieldLink RX1 36 RX1 "took" "[I" ∈ lwA := wdm 95 (by decide +kernel) rfl
theorem gf_X1_36 {G : va_G} {cy : ClassId} {c : Cx} {cc : ByteArray} {nL : Nat} {R : Room} {k n : Nat} {ws : va_W} {pc : Nat} {lv : List (Nat × Value)} {st : List Value} (X : Ok G cy c cc RX1 nL R) {a : Nat} (q : Nat) {fs : List Value} {v : Value} (he : ws[q]? = some (a, .inr (1, fs))) (hv : fs[8]? = some v) (d : decode cc pc = .ok (.getfield 36, 3)) (kk : T G c R nL k n ws (pc + 3) lv (v :: st)) : T G c R nL k n ws pc lv (.ref a :: st) := tw_get X (C := RX1) (TF := TX1) (N := 11) (ci := 1) inA_X1 rfl 8 (by decide) wf_X1_36 rfl q he hv d kk
theorem wf_X4_236 : Cond.fieldLink RX4 236 RX1 "took" "[I" ∈ lwA := wdm 96 (by decide +kernel) rfl
theorem gf_X4_236 {G : va_G} {cy : ClassId} {c : Cx} {cc : ByteArray} {nL : Nat} {R : Room} {k n : Nat} {ws : va_W} {pc : Nat} {lv : List (Nat × Value)} {st : List Value} (X : Ok G cy c cc RX4 nL R) {a : Nat} (q : Nat) {fs : List Value} {v : Value} (he : ws[q]? = some (a, .inr (1, fs))) (hv : fs[8]? = some v) (d : decode cc pc = .ok (.getfield 236, 3)) (kk : T G c R nL k n ws (pc + 3) lv (v :: st)) : T G c R nL k n ws pc lv (.ref a :: st) := tw_get X (C := RX1) (TF := TX1) (N := 11) (ci := 1) inA_X1 rfl 8 (by decide) wf_X4_236 rfl q he hv d kk
theorem wf_X1_45 : Cond.fieldLink RX1 45 RX1 "count" "I" ∈ lwA := wdm 97 (by decide +kernel) rfl
theorem gf_X1_45 {G : va_G} {cy : ClassId} {c : Cx} {cc : ByteArray} {nL : Nat} {R : Room} {k n : Nat} {ws : va_W} {pc : Nat} {lv : List (Nat × Value)} {st : List Value} (X : Ok G cy c cc RX1 nL R) {a : Nat} (q : Nat) {fs : List Value} {v : Value} (he : ws[q]? = some (a, .inr (1, fs))) (hv : fs[9]? = some v) (d : decode cc pc = .ok (.getfield 45, 3)) (kk : T G c R nL k n ws (pc + 3) lv (v :: st)) : T G c R nL k n ws pc lv (.ref a :: st) := tw_get X (C := RX1) (TF := TX1) (N := 11) (ci := 1) inA_X1 rfl 9 (by decide) wf_X1_45 rfl q he hv d kk
theorem pf_X1_45 {G : va_G} {cy : ClassId} {c : Cx} {cc : ByteArray} {nL : Nat} {R : Room} {k n : Nat} {ws : va_W} {pc : Nat} {lv : List (Nat × Value)} {st : List Value} (X : Ok G cy c cc RX1 nL R) {a : Nat} (q : Nat) {fs : List Value} {v : Value} {ws' : va_W} (he : ws[q]? = some (a, .inr (1, fs))) (hl : 9 < fs.length) (hn : narrow (tyX1 9) v = v) (hf : fits (tyX1 9) v = true) (d : decode cc pc = .ok (.putfield 45, 3)) (hw : ws.set q (a, .inr (1, fs.set 9 v)) = ws') (kk : T G c R nL k n ws' (pc + 3) lv st) : T G c R nL k n ws pc lv (v :: .ref a :: st) := tw_put X (C := RX1) (TF := TX1) (N := 11) (ci := 1) inA_X1 rfl tyX1 tyX1_ok nmX1 9 (by decide) wf_X1_45 rfl rfl q he hl hn hf d hw kk
theorem wf_X4_73 : Cond.fieldLink RX4 73 RX1 "count" "I" ∈ lwA := wdm 98 (by decide +kernel) rfl
theorem gf_X4_73 {G : va_G} {cy : ClassId} {c : Cx} {cc : ByteArray} {nL : Nat} {R : Room} {k n : Nat} {ws : va_W} {pc : Nat} {lv : List (Nat × Value)} {st : List Value} (X : Ok G cy c cc RX4 nL R) {a : Nat} (q : Nat) {fs : List Value} {v : Value} (he : ws[q]? = some (a, .inr (1, fs))) (hv : fs[9]? = some v) (d : decode cc pc = .ok (.getfield 73, 3)) (kk : T G c R nL k n ws (pc + 3) lv (v :: st)) : T G c R nL k n ws pc lv (.ref a :: st) := tw_get X (C := RX1) (TF := TX1) (N := 11) (ci := 1) inA_X1 rfl 9 (by decide) wf_X4_73 rfl q he hv d kk
theorem pf_X4_73 {G : va_G} {cy : ClassId} {c : Cx} {cc : ByteArray} {nL : Nat} {R : Room} {k n : Nat} {ws : va_W} {pc : Nat} {lv : List (Nat × Value)} {st : List Value} (X : Ok G cy c cc RX4 nL R) {a : Nat} (q : Nat) {fs : List Value} {v : Value} {ws' : va_W} (he : ws[q]? = some (a, .inr (1, fs))) (hl : 9 < fs.length) (hn : narrow (tyX1 9) v = v) (hf : fits (tyX1 9) v = true) (d : decode cc pc = .ok (.putfield 73, 3)) (hw : ws.set q (a, .inr (1, fs.set 9 v)) = ws') (kk : T G c R nL k n ws' (pc + 3) lv st) : T G c R nL k n ws pc lv (v :: .ref a :: st) := tw_put X (C := RX1) (TF := TX1) (N := 11) (ci := 1) inA_X1 rfl tyX1 tyX1_ok nmX1 9 (by decide) wf_X4_73 rfl rfl q he hl hn hf d hw kk
theorem wf_X3_89 : Cond.fieldLink RX3 89 RX1 "count" "I" ∈ lwA := wdm 99 (by decide +kernel) rfl
theorem gf_X3_89 {G : va_G} {cy : ClassId} {c : Cx} {cc : ByteArray} {nL : Nat} {R : Room} {k n : Nat} {ws : va_W} {pc : Nat} {lv : List (Nat × Value)} {st : List Value} (X : Ok G cy c cc RX3 nL R) {a : Nat} (q : Nat) {fs : List Value} {v : Value} (he : ws[q]? = some (a, .inr (1, fs))) (hv : fs[9]? = some v) (d : decode cc pc = .ok (.getfield 89, 3)) (kk : T G c R nL k n ws (pc + 3) lv (v :: st)) : T G c R nL k n ws pc lv (.ref a :: st) := tw_get X (C := RX1) (TF := TX1) (N := 11) (ci := 1) inA_X1 rfl 9 (by decide) wf_X3_89 rfl q he hv d kk
theorem pf_X3_89 {G : va_G} {cy : ClassId} {c : Cx} {cc : ByteArray} {nL : Nat} {R : Room} {k n : Nat} {ws : va_W} {pc : Nat} {lv : List (Nat × Value)} {st : List Value} (X : Ok G cy c cc RX3 nL R) {a : Nat} (q : Nat) {fs : List Value} {v : Value} {ws' : va_W} (he : ws[q]? = some (a, .inr (1, fs))) (hl : 9 < fs.length) (hn : narrow (tyX1 9) v = v) (hf : fits (tyX1 9) v = true) (d : decode cc pc = .ok (.putfield 89, 3)) (hw : ws.set q (a, .inr (1, fs.set 9 v)) = ws') (kk : T G c R nL k n ws' (pc + 3) lv st) : T G c R nL k n ws pc lv (v :: .ref a :: st) := tw_put X (C := RX1) (TF := TX1) (N := 11) (ci := 1) inA_X1 rfl tyX1 tyX1_ok nmX1 9 (by decide) wf_X3_89 rfl rfl q he hl hn hf d hw kk
theorem wf_X1_49 : Cond.fieldLink RX1 49 RX1 "in" "I" ∈ lwA := wdm 100 (by decide +kernel) rfl
theorem gf_X1_49 {G : va_G} {cy : ClassId} {c : Cx} {cc : ByteArray} {nL : Nat} {R : Room} {k n : Nat} {ws : va_W} {pc : Nat} {lv : List (Nat × Value)} {st : List Value} (X : Ok G cy c cc RX1 nL R) {a : Nat} (q : Nat) {fs : List Value} {v : Value} (he : ws[q]? = some (a, .inr (1, fs))) (hv : fs[10]? = some v) (d : decode cc pc = .ok (.getfield 49, 3)) (kk : T G c R nL k n ws (pc + 3) lv (v :: st)) : T G c R nL k n ws pc lv (.ref a :: st) := tw_get X (C := RX1) (TF := TX1) (N := 11) (ci := 1) inA_X1 rfl 10 (by decide) wf_X1_49 rfl q he hv d kk
theorem pf_X1_49 {G : va_G} {cy : ClassId} {c : Cx} {cc : ByteArray} {nL : Nat} {R : Room} {k n : Nat} {ws : va_W} {pc : Nat} {lv : List (Nat × Value)} {st : List Value} (X : Ok G cy c cc RX1 nL R) {a : Nat} (q : Nat) {fs : List Value} {v : Value} {ws' : va_W} (he : ws[q]? = some (a, .inr (1, fs))) (hl : 10 < fs.length) (hn : narrow (tyX1 10) v = v) (hf : fits (tyX1 10) v = true) (d : decode cc pc = .ok (.putfield 49, 3)) (hw : ws.set q (a, .inr (1, fs.set 10 v)) = ws') (kk : T G c R nL k n ws' (pc + 3) lv st) : T G c R nL k n ws pc lv (v :: .ref a :: st) := tw_put X (C := RX1) (TF := TX1) (N := 11) (ci := 1) inA_X1 rfl tyX1 tyX1_ok nmX1 10 (by decide) wf_X1_49 rfl rfl q he hl hn hf d hw kk
theorem wf_X4_120 : Cond.fieldLink RX4 120 RX1 "in" "I" ∈ lwA := wdm 101 (by decide +kernel) rfl
theorem gf_X4_120 {G : va_G} {cy : ClassId} {c : Cx} {cc : ByteArray} {nL : Nat} {R : Room} {k n : Nat} {ws : va_W} {pc : Nat} {lv : List (Nat × Value)} {st : List Value} (X : Ok G cy c cc RX4 nL R) {a : Nat} (q : Nat) {fs : List Value} {v : Value} (he : ws[q]? = some (a, .inr (1, fs))) (hv : fs[10]? = some v) (d : decode cc pc = .ok (.getfield 120, 3)) (kk : T G c R nL k n ws (pc + 3) lv (v :: st)) : T G c R nL k n ws pc lv (.ref a :: st) := tw_get X (C := RX1) (TF := TX1) (N := 11) (ci := 1) inA_X1 rfl 10 (by decide) wf_X4_120 rfl q he hv d kk
theorem pf_X4_120 {G : va_G} {cy : ClassId} {c : Cx} {cc : ByteArray} {nL : Nat} {R : Room} {k n : Nat} {ws : va_W} {pc : Nat} {lv : List (Nat × Value)} {st : List Value} (X : Ok G cy c cc RX4 nL R) {a : Nat} (q : Nat) {fs : List Value} {v : Value} {ws' : va_W} (he : ws[q]? = some (a, .inr (1, fs))) (hl : 10 < fs.length) (hn : narrow (tyX1 10) v = v) (hf : fits (tyX1 10) v = true) (d : decode cc pc = .ok (.putfield 120, 3)) (hw : ws.set q (a, .inr (1, fs.set 10 v)) = ws') (kk : T G c R nL k n ws' (pc + 3) lv st) : T G c R nL k n ws pc lv (v :: .ref a :: st) := tw_put X (C := RX1) (TF := TX1) (N := 11) (ci := 1) inA_X1 rfl tyX1 tyX1_ok nmX1 10 (by decide) wf_X4_120 rfl rfl q he hl hn hf d hw kk
theorem wc_X3_25 : Cond.classLink RX3 25 "DetourLoom$Ways" ∈ lwA := wdm 125 (by decide +kernel) rfl
theorem wi_X2 : Cond.instantiable RX2 1 ∈ lwA := wdm 126 (by decide +kernel) rfl
theorem wl_X2_3 : Cond.methodLink RX2 3 objectInit ∈ lwA := wdm 130 (by decide +kernel) rfl
theorem wf_X2_9 : Cond.fieldLink RX2 9 RX2 "sums" "[I" ∈ lwA := wdm 131 (by decide +kernel) rfl
theorem gf_X2_9 {G : va_G} {cy : ClassId} {c : Cx} {cc : ByteArray} {nL : Nat} {R : Room} {k n : Nat} {ws : va_W} {pc : Nat} {lv : List (Nat × Value)} {st : List Value} (X : Ok G cy c cc RX2 nL R) {a : Nat} (q : Nat) {fs : List Value} {v : Value} (he : ws[q]? = some (a, .inr (2, fs))) (hv : fs[0]? = some v) (d : decode cc pc = .ok (.getfield 9, 3)) (kk : T G c R nL k n ws (pc + 3) lv (v :: st)) : T G c R nL k n ws pc lv (.ref a :: st) := tw_get X (C := RX2) (TF := TX2) (N := 1) (ci := 2) inA_X2 rfl 0 (by decide) wf_X2_9 rfl q he hv d kk
theorem wf_X3_80 : Cond.fieldLink RX3 80 RX2 "sums" "[I" ∈ lwA := wdm 132 (by decide +kernel) rfl
theorem gf_X3_80 {G : va_G} {cy : ClassId} {c : Cx} {cc : ByteArray} {nL : Nat} {R : Room} {k n : Nat} {ws : va_W} {pc : Nat} {lv : List (Nat × Value)} {st : List Value} (X : Ok G cy c cc RX3 nL R) {a : Nat} (q : Nat) {fs : List Value} {v : Value} (he : ws[q]? = some (a, .inr (2, fs))) (hv : fs[0]? = some v) (d : decode cc pc = .ok (.getfield 80, 3)) (kk : T G c R nL k n ws (pc + 3) lv (v :: st)) : T G c R nL k n ws pc lv (.ref a :: st) := tw_get X (C := RX2) (TF := TX2) (N := 1) (ci := 2) inA_X2 rfl 0 (by decide) wf_X3_80 rfl q he hv d kk
theorem wf_X3_12 : Cond.fieldLink RX3 12 RX3 "roads" "LDetourLoom$Roads;" ∈ lwA := wdm 136 (by decide +kernel) rfl
theorem gf_X3_12 {G : va_G} {cy : ClassId} {c : Cx} {cc : ByteArray} {nL : Nat} {R : Room} {k n : Nat} {ws : va_W} {pc : Nat} {lv : List (Nat × Value)} {st : List Value} (X : Ok G cy c cc RX3 nL R) {a : Nat} (q : Nat) {fs : List Value} {v : Value} (he : ws[q]? = some (a, .inr (3, fs))) (hv : fs[0]? = some v) (d : decode cc pc = .ok (.getfield 12, 3)) (kk : T G c R nL k n ws (pc + 3) lv (v :: st)) : T G c R nL k n ws pc lv (.ref a :: st) := tw_get X (C := RX3) (TF := TX3) (N := 6) (ci := 3) inA_X3 rfl 0 (by decide) wf_X3_12 rfl q he hv d kk
theorem wf_X4_54 : Cond.fieldLink RX4 54 RX3 "roads" "LDetourLoom$Roads;" ∈ lwA := wdm 137 (by decide +kernel) rfl
theorem gf_X4_54 {G : va_G} {cy : ClassId} {c : Cx} {cc : ByteArray} {nL : Nat} {R : Room} {k n : Nat} {ws : va_W} {pc : Nat} {lv : List (Nat × Value)} {st : List Value} (X : Ok G cy c cc RX4 nL R) {a : Nat} (q : Nat) {fs : List Value} {v : Value} (he : ws[q]? = some (a, .inr (3, fs))) (hv : fs[0]? = some v) (d : decode cc pc = .ok (.getfield 54, 3)) (kk : T G c R nL k n ws (pc + 3) lv (v :: st)) : T G c R nL k n ws pc lv (.ref a :: st) := tw_get X (C := RX3) (TF := TX3) (N := 6) (ci := 3) inA_X3 rfl 0 (by decide) wf_X4_54 rfl q he hv d kk
theorem wf_X3_21 : Cond.fieldLink RX3 21 RX3 "tourists" "LDetourLoom$Tourists;" ∈ lwA := wdm 138 (by decide +kernel) rfl
theorem gf_X3_21 {G : va_G} {cy : ClassId} {c : Cx} {cc : ByteArray} {nL : Nat} {R : Room} {k n : Nat} {ws : va_W} {pc : Nat} {lv : List (Nat × Value)} {st : List Value} (X : Ok G cy c cc RX3 nL R) {a : Nat} (q : Nat) {fs : List Value} {v : Value} (he : ws[q]? = some (a, .inr (3, fs))) (hv : fs[1]? = some v) (d : decode cc pc = .ok (.getfield 21, 3)) (kk : T G c R nL k n ws (pc + 3) lv (v :: st)) : T G c R nL k n ws pc lv (.ref a :: st) := tw_get X (C := RX3) (TF := TX3) (N := 6) (ci := 3) inA_X3 rfl 1 (by decide) wf_X3_21 rfl q he hv d kk
theorem wf_X4_69 : Cond.fieldLink RX4 69 RX3 "tourists" "LDetourLoom$Tourists;" ∈ lwA := wdm 139 (by decide +kernel) rfl
theorem gf_X4_69 {G : va_G} {cy : ClassId} {c : Cx} {cc : ByteArray} {nL : Nat} {R : Room} {k n : Nat} {ws : va_W} {pc : Nat} {lv : List (Nat × Value)} {st : List Value} (X : Ok G cy c cc RX4 nL R) {a : Nat} (q : Nat) {fs : List Value} {v : Value} (he : ws[q]? = some (a, .inr (3, fs))) (hv : fs[1]? = some v) (d : decode cc pc = .ok (.getfield 69, 3)) (kk : T G c R nL k n ws (pc + 3) lv (v :: st)) : T G c R nL k n ws pc lv (.ref a :: st) := tw_get X (C := RX3) (TF := TX3) (N := 6) (ci := 3) inA_X3 rfl 1 (by decide) wf_X4_69 rfl q he hv d kk
theorem wf_X3_28 : Cond.fieldLink RX3 28 RX3 "openWays" "LDetourLoom$Ways;" ∈ lwA := wdm 140 (by decide +kernel) rfl
theorem gf_X3_28 {G : va_G} {cy : ClassId} {c : Cx} {cc : ByteArray} {nL : Nat} {R : Room} {k n : Nat} {ws : va_W} {pc : Nat} {lv : List (Nat × Value)} {st : List Value} (X : Ok G cy c cc RX3 nL R) {a : Nat} (q : Nat) {fs : List Value} {v : Value} (he : ws[q]? = some (a, .inr (3, fs))) (hv : fs[2]? = some v) (d : decode cc pc = .ok (.getfield 28, 3)) (kk : T G c R nL k n ws (pc + 3) lv (v :: st)) : T G c R nL k n ws pc lv (.ref a :: st) := tw_get X (C := RX3) (TF := TX3) (N := 6) (ci := 3) inA_X3 rfl 2 (by decide) wf_X3_28 rfl q he hv d kk
theorem wf_X4_144 : Cond.fieldLink RX4 144 RX3 "openWays" "LDetourLoom$Ways;" ∈ lwA := wdm 141 (by decide +kernel) rfl
theorem gf_X4_144 {G : va_G} {cy : ClassId} {c : Cx} {cc : ByteArray} {nL : Nat} {R : Room} {k n : Nat} {ws : va_W} {pc : Nat} {lv : List (Nat × Value)} {st : List Value} (X : Ok G cy c cc RX4 nL R) {a : Nat} (q : Nat) {fs : List Value} {v : Value} (he : ws[q]? = some (a, .inr (3, fs))) (hv : fs[2]? = some v) (d : decode cc pc = .ok (.getfield 144, 3)) (kk : T G c R nL k n ws (pc + 3) lv (v :: st)) : T G c R nL k n ws pc lv (.ref a :: st) := tw_get X (C := RX3) (TF := TX3) (N := 6) (ci := 3) inA_X3 rfl 2 (by decide) wf_X4_144 rfl q he hv d kk
theorem wf_X4_26 : Cond.fieldLink RX4 26 RX3 "crossings" "I" ∈ lwA := wdm 142 (by decide +kernel) rfl
theorem gf_X4_26 {G : va_G} {cy : ClassId} {c : Cx} {cc : ByteArray} {nL : Nat} {R : Room} {k n : Nat} {ws : va_W} {pc : Nat} {lv : List (Nat × Value)} {st : List Value} (X : Ok G cy c cc RX4 nL R) {a : Nat} (q : Nat) {fs : List Value} {v : Value} (he : ws[q]? = some (a, .inr (3, fs))) (hv : fs[3]? = some v) (d : decode cc pc = .ok (.getfield 26, 3)) (kk : T G c R nL k n ws (pc + 3) lv (v :: st)) : T G c R nL k n ws pc lv (.ref a :: st) := tw_get X (C := RX3) (TF := TX3) (N := 6) (ci := 3) inA_X3 rfl 3 (by decide) wf_X4_26 rfl q he hv d kk
theorem pf_X4_26 {G : va_G} {cy : ClassId} {c : Cx} {cc : ByteArray} {nL : Nat} {R : Room} {k n : Nat} {ws : va_W} {pc : Nat} {lv : List (Nat × Value)} {st : List Value} (X : Ok G cy c cc RX4 nL R) {a : Nat} (q : Nat) {fs : List Value} {v : Value} {ws' : va_W} (he : ws[q]? = some (a, .inr (3, fs))) (hl : 3 < fs.length) (hn : narrow (tyX3 3) v = v) (hf : fits (tyX3 3) v = true) (d : decode cc pc = .ok (.putfield 26, 3)) (hw : ws.set q (a, .inr (3, fs.set 3 v)) = ws') (kk : T G c R nL k n ws' (pc + 3) lv st) : T G c R nL k n ws pc lv (v :: .ref a :: st) := tw_put X (C := RX3) (TF := TX3) (N := 6) (ci := 3) inA_X3 rfl tyX3 tyX3_ok nmX3 3 (by decide) wf_X4_26 rfl rfl q he hl hn hf d hw kk
theorem wf_X3_42 : Cond.fieldLink RX3 42 RX3 "crossings" "I" ∈ lwA := wdm 143 (by decide +kernel) rfl
theorem gf_X3_42 {G : va_G} {cy : ClassId} {c : Cx} {cc : ByteArray} {nL : Nat} {R : Room} {k n : Nat} {ws : va_W} {pc : Nat} {lv : List (Nat × Value)} {st : List Value} (X : Ok G cy c cc RX3 nL R) {a : Nat} (q : Nat) {fs : List Value} {v : Value} (he : ws[q]? = some (a, .inr (3, fs))) (hv : fs[3]? = some v) (d : decode cc pc = .ok (.getfield 42, 3)) (kk : T G c R nL k n ws (pc + 3) lv (v :: st)) : T G c R nL k n ws pc lv (.ref a :: st) := tw_get X (C := RX3) (TF := TX3) (N := 6) (ci := 3) inA_X3 rfl 3 (by decide) wf_X3_42 rfl q he hv d kk
theorem pf_X3_42 {G : va_G} {cy : ClassId} {c : Cx} {cc : ByteArray} {nL : Nat} {R : Room} {k n : Nat} {ws : va_W} {pc : Nat} {lv : List (Nat × Value)} {st : List Value} (X : Ok G cy c cc RX3 nL R) {a : Nat} (q : Nat) {fs : List Value} {v : Value} {ws' : va_W} (he : ws[q]? = some (a, .inr (3, fs))) (hl : 3 < fs.length) (hn : narrow (tyX3 3) v = v) (hf : fits (tyX3 3) v = true) (d : decode cc pc = .ok (.putfield 42, 3)) (hw : ws.set q (a, .inr (3, fs.set 3 v)) = ws') (kk : T G c R nL k n ws' (pc + 3) lv st) : T G c R nL k n ws pc lv (v :: .ref a :: st) := tw_put X (C := RX3) (TF := TX3) (N := 6) (ci := 3) inA_X3 rfl tyX3 tyX3_ok nmX3 3 (by decide) wf_X3_42 rfl rfl q he hl hn hf d hw kk
theorem wf_X3_46 : Cond.fieldLink RX3 46 RX3 "hour" "I" ∈ lwA := wdm 144 (by decide +kernel) rfl
theorem gf_X3_46 {G : va_G} {cy : ClassId} {c : Cx} {cc : ByteArray} {nL : Nat} {R : Room} {k n : Nat} {ws : va_W} {pc : Nat} {lv : List (Nat × Value)} {st : List Value} (X : Ok G cy c cc RX3 nL R) {a : Nat} (q : Nat) {fs : List Value} {v : Value} (he : ws[q]? = some (a, .inr (3, fs))) (hv : fs[4]? = some v) (d : decode cc pc = .ok (.getfield 46, 3)) (kk : T G c R nL k n ws (pc + 3) lv (v :: st)) : T G c R nL k n ws pc lv (.ref a :: st) := tw_get X (C := RX3) (TF := TX3) (N := 6) (ci := 3) inA_X3 rfl 4 (by decide) wf_X3_46 rfl q he hv d kk
theorem pf_X3_46 {G : va_G} {cy : ClassId} {c : Cx} {cc : ByteArray} {nL : Nat} {R : Room} {k n : Nat} {ws : va_W} {pc : Nat} {lv : List (Nat × Value)} {st : List Value} (X : Ok G cy c cc RX3 nL R) {a : Nat} (q : Nat) {fs : List Value} {v : Value} {ws' : va_W} (he : ws[q]? = some (a, .inr (3, fs))) (hl : 4 < fs.length) (hn : narrow (tyX3 4) v = v) (hf : fits (tyX3 4) v = true) (d : decode cc pc = .ok (.putfield 46, 3)) (hw : ws.set q (a, .inr (3, fs.set 4 v)) = ws') (kk : T G c R nL k n ws' (pc + 3) lv st) : T G c R nL k n ws pc lv (v :: .ref a :: st) := tw_put X (C := RX3) (TF := TX3) (N := 6) (ci := 3) inA_X3 rfl tyX3 tyX3_ok nmX3 4 (by decide) wf_X3_46 rfl rfl q he hl hn hf d hw kk
theorem wf_X4_84 : Cond.fieldLink RX4 84 RX3 "hour" "I" ∈ lwA := wdm 145 (by decide +kernel) rfl
theorem gf_X4_84 {G : va_G} {cy : ClassId} {c : Cx} {cc : ByteArray} {nL : Nat} {R : Room} {k n : Nat} {ws : va_W} {pc : Nat} {lv : List (Nat × Value)} {st : List Value} (X : Ok G cy c cc RX4 nL R) {a : Nat} (q : Nat) {fs : List Value} {v : Value} (he : ws[q]? = some (a, .inr (3, fs))) (hv : fs[4]? = some v) (d : decode cc pc = .ok (.getfield 84, 3)) (kk : T G c R nL k n ws (pc + 3) lv (v :: st)) : T G c R nL k n ws pc lv (.ref a :: st) := tw_get X (C := RX3) (TF := TX3) (N := 6) (ci := 3) inA_X3 rfl 4 (by decide) wf_X4_84 rfl q he hv d kk
theorem pf_X4_84 {G : va_G} {cy : ClassId} {c : Cx} {cc : ByteArray} {nL : Nat} {R : Room} {k n : Nat} {ws : va_W} {pc : Nat} {lv : List (Nat × Value)} {st : List Value} (X : Ok G cy c cc RX4 nL R) {a : Nat} (q : Nat) {fs : List Value} {v : Value} {ws' : va_W} (he : ws[q]? = some (a, .inr (3, fs))) (hl : 4 < fs.length) (hn : narrow (tyX3 4) v = v) (hf : fits (tyX3 4) v = true) (d : decode cc pc = .ok (.putfield 84, 3)) (hw : ws.set q (a, .inr (3, fs.set 4 v)) = ws') (kk : T G c R nL k n ws' (pc + 3) lv st) : T G c R nL k n ws pc lv (v :: .ref a :: st) := tw_put X (C := RX3) (TF := TX3) (N := 6) (ci := 3) inA_X3 rfl tyX3 tyX3_ok nmX3 4 (by decide) wf_X4_84 rfl rfl q he hl hn hf d hw kk
theorem wf_X3_49 : Cond.fieldLink RX3 49 RX3 "openWaysAreOld" "Z" ∈ lwA := wdm 146 (by decide +kernel) rfl
theorem gf_X3_49 {G : va_G} {cy : ClassId} {c : Cx} {cc : ByteArray} {nL : Nat} {R : Room} {k n : Nat} {ws : va_W} {pc : Nat} {lv : List (Nat × Value)} {st : List Value} (X : Ok G cy c cc RX3 nL R) {a : Nat} (q : Nat) {fs : List Value} {v : Value} (he : ws[q]? = some (a, .inr (3, fs))) (hv : fs[5]? = some v) (d : decode cc pc = .ok (.getfield 49, 3)) (kk : T G c R nL k n ws (pc + 3) lv (v :: st)) : T G c R nL k n ws pc lv (.ref a :: st) := tw_get X (C := RX3) (TF := TX3) (N := 6) (ci := 3) inA_X3 rfl 5 (by decide) wf_X3_49 rfl q he hv d kk
theorem pf_X3_49 {G : va_G} {cy : ClassId} {c : Cx} {cc : ByteArray} {nL : Nat} {R : Room} {k n : Nat} {ws : va_W} {pc : Nat} {lv : List (Nat × Value)} {st : List Value} (X : Ok G cy c cc RX3 nL R) {a : Nat} (q : Nat) {fs : List Value} {v : Value} {ws' : va_W} (he : ws[q]? = some (a, .inr (3, fs))) (hl : 5 < fs.length) (hn : narrow (tyX3 5) v = v) (hf : fits (tyX3 5) v = true) (d : decode cc pc = .ok (.putfield 49, 3)) (hw : ws.set q (a, .inr (3, fs.set 5 v)) = ws') (kk : T G c R nL k n ws' (pc + 3) lv st) : T G c R nL k n ws pc lv (v :: .ref a :: st) := tw_put X (C := RX3) (TF := TX3) (N := 6) (ci := 3) inA_X3 rfl tyX3 tyX3_ok nmX3 5 (by decide) wf_X3_49 rfl rfl q he hl hn hf d hw kk
theorem wc_X4_19 : Cond.classLink RX4 19 "DetourLoom$Ways" ∈ lwA := wdm 160 (by decide +kernel) rfl
theorem wf_X4_10 : Cond.fieldLink RX4 10 RX4 "now" "LDetourLoom$Weave;" ∈ lwA := wdm 162 (by decide +kernel) rfl
theorem gf_X4_10 {G : va_G} {cy : ClassId} {c : Cx} {cc : ByteArray} {nL : Nat} {R : Room} {k n : Nat} {ws : va_W} {pc : Nat} {lv : List (Nat × Value)} {st : List Value} (X : Ok G cy c cc RX4 nL R) {a : Nat} (q : Nat) {fs : List Value} {v : Value} (he : ws[q]? = some (a, .inr (4, fs))) (hv : fs[0]? = some v) (d : decode cc pc = .ok (.getfield 10, 3)) (kk : T G c R nL k n ws (pc + 3) lv (v :: st)) : T G c R nL k n ws pc lv (.ref a :: st) := tw_get X (C := RX4) (TF := TX4) (N := 3) (ci := 4) inA_X4 rfl 0 (by decide) wf_X4_10 rfl q he hv d kk
theorem wf_X4_16 : Cond.fieldLink RX4 16 RX4 "trial" "LDetourLoom$Weave;" ∈ lwA := wdm 163 (by decide +kernel) rfl
theorem gf_X4_16 {G : va_G} {cy : ClassId} {c : Cx} {cc : ByteArray} {nL : Nat} {R : Room} {k n : Nat} {ws : va_W} {pc : Nat} {lv : List (Nat × Value)} {st : List Value} (X : Ok G cy c cc RX4 nL R) {a : Nat} (q : Nat) {fs : List Value} {v : Value} (he : ws[q]? = some (a, .inr (4, fs))) (hv : fs[1]? = some v) (d : decode cc pc = .ok (.getfield 16, 3)) (kk : T G c R nL k n ws (pc + 3) lv (v :: st)) : T G c R nL k n ws pc lv (.ref a :: st) := tw_get X (C := RX4) (TF := TX4) (N := 3) (ci := 4) inA_X4 rfl 1 (by decide) wf_X4_16 rfl q he hv d kk
theorem wf_X4_22 : Cond.fieldLink RX4 22 RX4 "allWays" "LDetourLoom$Ways;" ∈ lwA := wdm 164 (by decide +kernel) rfl
theorem gf_X4_22 {G : va_G} {cy : ClassId} {c : Cx} {cc : ByteArray} {nL : Nat} {R : Room} {k n : Nat} {ws : va_W} {pc : Nat} {lv : List (Nat × Value)} {st : List Value} (X : Ok G cy c cc RX4 nL R) {a : Nat} (q : Nat) {fs : List Value} {v : Value} (he : ws[q]? = some (a, .inr (4, fs))) (hv : fs[2]? = some v) (d : decode cc pc = .ok (.getfield 22, 3)) (kk : T G c R nL k n ws (pc + 3) lv (v :: st)) : T G c R nL k n ws pc lv (.ref a :: st) := tw_get X (C := RX4) (TF := TX4) (N := 3) (ci := 4) inA_X4 rfl 2 (by decide) wf_X4_22 rfl q he hv d kk
set_option maxRecDepth 100000 in
theorem vw_L_114 : VW RL 114 RX4 yX4_hour cX4_hour 1 (some .int) 0 := ⟨wdm 172 (by decide +kernel) rfl, wdm 173 (by decide +kernel) rfl, wdm 174 (by decide +kernel) rfl, wdm 1 (by decide +kernel) rfl, wdm 175 rfl rfl, rfl, by decide +kernel, by decide +kernel, by decide +kernel⟩
set_option maxRecDepth 100000 in
theorem vw_L_118 : VW RL 118 RX4 yX4_crossings cX4_crossings 1 (some .int) 0 := ⟨wdm 176 (by decide +kernel) rfl, wdm 177 (by decide +kernel) rfl, wdm 178 (by decide +kernel) rfl, wdm 1 (by decide +kernel) rfl, wdm 179 rfl rfl, rfl, by decide +kernel, by decide +kernel, by decide +kernel⟩
set_option maxRecDepth 100000 in
theorem vw_L_122 : VW RL 122 RX4 yX4_roads cX4_roads 1 (some .int) 0 := ⟨wdm 180 (by decide +kernel) rfl, wdm 181 (by decide +kernel) rfl, wdm 182 (by decide +kernel) rfl, wdm 1 (by decide +kernel) rfl, wdm 183 rfl rfl, rfl, by decide +kernel, by decide +kernel, by decide +kernel⟩
set_option maxRecDepth 100000 in
theorem vw_L_126 : VW RL 126 RX4 yX4_tourists cX4_tourists 1 (some .int) 0 := ⟨wdm 184 (by decide +kernel) rfl, wdm 185 (by decide +kernel) rfl, wdm 186 (by decide +kernel) rfl, wdm 1 (by decide +kernel) rfl, wdm 187 rfl rfl, rfl, by decide +kernel, by decide +kernel, by decide +kernel⟩
set_option maxRecDepth 100000 in
theorem vw_L_130 : VW RL 130 RX4 yX4_arrived cX4_arrived 1 (some .int) 0 := ⟨wdm 188 (by decide +kernel) rfl, wdm 189 (by decide +kernel) rfl, wdm 190 (by decide +kernel) rfl, wdm 1 (by decide +kernel) rfl, wdm 191 rfl rfl, rfl, by decide +kernel, by decide +kernel, by decide +kernel⟩
set_option maxRecDepth 100000 in
theorem vw_L_134 : VW RL 134 RX4 yX4_closedRoads cX4_closedRoads 1 (some .int) 0 := ⟨wdm 192 (by decide +kernel) rfl, wdm 193 (by decide +kernel) rfl, wdm 194 (by decide +kernel) rfl, wdm 1 (by decide +kernel) rfl, wdm 195 rfl rfl, rfl, by decide +kernel, by decide +kernel, by decide +kernel⟩
set_option maxRecDepth 100000 in
theorem vw_X4_126 : VW RX4 126 RX0 yX0_countClosed cX0_countClosed 3 (some .int) 0 := ⟨wdm 196 (by decide +kernel) rfl, wdm 197 (by decide +kernel) rfl, wdm 198 (by decide +kernel) rfl, wdm 3 (by decide +kernel) rfl, wdm 199 rfl rfl, rfl, by decide +kernel, by decide +kernel, by decide +kernel⟩
set_option maxRecDepth 100000 in
theorem vw_L_138 : VW RL 138 RX4 yX4_allFrayed cX4_allFrayed 1 (some .int) 0 := ⟨wdm 200 (by decide +kernel) rfl, wdm 201 (by decide +kernel) rfl, wdm 202 (by decide +kernel) rfl, wdm 1 (by decide +kernel) rfl, wdm 203 rfl rfl, rfl, by decide +kernel, by decide +kernel, by decide +kernel⟩
set_option maxRecDepth 100000 in
theorem vw_X4_129 : VW RX4 129 RX1 yX1_frayOfThoseIn cX1_frayOfThoseIn 3 (some .int) 0 := ⟨wdm 204 (by decide +kernel) rfl, wdm 205 (by decide +kernel) rfl, wdm 206 (by decide +kernel) rfl, wdm 4 (by decide +kernel) rfl, wdm 207 rfl rfl, rfl, by decide +kernel, by decide +kernel, by decide +kernel⟩
set_option maxRecDepth 100000 in
theorem vw_X1_52 : VW RX1 52 RX1 yX1_isIn cX1_isIn 2 (some .boolean) 1 := ⟨wdm 208 (by decide +kernel) rfl, wdm 209 (by decide +kernel) rfl, wdm 210 (by decide +kernel) rfl, wdm 4 (by decide +kernel) rfl, wdm 211 rfl rfl, rfl, by decide +kernel, by decide +kernel, by decide +kernel⟩
theorem wl_X1_56 : Cond.methodLink RX1 56 Lib.Math.max.name ∈ lwA := wdm 212 (by decide +kernel) rfl
set_option maxRecDepth 100000 in
theorem vw_L_157 : VW RL 157 RX4 yX4_mostWorn cX4_mostWorn 1 (some .int) 0 := ⟨wdm 215 (by decide +kernel) rfl, wdm 216 (by decide +kernel) rfl, wdm 217 (by decide +kernel) rfl, wdm 1 (by decide +kernel) rfl, wdm 218 rfl rfl, rfl, by decide +kernel, by decide +kernel, by decide +kernel⟩
set_option maxRecDepth 100000 in
theorem vw_X4_138 : VW RX4 138 RX0 yX0_openWithMostWear cX0_openWithMostWear 4 (some .int) 0 := ⟨wdm 219 (by decide +kernel) rfl, wdm 220 (by decide +kernel) rfl, wdm 221 (by decide +kernel) rfl, wdm 3 (by decide +kernel) rfl, wdm 222 rfl rfl, rfl, by decide +kernel, by decide +kernel, by decide +kernel⟩
set_option maxRecDepth 100000 in
theorem vw_L_170 : VW RL 170 RX4 yX4_partedPairs cX4_partedPairs 1 (some .int) 0 := ⟨wdm 223 (by decide +kernel) rfl, wdm 224 (by decide +kernel) rfl, wdm 225 (by decide +kernel) rfl, wdm 1 (by decide +kernel) rfl, wdm 226 rfl rfl, rfl, by decide +kernel, by decide +kernel, by decide +kernel⟩
set_option maxRecDepth 100000 in
theorem vw_X4_141 : VW RX4 141 RX3 yX3_findOpenWays cX3_findOpenWays 1 (none : Option Jvm.ClassFile.FieldType) 0 := ⟨wdm 227 (by decide +kernel) rfl, wdm 228 (by decide +kernel) rfl, wdm 229 (by decide +kernel) rfl, wdm 2 (by decide +kernel) rfl, wdm 230 rfl rfl, rfl, by decide +kernel, by decide +kernel, by decide +kernel⟩
set_option maxRecDepth 100000 in
theorem vw_X3_64 : VW RX3 64 RX2 yX2_find cX2_find 7 (none : Option Jvm.ClassFile.FieldType) 3 := ⟨wdm 231 (by decide +kernel) rfl, wdm 232 (by decide +kernel) rfl, wdm 233 (by decide +kernel) rfl, wdm 5 (by decide +kernel) rfl, wdm 234 rfl rfl, rfl, by decide +kernel, by decide +kernel, by decide +kernel⟩
set_option maxRecDepth 100000 in
theorem vw_X2_21 : VW RX2 21 RX2 yX2_clear cX2_clear 3 (none : Option Jvm.ClassFile.FieldType) 0 := ⟨wdm 235 (by decide +kernel) rfl, wdm 237 (by decide +kernel) rfl, wds 0 (by decide +kernel) rfl, wdm 5 (by decide +kernel) rfl, wdm 238 rfl rfl, rfl, by decide +kernel, by decide +kernel, by decide +kernel⟩
theorem wk_X2_47 : Cond.constant RX2 47 1000000 ∈ lwA := wdm 239 (by decide +kernel) rfl
set_option maxRecDepth 100000 in
theorem vw_X2_36 : VW RX2 36 RX0 yX0_lengthNow cX0_lengthNow 2 (some .int) 1 := ⟨wdm 240 (by decide +kernel) rfl, wdm 241 (by decide +kernel) rfl, wdm 242 (by decide +kernel) rfl, wdm 3 (by decide +kernel) rfl, wdm 243 rfl rfl, rfl, by decide +kernel, by decide +kernel, by decide +kernel⟩
set_option maxRecDepth 100000 in
theorem vw_X2_43 : VW RX2 43 RX2 yX2_goOver cX2_goOver 7 (none : Option Jvm.ClassFile.FieldType) 2 := ⟨wdm 244 (by decide +kernel) rfl, wdm 246 (by decide +kernel) rfl, wds 1 (by decide +kernel) rfl, wdm 5 (by decide +kernel) rfl, wdm 247 rfl rfl, rfl, by decide +kernel, by decide +kernel, by decide +kernel⟩
set_option maxRecDepth 100000 in
theorem vw_X4_157 : VW RX4 157 RX2 yX2_countParted cX2_countParted 5 (some .int) 1 := ⟨wdm 248 (by decide +kernel) rfl, wdm 249 (by decide +kernel) rfl, wdm 250 (by decide +kernel) rfl, wdm 5 (by decide +kernel) rfl, wdm 251 rfl rfl, rfl, by decide +kernel, by decide +kernel, by decide +kernel⟩
set_option maxRecDepth 100000 in
theorem vw_L_195 : VW RL 195 RX4 yX4_bestToMend cX4_bestToMend 6 (some .int) 0 := ⟨wdm 252 (by decide +kernel) rfl, wdm 253 (by decide +kernel) rfl, wdm 254 (by decide +kernel) rfl, wdm 1 (by decide +kernel) rfl, wdm 255 rfl rfl, rfl, by decide +kernel, by decide +kernel, by decide +kernel⟩
set_option maxRecDepth 100000 in
theorem vw_X4_179 : VW RX4 179 RX4 yX4_foresee cX4_foresee 4 (none : Option Jvm.ClassFile.FieldType) 2 := ⟨wdm 256 (by decide +kernel) rfl, wdm 258 (by decide +kernel) rfl, wds 2 (by decide +kernel) rfl, wdm 1 (by decide +kernel) rfl, wdm 259 rfl rfl, rfl, by decide +kernel, by decide +kernel, by decide +kernel⟩
set_option maxRecDepth 100000 in
theorem vw_X4_229 : VW RX4 229 RX3 yX3_copyFrom cX3_copyFrom 2 (none : Option Jvm.ClassFile.FieldType) 1 := ⟨wdm 260 (by decide +kernel) rfl, wdm 261 (by decide +kernel) rfl, wdm 262 (by decide +kernel) rfl, wdm 2 (by decide +kernel) rfl, wdm 263 rfl rfl, rfl, by decide +kernel, by decide +kernel, by decide +kernel⟩
set_option maxRecDepth 100000 in
theorem vw_X3_32 : VW RX3 32 RX0 yX0_copyFrom cX0_copyFrom 2 (none : Option Jvm.ClassFile.FieldType) 1 := ⟨wdm 264 (by decide +kernel) rfl, wdm 265 (by decide +kernel) rfl, wdm 266 (by decide +kernel) rfl, wdm 3 (by decide +kernel) rfl, wdm 267 rfl rfl, rfl, by decide +kernel, by decide +kernel, by decide +kernel⟩
theorem wl_X0_33 : Cond.methodLink RX0 33 arraycopyName ∈ lwA := wdm 268 (by decide +kernel) rfl
set_option maxRecDepth 100000 in
theorem vw_X3_36 : VW RX3 36 RX1 yX1_copyFrom cX1_copyFrom 2 (none : Option Jvm.ClassFile.FieldType) 1 := ⟨wdm 271 (by decide +kernel) rfl, wdm 272 (by decide +kernel) rfl, wdm 273 (by decide +kernel) rfl, wdm 4 (by decide +kernel) rfl, wdm 274 rfl rfl, rfl, by decide +kernel, by decide +kernel, by decide +kernel⟩
theorem wl_X1_39 : Cond.methodLink RX1 39 arraycopyName ∈ lwA := wdm 275 (by decide +kernel) rfl
set_option maxRecDepth 100000 in
theorem vw_X3_39 : VW RX3 39 RX2 yX2_copyFrom cX2_copyFrom 2 (none : Option Jvm.ClassFile.FieldType) 1 := ⟨wdm 276 (by decide +kernel) rfl, wdm 277 (by decide +kernel) rfl, wdm 278 (by decide +kernel) rfl, wdm 5 (by decide +kernel) rfl, wdm 279 rfl rfl, rfl, by decide +kernel, by decide +kernel, by decide +kernel⟩
theorem wl_X2_15 : Cond.methodLink RX2 15 arraycopyName ∈ lwA := wdm 280 (by decide +kernel) rfl
set_option maxRecDepth 100000 in
theorem vw_X4_101 : VW RX4 101 RX3 yX3_closeRoad cX3_closeRoad 3 (none : Option Jvm.ClassFile.FieldType) 2 := ⟨wdm 281 (by decide +kernel) rfl, wdm 282 (by decide +kernel) rfl, wdm 283 (by decide +kernel) rfl, wdm 2 (by decide +kernel) rfl, wdm 284 rfl rfl, rfl, by decide +kernel, by decide +kernel, by decide +kernel⟩
set_option maxRecDepth 100000 in
theorem vw_X4_123 : VW RX4 123 RX3 yX3_letHourGoBy cX3_letHourGoBy 2 (none : Option Jvm.ClassFile.FieldType) 0 := ⟨wdm 285 (by decide +kernel) rfl, wdm 286 (by decide +kernel) rfl, wdm 287 (by decide +kernel) rfl, wdm 2 (by decide +kernel) rfl, wdm 288 rfl rfl, rfl, by decide +kernel, by decide +kernel, by decide +kernel⟩
set_option maxRecDepth 100000 in
theorem vw_X3_83 : VW RX3 83 RX3 yX3_goOnMending cX3_goOnMending 2 (none : Option Jvm.ClassFile.FieldType) 0 := ⟨wdm 289 (by decide +kernel) rfl, wdm 291 (by decide +kernel) rfl, wds 3 (by decide +kernel) rfl, wdm 2 (by decide +kernel) rfl, wdm 292 rfl rfl, rfl, by decide +kernel, by decide +kernel, by decide +kernel⟩
set_option maxRecDepth 100000 in
theorem vw_X3_105 : VW RX3 105 RX0 yX0_reopen cX0_reopen 2 (none : Option Jvm.ClassFile.FieldType) 1 := ⟨wdm 293 (by decide +kernel) rfl, wdm 294 (by decide +kernel) rfl, wdm 295 (by decide +kernel) rfl, wdm 3 (by decide +kernel) rfl, wdm 296 rfl rfl, rfl, by decide +kernel, by decide +kernel, by decide +kernel⟩
set_option maxRecDepth 100000 in
theorem vw_X3_86 : VW RX3 86 RX3 yX3_findOpenWays cX3_findOpenWays 1 (none : Option Jvm.ClassFile.FieldType) 0 := ⟨wdm 297 (by decide +kernel) rfl, wdm 228 (by decide +kernel) rfl, wdm 229 (by decide +kernel) rfl, wdm 2 (by decide +kernel) rfl, wdm 230 rfl rfl, rfl, by decide +kernel, by decide +kernel, by decide +kernel⟩
set_option maxRecDepth 100000 in
theorem vw_X3_90 : VW RX3 90 RX1 yX1_isIn cX1_isIn 2 (some .boolean) 1 := ⟨wdm 298 (by decide +kernel) rfl, wdm 209 (by decide +kernel) rfl, wdm 210 (by decide +kernel) rfl, wdm 4 (by decide +kernel) rfl, wdm 211 rfl rfl, rfl, by decide +kernel, by decide +kernel, by decide +kernel⟩
set_option maxRecDepth 100000 in
theorem vw_X3_94 : VW RX3 94 RX3 yX3_setOut cX3_setOut 4 (none : Option Jvm.ClassFile.FieldType) 1 := ⟨wdm 299 (by decide +kernel) rfl, wdm 301 (by decide +kernel) rfl, wds 4 (by decide +kernel) rfl, wdm 2 (by decide +kernel) rfl, wdm 302 rfl rfl, rfl, by decide +kernel, by decide +kernel, by decide +kernel⟩
set_option maxRecDepth 100000 in
theorem vw_X3_114 : VW RX3 114 RX3 yX3_roadToward cX3_roadToward 8 (some .int) 2 := ⟨wdm 303 (by decide +kernel) rfl, wdm 304 (by decide +kernel) rfl, wdm 305 (by decide +kernel) rfl, wdm 2 (by decide +kernel) rfl, wdm 306 rfl rfl, rfl, by decide +kernel, by decide +kernel, by decide +kernel⟩
theorem wk_X3_68 : Cond.constant RX3 68 1000000 ∈ lwA := wdm 307 (by decide +kernel) rfl
set_option maxRecDepth 100000 in
theorem vw_X3_72 : VW RX3 72 RX0 yX0_endFrom cX0_endFrom 3 (some .int) 2 := ⟨wdm 308 (by decide +kernel) rfl, wdm 309 (by decide +kernel) rfl, wdm 310 (by decide +kernel) rfl, wdm 3 (by decide +kernel) rfl, wdm 311 rfl rfl, rfl, by decide +kernel, by decide +kernel, by decide +kernel⟩
set_option maxRecDepth 100000 in
theorem vw_X3_76 : VW RX3 76 RX0 yX0_lengthNow cX0_lengthNow 2 (some .int) 1 := ⟨wdm 312 (by decide +kernel) rfl, wdm 241 (by decide +kernel) rfl, wdm 242 (by decide +kernel) rfl, wdm 3 (by decide +kernel) rfl, wdm 243 rfl rfl, rfl, by decide +kernel, by decide +kernel, by decide +kernel⟩
set_option maxRecDepth 100000 in
theorem vw_X3_117 : VW RX3 117 RX1 yX1_take cX1_take 5 (none : Option Jvm.ClassFile.FieldType) 4 := ⟨wdm 313 (by decide +kernel) rfl, wdm 314 (by decide +kernel) rfl, wdm 315 (by decide +kernel) rfl, wdm 4 (by decide +kernel) rfl, wdm 316 rfl rfl, rfl, by decide +kernel, by decide +kernel, by decide +kernel⟩
set_option maxRecDepth 100000 in
theorem sw_X3_125 : SW RX3 125 yX3_mixed cX3_mixed 2 (some .int) 2 := ⟨wdm 317 (by decide +kernel) rfl, wdm 318 (by decide +kernel) rfl, wdm 2 (by decide +kernel) rfl, wdm 319 rfl rfl, by decide +kernel, by decide +kernel, by decide +kernel⟩
set_option maxRecDepth 100000 in
theorem vw_X3_98 : VW RX3 98 RX1 yX1_walk cX1_walk 3 (none : Option Jvm.ClassFile.FieldType) 2 := ⟨wdm 320 (by decide +kernel) rfl, wdm 321 (by decide +kernel) rfl, wdm 322 (by decide +kernel) rfl, wdm 4 (by decide +kernel) rfl, wdm 323 rfl rfl, rfl, by decide +kernel, by decide +kernel, by decide +kernel⟩
set_option maxRecDepth 100000 in
theorem vw_X3_102 : VW RX3 102 RX3 yX3_closeWornRoads cX3_closeWornRoads 2 (none : Option Jvm.ClassFile.FieldType) 0 := ⟨wdm 324 (by decide +kernel) rfl, wdm 326 (by decide +kernel) rfl, wds 5 (by decide +kernel) rfl, wdm 2 (by decide +kernel) rfl, wdm 327 rfl rfl, rfl, by decide +kernel, by decide +kernel, by decide +kernel⟩
set_option maxRecDepth 100000 in
theorem vw_X3_131 : VW RX3 131 RX1 yX1_countOn cX1_countOn 4 (some .int) 1 := ⟨wdm 328 (by decide +kernel) rfl, wdm 329 (by decide +kernel) rfl, wdm 330 (by decide +kernel) rfl, wdm 4 (by decide +kernel) rfl, wdm 331 rfl rfl, rfl, by decide +kernel, by decide +kernel, by decide +kernel⟩
set_option maxRecDepth 100000 in
theorem vw_X3_134 : VW RX3 134 RX3 yX3_closeRoad cX3_closeRoad 3 (none : Option Jvm.ClassFile.FieldType) 2 := ⟨wdm 332 (by decide +kernel) rfl, wdm 282 (by decide +kernel) rfl, wdm 283 (by decide +kernel) rfl, wdm 2 (by decide +kernel) rfl, wdm 284 rfl rfl, rfl, by decide +kernel, by decide +kernel, by decide +kernel⟩
set_option maxRecDepth 100000 in
theorem vw_X4_185 : VW RX4 185 RX1 yX1_frayOfAll cX1_frayOfAll 4 (some .int) 1 := ⟨wdm 333 (by decide +kernel) rfl, wdm 334 (by decide +kernel) rfl, wdm 335 (by decide +kernel) rfl, wdm 4 (by decide +kernel) rfl, wdm 336 rfl rfl, rfl, by decide +kernel, by decide +kernel, by decide +kernel⟩
set_option maxRecDepth 100000 in
theorem vw_X1_62 : VW RX1 62 RX1 yX1_frayAt cX1_frayAt 4 (some .int) 2 := ⟨wdm 337 (by decide +kernel) rfl, wdm 338 (by decide +kernel) rfl, wdm 339 (by decide +kernel) rfl, wdm 4 (by decide +kernel) rfl, wdm 340 rfl rfl, rfl, by decide +kernel, by decide +kernel, by decide +kernel⟩
set_option maxRecDepth 100000 in
theorem vw_L_199 : VW RL 199 RX4 yX4_meanLength cX4_meanLength 4 (some .double) 0 := ⟨wdm 341 (by decide +kernel) rfl, wdm 342 (by decide +kernel) rfl, wdm 343 (by decide +kernel) rfl, wdm 1 (by decide +kernel) rfl, wdm 344 rfl rfl, rfl, by decide +kernel, by decide +kernel, by decide +kernel⟩
set_option maxRecDepth 100000 in
theorem vw_X4_132 : VW RX4 132 RX0 yX0_lengthNow cX0_lengthNow 2 (some .int) 1 := ⟨wdm 345 (by decide +kernel) rfl, wdm 241 (by decide +kernel) rfl, wdm 242 (by decide +kernel) rfl, wdm 3 (by decide +kernel) rfl, wdm 243 rfl rfl, rfl, by decide +kernel, by decide +kernel, by decide +kernel⟩
set_option maxRecDepth 100000 in
theorem vw_L_204 : VW RL 204 RX4 yX4_digest cX4_digest 3 (some .long) 0 := ⟨wdm 346 (by decide +kernel) rfl, wdm 347 (by decide +kernel) rfl, wdm 348 (by decide +kernel) rfl, wdm 1 (by decide +kernel) rfl, wdm 349 rfl rfl, rfl, by decide +kernel, by decide +kernel, by decide +kernel⟩
theorem wk_X4_188 : Cond.constantLong RX4 188 2153 ∈ lwA := wdm 350 (by decide +kernel) rfl
set_option maxRecDepth 100000 in
theorem vw_X4_190 : VW RX4 190 RX4 yX4_hour cX4_hour 1 (some .int) 0 := ⟨wdm 351 (by decide +kernel) rfl, wdm 173 (by decide +kernel) rfl, wdm 174 (by decide +kernel) rfl, wdm 1 (by decide +kernel) rfl, wdm 175 rfl rfl, rfl, by decide +kernel, by decide +kernel, by decide +kernel⟩
set_option maxRecDepth 100000 in
theorem sw_X4_192 : SW RX4 192 yX4_woven cX4_woven 4 (some .long) 2 := ⟨wdm 352 (by decide +kernel) rfl, wdm 353 (by decide +kernel) rfl, wdm 1 (by decide +kernel) rfl, wdm 354 rfl rfl, by decide +kernel, by decide +kernel, by decide +kernel⟩
theorem wk_X4_227 : Cond.constantLong RX4 227 31 ∈ lwA := wdm 355 (by decide +kernel) rfl
set_option maxRecDepth 100000 in
theorem vw_X4_196 : VW RX4 196 RX4 yX4_crossings cX4_crossings 1 (some .int) 0 := ⟨wdm 356 (by decide +kernel) rfl, wdm 177 (by decide +kernel) rfl, wdm 178 (by decide +kernel) rfl, wdm 1 (by decide +kernel) rfl, wdm 179 rfl rfl, rfl, by decide +kernel, by decide +kernel, by decide +kernel⟩
set_option maxRecDepth 100000 in
theorem vw_X4_198 : VW RX4 198 RX4 yX4_roads cX4_roads 1 (some .int) 0 := ⟨wdm 357 (by decide +kernel) rfl, wdm 181 (by decide +kernel) rfl, wdm 182 (by decide +kernel) rfl, wdm 1 (by decide +kernel) rfl, wdm 183 rfl rfl, rfl, by decide +kernel, by decide +kernel, by decide +kernel⟩
set_option maxRecDepth 100000 in
theorem vw_X4_200 : VW RX4 200 RX4 yX4_tourists cX4_tourists 1 (some .int) 0 := ⟨wdm 358 (by decide +kernel) rfl, wdm 185 (by decide +kernel) rfl, wdm 186 (by decide +kernel) rfl, wdm 1 (by decide +kernel) rfl, wdm 187 rfl rfl, rfl, by decide +kernel, by decide +kernel, by decide +kernel⟩
set_option maxRecDepth 100000 in
theorem vw_X4_202 : VW RX4 202 RX4 yX4_arrived cX4_arrived 1 (some .int) 0 := ⟨wdm 359 (by decide +kernel) rfl, wdm 189 (by decide +kernel) rfl, wdm 190 (by decide +kernel) rfl, wdm 1 (by decide +kernel) rfl, wdm 191 rfl rfl, rfl, by decide +kernel, by decide +kernel, by decide +kernel⟩
set_option maxRecDepth 100000 in
theorem vw_X4_205 : VW RX4 205 RX4 yX4_closedRoads cX4_closedRoads 1 (some .int) 0 := ⟨wdm 360 (by decide +kernel) rfl, wdm 193 (by decide +kernel) rfl, wdm 194 (by decide +kernel) rfl, wdm 1 (by decide +kernel) rfl, wdm 195 rfl rfl, rfl, by decide +kernel, by decide +kernel, by decide +kernel⟩
set_option maxRecDepth 100000 in
theorem vw_X4_208 : VW RX4 208 RX4 yX4_allFrayed cX4_allFrayed 1 (some .int) 0 := ⟨wdm 361 (by decide +kernel) rfl, wdm 201 (by decide +kernel) rfl, wdm 202 (by decide +kernel) rfl, wdm 1 (by decide +kernel) rfl, wdm 203 rfl rfl, rfl, by decide +kernel, by decide +kernel, by decide +kernel⟩
set_option maxRecDepth 100000 in
theorem vw_X4_211 : VW RX4 211 RX4 yX4_mostWorn cX4_mostWorn 1 (some .int) 0 := ⟨wdm 362 (by decide +kernel) rfl, wdm 216 (by decide +kernel) rfl, wdm 217 (by decide +kernel) rfl, wdm 1 (by decide +kernel) rfl, wdm 218 rfl rfl, rfl, by decide +kernel, by decide +kernel, by decide +kernel⟩
set_option maxRecDepth 100000 in
theorem vw_X4_214 : VW RX4 214 RX4 yX4_partedPairs cX4_partedPairs 1 (some .int) 0 := ⟨wdm 363 (by decide +kernel) rfl, wdm 224 (by decide +kernel) rfl, wdm 225 (by decide +kernel) rfl, wdm 1 (by decide +kernel) rfl, wdm 226 rfl rfl, rfl, by decide +kernel, by decide +kernel, by decide +kernel⟩
set_option maxRecDepth 100000 in
theorem vw_X4_217 : VW RX4 217 RX4 yX4_bestToMend cX4_bestToMend 6 (some .int) 0 := ⟨wdm 364 (by decide +kernel) rfl, wdm 253 (by decide +kernel) rfl, wdm 254 (by decide +kernel) rfl, wdm 1 (by decide +kernel) rfl, wdm 255 rfl rfl, rfl, by decide +kernel, by decide +kernel, by decide +kernel⟩
set_option maxRecDepth 100000 in
theorem vw_X4_220 : VW RX4 220 RX4 yX4_digestOfRoads cX4_digestOfRoads 6 (some .long) 1 := ⟨wdm 365 (by decide +kernel) rfl, wdm 367 (by decide +kernel) rfl, wds 6 (by decide +kernel) rfl, wdm 1 (by decide +kernel) rfl, wdm 368 rfl rfl, rfl, by decide +kernel, by decide +kernel, by decide +kernel⟩
set_option maxRecDepth 100000 in
theorem vw_X4_108 : VW RX4 108 RX1 yX1_countOn cX1_countOn 4 (some .int) 1 := ⟨wdm 369 (by decide +kernel) rfl, wdm 329 (by decide +kernel) rfl, wdm 330 (by decide +kernel) rfl, wdm 4 (by decide +kernel) rfl, wdm 331 rfl rfl, rfl, by decide +kernel, by decide +kernel, by decide +kernel⟩
set_option maxRecDepth 100000 in
theorem vw_X4_224 : VW RX4 224 RX4 yX4_digestOfTourists cX4_digestOfTourists 6 (some .long) 1 := ⟨wdm 370 (by decide +kernel) rfl, wdm 372 (by decide +kernel) rfl, wds 7 (by decide +kernel) rfl, wdm 1 (by decide +kernel) rfl, wdm 373 rfl rfl, rfl, by decide +kernel, by decide +kernel, by decide +kernel⟩
set_option maxRecDepth 100000 in
theorem vw_X4_172 : VW RX4 172 RX1 yX1_frayAt cX1_frayAt 4 (some .int) 2 := ⟨wdm 374 (by decide +kernel) rfl, wdm 338 (by decide +kernel) rfl, wdm 339 (by decide +kernel) rfl, wdm 4 (by decide +kernel) rfl, wdm 340 rfl rfl, rfl, by decide +kernel, by decide +kernel, by decide +kernel⟩
set_option maxRecDepth 100000 in
theorem vw_X4_175 : VW RX4 175 RX1 yX1_isIn cX1_isIn 2 (some .boolean) 1 := ⟨wdm 375 (by decide +kernel) rfl, wdm 209 (by decide +kernel) rfl, wdm 210 (by decide +kernel) rfl, wdm 4 (by decide +kernel) rfl, wdm 211 rfl rfl, rfl, by decide +kernel, by decide +kernel, by decide +kernel⟩
set_option maxRecDepth 100000 in
theorem vw_X4_182 : VW RX4 182 RX4 yX4_foreseenHoursUntilIn cX4_foreseenHoursUntilIn 2 (some .int) 1 := ⟨wdm 376 (by decide +kernel) rfl, wdm 378 (by decide +kernel) rfl, wds 8 (by decide +kernel) rfl, wdm 1 (by decide +kernel) rfl, wdm 379 rfl rfl, rfl, by decide +kernel, by decide +kernel, by decide +kernel⟩
theorem wc_L_13 : Cond.classLink RL 13 "java/lang/IllegalStateException" ∈ lwA := wdm 383 (by decide +kernel) rfl
set_option maxRecDepth 100000 in
theorem vw_L_7 : VW RL 7 RX4 yX4_addCrossing cX4_addCrossing 1 (some .int) 0 := ⟨wdm 384 (by decide +kernel) rfl, wdm 385 (by decide +kernel) rfl, wdm 386 (by decide +kernel) rfl, wdm 1 (by decide +kernel) rfl, wdm 387 rfl rfl, rfl, by decide +kernel, by decide +kernel, by decide +kernel⟩
theorem wc_X4_30 : Cond.classLink RX4 30 "java/lang/IllegalStateException" ∈ lwA := wdm 388 (by decide +kernel) rfl
set_option maxRecDepth 100000 in
theorem vw_X4_37 : VW RX4 37 RX3 yX3_putCrossing cX3_putCrossing 1 (some .int) 0 := ⟨wdm 456 (by decide +kernel) rfl, wdm 457 (by decide +kernel) rfl, wdm 458 (by decide +kernel) rfl, wdm 2 (by decide +kernel) rfl, wdm 459 rfl rfl, rfl, by decide +kernel, by decide +kernel, by decide +kernel⟩
theorem wc_L_19 : Cond.classLink RL 19 "java/lang/IndexOutOfBoundsException" ∈ lwA := wdm 463 (by decide +kernel) rfl
theorem wc_L_21 : Cond.classLink RL 21 "java/lang/IllegalArgumentException" ∈ lwA := wdm 464 (by decide +kernel) rfl
set_option maxRecDepth 100000 in
theorem vw_L_15 : VW RL 15 RX4 yX4_addRoad cX4_addRoad 5 (some .int) 4 := ⟨wdm 465 (by decide +kernel) rfl, wdm 466 (by decide +kernel) rfl, wdm 467 (by decide +kernel) rfl, wdm 1 (by decide +kernel) rfl, wdm 468 rfl rfl, rfl, by decide +kernel, by decide +kernel, by decide +kernel⟩
set_option maxRecDepth 100000 in
theorem vw_X4_41 : VW RX4 41 RX4 yX4_requireCrossing cX4_requireCrossing 2 (none : Option Jvm.ClassFile.FieldType) 1 := ⟨wdm 469 (by decide +kernel) rfl, wdm 471 (by decide +kernel) rfl, wds 10 (by decide +kernel) rfl, wdm 1 (by decide +kernel) rfl, wdm 472 rfl rfl, rfl, by decide +kernel, by decide +kernel, by decide +kernel⟩
theorem wc_X4_239 : Cond.classLink RX4 239 "java/lang/IndexOutOfBoundsException" ∈ lwA := wdm 473 (by decide +kernel) rfl
theorem wc_X4_45 : Cond.classLink RX4 45 "java/lang/IllegalArgumentException" ∈ lwA := wdm 489 (by decide +kernel) rfl
set_option maxRecDepth 100000 in
theorem vw_X4_65 : VW RX4 65 RX3 yX3_putRoad cX3_putRoad 5 (some .int) 4 := ⟨wdm 508 (by decide +kernel) rfl, wdm 509 (by decide +kernel) rfl, wdm 510 (by decide +kernel) rfl, wdm 2 (by decide +kernel) rfl, wdm 511 rfl rfl, rfl, by decide +kernel, by decide +kernel, by decide +kernel⟩
set_option maxRecDepth 100000 in
theorem vw_X3_53 : VW RX3 53 RX0 yX0_put cX0_put 6 (some .int) 4 := ⟨wdm 512 (by decide +kernel) rfl, wdm 513 (by decide +kernel) rfl, wdm 514 (by decide +kernel) rfl, wdm 3 (by decide +kernel) rfl, wdm 515 rfl rfl, rfl, by decide +kernel, by decide +kernel, by decide +kernel⟩
set_option maxRecDepth 100000 in
theorem vw_L_23 : VW RL 23 RX4 yX4_addTourist cX4_addTourist 4 (some .int) 2 := ⟨wdm 519 (by decide +kernel) rfl, wdm 520 (by decide +kernel) rfl, wdm 521 (by decide +kernel) rfl, wdm 1 (by decide +kernel) rfl, wdm 522 rfl rfl, rfl, by decide +kernel, by decide +kernel, by decide +kernel⟩
set_option maxRecDepth 100000 in
theorem vw_X4_78 : VW RX4 78 RX4 yX4_distance cX4_distance 3 (some .int) 2 := ⟨wdm 524 (by decide +kernel) rfl, wdm 525 (by decide +kernel) rfl, wdm 526 (by decide +kernel) rfl, wdm 1 (by decide +kernel) rfl, wdm 527 rfl rfl, rfl, by decide +kernel, by decide +kernel, by decide +kernel⟩
set_option maxRecDepth 100000 in
theorem vw_X4_150 : VW RX4 150 RX2 yX2_find cX2_find 7 (none : Option Jvm.ClassFile.FieldType) 3 := ⟨wdm 528 (by decide +kernel) rfl, wdm 232 (by decide +kernel) rfl, wdm 233 (by decide +kernel) rfl, wdm 5 (by decide +kernel) rfl, wdm 234 rfl rfl, rfl, by decide +kernel, by decide +kernel, by decide +kernel⟩
set_option maxRecDepth 100000 in
theorem vw_X4_147 : VW RX4 147 RX2 yX2_sumOrNone cX2_sumOrNone 4 (some .int) 2 := ⟨wdm 529 (by decide +kernel) rfl, wdm 530 (by decide +kernel) rfl, wdm 531 (by decide +kernel) rfl, wdm 5 (by decide +kernel) rfl, wdm 532 rfl rfl, rfl, by decide +kernel, by decide +kernel, by decide +kernel⟩
set_option maxRecDepth 100000 in
theorem vw_X4_87 : VW RX4 87 RX1 yX1_put cX1_put 6 (some .int) 4 := ⟨wdm 534 (by decide +kernel) rfl, wdm 535 (by decide +kernel) rfl, wdm 536 (by decide +kernel) rfl, wdm 4 (by decide +kernel) rfl, wdm 537 rfl rfl, rfl, by decide +kernel, by decide +kernel, by decide +kernel⟩
set_option maxRecDepth 100000 in
theorem vw_L_27 : VW RL 27 RX4 yX4_mend cX4_mend 3 (some .int) 2 := ⟨wdm 541 (by decide +kernel) rfl, wdm 542 (by decide +kernel) rfl, wdm 543 (by decide +kernel) rfl, wdm 1 (by decide +kernel) rfl, wdm 544 rfl rfl, rfl, by decide +kernel, by decide +kernel, by decide +kernel⟩
set_option maxRecDepth 100000 in
theorem vw_X4_90 : VW RX4 90 RX4 yX4_requireRoad cX4_requireRoad 2 (none : Option Jvm.ClassFile.FieldType) 1 := ⟨wdm 545 (by decide +kernel) rfl, wdm 547 (by decide +kernel) rfl, wds 11 (by decide +kernel) rfl, wdm 1 (by decide +kernel) rfl, wdm 548 rfl rfl, rfl, by decide +kernel, by decide +kernel, by decide +kernel⟩
set_option maxRecDepth 100000 in
theorem vw_L_30 : VW RL 30 RX4 yX4_cutKnots cX4_cutKnots 2 (some .int) 1 := ⟨wdm 555 (by decide +kernel) rfl, wdm 556 (by decide +kernel) rfl, wdm 557 (by decide +kernel) rfl, wdm 1 (by decide +kernel) rfl, wdm 558 rfl rfl, rfl, by decide +kernel, by decide +kernel, by decide +kernel⟩
set_option maxRecDepth 100000 in
theorem vw_X4_114 : VW RX4 114 RX3 yX3_untie cX3_untie 3 (some .int) 1 := ⟨wdm 560 (by decide +kernel) rfl, wdm 561 (by decide +kernel) rfl, wdm 562 (by decide +kernel) rfl, wdm 2 (by decide +kernel) rfl, wdm 563 rfl rfl, rfl, by decide +kernel, by decide +kernel, by decide +kernel⟩
set_option maxRecDepth 100000 in
theorem vw_L_34 : VW RL 34 RX4 yX4_pass cX4_pass 4 (some .int) 1 := ⟨wdm 567 (by decide +kernel) rfl, wdm 568 (by decide +kernel) rfl, wdm 569 (by decide +kernel) rfl, wdm 1 (by decide +kernel) rfl, wdm 570 rfl rfl, rfl, by decide +kernel, by decide +kernel, by decide +kernel⟩
set_option maxRecDepth 100000 in
theorem vw_X4_117 : VW RX4 117 RX4 yX4_requirePassing cX4_requirePassing 2 (none : Option Jvm.ClassFile.FieldType) 1 := ⟨wdm 571 (by decide +kernel) rfl, wdm 573 (by decide +kernel) rfl, wds 12 (by decide +kernel) rfl, wdm 1 (by decide +kernel) rfl, wdm 574 rfl rfl, rfl, by decide +kernel, by decide +kernel, by decide +kernel⟩
set_option maxRecDepth 100000 in
theorem vw_L_37 : VW RL 37 RX4 yX4_lengthOf cX4_lengthOf 2 (some .int) 1 := ⟨wdm 579 (by decide +kernel) rfl, wdm 580 (by decide +kernel) rfl, wdm 581 (by decide +kernel) rfl, wdm 1 (by decide +kernel) rfl, wdm 582 rfl rfl, rfl, by decide +kernel, by decide +kernel, by decide +kernel⟩
set_option maxRecDepth 100000 in
theorem vw_L_40 : VW RL 40 RX4 yX4_wearOf cX4_wearOf 2 (some .int) 1 := ⟨wdm 586 (by decide +kernel) rfl, wdm 587 (by decide +kernel) rfl, wdm 588 (by decide +kernel) rfl, wdm 1 (by decide +kernel) rfl, wdm 589 rfl rfl, rfl, by decide +kernel, by decide +kernel, by decide +kernel⟩
set_option maxRecDepth 100000 in
theorem vw_L_43 : VW RL 43 RX4 yX4_knotsOf cX4_knotsOf 2 (some .int) 1 := ⟨wdm 593 (by decide +kernel) rfl, wdm 594 (by decide +kernel) rfl, wdm 595 (by decide +kernel) rfl, wdm 1 (by decide +kernel) rfl, wdm 596 rfl rfl, rfl, by decide +kernel, by decide +kernel, by decide +kernel⟩
set_option maxRecDepth 100000 in
theorem vw_L_46 : VW RL 46 RX4 yX4_closedFor cX4_closedFor 2 (some .int) 1 := ⟨wdm 600 (by decide +kernel) rfl, wdm 601 (by decide +kernel) rfl, wdm 602 (by decide +kernel) rfl, wdm 1 (by decide +kernel) rfl, wdm 603 rfl rfl, rfl, by decide +kernel, by decide +kernel, by decide +kernel⟩
set_option maxRecDepth 100000 in
theorem vw_L_49 : VW RL 49 RX4 yX4_touristsOn cX4_touristsOn 2 (some .int) 1 := ⟨wdm 607 (by decide +kernel) rfl, wdm 608 (by decide +kernel) rfl, wdm 609 (by decide +kernel) rfl, wdm 1 (by decide +kernel) rfl, wdm 610 rfl rfl, rfl, by decide +kernel, by decide +kernel, by decide +kernel⟩
set_option maxRecDepth 100000 in
theorem vw_L_52 : VW RL 52 RX4 yX4_openDistance cX4_openDistance 3 (some .int) 2 := ⟨wdm 614 (by decide +kernel) rfl, wdm 615 (by decide +kernel) rfl, wdm 616 (by decide +kernel) rfl, wdm 1 (by decide +kernel) rfl, wdm 617 rfl rfl, rfl, by decide +kernel, by decide +kernel, by decide +kernel⟩
set_option maxRecDepth 100000 in
theorem vw_L_55 : VW RL 55 RX4 yX4_distance cX4_distance 3 (some .int) 2 := ⟨wdm 621 (by decide +kernel) rfl, wdm 525 (by decide +kernel) rfl, wdm 526 (by decide +kernel) rfl, wdm 1 (by decide +kernel) rfl, wdm 527 rfl rfl, rfl, by decide +kernel, by decide +kernel, by decide +kernel⟩
set_option maxRecDepth 100000 in
theorem vw_L_58 : VW RL 58 RX4 yX4_nextRoad cX4_nextRoad 3 (some .int) 2 := ⟨wdm 625 (by decide +kernel) rfl, wdm 626 (by decide +kernel) rfl, wdm 627 (by decide +kernel) rfl, wdm 1 (by decide +kernel) rfl, wdm 628 rfl rfl, rfl, by decide +kernel, by decide +kernel, by decide +kernel⟩
set_option maxRecDepth 100000 in
theorem vw_X4_154 : VW RX4 154 RX3 yX3_roadToward cX3_roadToward 8 (some .int) 2 := ⟨wdm 629 (by decide +kernel) rfl, wdm 304 (by decide +kernel) rfl, wdm 305 (by decide +kernel) rfl, wdm 2 (by decide +kernel) rfl, wdm 306 rfl rfl, rfl, by decide +kernel, by decide +kernel, by decide +kernel⟩
set_option maxRecDepth 100000 in
theorem vw_L_61 : VW RL 61 RX4 yX4_placeOf cX4_placeOf 2 (some .int) 1 := ⟨wdm 633 (by decide +kernel) rfl, wdm 634 (by decide +kernel) rfl, wdm 635 (by decide +kernel) rfl, wdm 1 (by decide +kernel) rfl, wdm 636 rfl rfl, rfl, by decide +kernel, by decide +kernel, by decide +kernel⟩
set_option maxRecDepth 100000 in
theorem vw_X4_160 : VW RX4 160 RX4 yX4_requireTourist cX4_requireTourist 2 (none : Option Jvm.ClassFile.FieldType) 1 := ⟨wdm 637 (by decide +kernel) rfl, wdm 639 (by decide +kernel) rfl, wds 13 (by decide +kernel) rfl, wdm 1 (by decide +kernel) rfl, wdm 640 rfl rfl, rfl, by decide +kernel, by decide +kernel, by decide +kernel⟩
set_option maxRecDepth 100000 in
theorem vw_L_64 : VW RL 64 RX4 yX4_roadOf cX4_roadOf 2 (some .int) 1 := ⟨wdm 645 (by decide +kernel) rfl, wdm 646 (by decide +kernel) rfl, wdm 647 (by decide +kernel) rfl, wdm 1 (by decide +kernel) rfl, wdm 648 rfl rfl, rfl, by decide +kernel, by decide +kernel, by decide +kernel⟩
set_option maxRecDepth 100000 in
theorem vw_L_67 : VW RL 67 RX4 yX4_dyeOf cX4_dyeOf 2 (some .int) 1 := ⟨wdm 652 (by decide +kernel) rfl, wdm 653 (by decide +kernel) rfl, wdm 654 (by decide +kernel) rfl, wdm 1 (by decide +kernel) rfl, wdm 655 rfl rfl, rfl, by decide +kernel, by decide +kernel, by decide +kernel⟩
set_option maxRecDepth 100000 in
theorem vw_L_70 : VW RL 70 RX4 yX4_frayOf cX4_frayOf 2 (some .int) 1 := ⟨wdm 659 (by decide +kernel) rfl, wdm 660 (by decide +kernel) rfl, wdm 661 (by decide +kernel) rfl, wdm 1 (by decide +kernel) rfl, wdm 662 rfl rfl, rfl, by decide +kernel, by decide +kernel, by decide +kernel⟩
set_option maxRecDepth 100000 in
theorem vw_L_73 : VW RL 73 RX4 yX4_hasArrived cX4_hasArrived 2 (some .boolean) 1 := ⟨wdm 666 (by decide +kernel) rfl, wdm 667 (by decide +kernel) rfl, wdm 668 (by decide +kernel) rfl, wdm 1 (by decide +kernel) rfl, wdm 669 rfl rfl, rfl, by decide +kernel, by decide +kernel, by decide +kernel⟩
set_option maxRecDepth 100000 in
theorem vw_L_77 : VW RL 77 RX4 yX4_hoursUntilArrived cX4_hoursUntilArrived 2 (some .int) 1 := ⟨wdm 673 (by decide +kernel) rfl, wdm 674 (by decide +kernel) rfl, wdm 675 (by decide +kernel) rfl, wdm 1 (by decide +kernel) rfl, wdm 676 rfl rfl, rfl, by decide +kernel, by decide +kernel, by decide +kernel⟩
set_option maxRecDepth 100000 in
theorem vw_L_80 : VW RL 80 RX4 yX4_frayedIn cX4_frayedIn 2 (some .int) 1 := ⟨wdm 680 (by decide +kernel) rfl, wdm 681 (by decide +kernel) rfl, wdm 682 (by decide +kernel) rfl, wdm 1 (by decide +kernel) rfl, wdm 683 rfl rfl, rfl, by decide +kernel, by decide +kernel, by decide +kernel⟩
theorem wc_L_84 : Cond.classLink RL 84 "DetourLoomModel" ∈ lwA := wdm 684 (by decide +kernel) rfl
theorem wi_X5 : Cond.instantiable RX5 14 ∈ lwA := wdm 685 (by decide +kernel) rfl
theorem wl_X5_1 : Cond.methodLink RX5 1 objectInit ∈ lwA := wdm 689 (by decide +kernel) rfl
theorem wf_X5_40 : Cond.fieldLink RX5 40 RX5 "thrown" "I" ∈ lwA := wdm 690 (by decide +kernel) rfl
theorem gf_X5_40 {G : va_G} {cy : ClassId} {c : Cx} {cc : ByteArray} {nL : Nat} {R : Room} {k n : Nat} {ws : va_W} {pc : Nat} {lv : List (Nat × Value)} {st : List Value} (X : Ok G cy c cc RX5 nL R) {a : Nat} (q : Nat) {fs : List Value} {v : Value} (he : ws[q]? = some (a, .inr (5, fs))) (hv : fs[0]? = some v) (d : decode cc pc = .ok (.getfield 40, 3)) (kk : T G c R nL k n ws (pc + 3) lv (v :: st)) : T G c R nL k n ws pc lv (.ref a :: st) := tw_get X (C := RX5) (TF := TX5) (N := 14) (ci := 5) inA_X5 rfl 0 (by decide) wf_X5_40 rfl q he hv d kk
theorem pf_X5_40 {G : va_G} {cy : ClassId} {c : Cx} {cc : ByteArray} {nL : Nat} {R : Room} {k n : Nat} {ws : va_W} {pc : Nat} {lv : List (Nat × Value)} {st : List Value} (X : Ok G cy c cc RX5 nL R) {a : Nat} (q : Nat) {fs : List Value} {v : Value} {ws' : va_W} (he : ws[q]? = some (a, .inr (5, fs))) (hl : 0 < fs.length) (hn : narrow (tyX5 0) v = v) (hf : fits (tyX5 0) v = true) (d : decode cc pc = .ok (.putfield 40, 3)) (hw : ws.set q (a, .inr (5, fs.set 0 v)) = ws') (kk : T G c R nL k n ws' (pc + 3) lv st) : T G c R nL k n ws pc lv (v :: .ref a :: st) := tw_put X (C := RX5) (TF := TX5) (N := 14) (ci := 5) inA_X5 rfl tyX5 tyX5_ok nmX5 0 (by decide) wf_X5_40 rfl rfl q he hl hn hf d hw kk
theorem wf_X5_44 : Cond.fieldLink RX5 44 RX5 "crossings" "I" ∈ lwA := wdm 691 (by decide +kernel) rfl
theorem gf_X5_44 {G : va_G} {cy : ClassId} {c : Cx} {cc : ByteArray} {nL : Nat} {R : Room} {k n : Nat} {ws : va_W} {pc : Nat} {lv : List (Nat × Value)} {st : List Value} (X : Ok G cy c cc RX5 nL R) {a : Nat} (q : Nat) {fs : List Value} {v : Value} (he : ws[q]? = some (a, .inr (5, fs))) (hv : fs[1]? = some v) (d : decode cc pc = .ok (.getfield 44, 3)) (kk : T G c R nL k n ws (pc + 3) lv (v :: st)) : T G c R nL k n ws pc lv (.ref a :: st) := tw_get X (C := RX5) (TF := TX5) (N := 14) (ci := 5) inA_X5 rfl 1 (by decide) wf_X5_44 rfl q he hv d kk
theorem pf_X5_44 {G : va_G} {cy : ClassId} {c : Cx} {cc : ByteArray} {nL : Nat} {R : Room} {k n : Nat} {ws : va_W} {pc : Nat} {lv : List (Nat × Value)} {st : List Value} (X : Ok G cy c cc RX5 nL R) {a : Nat} (q : Nat) {fs : List Value} {v : Value} {ws' : va_W} (he : ws[q]? = some (a, .inr (5, fs))) (hl : 1 < fs.length) (hn : narrow (tyX5 1) v = v) (hf : fits (tyX5 1) v = true) (d : decode cc pc = .ok (.putfield 44, 3)) (hw : ws.set q (a, .inr (5, fs.set 1 v)) = ws') (kk : T G c R nL k n ws' (pc + 3) lv st) : T G c R nL k n ws pc lv (v :: .ref a :: st) := tw_put X (C := RX5) (TF := TX5) (N := 14) (ci := 5) inA_X5 rfl tyX5 tyX5_ok nmX5 1 (by decide) wf_X5_44 rfl rfl q he hl hn hf d hw kk
theorem wf_X5_51 : Cond.fieldLink RX5 51 RX5 "roads" "I" ∈ lwA := wdm 692 (by decide +kernel) rfl
theorem gf_X5_51 {G : va_G} {cy : ClassId} {c : Cx} {cc : ByteArray} {nL : Nat} {R : Room} {k n : Nat} {ws : va_W} {pc : Nat} {lv : List (Nat × Value)} {st : List Value} (X : Ok G cy c cc RX5 nL R) {a : Nat} (q : Nat) {fs : List Value} {v : Value} (he : ws[q]? = some (a, .inr (5, fs))) (hv : fs[2]? = some v) (d : decode cc pc = .ok (.getfield 51, 3)) (kk : T G c R nL k n ws (pc + 3) lv (v :: st)) : T G c R nL k n ws pc lv (.ref a :: st) := tw_get X (C := RX5) (TF := TX5) (N := 14) (ci := 5) inA_X5 rfl 2 (by decide) wf_X5_51 rfl q he hv d kk
theorem pf_X5_51 {G : va_G} {cy : ClassId} {c : Cx} {cc : ByteArray} {nL : Nat} {R : Room} {k n : Nat} {ws : va_W} {pc : Nat} {lv : List (Nat × Value)} {st : List Value} (X : Ok G cy c cc RX5 nL R) {a : Nat} (q : Nat) {fs : List Value} {v : Value} {ws' : va_W} (he : ws[q]? = some (a, .inr (5, fs))) (hl : 2 < fs.length) (hn : narrow (tyX5 2) v = v) (hf : fits (tyX5 2) v = true) (d : decode cc pc = .ok (.putfield 51, 3)) (hw : ws.set q (a, .inr (5, fs.set 2 v)) = ws') (kk : T G c R nL k n ws' (pc + 3) lv st) : T G c R nL k n ws pc lv (v :: .ref a :: st) := tw_put X (C := RX5) (TF := TX5) (N := 14) (ci := 5) inA_X5 rfl tyX5 tyX5_ok nmX5 2 (by decide) wf_X5_51 rfl rfl q he hl hn hf d hw kk
theorem wf_X5_54 : Cond.fieldLink RX5 54 RX5 "tourists" "I" ∈ lwA := wdm 693 (by decide +kernel) rfl
theorem gf_X5_54 {G : va_G} {cy : ClassId} {c : Cx} {cc : ByteArray} {nL : Nat} {R : Room} {k n : Nat} {ws : va_W} {pc : Nat} {lv : List (Nat × Value)} {st : List Value} (X : Ok G cy c cc RX5 nL R) {a : Nat} (q : Nat) {fs : List Value} {v : Value} (he : ws[q]? = some (a, .inr (5, fs))) (hv : fs[3]? = some v) (d : decode cc pc = .ok (.getfield 54, 3)) (kk : T G c R nL k n ws (pc + 3) lv (v :: st)) : T G c R nL k n ws pc lv (.ref a :: st) := tw_get X (C := RX5) (TF := TX5) (N := 14) (ci := 5) inA_X5 rfl 3 (by decide) wf_X5_54 rfl q he hv d kk
theorem pf_X5_54 {G : va_G} {cy : ClassId} {c : Cx} {cc : ByteArray} {nL : Nat} {R : Room} {k n : Nat} {ws : va_W} {pc : Nat} {lv : List (Nat × Value)} {st : List Value} (X : Ok G cy c cc RX5 nL R) {a : Nat} (q : Nat) {fs : List Value} {v : Value} {ws' : va_W} (he : ws[q]? = some (a, .inr (5, fs))) (hl : 3 < fs.length) (hn : narrow (tyX5 3) v = v) (hf : fits (tyX5 3) v = true) (d : decode cc pc = .ok (.putfield 54, 3)) (hw : ws.set q (a, .inr (5, fs.set 3 v)) = ws') (kk : T G c R nL k n ws' (pc + 3) lv st) : T G c R nL k n ws pc lv (v :: .ref a :: st) := tw_put X (C := RX5) (TF := TX5) (N := 14) (ci := 5) inA_X5 rfl tyX5 tyX5_ok nmX5 3 (by decide) wf_X5_54 rfl rfl q he hl hn hf d hw kk
theorem wf_X5_9 : Cond.fieldLink RX5 9 RX5 "one" "[I" ∈ lwA := wdm 694 (by decide +kernel) rfl
theorem gf_X5_9 {G : va_G} {cy : ClassId} {c : Cx} {cc : ByteArray} {nL : Nat} {R : Room} {k n : Nat} {ws : va_W} {pc : Nat} {lv : List (Nat × Value)} {st : List Value} (X : Ok G cy c cc RX5 nL R) {a : Nat} (q : Nat) {fs : List Value} {v : Value} (he : ws[q]? = some (a, .inr (5, fs))) (hv : fs[4]? = some v) (d : decode cc pc = .ok (.getfield 9, 3)) (kk : T G c R nL k n ws (pc + 3) lv (v :: st)) : T G c R nL k n ws pc lv (.ref a :: st) := tw_get X (C := RX5) (TF := TX5) (N := 14) (ci := 5) inA_X5 rfl 4 (by decide) wf_X5_9 rfl q he hv d kk
theorem wf_X5_13 : Cond.fieldLink RX5 13 RX5 "other" "[I" ∈ lwA := wdm 695 (by decide +kernel) rfl
theorem gf_X5_13 {G : va_G} {cy : ClassId} {c : Cx} {cc : ByteArray} {nL : Nat} {R : Room} {k n : Nat} {ws : va_W} {pc : Nat} {lv : List (Nat × Value)} {st : List Value} (X : Ok G cy c cc RX5 nL R) {a : Nat} (q : Nat) {fs : List Value} {v : Value} (he : ws[q]? = some (a, .inr (5, fs))) (hv : fs[5]? = some v) (d : decode cc pc = .ok (.getfield 13, 3)) (kk : T G c R nL k n ws (pc + 3) lv (v :: st)) : T G c R nL k n ws pc lv (.ref a :: st) := tw_get X (C := RX5) (TF := TX5) (N := 14) (ci := 5) inA_X5 rfl 5 (by decide) wf_X5_13 rfl q he hv d kk
theorem wf_X5_16 : Cond.fieldLink RX5 16 RX5 "length" "[I" ∈ lwA := wdm 696 (by decide +kernel) rfl
theorem gf_X5_16 {G : va_G} {cy : ClassId} {c : Cx} {cc : ByteArray} {nL : Nat} {R : Room} {k n : Nat} {ws : va_W} {pc : Nat} {lv : List (Nat × Value)} {st : List Value} (X : Ok G cy c cc RX5 nL R) {a : Nat} (q : Nat) {fs : List Value} {v : Value} (he : ws[q]? = some (a, .inr (5, fs))) (hv : fs[6]? = some v) (d : decode cc pc = .ok (.getfield 16, 3)) (kk : T G c R nL k n ws (pc + 3) lv (v :: st)) : T G c R nL k n ws pc lv (.ref a :: st) := tw_get X (C := RX5) (TF := TX5) (N := 14) (ci := 5) inA_X5 rfl 6 (by decide) wf_X5_16 rfl q he hv d kk
theorem wf_X5_19 : Cond.fieldLink RX5 19 RX5 "dye" "[I" ∈ lwA := wdm 697 (by decide +kernel) rfl
theorem gf_X5_19 {G : va_G} {cy : ClassId} {c : Cx} {cc : ByteArray} {nL : Nat} {R : Room} {k n : Nat} {ws : va_W} {pc : Nat} {lv : List (Nat × Value)} {st : List Value} (X : Ok G cy c cc RX5 nL R) {a : Nat} (q : Nat) {fs : List Value} {v : Value} (he : ws[q]? = some (a, .inr (5, fs))) (hv : fs[7]? = some v) (d : decode cc pc = .ok (.getfield 19, 3)) (kk : T G c R nL k n ws (pc + 3) lv (v :: st)) : T G c R nL k n ws pc lv (.ref a :: st) := tw_get X (C := RX5) (TF := TX5) (N := 14) (ci := 5) inA_X5 rfl 7 (by decide) wf_X5_19 rfl q he hv d kk
theorem wf_X5_22 : Cond.fieldLink RX5 22 RX5 "goal" "[I" ∈ lwA := wdm 698 (by decide +kernel) rfl
theorem gf_X5_22 {G : va_G} {cy : ClassId} {c : Cx} {cc : ByteArray} {nL : Nat} {R : Room} {k n : Nat} {ws : va_W} {pc : Nat} {lv : List (Nat × Value)} {st : List Value} (X : Ok G cy c cc RX5 nL R) {a : Nat} (q : Nat) {fs : List Value} {v : Value} (he : ws[q]? = some (a, .inr (5, fs))) (hv : fs[8]? = some v) (d : decode cc pc = .ok (.getfield 22, 3)) (kk : T G c R nL k n ws (pc + 3) lv (v :: st)) : T G c R nL k n ws pc lv (.ref a :: st) := tw_get X (C := RX5) (TF := TX5) (N := 14) (ci := 5) inA_X5 rfl 8 (by decide) wf_X5_22 rfl q he hv d kk
theorem wf_X5_25 : Cond.fieldLink RX5 25 RX5 "since" "[I" ∈ lwA := wdm 699 (by decide +kernel) rfl
theorem gf_X5_25 {G : va_G} {cy : ClassId} {c : Cx} {cc : ByteArray} {nL : Nat} {R : Room} {k n : Nat} {ws : va_W} {pc : Nat} {lv : List (Nat × Value)} {st : List Value} (X : Ok G cy c cc RX5 nL R) {a : Nat} (q : Nat) {fs : List Value} {v : Value} (he : ws[q]? = some (a, .inr (5, fs))) (hv : fs[9]? = some v) (d : decode cc pc = .ok (.getfield 25, 3)) (kk : T G c R nL k n ws (pc + 3) lv (v :: st)) : T G c R nL k n ws pc lv (.ref a :: st) := tw_get X (C := RX5) (TF := TX5) (N := 14) (ci := 5) inA_X5 rfl 9 (by decide) wf_X5_25 rfl q he hv d kk
theorem wf_X5_28 : Cond.fieldLink RX5 28 RX5 "least" "[I" ∈ lwA := wdm 700 (by decide +kernel) rfl
theorem gf_X5_28 {G : va_G} {cy : ClassId} {c : Cx} {cc : ByteArray} {nL : Nat} {R : Room} {k n : Nat} {ws : va_W} {pc : Nat} {lv : List (Nat × Value)} {st : List Value} (X : Ok G cy c cc RX5 nL R) {a : Nat} (q : Nat) {fs : List Value} {v : Value} (he : ws[q]? = some (a, .inr (5, fs))) (hv : fs[10]? = some v) (d : decode cc pc = .ok (.getfield 28, 3)) (kk : T G c R nL k n ws (pc + 3) lv (v :: st)) : T G c R nL k n ws pc lv (.ref a :: st) := tw_get X (C := RX5) (TF := TX5) (N := 14) (ci := 5) inA_X5 rfl 10 (by decide) wf_X5_28 rfl q he hv d kk
theorem wf_X5_31 : Cond.fieldLink RX5 31 RX5 "now" "[I" ∈ lwA := wdm 701 (by decide +kernel) rfl
theorem gf_X5_31 {G : va_G} {cy : ClassId} {c : Cx} {cc : ByteArray} {nL : Nat} {R : Room} {k n : Nat} {ws : va_W} {pc : Nat} {lv : List (Nat × Value)} {st : List Value} (X : Ok G cy c cc RX5 nL R) {a : Nat} (q : Nat) {fs : List Value} {v : Value} (he : ws[q]? = some (a, .inr (5, fs))) (hv : fs[11]? = some v) (d : decode cc pc = .ok (.getfield 31, 3)) (kk : T G c R nL k n ws (pc + 3) lv (v :: st)) : T G c R nL k n ws pc lv (.ref a :: st) := tw_get X (C := RX5) (TF := TX5) (N := 14) (ci := 5) inA_X5 rfl 11 (by decide) wf_X5_31 rfl q he hv d kk
theorem wf_X5_34 : Cond.fieldLink RX5 34 RX5 "kept" "[I" ∈ lwA := wdm 702 (by decide +kernel) rfl
theorem gf_X5_34 {G : va_G} {cy : ClassId} {c : Cx} {cc : ByteArray} {nL : Nat} {R : Room} {k n : Nat} {ws : va_W} {pc : Nat} {lv : List (Nat × Value)} {st : List Value} (X : Ok G cy c cc RX5 nL R) {a : Nat} (q : Nat) {fs : List Value} {v : Value} (he : ws[q]? = some (a, .inr (5, fs))) (hv : fs[12]? = some v) (d : decode cc pc = .ok (.getfield 34, 3)) (kk : T G c R nL k n ws (pc + 3) lv (v :: st)) : T G c R nL k n ws pc lv (.ref a :: st) := tw_get X (C := RX5) (TF := TX5) (N := 14) (ci := 5) inA_X5 rfl 12 (by decide) wf_X5_34 rfl q he hv d kk
theorem wf_X5_37 : Cond.fieldLink RX5 37 RX5 "far" "[I" ∈ lwA := wdm 703 (by decide +kernel) rfl
theorem gf_X5_37 {G : va_G} {cy : ClassId} {c : Cx} {cc : ByteArray} {nL : Nat} {R : Room} {k n : Nat} {ws : va_W} {pc : Nat} {lv : List (Nat × Value)} {st : List Value} (X : Ok G cy c cc RX5 nL R) {a : Nat} (q : Nat) {fs : List Value} {v : Value} (he : ws[q]? = some (a, .inr (5, fs))) (hv : fs[13]? = some v) (d : decode cc pc = .ok (.getfield 37, 3)) (kk : T G c R nL k n ws (pc + 3) lv (v :: st)) : T G c R nL k n ws pc lv (.ref a :: st) := tw_get X (C := RX5) (TF := TX5) (N := 14) (ci := 5) inA_X5 rfl 13 (by decide) wf_X5_37 rfl q he hv d kk
set_option maxRecDepth 100000 in
theorem vw_L_93 : VW RL 93 RX5 yX5_thrown cX5_thrown 1 (some .int) 0 := ⟨wdm 733 (by decide +kernel) rfl, wdm 734 (by decide +kernel) rfl, wdm 735 (by decide +kernel) rfl, wdm 6 (by decide +kernel) rfl, wdm 736 rfl rfl, rfl, by decide +kernel, by decide +kernel, by decide +kernel⟩
set_option maxRecDepth 100000 in
theorem vw_L_92 : VW RL 92 RX5 yX5_addCrossing cX5_addCrossing 1 (some .int) 0 := ⟨wdm 737 (by decide +kernel) rfl, wdm 738 (by decide +kernel) rfl, wdm 739 (by decide +kernel) rfl, wdm 6 (by decide +kernel) rfl, wdm 740 rfl rfl, rfl, by decide +kernel, by decide +kernel, by decide +kernel⟩
set_option maxRecDepth 100000 in
theorem vw_X5_116 : VW RX5 116 RX5 yX5_fail cX5_fail 2 (some .int) 1 := ⟨wdm 741 (by decide +kernel) rfl, wdm 743 (by decide +kernel) rfl, wds 14 (by decide +kernel) rfl, wdm 6 (by decide +kernel) rfl, wdm 744 rfl rfl, rfl, by decide +kernel, by decide +kernel, by decide +kernel⟩
set_option maxRecDepth 100000 in
theorem vw_L_99 : VW RL 99 RX5 yX5_addRoad cX5_addRoad 5 (some .int) 4 := ⟨wdm 745 (by decide +kernel) rfl, wdm 746 (by decide +kernel) rfl, wdm 747 (by decide +kernel) rfl, wdm 6 (by decide +kernel) rfl, wdm 748 rfl rfl, rfl, by decide +kernel, by decide +kernel, by decide +kernel⟩
set_option maxRecDepth 100000 in
theorem vw_X5_119 : VW RX5 119 RX5 yX5_isCrossing cX5_isCrossing 2 (some .boolean) 1 := ⟨wdm 749 (by decide +kernel) rfl, wdm 751 (by decide +kernel) rfl, wds 15 (by decide +kernel) rfl, wdm 6 (by decide +kernel) rfl, wdm 752 rfl rfl, rfl, by decide +kernel, by decide +kernel, by decide +kernel⟩
set_option maxRecDepth 100000 in
theorem sw_X5_47 : SW RX5 47 yX5_isIn cX5_isIn 3 (some .boolean) 3 := ⟨wdm 753 (by decide +kernel) rfl, wdm 754 (by decide +kernel) rfl, wdm 6 (by decide +kernel) rfl, wdm 755 rfl rfl, by decide +kernel, by decide +kernel, by decide +kernel⟩
set_option maxRecDepth 100000 in
theorem vw_L_103 : VW RL 103 RX5 yX5_addTourist cX5_addTourist 4 (some .int) 2 := ⟨wdm 756 (by decide +kernel) rfl, wdm 757 (by decide +kernel) rfl, wdm 758 (by decide +kernel) rfl, wdm 6 (by decide +kernel) rfl, wdm 759 rfl rfl, rfl, by decide +kernel, by decide +kernel, by decide +kernel⟩
set_option maxRecDepth 100000 in
theorem vw_X5_122 : VW RX5 122 RX5 yX5_apart cX5_apart 4 (some .int) 3 := ⟨wdm 760 (by decide +kernel) rfl, wdm 762 (by decide +kernel) rfl, wds 16 (by decide +kernel) rfl, wdm 6 (by decide +kernel) rfl, wdm 763 rfl rfl, rfl, by decide +kernel, by decide +kernel, by decide +kernel⟩
set_option maxRecDepth 100000 in
theorem vw_X5_83 : VW RX5 83 RX5 yX5_measure cX5_measure 7 (none : Option Jvm.ClassFile.FieldType) 2 := ⟨wdm 764 (by decide +kernel) rfl, wdm 766 (by decide +kernel) rfl, wds 17 (by decide +kernel) rfl, wdm 6 (by decide +kernel) rfl, wdm 767 rfl rfl, rfl, by decide +kernel, by decide +kernel, by decide +kernel⟩
set_option maxRecDepth 100000 in
theorem vw_X5_70 : VW RX5 70 RX5 yX5_isOpen cX5_isOpen 2 (some .boolean) 1 := ⟨wdm 768 (by decide +kernel) rfl, wdm 770 (by decide +kernel) rfl, wds 18 (by decide +kernel) rfl, wdm 6 (by decide +kernel) rfl, wdm 771 rfl rfl, rfl, by decide +kernel, by decide +kernel, by decide +kernel⟩
set_option maxRecDepth 100000 in
theorem vw_X5_63 : VW RX5 63 RX5 yX5_ro cX5_ro 3 (some .int) 2 := ⟨wdm 772 (by decide +kernel) rfl, wdm 774 (by decide +kernel) rfl, wds 19 (by decide +kernel) rfl, wdm 6 (by decide +kernel) rfl, wdm 775 rfl rfl, rfl, by decide +kernel, by decide +kernel, by decide +kernel⟩
set_option maxRecDepth 100000 in
theorem vw_X5_74 : VW RX5 74 RX5 yX5_longNow cX5_longNow 2 (some .int) 1 := ⟨wdm 776 (by decide +kernel) rfl, wdm 778 (by decide +kernel) rfl, wds 20 (by decide +kernel) rfl, wdm 6 (by decide +kernel) rfl, wdm 779 rfl rfl, rfl, by decide +kernel, by decide +kernel, by decide +kernel⟩
theorem wl_X5_78 : Cond.methodLink RX5 78 Lib.Math.min.name ∈ lwA := wdm 780 (by decide +kernel) rfl
set_option maxRecDepth 100000 in
theorem vw_X5_97 : VW RX5 97 RX5 yX5_let cX5_let 4 (none : Option Jvm.ClassFile.FieldType) 3 := ⟨wdm 783 (by decide +kernel) rfl, wdm 785 (by decide +kernel) rfl, wds 21 (by decide +kernel) rfl, wdm 6 (by decide +kernel) rfl, wdm 786 rfl rfl, rfl, by decide +kernel, by decide +kernel, by decide +kernel⟩
set_option maxRecDepth 100000 in
theorem vw_L_106 : VW RL 106 RX5 yX5_mend cX5_mend 3 (some .int) 2 := ⟨wdm 787 (by decide +kernel) rfl, wdm 788 (by decide +kernel) rfl, wdm 789 (by decide +kernel) rfl, wdm 6 (by decide +kernel) rfl, wdm 790 rfl rfl, rfl, by decide +kernel, by decide +kernel, by decide +kernel⟩
set_option maxRecDepth 100000 in
theorem vw_X5_126 : VW RX5 126 RX5 yX5_isRoad cX5_isRoad 2 (some .boolean) 1 := ⟨wdm 791 (by decide +kernel) rfl, wdm 793 (by decide +kernel) rfl, wds 22 (by decide +kernel) rfl, wdm 6 (by decide +kernel) rfl, wdm 794 rfl rfl, rfl, by decide +kernel, by decide +kernel, by decide +kernel⟩
set_option maxRecDepth 100000 in
theorem vw_X5_90 : VW RX5 90 RX5 yX5_lay cX5_lay 4 (none : Option Jvm.ClassFile.FieldType) 3 := ⟨wdm 795 (by decide +kernel) rfl, wdm 797 (by decide +kernel) rfl, wds 23 (by decide +kernel) rfl, wdm 6 (by decide +kernel) rfl, wdm 798 rfl rfl, rfl, by decide +kernel, by decide +kernel, by decide +kernel⟩
set_option maxRecDepth 100000 in
theorem vw_L_110 : VW RL 110 RX5 yX5_cutKnots cX5_cutKnots 3 (some .int) 1 := ⟨wdm 799 (by decide +kernel) rfl, wdm 800 (by decide +kernel) rfl, wdm 801 (by decide +kernel) rfl, wdm 6 (by decide +kernel) rfl, wdm 802 rfl rfl, rfl, by decide +kernel, by decide +kernel, by decide +kernel⟩
set_option maxRecDepth 100000 in
theorem vw_X5_110 : VW RX5 110 RX5 yX5_on cX5_on 4 (some .int) 1 := ⟨wdm 803 (by decide +kernel) rfl, wdm 805 (by decide +kernel) rfl, wds 24 (by decide +kernel) rfl, wdm 6 (by decide +kernel) rfl, wdm 806 rfl rfl, rfl, by decide +kernel, by decide +kernel, by decide +kernel⟩
set_option maxRecDepth 100000 in
theorem vw_X5_67 : VW RX5 67 RX5 yX5_to cX5_to 3 (some .int) 2 := ⟨wdm 807 (by decide +kernel) rfl, wdm 809 (by decide +kernel) rfl, wds 25 (by decide +kernel) rfl, wdm 6 (by decide +kernel) rfl, wdm 810 rfl rfl, rfl, by decide +kernel, by decide +kernel, by decide +kernel⟩
set_option maxRecDepth 100000 in
theorem vw_L_113 : VW RL 113 RX5 yX5_pass cX5_pass 3 (some .int) 1 := ⟨wdm 811 (by decide +kernel) rfl, wdm 812 (by decide +kernel) rfl, wdm 813 (by decide +kernel) rfl, wdm 6 (by decide +kernel) rfl, wdm 814 rfl rfl, rfl, by decide +kernel, by decide +kernel, by decide +kernel⟩
set_option maxRecDepth 100000 in
theorem vw_X5_129 : VW RX5 129 RX5 yX5_came cX5_came 3 (some .int) 0 := ⟨wdm 815 (by decide +kernel) rfl, wdm 817 (by decide +kernel) rfl, wds 26 (by decide +kernel) rfl, wdm 6 (by decide +kernel) rfl, wdm 818 rfl rfl, rfl, by decide +kernel, by decide +kernel, by decide +kernel⟩
set_option maxRecDepth 100000 in
theorem vw_X5_133 : VW RX5 133 RX5 yX5_hoursOn cX5_hoursOn 3 (none : Option Jvm.ClassFile.FieldType) 1 := ⟨wdm 819 (by decide +kernel) rfl, wdm 821 (by decide +kernel) rfl, wds 27 (by decide +kernel) rfl, wdm 6 (by decide +kernel) rfl, wdm 822 rfl rfl, rfl, by decide +kernel, by decide +kernel, by decide +kernel⟩
set_option maxRecDepth 100000 in
theorem vw_X5_113 : VW RX5 113 RX5 yX5_hourOn cX5_hourOn 2 (none : Option Jvm.ClassFile.FieldType) 0 := ⟨wdm 823 (by decide +kernel) rfl, wdm 825 (by decide +kernel) rfl, wds 28 (by decide +kernel) rfl, wdm 6 (by decide +kernel) rfl, wdm 826 rfl rfl, rfl, by decide +kernel, by decide +kernel, by decide +kernel⟩
set_option maxRecDepth 100000 in
theorem vw_X5_103 : VW RX5 103 RX5 yX5_mendOn cX5_mendOn 2 (none : Option Jvm.ClassFile.FieldType) 1 := ⟨wdm 827 (by decide +kernel) rfl, wdm 829 (by decide +kernel) rfl, wds 29 (by decide +kernel) rfl, wdm 6 (by decide +kernel) rfl, wdm 830 rfl rfl, rfl, by decide +kernel, by decide +kernel, by decide +kernel⟩
set_option maxRecDepth 100000 in
theorem vw_X5_107 : VW RX5 107 RX5 yX5_goOn cX5_goOn 4 (none : Option Jvm.ClassFile.FieldType) 1 := ⟨wdm 831 (by decide +kernel) rfl, wdm 833 (by decide +kernel) rfl, wds 30 (by decide +kernel) rfl, wdm 6 (by decide +kernel) rfl, wdm 834 rfl rfl, rfl, by decide +kernel, by decide +kernel, by decide +kernel⟩
set_option maxRecDepth 100000 in
theorem vw_X5_94 : VW RX5 94 RX5 yX5_takes cX5_takes 7 (some .int) 2 := ⟨wdm 835 (by decide +kernel) rfl, wdm 837 (by decide +kernel) rfl, wds 31 (by decide +kernel) rfl, wdm 6 (by decide +kernel) rfl, wdm 838 rfl rfl, rfl, by decide +kernel, by decide +kernel, by decide +kernel⟩
set_option maxRecDepth 100000 in
theorem vw_X5_87 : VW RX5 87 RX5 yX5_end cX5_end 3 (some .int) 2 := ⟨wdm 839 (by decide +kernel) rfl, wdm 841 (by decide +kernel) rfl, wds 32 (by decide +kernel) rfl, wdm 6 (by decide +kernel) rfl, wdm 842 rfl rfl, rfl, by decide +kernel, by decide +kernel, by decide +kernel⟩
set_option maxRecDepth 100000 in
theorem sw_X5_100 : SW RX5 100 yX5_mix cX5_mix 2 (some .int) 2 := ⟨wdm 843 (by decide +kernel) rfl, wdm 844 (by decide +kernel) rfl, wdm 6 (by decide +kernel) rfl, wdm 845 rfl rfl, by decide +kernel, by decide +kernel, by decide +kernel⟩
set_option maxRecDepth 100000 in
theorem vw_L_117 : VW RL 117 RX5 yX5_hour cX5_hour 1 (some .int) 0 := ⟨wdm 846 (by decide +kernel) rfl, wdm 847 (by decide +kernel) rfl, wdm 848 (by decide +kernel) rfl, wdm 6 (by decide +kernel) rfl, wdm 849 rfl rfl, rfl, by decide +kernel, by decide +kernel, by decide +kernel⟩
set_option maxRecDepth 100000 in
theorem vw_X5_136 : VW RX5 136 RX5 yX5_told cX5_told 2 (some .int) 1 := ⟨wdm 850 (by decide +kernel) rfl, wdm 852 (by decide +kernel) rfl, wds 33 (by decide +kernel) rfl, wdm 6 (by decide +kernel) rfl, wdm 853 rfl rfl, rfl, by decide +kernel, by decide +kernel, by decide +kernel⟩
set_option maxRecDepth 100000 in
theorem vw_L_121 : VW RL 121 RX5 yX5_crossings cX5_crossings 1 (some .int) 0 := ⟨wdm 854 (by decide +kernel) rfl, wdm 855 (by decide +kernel) rfl, wdm 856 (by decide +kernel) rfl, wdm 6 (by decide +kernel) rfl, wdm 857 rfl rfl, rfl, by decide +kernel, by decide +kernel, by decide +kernel⟩
set_option maxRecDepth 100000 in
theorem vw_L_125 : VW RL 125 RX5 yX5_roads cX5_roads 1 (some .int) 0 := ⟨wdm 858 (by decide +kernel) rfl, wdm 859 (by decide +kernel) rfl, wdm 860 (by decide +kernel) rfl, wdm 6 (by decide +kernel) rfl, wdm 861 rfl rfl, rfl, by decide +kernel, by decide +kernel, by decide +kernel⟩
set_option maxRecDepth 100000 in
theorem vw_L_129 : VW RL 129 RX5 yX5_tourists cX5_tourists 1 (some .int) 0 := ⟨wdm 862 (by decide +kernel) rfl, wdm 863 (by decide +kernel) rfl, wdm 864 (by decide +kernel) rfl, wdm 6 (by decide +kernel) rfl, wdm 865 rfl rfl, rfl, by decide +kernel, by decide +kernel, by decide +kernel⟩
set_option maxRecDepth 100000 in
theorem vw_L_133 : VW RL 133 RX5 yX5_arrived cX5_arrived 1 (some .int) 0 := ⟨wdm 866 (by decide +kernel) rfl, wdm 867 (by decide +kernel) rfl, wdm 868 (by decide +kernel) rfl, wdm 6 (by decide +kernel) rfl, wdm 869 rfl rfl, rfl, by decide +kernel, by decide +kernel, by decide +kernel⟩
set_option maxRecDepth 100000 in
theorem vw_L_137 : VW RL 137 RX5 yX5_closedRoads cX5_closedRoads 1 (some .int) 0 := ⟨wdm 870 (by decide +kernel) rfl, wdm 871 (by decide +kernel) rfl, wdm 872 (by decide +kernel) rfl, wdm 6 (by decide +kernel) rfl, wdm 873 rfl rfl, rfl, by decide +kernel, by decide +kernel, by decide +kernel⟩
set_option maxRecDepth 100000 in
theorem vw_X5_139 : VW RX5 139 RX5 yX5_shut cX5_shut 3 (some .int) 0 := ⟨wdm 874 (by decide +kernel) rfl, wdm 876 (by decide +kernel) rfl, wds 34 (by decide +kernel) rfl, wdm 6 (by decide +kernel) rfl, wdm 877 rfl rfl, rfl, by decide +kernel, by decide +kernel, by decide +kernel⟩
set_option maxRecDepth 100000 in
theorem vw_L_141 : VW RL 141 RX5 yX5_allFrayed cX5_allFrayed 1 (some .int) 0 := ⟨wdm 878 (by decide +kernel) rfl, wdm 879 (by decide +kernel) rfl, wdm 880 (by decide +kernel) rfl, wdm 6 (by decide +kernel) rfl, wdm 881 rfl rfl, rfl, by decide +kernel, by decide +kernel, by decide +kernel⟩
set_option maxRecDepth 100000 in
theorem vw_X5_148 : VW RX5 148 RX5 yX5_frays cX5_frays 4 (some .int) 1 := ⟨wdm 882 (by decide +kernel) rfl, wdm 884 (by decide +kernel) rfl, wds 35 (by decide +kernel) rfl, wdm 6 (by decide +kernel) rfl, wdm 885 rfl rfl, rfl, by decide +kernel, by decide +kernel, by decide +kernel⟩
set_option maxRecDepth 100000 in
theorem vw_X5_145 : VW RX5 145 RX5 yX5_fray cX5_fray 2 (some .int) 1 := ⟨wdm 886 (by decide +kernel) rfl, wdm 888 (by decide +kernel) rfl, wds 36 (by decide +kernel) rfl, wdm 6 (by decide +kernel) rfl, wdm 889 rfl rfl, rfl, by decide +kernel, by decide +kernel, by decide +kernel⟩
theorem wl_X5_142 : Cond.methodLink RX5 142 Lib.Math.max.name ∈ lwA := wdm 890 (by decide +kernel) rfl
set_option maxRecDepth 100000 in
theorem vw_L_144 : VW RL 144 RX5 yX5_lengthOf cX5_lengthOf 2 (some .int) 1 := ⟨wdm 891 (by decide +kernel) rfl, wdm 892 (by decide +kernel) rfl, wdm 893 (by decide +kernel) rfl, wdm 6 (by decide +kernel) rfl, wdm 894 rfl rfl, rfl, by decide +kernel, by decide +kernel, by decide +kernel⟩
set_option maxRecDepth 100000 in
theorem vw_L_147 : VW RL 147 RX5 yX5_wearOf cX5_wearOf 2 (some .int) 1 := ⟨wdm 895 (by decide +kernel) rfl, wdm 896 (by decide +kernel) rfl, wdm 897 (by decide +kernel) rfl, wdm 6 (by decide +kernel) rfl, wdm 898 rfl rfl, rfl, by decide +kernel, by decide +kernel, by decide +kernel⟩
set_option maxRecDepth 100000 in
theorem vw_X5_152 : VW RX5 152 RX5 yX5_road cX5_road 3 (some .int) 2 := ⟨wdm 899 (by decide +kernel) rfl, wdm 901 (by decide +kernel) rfl, wds 37 (by decide +kernel) rfl, wdm 6 (by decide +kernel) rfl, wdm 902 rfl rfl, rfl, by decide +kernel, by decide +kernel, by decide +kernel⟩
set_option maxRecDepth 100000 in
theorem vw_L_150 : VW RL 150 RX5 yX5_knotsOf cX5_knotsOf 2 (some .int) 1 := ⟨wdm 903 (by decide +kernel) rfl, wdm 904 (by decide +kernel) rfl, wdm 905 (by decide +kernel) rfl, wdm 6 (by decide +kernel) rfl, wdm 906 rfl rfl, rfl, by decide +kernel, by decide +kernel, by decide +kernel⟩
set_option maxRecDepth 100000 in
theorem vw_L_153 : VW RL 153 RX5 yX5_closedFor cX5_closedFor 2 (some .int) 1 := ⟨wdm 907 (by decide +kernel) rfl, wdm 908 (by decide +kernel) rfl, wdm 909 (by decide +kernel) rfl, wdm 6 (by decide +kernel) rfl, wdm 910 rfl rfl, rfl, by decide +kernel, by decide +kernel, by decide +kernel⟩
set_option maxRecDepth 100000 in
theorem vw_L_156 : VW RL 156 RX5 yX5_touristsOn cX5_touristsOn 2 (some .int) 1 := ⟨wdm 911 (by decide +kernel) rfl, wdm 912 (by decide +kernel) rfl, wdm 913 (by decide +kernel) rfl, wdm 6 (by decide +kernel) rfl, wdm 914 rfl rfl, rfl, by decide +kernel, by decide +kernel, by decide +kernel⟩
set_option maxRecDepth 100000 in
theorem vw_L_160 : VW RL 160 RX5 yX5_mostWorn cX5_mostWorn 1 (some .int) 0 := ⟨wdm 915 (by decide +kernel) rfl, wdm 916 (by decide +kernel) rfl, wdm 917 (by decide +kernel) rfl, wdm 6 (by decide +kernel) rfl, wdm 918 rfl rfl, rfl, by decide +kernel, by decide +kernel, by decide +kernel⟩
set_option maxRecDepth 100000 in
theorem vw_X5_155 : VW RX5 155 RX5 yX5_worn cX5_worn 3 (some .int) 0 := ⟨wdm 919 (by decide +kernel) rfl, wdm 921 (by decide +kernel) rfl, wds 38 (by decide +kernel) rfl, wdm 6 (by decide +kernel) rfl, wdm 922 rfl rfl, rfl, by decide +kernel, by decide +kernel, by decide +kernel⟩
set_option maxRecDepth 100000 in
theorem vw_L_163 : VW RL 163 RX5 yX5_openDistance cX5_openDistance 3 (some .int) 2 := ⟨wdm 923 (by decide +kernel) rfl, wdm 924 (by decide +kernel) rfl, wdm 925 (by decide +kernel) rfl, wdm 6 (by decide +kernel) rfl, wdm 926 rfl rfl, rfl, by decide +kernel, by decide +kernel, by decide +kernel⟩
set_option maxRecDepth 100000 in
theorem vw_X5_158 : VW RX5 158 RX5 yX5_distanceOf cX5_distanceOf 4 (some .int) 3 := ⟨wdm 927 (by decide +kernel) rfl, wdm 929 (by decide +kernel) rfl, wds 39 (by decide +kernel) rfl, wdm 6 (by decide +kernel) rfl, wdm 930 rfl rfl, rfl, by decide +kernel, by decide +kernel, by decide +kernel⟩
set_option maxRecDepth 100000 in
theorem vw_L_166 : VW RL 166 RX5 yX5_distance cX5_distance 3 (some .int) 2 := ⟨wdm 931 (by decide +kernel) rfl, wdm 932 (by decide +kernel) rfl, wdm 933 (by decide +kernel) rfl, wdm 6 (by decide +kernel) rfl, wdm 934 rfl rfl, rfl, by decide +kernel, by decide +kernel, by decide +kernel⟩
set_option maxRecDepth 100000 in
theorem vw_L_169 : VW RL 169 RX5 yX5_nextRoad cX5_nextRoad 3 (some .int) 2 := ⟨wdm 935 (by decide +kernel) rfl, wdm 936 (by decide +kernel) rfl, wdm 937 (by decide +kernel) rfl, wdm 6 (by decide +kernel) rfl, wdm 938 rfl rfl, rfl, by decide +kernel, by decide +kernel, by decide +kernel⟩
set_option maxRecDepth 100000 in
theorem vw_L_173 : VW RL 173 RX5 yX5_partedPairs cX5_partedPairs 1 (some .int) 0 := ⟨wdm 939 (by decide +kernel) rfl, wdm 940 (by decide +kernel) rfl, wdm 941 (by decide +kernel) rfl, wdm 6 (by decide +kernel) rfl, wdm 942 rfl rfl, rfl, by decide +kernel, by decide +kernel, by decide +kernel⟩
set_option maxRecDepth 100000 in
theorem vw_X5_161 : VW RX5 161 RX5 yX5_parted cX5_parted 4 (some .int) 0 := ⟨wdm 943 (by decide +kernel) rfl, wdm 945 (by decide +kernel) rfl, wds 40 (by decide +kernel) rfl, wdm 6 (by decide +kernel) rfl, wdm 946 rfl rfl, rfl, by decide +kernel, by decide +kernel, by decide +kernel⟩
set_option maxRecDepth 100000 in
theorem vw_L_176 : VW RL 176 RX5 yX5_placeOf cX5_placeOf 2 (some .int) 1 := ⟨wdm 947 (by decide +kernel) rfl, wdm 948 (by decide +kernel) rfl, wdm 949 (by decide +kernel) rfl, wdm 6 (by decide +kernel) rfl, wdm 950 rfl rfl, rfl, by decide +kernel, by decide +kernel, by decide +kernel⟩
set_option maxRecDepth 100000 in
theorem vw_X5_167 : VW RX5 167 RX5 yX5_tourist cX5_tourist 3 (some .int) 2 := ⟨wdm 951 (by decide +kernel) rfl, wdm 953 (by decide +kernel) rfl, wds 41 (by decide +kernel) rfl, wdm 6 (by decide +kernel) rfl, wdm 954 rfl rfl, rfl, by decide +kernel, by decide +kernel, by decide +kernel⟩
set_option maxRecDepth 100000 in
theorem vw_X5_164 : VW RX5 164 RX5 yX5_isTourist cX5_isTourist 2 (some .boolean) 1 := ⟨wdm 955 (by decide +kernel) rfl, wdm 957 (by decide +kernel) rfl, wds 42 (by decide +kernel) rfl, wdm 6 (by decide +kernel) rfl, wdm 958 rfl rfl, rfl, by decide +kernel, by decide +kernel, by decide +kernel⟩
set_option maxRecDepth 100000 in
theorem vw_L_179 : VW RL 179 RX5 yX5_roadOf cX5_roadOf 2 (some .int) 1 := ⟨wdm 959 (by decide +kernel) rfl, wdm 960 (by decide +kernel) rfl, wdm 961 (by decide +kernel) rfl, wdm 6 (by decide +kernel) rfl, wdm 962 rfl rfl, rfl, by decide +kernel, by decide +kernel, by decide +kernel⟩
set_option maxRecDepth 100000 in
theorem vw_L_182 : VW RL 182 RX5 yX5_dyeOf cX5_dyeOf 2 (some .int) 1 := ⟨wdm 963 (by decide +kernel) rfl, wdm 964 (by decide +kernel) rfl, wdm 965 (by decide +kernel) rfl, wdm 6 (by decide +kernel) rfl, wdm 966 rfl rfl, rfl, by decide +kernel, by decide +kernel, by decide +kernel⟩
set_option maxRecDepth 100000 in
theorem vw_L_185 : VW RL 185 RX5 yX5_frayOf cX5_frayOf 2 (some .int) 1 := ⟨wdm 967 (by decide +kernel) rfl, wdm 968 (by decide +kernel) rfl, wdm 969 (by decide +kernel) rfl, wdm 6 (by decide +kernel) rfl, wdm 970 rfl rfl, rfl, by decide +kernel, by decide +kernel, by decide +kernel⟩
set_option maxRecDepth 100000 in
theorem vw_L_188 : VW RL 188 RX5 yX5_hasArrived cX5_hasArrived 3 (some .boolean) 1 := ⟨wdm 971 (by decide +kernel) rfl, wdm 972 (by decide +kernel) rfl, wdm 973 (by decide +kernel) rfl, wdm 6 (by decide +kernel) rfl, wdm 974 rfl rfl, rfl, by decide +kernel, by decide +kernel, by decide +kernel⟩
set_option maxRecDepth 100000 in
theorem vw_L_191 : VW RL 191 RX5 yX5_hoursUntilArrived cX5_hoursUntilArrived 2 (some .int) 1 := ⟨wdm 975 (by decide +kernel) rfl, wdm 976 (by decide +kernel) rfl, wdm 977 (by decide +kernel) rfl, wdm 6 (by decide +kernel) rfl, wdm 978 rfl rfl, rfl, by decide +kernel, by decide +kernel, by decide +kernel⟩
set_option maxRecDepth 100000 in
theorem vw_X5_176 : VW RX5 176 RX5 yX5_until cX5_until 3 (some .int) 1 := ⟨wdm 979 (by decide +kernel) rfl, wdm 981 (by decide +kernel) rfl, wds 43 (by decide +kernel) rfl, wdm 6 (by decide +kernel) rfl, wdm 982 rfl rfl, rfl, by decide +kernel, by decide +kernel, by decide +kernel⟩
set_option maxRecDepth 100000 in
theorem vw_X5_170 : VW RX5 170 RX5 yX5_keep cX5_keep 1 (none : Option Jvm.ClassFile.FieldType) 0 := ⟨wdm 983 (by decide +kernel) rfl, wdm 985 (by decide +kernel) rfl, wds 44 (by decide +kernel) rfl, wdm 6 (by decide +kernel) rfl, wdm 986 rfl rfl, rfl, by decide +kernel, by decide +kernel, by decide +kernel⟩
theorem wl_X5_57 : Cond.methodLink RX5 57 arraycopyName ∈ lwA := wdm 987 (by decide +kernel) rfl
set_option maxRecDepth 100000 in
theorem vw_X5_173 : VW RX5 173 RX5 yX5_bringBack cX5_bringBack 1 (none : Option Jvm.ClassFile.FieldType) 0 := ⟨wdm 988 (by decide +kernel) rfl, wdm 990 (by decide +kernel) rfl, wds 45 (by decide +kernel) rfl, wdm 6 (by decide +kernel) rfl, wdm 991 rfl rfl, rfl, by decide +kernel, by decide +kernel, by decide +kernel⟩
set_option maxRecDepth 100000 in
theorem vw_L_194 : VW RL 194 RX5 yX5_frayedIn cX5_frayedIn 3 (some .int) 1 := ⟨wdm 992 (by decide +kernel) rfl, wdm 993 (by decide +kernel) rfl, wdm 994 (by decide +kernel) rfl, wdm 6 (by decide +kernel) rfl, wdm 995 rfl rfl, rfl, by decide +kernel, by decide +kernel, by decide +kernel⟩
set_option maxRecDepth 100000 in
theorem vw_L_198 : VW RL 198 RX5 yX5_bestToMend cX5_bestToMend 1 (some .int) 0 := ⟨wdm 996 (by decide +kernel) rfl, wdm 997 (by decide +kernel) rfl, wdm 998 (by decide +kernel) rfl, wdm 6 (by decide +kernel) rfl, wdm 999 rfl rfl, rfl, by decide +kernel, by decide +kernel, by decide +kernel⟩
set_option maxRecDepth 100000 in
theorem vw_X5_179 : VW RX5 179 RX5 yX5_toMend cX5_toMend 5 (some .int) 0 := ⟨wdm 1000 (by decide +kernel) rfl, wdm 1002 (by decide +kernel) rfl, wds 46 (by decide +kernel) rfl, wdm 6 (by decide +kernel) rfl, wdm 1003 rfl rfl, rfl, by decide +kernel, by decide +kernel, by decide +kernel⟩
set_option maxRecDepth 100000 in
theorem vw_L_203 : VW RL 203 RX5 yX5_meanLength cX5_meanLength 3 (some .double) 0 := ⟨wdm 1004 (by decide +kernel) rfl, wdm 1005 (by decide +kernel) rfl, wdm 1006 (by decide +kernel) rfl, wdm 6 (by decide +kernel) rfl, wdm 1007 rfl rfl, rfl, by decide +kernel, by decide +kernel, by decide +kernel⟩
set_option maxRecDepth 100000 in
theorem vw_L_208 : VW RL 208 RX5 yX5_digest cX5_digest 10 (some .long) 0 := ⟨wdm 1008 (by decide +kernel) rfl, wdm 1009 (by decide +kernel) rfl, wdm 1010 (by decide +kernel) rfl, wdm 6 (by decide +kernel) rfl, wdm 1011 rfl rfl, rfl, by decide +kernel, by decide +kernel, by decide +kernel⟩
theorem wk_X5_182 : Cond.constantLong RX5 182 2153 ∈ lwA := wdm 1012 (by decide +kernel) rfl
theorem wk_X5_184 : Cond.constantLong RX5 184 31 ∈ lwA := wdm 1013 (by decide +kernel) rfl
theorem wz_X0 : Cond.initialized RX0 ∈ lwA := wdm 3 (by decide +kernel) rfl
theorem wz_X1 : Cond.initialized RX1 ∈ lwA := wdm 4 (by decide +kernel) rfl
theorem wz_X2 : Cond.initialized RX2 ∈ lwA := wdm 5 (by decide +kernel) rfl
theorem wz_X3 : Cond.initialized RX3 ∈ lwA := wdm 2 (by decide +kernel) rfl
theorem wz_X4 : Cond.initialized RX4 ∈ lwA := wdm 1 (by decide +kernel) rfl
theorem wz_X5 : Cond.initialized RX5 ∈ lwA := wdm 6 (by decide +kernel) rfl
theorem wz_L : Cond.initialized RL ∈ lwA := wdm 0 (by decide +kernel) rfl
theorem wm_max_s : Cond.static Lib.Math.max.name ∈ lwA := wdm 213 (by decide +kernel) rfl
theorem wm_max_c : Cond.code Lib.Math.max.name Lib.Math.max.code 2 (some .int) ∈ lwA := wdm 214 (by decide +kernel) rfl
theorem wm_min_s : Cond.static Lib.Math.min.name ∈ lwA := wdm 781 (by decide +kernel) rfl
theorem wm_min_c : Cond.code Lib.Math.min.name Lib.Math.min.code 2 (some .int) ∈ lwA := wdm 782 (by decide +kernel) rfl
theorem wm_i : Cond.initialized "java/lang/Math" ∈ lwA := wdm 13 (by decide +kernel) rfl
theorem wa_i : Cond.initialized "java/lang/System" ∈ lwA := wdm 14 (by decide +kernel) rfl
theorem wy_int : Cond.arrayClass .int ∈ lwA := wdm 73 (by decide +kernel) rfl
theorem wy_byte : Cond.arrayClass .byte ∈ lwA := wdm 455 (by decide +kernel) rfl
theorem wy_long : Cond.arrayClass .long ∈ lwA := wdm 1014 (by decide +kernel) rfl
theorem wa_n : Cond.native arraycopyName ∈ lwA := wdm 270 (by decide +kernel) rfl
theorem wa_s : Cond.static arraycopyName ∈ lwA := wdm 269 (by decide +kernel) rfl
theorem wo_i : Cond.instanceMethod objectInit ∈ lwA := wdm 21 (by decide +kernel) rfl
theorem wo_c : Cond.code objectInit ⟨#[0xb1]⟩ 1 none ∈ lwA := wdm 22 (by decide +kernel) rfl
set_option maxRecDepth 100000 in
theorem wq_X4_init : Cond.code yX4_init cX4_init 1 none ∈ lwA := wdm 19 rfl rfl
theorem wp_X4_init : Cond.instanceMethod yX4_init ∈ lwA := wdm 18 (by decide +kernel) rfl
set_option maxRecDepth 100000 in
theorem wq_X3_init : Cond.code yX3_init cX3_init 1 none ∈ lwA := wdm 27 rfl rfl
theorem wp_X3_init : Cond.instanceMethod yX3_init ∈ lwA := wdm 26 (by decide +kernel) rfl
set_option maxRecDepth 100000 in
theorem wq_X0_init : Cond.code yX0_init cX0_init 1 none ∈ lwA := wdm 33 rfl rfl
theorem wp_X0_init : Cond.instanceMethod yX0_init ∈ lwA := wdm 32 (by decide +kernel) rfl
set_option maxRecDepth 100000 in
theorem wq_X1_init : Cond.code yX1_init cX1_init 1 none ∈ lwA := wdm 78 rfl rfl
theorem wp_X1_init : Cond.instanceMethod yX1_init ∈ lwA := wdm 77 (by decide +kernel) rfl
set_option maxRecDepth 100000 in
theorem wq_X2_init : Cond.code yX2_init cX2_init 1 none ∈ lwA := wdm 129 rfl rfl
theorem wp_X2_init : Cond.instanceMethod yX2_init ∈ lwA := wdm 128 (by decide +kernel) rfl
set_option maxRecDepth 100000 in
theorem wq_X5_init : Cond.code yX5_init cX5_init 1 none ∈ lwA := wdm 688 rfl rfl
theorem wp_X5_init : Cond.instanceMethod yX5_init ∈ lwA := wdm 687 (by decide +kernel) rfl
end
section
/-! THE STATE. M : field → index → Int. Fields: 0 one, 1 other, 2 firstLength, 3 dye (roads), 4 wear, 5 knots, 6 closed; 7 place, 8 road, 9 end, 10 toGo, 11 goal, 12 dye (tourists), 13 began, 14 shortest, 15 took; single numbers (index 0): 16 roads, 17 tourists, 18 in, 19 crossings, 20 hour -/
abbrev MT : Type := Nat → Int → Int
def up (M : MT) (k : Nat) (i v : Int) : MT := fun k' => cond (Nat.beq k' k) (ups (M k) i v) (M k')
def upc (M : MT) (k : Nat) (v : Int) : MT := fun k' => cond (Nat.beq k' k) (fun _ => v) (M k')
theorem up_eq (M : MT) (k : Nat) (i v : Int) (k' : Nat) (j : Int) : up M k i v k' j = if k' = k ∧ j = i then v else M k' j := by
  unfold up
  by_cases h : k' = k
  · subst h
    rw [show Nat.beq k' k' = true from Nat.beq_refl k']
    show ups (M k') i v j = _
    unfold ups
    by_cases hj : j = i
    · rw [if_pos hj, if_pos ⟨rfl, hj⟩]
    · rw [if_neg hj, if_neg (fun q => hj q.2)]
  · rw [show Nat.beq k' k = false from by rw [← Bool.not_eq_true]; exact fun q => h (Nat.eq_of_beq_eq_true q), if_neg (fun q => h q.1)]
    rfl
theorem upc_eq (M : MT) (k : Nat) (v : Int) (k' : Nat) (j : Int) : upc M k v k' j = if k' = k then v else M k' j := by
  unfold upc
  by_cases h : k' = k
  · subst h
    rw [show Nat.beq k' k' = true from Nat.beq_refl k', if_pos rfl]
    rfl
  · rw [show Nat.beq k' k = false from by rw [← Bool.not_eq_true]; exact fun q => h (Nat.eq_of_beq_eq_true q), if_neg h]
    rfl
theorem In_of {z : Int} (h1 : -2147483648 ≤ z) (h2 : z < 2147483648) : In z := ⟨h1, h2⟩
/-- all numbers are small -/
def Bd (M : MT) : Prop := ∀ (k : Nat) (j : Int), -2000000 ≤ M k j ∧ M k j ≤ 2000000
theorem Bd.up {M : MT} (h : Bd M) {k : Nat} {i v : Int} (hv : -2000000 ≤ v ∧ v ≤ 2000000) : Bd (up M k i v) := by
  intro k' j
  rw [up_eq]
  split
  · exact hv
  · exact h k' j
theorem Bd.upc {M : MT} (h : Bd M) {k : Nat} {v : Int} (hv : -2000000 ≤ v ∧ v ≤ 2000000) : Bd (upc M k v) := by
  intro k' j
  rw [upc_eq]
  split
  · exact hv
  · exact h k' j
theorem lvc {j : Nat} {a b : Int} {l l' : List (Nat × Value)} (h : a = b) (h2 : l = l') : (j, Value.int (enc a)) :: l = (j, Value.int (enc b)) :: l' := by rw [h, h2]
theorem lvk {x : Nat × Value} {l l' : List (Nat × Value)} (h2 : l = l') : x :: l = x :: l' := by rw [h2]
/-! the cells of each class's object, at the addresses q 0, q 1 .. -/
abbrev arI (cy : ClassId) (N : Nat) (f : Int → Int) : va_E := .inl (cy, N, .inl (ea f))
def wR (cy : ClassId) (q : Nat → Nat) (M : MT) : va_W := [(q 0, .inr (0, [.ref (q 1), .ref (q 2), .ref (q 3), .ref (q 4), .ref (q 5), .ref (q 6), .ref (q 7), .int (enc (M 16 0))])), (q 1, arI cy 20 (M 0)), (q 2, arI cy 20 (M 1)), (q 3, arI cy 20 (M 2)), (q 4, arI cy 20 (M 3)), (q 5, arI cy 20 (M 4)), (q 6, arI cy 20 (M 5)), (q 7, arI cy 20 (M 6))]
def wT (cy : ClassId) (q : Nat → Nat) (M : MT) : va_W := [(q 0, .inr (1, [.ref (q 1), .ref (q 2), .ref (q 3), .ref (q 4), .ref (q 5), .ref (q 6), .ref (q 7), .ref (q 8), .ref (q 9), .int (enc (M 17 0)), .int (enc (M 18 0))])), (q 1, arI cy 12 (M 7)), (q 2, arI cy 12 (M 8)), (q 3, arI cy 12 (M 9)), (q 4, arI cy 12 (M 10)), (q 5, arI cy 12 (M 11)), (q 6, arI cy 12 (M 12)), (q 7, arI cy 12 (M 13)), (q 8, arI cy 12 (M 14)), (q 9, arI cy 12 (M 15))]
def wY (cy : ClassId) (q : Nat → Nat) (s : Int → Int) : va_W := [(q 0, .inr (2, [.ref (q 1)])), (q 1, arI cy 100 s)]
def wV (cy : ClassId) (q : Nat → Nat) (M : MT) (s : Int → Int) (o : Int) : va_W := [(q 0, .inr (3, [.ref (q 1), .ref (q 9), .ref (q 19), .int (enc (M 19 0)), .int (enc (M 20 0)), .int (enc o)]))] ++ (wR cy (fun i => q (1 + i)) M ++ (wT cy (fun i => q (9 + i)) M ++ wY cy (fun i => q (19 + i)) s))
def wD (cy : ClassId) (q : Nat → Nat) (N : MT) (sN : Int → Int) (oN : Int) (U : MT) (sU : Int → Int) (oU : Int) (A : Int → Int) : va_W := [(q 0, .inr (4, [.ref (q 1), .ref (q 22), .ref (q 43)]))] ++ (wV cy (fun i => q (1 + i)) N sN oN ++ (wV cy (fun i => q (22 + i)) U sU oU ++ wY cy (fun i => q (43 + i)) A))
/-- what the model's row 'now' holds -/
def pack (M : MT) (j : Int) : Int := if j < 1 then M 20 0 else if j < 61 then (if (j - 1) % 3 = 0 then M 6 ((j - 1) / 3) else if (j - 1) % 3 = 1 then M 4 ((j - 1) / 3) else M 5 ((j - 1) / 3)) else if (j - 61) % 6 = 0 then M 7 ((j - 61) / 6) else if (j - 61) % 6 = 1 then M 8 ((j - 61) / 6) else if (j - 61) % 6 = 2 then M 10 ((j - 61) / 6) else if (j - 61) % 6 = 3 then M 12 ((j - 61) / 6) else if (j - 61) % 6 = 4 then (if M 15 ((j - 61) / 6) < 0 then -1 else M 13 ((j - 61) / 6) + M 15 ((j - 61) / 6)) else M 9 ((j - 61) / 6)
/-- the model: static parts of M, its changing row w, th: thrown, kept, far -/
def wM (cy : ClassId) (q : Nat → Nat) (M : MT) (w : Int → Int) (th : Int) (kept far : Int → Int) : va_W := [(q 0, .inr (5, [.int (enc th), .int (enc (M 19 0)), .int (enc (M 16 0)), .int (enc (M 17 0)), .ref (q 1), .ref (q 2), .ref (q 3), .ref (q 4), .ref (q 5), .ref (q 6), .ref (q 7), .ref (q 8), .ref (q 9), .ref (q 10)])), (q 1, arI cy 20 (M 0)), (q 2, arI cy 20 (M 1)), (q 3, arI cy 20 (M 2)), (q 4, arI cy 20 (M 3)), (q 5, arI cy 12 (M 11)), (q 6, arI cy 12 (M 13)), (q 7, arI cy 12 (M 14)), (q 8, arI cy 133 w), (q 9, arI cy 133 kept), (q 10, arI cy 10 far)]
theorem b01 {p : Prop} [Decidable p] : (if p then (1 : Int) else 0) = 0 ↔ ¬ p := by
  by_cases h : p
  · rw [if_pos h]; exact ⟨fun q => absurd q (by decide), fun q => absurd h q⟩
  · rw [if_neg h]; exact ⟨fun _ => h, fun _ => rfl⟩
theorem b01n {p : Prop} [Decidable p] : (if p then (1 : Int) else 0) ≠ 0 ↔ p := by
  by_cases h : p
  · rw [if_pos h]; exact ⟨fun _ => h, fun _ => by decide⟩
  · rw [if_neg h]; exact ⟨fun q => absurd rfl q, fun q => absurd q h⟩
theorem In_b {p : Prop} [Decidable p] : In (if p then (1 : Int) else 0) := by
  split <;> exact ⟨by decide, by decide⟩
theorem nar_b {p : Prop} [Decidable p] : narrow .boolean (.int (enc (if p then (1 : Int) else 0))) = .int (enc (if p then (1 : Int) else 0)) := by
  split <;> rfl
end
section
/-! ROADS -/
def len (M : MT) (r : Int) : Int := M 2 r + M 5 r
def endF (M : MT) (r c : Int) : Int := if M 0 r = c then M 1 r else if M 1 r = c then M 0 r else -1
def cntC (M : MT) : Nat → Int
  | 0 => 0
  | i + 1 => cntC M i + (if 0 < M 6 i then 1 else 0)
theorem cntC_s (M : MT) (i : Nat) : cntC M (i + 1) = cntC M i + (if 0 < M 6 i then 1 else 0) := rfl
def mostW (M : MT) : Nat → Int × Int
  | 0 => (-1, -1)
  | i + 1 => if M 6 i = 0 ∧ (mostW M i).2 < M 4 i then ((i : Int), M 4 i) else mostW M i
theorem mostW_bd {M : MT} (hB : Bd M) (i : Nat) : -1 ≤ (mostW M i).2 ∧ (mostW M i).2 ≤ 2000000 := by
  induction i with
  | zero => exact ⟨by show (-1 : Int) ≤ -1; decide, by show (-1 : Int) ≤ 2000000; decide⟩
  | succ i ih =>
    have := hB 4 i
    unfold mostW
    split
    · exact ⟨by omega, by omega⟩
    · exact ih
theorem mostW_y {M : MT} {i : Nat} (h1 : M 6 i = 0) (h2 : (mostW M i).2 < M 4 i) : mostW M (i + 1) = ((i : Int), M 4 i) := if_pos ⟨h1, h2⟩
theorem mostW_n {M : MT} {i : Nat} (h : M 6 i ≠ 0 ∨ M 4 i ≤ (mostW M i).2) : mostW M (i + 1) = mostW M i := if_neg (fun q => by omega)
theorem i_succ (i : Nat) : (i : Int) + 1 = ((i + 1 : Nat) : Int) := rfl
/-- a new road -/
def putR (M : MT) (a b l d : Int) : MT := upc (up (up (up (up M 0 (M 16 0) a) 1 (M 16 0) b) 2 (M 16 0) l) 3 (M 16 0) d) 16 (M 16 0 + 1)
/-- a road opens again -/
def reop (M : MT) (r : Int) : MT := if M 5 r < 3 then up (up M 4 r 0) 5 r (M 5 r + 1) else up M 4 r 0
set_option maxRecDepth 100000 in
set_option maxHeartbeats 4000000 in
theorem m_X0_lengthNow {G : va_G} {cy : ClassId} {q : Nat → Nat} (M : MT) (r : Int) (hr : 0 ≤ r ∧ r < 20) : Ct G cy yX0_lengthNow cX0_lengthNow 2 (some .int) ({ frames := 0, cells := 0, slots := 0, locals := 0 } : Room) 0 0 [.ref (q 0), .int (enc (r))] (wR cy q M) (fun v w1 => v = some (.int (enc (len M r))) ∧ w1 = wR cy q M) := by
  refine Ct.ofI (by decide) (Nat.le_of_ble_eq_true rfl) rfl rfl (fun _ _ _ => rfl) ?_
  intro c X ret
  refine Tlv (lv' := [(0, .ref (q 0)), (1, .int (enc (r)))]) rfl ?_
  refine tw_aload_n X dX0_lengthNow_0 0 rfl rfl ?_
  refine gf_X0_18 X (v := .ref (q 3)) 0 rfl rfl dX0_lengthNow_1 ?_
  refine tw_iload_n X dX0_lengthNow_4 1 rfl rfl ?_
  refine tw_iald X (N := 20) (f := (M 2)) 3 rfl (by decide) (by omega) dX0_lengthNow_5 ?_
  refine Tst (st' := [.int (enc (M 2 r))]) rfl ?_
  refine tw_aload_n X dX0_lengthNow_6 0 rfl rfl ?_
  refine gf_X0_27 X (v := .ref (q 6)) 0 rfl rfl dX0_lengthNow_7 ?_
  refine tw_iload_n X dX0_lengthNow_10 1 rfl rfl ?_
  refine tw_iald X (N := 20) (f := (M 5)) 6 rfl (by decide) (by omega) dX0_lengthNow_11 ?_
  refine Tst (st' := [.int (enc (M 5 r)), .int (enc (M 2 r))]) rfl ?_
  refine tw_iadd (z := (M 2 r) + (M 5 r)) X dX0_lengthNow_12 rfl ?_
  exact ret _ _ _ _ dX0_lengthNow_13 ⟨rfl, rfl⟩
set_option maxRecDepth 100000 in
set_option maxHeartbeats 4000000 in
theorem m_X0_endFrom {G : va_G} {cy : ClassId} {q : Nat → Nat} (M : MT) (r c1 : Int) (hB : Bd M) (hr : 0 ≤ r ∧ r < 20) (hc : -10 ≤ c1 ∧ c1 ≤ 20) : Ct G cy yX0_endFrom cX0_endFrom 3 (some .int) ({ frames := 0, cells := 0, slots := 0, locals := 0 } : Room) 0 0 [.ref (q 0), .int (enc (r)), .int (enc (c1))] (wR cy q M) (fun v w1 => v = some (.int (enc (endF M r c1))) ∧ w1 = wR cy q M) := by
  refine Ct.ofI (by decide) (Nat.le_of_ble_eq_true rfl) rfl rfl (fun _ _ _ => rfl) ?_
  intro c X ret
  refine Tlv (lv' := [(0, .ref (q 0)), (1, .int (enc (r))), (2, .int (enc (c1)))]) rfl ?_
  refine tw_aload_n X dX0_endFrom_0 0 rfl rfl ?_
  refine gf_X0_9 X (v := .ref (q 1)) 0 rfl rfl dX0_endFrom_1 ?_
  refine tw_iload_n X dX0_endFrom_4 1 rfl rfl ?_
  refine tw_iald X (N := 20) (f := (M 0)) 1 rfl (by decide) (by omega) dX0_endFrom_5 ?_
  refine Tst (st' := [.int (enc (M 0 r))]) rfl ?_
  have b1 := hB 0 r
  refine tw_iload_n X dX0_endFrom_6 2 rfl rfl ?_
  refine tw_icmp_ne (tgt := 17) X (In_of (by omega) (by omega)) (In_of (by omega) (by omega)) dX0_endFrom_7 (by decide) (fun c7 => ?_) (fun c7 => ?_)
  · skip
    refine tw_aload_n X dX0_endFrom_17 0 rfl rfl ?_
    refine gf_X0_15 X (v := .ref (q 2)) 0 rfl rfl dX0_endFrom_18 ?_
    refine tw_iload_n X dX0_endFrom_21 1 rfl rfl ?_
    refine tw_iald X (N := 20) (f := (M 1)) 2 rfl (by decide) (by omega) dX0_endFrom_22 ?_
    refine Tst (st' := [.int (enc (M 1 r))]) rfl ?_
    have b2 := hB 1 r
    refine tw_iload_n X dX0_endFrom_23 2 rfl rfl ?_
    refine tw_icmp_ne (tgt := 34) X (In_of (by omega) (by omega)) (In_of (by omega) (by omega)) dX0_endFrom_24 (by decide) (fun c24 => ?_) (fun c24 => ?_)
    · skip
      refine tw_iconst X dX0_endFrom_34 ?_
      exact ret _ _ _ _ dX0_endFrom_35 ⟨by unfold endF; rw [if_neg c7, if_neg c24], rfl⟩
    · skip
      refine tw_aload_n X dX0_endFrom_27 0 rfl rfl ?_
      refine gf_X0_9 X (v := .ref (q 1)) 0 rfl rfl dX0_endFrom_28 ?_
      refine tw_iload_n X dX0_endFrom_31 1 rfl rfl ?_
      refine tw_iald X (N := 20) (f := (M 0)) 1 rfl (by decide) (by omega) dX0_endFrom_32 ?_
      refine Tst (st' := [.int (enc (M 0 r))]) rfl ?_
      have b3 := hB 0 r
      exact ret _ _ _ _ dX0_endFrom_33 ⟨by unfold endF; rw [if_neg c7, if_pos c24], rfl⟩
  · skip
    refine tw_aload_n X dX0_endFrom_10 0 rfl rfl ?_
    refine gf_X0_15 X (v := .ref (q 2)) 0 rfl rfl dX0_endFrom_11 ?_
    refine tw_iload_n X dX0_endFrom_14 1 rfl rfl ?_
    refine tw_iald X (N := 20) (f := (M 1)) 2 rfl (by decide) (by omega) dX0_endFrom_15 ?_
    refine Tst (st' := [.int (enc (M 1 r))]) rfl ?_
    have b4 := hB 1 r
    exact ret _ _ _ _ dX0_endFrom_16 ⟨by unfold endF; rw [if_pos c7], rfl⟩
set_option maxRecDepth 100000 in
set_option maxHeartbeats 4000000 in
theorem m_X0_reopen {G : va_G} {cy : ClassId} {q : Nat → Nat} (M : MT) (r : Int) (hB : Bd M) (hr : 0 ≤ r ∧ r < 20) : Ct G cy yX0_reopen cX0_reopen 2 none ({ frames := 0, cells := 0, slots := 0, locals := 0 } : Room) 0 0 [.ref (q 0), .int (enc (r))] (wR cy q M) (fun v w1 => v = none ∧ w1 = wR cy q (reop M r)) := by
  refine Ct.ofV (by decide) (Nat.le_of_ble_eq_true rfl) rfl rfl ?_
  intro c X ret
  refine Tlv (lv' := [(0, .ref (q 0)), (1, .int (enc (r)))]) rfl ?_
  refine tw_aload_n X dX0_reopen_0 0 rfl rfl ?_
  refine gf_X0_24 X (v := .ref (q 5)) 0 rfl rfl dX0_reopen_1 ?_
  refine tw_iload_n X dX0_reopen_4 1 rfl rfl ?_
  refine tw_iconst X dX0_reopen_5 ?_
  refine tw_iast X (N := 20) (f := (M 4)) (ws' := wR cy q (up M 4 (r) (0))) 5 rfl (by decide) (by omega) dX0_reopen_6 rfl ?_
  refine tw_aload_n X dX0_reopen_7 0 rfl rfl ?_
  refine gf_X0_27 X (v := .ref (q 6)) 0 rfl rfl dX0_reopen_8 ?_
  refine tw_iload_n X dX0_reopen_11 1 rfl rfl ?_
  refine tw_iald X (N := 20) (f := (M 5)) 6 rfl (by decide) (by omega) dX0_reopen_12 ?_
  refine Tst (st' := [.int (enc (M 5 r))]) rfl ?_
  have b1 := hB 5 r
  refine tw_iconst X dX0_reopen_13 ?_
  refine tw_icmp_ge (tgt := 27) X (In_of (by omega) (by omega)) (In_of (by omega) (by omega)) dX0_reopen_14 (by decide) (fun c14 => ?_) (fun c14 => ?_)
  · skip
    exact ret _ _ _ dX0_reopen_27 ⟨rfl, by unfold reop; first | rw [if_pos c14] | rw [if_neg (Int.not_lt.mpr c14)]⟩
  · skip
    refine tw_aload_n X dX0_reopen_17 0 rfl rfl ?_
    refine gf_X0_27 X (v := .ref (q 6)) 0 rfl rfl dX0_reopen_18 ?_
    refine tw_iload_n X dX0_reopen_21 1 rfl rfl ?_
    refine tw_dup2 X dX0_reopen_22 rfl rfl ?_
    refine tw_iald X (N := 20) (f := (M 5)) 6 rfl (by decide) (by omega) dX0_reopen_23 ?_
    refine Tst (st' := [.int (enc (M 5 r)), .int (enc (r)), .ref (q 6)]) rfl ?_
    have b2 := hB 5 r
    refine tw_iconst X dX0_reopen_24 ?_
    refine tw_iadd (z := (M 5 r) + 1) X dX0_reopen_25 rfl ?_
    refine tw_iast X (N := 20) (f := (M 5)) (ws' := wR cy q (up (up M 4 (r) (0)) 5 (r) ((M 5 r) + 1))) 6 rfl (by decide) (by omega) dX0_reopen_26 rfl ?_
    exact ret _ _ _ dX0_reopen_27 ⟨rfl, by unfold reop; first | rw [if_pos c14] | rw [if_neg (Int.not_lt.mpr c14)]⟩
set_option maxRecDepth 100000 in
set_option maxHeartbeats 4000000 in
theorem m_X0_put {G : va_G} {cy : ClassId} {q : Nat → Nat} (M : MT) (a b l d : Int) (h : 0 ≤ M 16 0 ∧ M 16 0 < 20) : Ct G cy yX0_put cX0_put 6 (some .int) ({ frames := 0, cells := 0, slots := 0, locals := 0 } : Room) 0 0 [.ref (q 0), .int (enc (a)), .int (enc (b)), .int (enc (l)), .int (enc (d))] (wR cy q M) (fun v w1 => v = some (.int (enc (M 16 0))) ∧ w1 = wR cy q (putR M a b l d)) := by
  refine Ct.ofI (by decide) (Nat.le_of_ble_eq_true rfl) rfl rfl (fun _ _ _ => rfl) ?_
  intro c X ret
  refine Tlv (lv' := [(0, .ref (q 0)), (1, .int (enc (a))), (2, .int (enc (b))), (3, .int (enc (l))), (4, .int (enc (d)))]) rfl ?_
  refine tw_aload_n X dX0_put_0 0 rfl rfl ?_
  refine gf_X0_39 X (v := .int (enc (M 16 0))) 0 rfl rfl dX0_put_1 ?_
  refine tw_istore (lv' := [(5, .int (enc (M 16 0))), (0, .ref (q 0)), (1, .int (enc (a))), (2, .int (enc (b))), (3, .int (enc (l))), (4, .int (enc (d)))]) X dX0_put_4 (by decide) rfl ?_
  refine tw_aload_n X dX0_put_6 1 rfl rfl ?_
  refine gf_X0_9 X (v := .ref (q 1)) 0 rfl rfl dX0_put_7 ?_
  refine tw_iload X dX0_put_10 0 rfl ?_
  refine tw_iload_n X dX0_put_12 2 rfl rfl ?_
  refine tw_iast X (N := 20) (f := (M 0)) (ws' := wR cy q (up M 0 (M 16 0) (a))) 1 rfl (by decide) (by omega) dX0_put_13 rfl ?_
  refine tw_aload_n X dX0_put_14 1 rfl rfl ?_
  refine gf_X0_15 X (v := .ref (q 2)) 0 rfl rfl dX0_put_15 ?_
  refine tw_iload X dX0_put_18 0 rfl ?_
  refine tw_iload_n X dX0_put_20 3 rfl rfl ?_
  refine tw_iast X (N := 20) (f := (M 1)) (ws' := wR cy q (up (up M 0 (M 16 0) (a)) 1 (M 16 0) (b))) 2 rfl (by decide) (by omega) dX0_put_21 rfl ?_
  refine tw_aload_n X dX0_put_22 1 rfl rfl ?_
  refine gf_X0_18 X (v := .ref (q 3)) 0 rfl rfl dX0_put_23 ?_
  refine tw_iload X dX0_put_26 0 rfl ?_
  refine tw_iload_n X dX0_put_28 4 rfl rfl ?_
  refine tw_iast X (N := 20) (f := (M 2)) (ws' := wR cy q (up (up (up M 0 (M 16 0) (a)) 1 (M 16 0) (b)) 2 (M 16 0) (l))) 3 rfl (by decide) (by omega) dX0_put_29 rfl ?_
  refine tw_aload_n X dX0_put_30 1 rfl rfl ?_
  refine gf_X0_21 X (v := .ref (q 4)) 0 rfl rfl dX0_put_31 ?_
  refine tw_iload X dX0_put_34 0 rfl ?_
  refine tw_iload X dX0_put_36 5 rfl ?_
  refine tw_iast X (N := 20) (f := (M 3)) (ws' := wR cy q (up (up (up (up M 0 (M 16 0) (a)) 1 (M 16 0) (b)) 2 (M 16 0) (l)) 3 (M 16 0) (d))) 4 rfl (by decide) (by omega) dX0_put_38 rfl ?_
  refine tw_aload_n X dX0_put_39 1 rfl rfl ?_
  refine tw_dup X dX0_put_40 rfl ?_
  refine gf_X0_39 X (v := .int (enc (M 16 0))) 0 rfl rfl dX0_put_41 ?_
  refine tw_iconst X dX0_put_44 ?_
  refine tw_iadd (z := (M 16 0) + 1) X dX0_put_45 rfl ?_
  refine pf_X0_39 X (ws' := wR cy q (upc (up (up (up (up M 0 (M 16 0) (a)) 1 (M 16 0) (b)) 2 (M 16 0) (l)) 3 (M 16 0) (d)) 16 ((M 16 0) + 1))) 0 rfl (Nat.le_of_ble_eq_true rfl) rfl rfl dX0_put_46 rfl ?_
  refine tw_iload X dX0_put_49 0 rfl ?_
  exact ret _ _ _ _ dX0_put_51 ⟨rfl, rfl⟩
set_option maxRecDepth 100000 in
set_option maxHeartbeats 4000000 in
theorem m_X0_countClosed {G : va_G} {cy : ClassId} {q : Nat → Nat} (M : MT) (hB : Bd M) (h : 0 ≤ M 16 0 ∧ M 16 0 ≤ 20) : Ct G cy yX0_countClosed cX0_countClosed 3 (some .int) ({ frames := 0, cells := 0, slots := 0, locals := 0 } : Room) 0 0 [.ref (q 0)] (wR cy q M) (fun v w1 => v = some (.int (enc (cntC M (M 16 0).toNat))) ∧ w1 = wR cy q M) := by
  refine Ct.ofI (by decide) (Nat.le_of_ble_eq_true rfl) rfl rfl (fun _ _ _ => rfl) ?_
  intro c X ret
  refine Tlv (lv' := [(0, .ref (q 0))]) rfl ?_
  refine tw_iconst X dX0_countClosed_0 ?_
  refine tw_istore_n (lv' := [(1, .int (enc (0))), (0, .ref (q 0))]) X dX0_countClosed_1 rfl (by decide) rfl ?_
  refine tw_iconst X dX0_countClosed_2 ?_
  refine tw_istore_n (lv' := [(2, .int (enc (0))), (1, .int (enc (0))), (0, .ref (q 0))]) X dX0_countClosed_3 rfl (by decide) rfl ?_
  have L4 : ∀ (fu i : Nat), (i : Int) ≤ M 16 0 → M 16 0 + 1 ≤ (i : Int) + fu → T G c ({ frames := 0, cells := 0, slots := 0, locals := 0 } : Room) 3 0 0 (wR cy q M) 4 [(0, .ref (q 0)), (1, .int (enc (cntC M i))), (2, .int (enc ((i : Int))))] [] := by
    intro fu
    induction fu with
    | zero =>
      intro i  hi0 hi1
      exact absurd hi1 (by omega)
    | succ fu ih4 =>
      intro i  hi0_4 hi1_4 
      refine tw_iload_n X dX0_countClosed_4 2 rfl rfl ?_
      refine tw_aload_n X dX0_countClosed_5 0 rfl rfl ?_
      refine gf_X0_39 X (v := .int (enc (M 16 0))) 0 rfl rfl dX0_countClosed_6 ?_
      have b1 := hB 16 0
      refine tw_icmp_ge (tgt := 30) X (In_of (by omega) (by omega)) (In_of (by omega) (by omega)) dX0_countClosed_9 (by decide) (fun c9 => ?_) (fun c9 => ?_)
      · skip
        refine tw_iload_n X dX0_countClosed_30 1 rfl rfl ?_
        exact ret _ _ _ _ dX0_countClosed_31 ⟨by rw [show (M 16 0).toNat = i by omega], rfl⟩
      · skip
        refine tw_aload_n X dX0_countClosed_12 0 rfl rfl ?_
        refine gf_X0_30 X (v := .ref (q 7)) 0 rfl rfl dX0_countClosed_13 ?_
        refine tw_iload_n X dX0_countClosed_16 2 rfl rfl ?_
        refine tw_iald X (N := 20) (f := (M 6)) 7 rfl (by decide) (by omega) dX0_countClosed_17 ?_
        refine Tst (st' := [.int (enc (M 6 (i : Int)))]) rfl ?_
        have b2 := hB 6 (i : Int)
        refine tw_if_le (tgt := 24) X (In_of (by omega) (by omega)) dX0_countClosed_18 (by decide) (fun c18 => ?_) (fun c18 => ?_)
        · skip
          refine tw_iinc (q := 2) (x := (i : Int)) (y := (i : Int) + 1) (lv' := [(2, .int (enc ((i : Int) + 1))), (0, .ref (q 0)), (1, .int (enc (cntC M i)))]) X dX0_countClosed_24 rfl rfl (by decide) rfl ?_
          refine tw_goto (tgt := 4) X dX0_countClosed_27 (by decide) ?_
          refine Tsub (lv' := [(0, .ref (q 0)), (1, .int (enc (cntC M i))), (2, .int (enc ((i : Int) + 1)))]) [1, 2, 0] rfl ?_
          refine Teq (ws' := wR cy q M) (lv' := [(0, .ref (q 0)), (1, .int (enc (cntC M (i + 1)))), (2, .int (enc (((i + 1 : Nat) : Int))))]) (st' := []) (rfl) (lvk (lvc (by rw [cntC_s]; first | rw [if_pos (by omega)] | (rw [if_neg (by omega)]; omega)) (lvc (i_succ i) (rfl)))) rfl (ih4 (i + 1) (by omega) (by omega))
        · skip
          refine tw_iinc (q := 1) (x := cntC M i) (y := cntC M i + 1) (lv' := [(1, .int (enc (cntC M i + 1))), (0, .ref (q 0)), (2, .int (enc ((i : Int))))]) X dX0_countClosed_21 rfl rfl (by decide) rfl ?_
          refine tw_iinc (q := 2) (x := (i : Int)) (y := (i : Int) + 1) (lv' := [(2, .int (enc ((i : Int) + 1))), (1, .int (enc (cntC M i + 1))), (0, .ref (q 0))]) X dX0_countClosed_24 rfl rfl (by decide) rfl ?_
          refine tw_goto (tgt := 4) X dX0_countClosed_27 (by decide) ?_
          refine Tsub (lv' := [(0, .ref (q 0)), (1, .int (enc (cntC M i + 1))), (2, .int (enc ((i : Int) + 1)))]) [2, 1, 0] rfl ?_
          refine Teq (ws' := wR cy q M) (lv' := [(0, .ref (q 0)), (1, .int (enc (cntC M (i + 1)))), (2, .int (enc (((i + 1 : Nat) : Int))))]) (st' := []) (rfl) (lvk (lvc (by rw [cntC_s]; first | rw [if_pos (by omega)] | (rw [if_neg (by omega)]; omega)) (lvc (i_succ i) (rfl)))) rfl (ih4 (i + 1) (by omega) (by omega))
  refine Tsub (lv' := [(0, .ref (q 0)), (1, .int (enc (0))), (2, .int (enc (0)))]) [2, 1, 0] rfl ?_
  refine Teq (ws' := wR cy q M) (lv' := [(0, .ref (q 0)), (1, .int (enc (cntC M 0))), (2, .int (enc (((0 : Nat) : Int))))]) (st' := []) (rfl) (rfl) rfl (L4 (M 16 0 + 1).toNat 0 (by omega) (by omega))
set_option maxRecDepth 100000 in
set_option maxHeartbeats 4000000 in
theorem m_X0_openWithMostWear {G : va_G} {cy : ClassId} {q : Nat → Nat} (M : MT) (hB : Bd M) (h : 0 ≤ M 16 0 ∧ M 16 0 ≤ 20) : Ct G cy yX0_openWithMostWear cX0_openWithMostWear 4 (some .int) ({ frames := 0, cells := 0, slots := 0, locals := 0 } : Room) 0 0 [.ref (q 0)] (wR cy q M) (fun v w1 => v = some (.int (enc (mostW M (M 16 0).toNat).1)) ∧ w1 = wR cy q M) := by
  refine Ct.ofI (by decide) (Nat.le_of_ble_eq_true rfl) rfl rfl (fun _ _ _ => rfl) ?_
  intro c X ret
  refine Tlv (lv' := [(0, .ref (q 0))]) rfl ?_
  refine tw_iconst X dX0_openWithMostWear_0 ?_
  refine tw_istore_n (lv' := [(1, .int (enc (-1))), (0, .ref (q 0))]) X dX0_openWithMostWear_1 rfl (by decide) rfl ?_
  refine tw_iconst X dX0_openWithMostWear_2 ?_
  refine tw_istore_n (lv' := [(2, .int (enc (-1))), (1, .int (enc (-1))), (0, .ref (q 0))]) X dX0_openWithMostWear_3 rfl (by decide) rfl ?_
  refine tw_iconst X dX0_openWithMostWear_4 ?_
  refine tw_istore_n (lv' := [(3, .int (enc (0))), (2, .int (enc (-1))), (1, .int (enc (-1))), (0, .ref (q 0))]) X dX0_openWithMostWear_5 rfl (by decide) rfl ?_
  have L6 : ∀ (fu i : Nat), (i : Int) ≤ M 16 0 → M 16 0 + 1 ≤ (i : Int) + fu → T G c ({ frames := 0, cells := 0, slots := 0, locals := 0 } : Room) 4 0 0 (wR cy q M) 6 [(0, .ref (q 0)), (1, .int (enc ((mostW M i).1))), (2, .int (enc ((mostW M i).2))), (3, .int (enc ((i : Int))))] [] := by
    intro fu
    induction fu with
    | zero =>
      intro i  hi0 hi1
      exact absurd hi1 (by omega)
    | succ fu ih6 =>
      intro i  hi0_6 hi1_6 
      refine tw_iload_n X dX0_openWithMostWear_6 3 rfl rfl ?_
      refine tw_aload_n X dX0_openWithMostWear_7 0 rfl rfl ?_
      refine gf_X0_39 X (v := .int (enc (M 16 0))) 0 rfl rfl dX0_openWithMostWear_8 ?_
      have b1 := hB 16 0
      refine tw_icmp_ge (tgt := 48) X (In_of (by omega) (by omega)) (In_of (by omega) (by omega)) dX0_openWithMostWear_11 (by decide) (fun c11 => ?_) (fun c11 => ?_)
      · skip
        refine tw_iload_n X dX0_openWithMostWear_48 1 rfl rfl ?_
        exact ret _ _ _ _ dX0_openWithMostWear_49 ⟨by rw [show (M 16 0).toNat = i by omega], rfl⟩
      · skip
        refine tw_aload_n X dX0_openWithMostWear_14 0 rfl rfl ?_
        refine gf_X0_30 X (v := .ref (q 7)) 0 rfl rfl dX0_openWithMostWear_15 ?_
        refine tw_iload_n X dX0_openWithMostWear_18 3 rfl rfl ?_
        refine tw_iald X (N := 20) (f := (M 6)) 7 rfl (by decide) (by omega) dX0_openWithMostWear_19 ?_
        refine Tst (st' := [.int (enc (M 6 (i : Int)))]) rfl ?_
        have b2 := hB 6 (i : Int)
        refine tw_if_ne (tgt := 42) X (In_of (by omega) (by omega)) dX0_openWithMostWear_20 (by decide) (fun c20 => ?_) (fun c20 => ?_)
        · skip
          refine tw_iinc (q := 3) (x := (i : Int)) (y := (i : Int) + 1) (lv' := [(3, .int (enc ((i : Int) + 1))), (0, .ref (q 0)), (1, .int (enc ((mostW M i).1))), (2, .int (enc ((mostW M i).2)))]) X dX0_openWithMostWear_42 rfl rfl (by decide) rfl ?_
          refine tw_goto (tgt := 6) X dX0_openWithMostWear_45 (by decide) ?_
          refine Tsub (lv' := [(0, .ref (q 0)), (1, .int (enc ((mostW M i).1))), (2, .int (enc ((mostW M i).2))), (3, .int (enc ((i : Int) + 1)))]) [1, 2, 3, 0] rfl ?_
          refine Teq (ws' := wR cy q M) (lv' := [(0, .ref (q 0)), (1, .int (enc ((mostW M (i + 1)).1))), (2, .int (enc ((mostW M (i + 1)).2))), (3, .int (enc (((i + 1 : Nat) : Int))))]) (st' := []) (rfl) (lvk (lvc (by first | rw [mostW_y c20 c30] | rw [mostW_n (by omega)]) (lvc (by first | rw [mostW_y c20 c30] | rw [mostW_n (by omega)]) (lvc (i_succ i) (rfl))))) rfl (ih6 (i + 1) (by omega) (by omega))
        · skip
          refine tw_aload_n X dX0_openWithMostWear_23 0 rfl rfl ?_
          refine gf_X0_24 X (v := .ref (q 5)) 0 rfl rfl dX0_openWithMostWear_24 ?_
          refine tw_iload_n X dX0_openWithMostWear_27 3 rfl rfl ?_
          have bm := mostW_bd hB i
          refine tw_iald X (N := 20) (f := (M 4)) 5 rfl (by decide) (by omega) dX0_openWithMostWear_28 ?_
          refine Tst (st' := [.int (enc (M 4 (i : Int)))]) rfl ?_
          have b3 := hB 4 (i : Int)
          refine tw_iload_n X dX0_openWithMostWear_29 2 rfl rfl ?_
          refine tw_icmp_le (tgt := 42) X (In_of (by omega) (by omega)) (In_of (by omega) (by omega)) dX0_openWithMostWear_30 (by decide) (fun c30 => ?_) (fun c30 => ?_)
          · skip
            refine tw_iinc (q := 3) (x := (i : Int)) (y := (i : Int) + 1) (lv' := [(3, .int (enc ((i : Int) + 1))), (0, .ref (q 0)), (1, .int (enc ((mostW M i).1))), (2, .int (enc ((mostW M i).2)))]) X dX0_openWithMostWear_42 rfl rfl (by decide) rfl ?_
            refine tw_goto (tgt := 6) X dX0_openWithMostWear_45 (by decide) ?_
            refine Tsub (lv' := [(0, .ref (q 0)), (1, .int (enc ((mostW M i).1))), (2, .int (enc ((mostW M i).2))), (3, .int (enc ((i : Int) + 1)))]) [1, 2, 3, 0] rfl ?_
            refine Teq (ws' := wR cy q M) (lv' := [(0, .ref (q 0)), (1, .int (enc ((mostW M (i + 1)).1))), (2, .int (enc ((mostW M (i + 1)).2))), (3, .int (enc (((i + 1 : Nat) : Int))))]) (st' := []) (rfl) (lvk (lvc (by first | rw [mostW_y c20 c30] | rw [mostW_n (by omega)]) (lvc (by first | rw [mostW_y c20 c30] | rw [mostW_n (by omega)]) (lvc (i_succ i) (rfl))))) rfl (ih6 (i + 1) (by omega) (by omega))
          · skip
            refine tw_aload_n X dX0_openWithMostWear_33 0 rfl rfl ?_
            refine gf_X0_24 X (v := .ref (q 5)) 0 rfl rfl dX0_openWithMostWear_34 ?_
            refine tw_iload_n X dX0_openWithMostWear_37 3 rfl rfl ?_
            refine tw_iald X (N := 20) (f := (M 4)) 5 rfl (by decide) (by omega) dX0_openWithMostWear_38 ?_
            refine Tst (st' := [.int (enc (M 4 (i : Int)))]) rfl ?_
            have b4 := hB 4 (i : Int)
            refine tw_istore_n (lv' := [(2, .int (enc (M 4 (i : Int)))), (0, .ref (q 0)), (1, .int (enc ((mostW M i).1))), (3, .int (enc ((i : Int))))]) X dX0_openWithMostWear_39 rfl (by decide) rfl ?_
            refine tw_iload_n X dX0_openWithMostWear_40 3 rfl rfl ?_
            refine tw_istore_n (lv' := [(1, .int (enc ((i : Int)))), (2, .int (enc (M 4 (i : Int)))), (0, .ref (q 0)), (3, .int (enc ((i : Int))))]) X dX0_openWithMostWear_41 rfl (by decide) rfl ?_
            refine tw_iinc (q := 3) (x := (i : Int)) (y := (i : Int) + 1) (lv' := [(3, .int (enc ((i : Int) + 1))), (1, .int (enc ((i : Int)))), (2, .int (enc (M 4 (i : Int)))), (0, .ref (q 0))]) X dX0_openWithMostWear_42 rfl rfl (by decide) rfl ?_
            refine tw_goto (tgt := 6) X dX0_openWithMostWear_45 (by decide) ?_
            refine Tsub (lv' := [(0, .ref (q 0)), (1, .int (enc ((i : Int)))), (2, .int (enc (M 4 (i : Int)))), (3, .int (enc ((i : Int) + 1)))]) [3, 1, 2, 0] rfl ?_
            refine Teq (ws' := wR cy q M) (lv' := [(0, .ref (q 0)), (1, .int (enc ((mostW M (i + 1)).1))), (2, .int (enc ((mostW M (i + 1)).2))), (3, .int (enc (((i + 1 : Nat) : Int))))]) (st' := []) (rfl) (lvk (lvc (by first | rw [mostW_y c20 c30] | rw [mostW_n (by omega)]) (lvc (by first | rw [mostW_y c20 c30] | rw [mostW_n (by omega)]) (lvc (i_succ i) (rfl))))) rfl (ih6 (i + 1) (by omega) (by omega))
  refine Tsub (lv' := [(0, .ref (q 0)), (1, .int (enc (-1))), (2, .int (enc (-1))), (3, .int (enc (0)))]) [3, 2, 1, 0] rfl ?_
  refine Teq (ws' := wR cy q M) (lv' := [(0, .ref (q 0)), (1, .int (enc ((mostW M 0).1))), (2, .int (enc ((mostW M 0).2))), (3, .int (enc (((0 : Nat) : Int))))]) (st' := []) (rfl) (rfl) rfl (L6 (M 16 0 + 1).toNat 0 (by omega) (by omega))
def upf (M : MT) (k : Nat) (f : Int → Int) : MT := fun k' => cond (Nat.beq k' k) f (M k')
set_option maxRecDepth 100000 in
set_option maxHeartbeats 4000000 in
theorem m_X0_copyFrom {G : va_G} {cy : ClassId} {q : Nat → Nat} (M N : MT) : Ct G cy yX0_copyFrom cX0_copyFrom 2 none ({ frames := 1, cells := 0, slots := 0, locals := 48 } : Room) 0 0 [.ref (q 0), .ref (q 8)] (wR cy q M ++ wR cy (fun i => q (8 + i)) N) (fun v w1 => v = none ∧ w1 = wR cy q N ++ wR cy (fun i => q (8 + i)) N) := by
  refine Ct.ofV (by decide) (Nat.le_of_ble_eq_true rfl) rfl rfl ?_
  intro c X ret
  refine Tlv (lv' := [(0, .ref (q 0)), (1, .ref (q 8))]) rfl ?_
  refine tw_aload_n X dX0_copyFrom_0 1 rfl rfl ?_
  refine gf_X0_9 X (v := .ref (q 9)) 8 rfl rfl dX0_copyFrom_1 ?_
  refine tw_iconst X dX0_copyFrom_4 ?_
  refine tw_aload_n X dX0_copyFrom_5 0 rfl rfl ?_
  refine gf_X0_9 X (v := .ref (q 1)) 0 rfl rfl dX0_copyFrom_6 ?_
  refine tw_iconst X dX0_copyFrom_9 ?_
  refine tw_bipush X dX0_copyFrom_10 (by decide) ?_
  refine tw_copy X (N := 20) (f := (N 0)) (g := (M 0)) (ws' := wR cy q (upf M 0 (N 0)) ++ wR cy (fun i => q (8 + i)) N) 9 1 wl_X0_33 wa_n wa_s wa_i rfl rfl rfl (by decide) (Nat.le_of_ble_eq_true rfl) (Nat.le_of_ble_eq_true rfl) dX0_copyFrom_12 rfl ?_
  refine tw_aload_n X dX0_copyFrom_15 1 rfl rfl ?_
  refine gf_X0_15 X (v := .ref (q 10)) 8 rfl rfl dX0_copyFrom_16 ?_
  refine tw_iconst X dX0_copyFrom_19 ?_
  refine tw_aload_n X dX0_copyFrom_20 0 rfl rfl ?_
  refine gf_X0_15 X (v := .ref (q 2)) 0 rfl rfl dX0_copyFrom_21 ?_
  refine tw_iconst X dX0_copyFrom_24 ?_
  refine tw_bipush X dX0_copyFrom_25 (by decide) ?_
  refine tw_copy X (N := 20) (f := (N 1)) (g := (M 1)) (ws' := wR cy q (upf (upf M 0 (N 0)) 1 (N 1)) ++ wR cy (fun i => q (8 + i)) N) 10 2 wl_X0_33 wa_n wa_s wa_i rfl rfl rfl (by decide) (Nat.le_of_ble_eq_true rfl) (Nat.le_of_ble_eq_true rfl) dX0_copyFrom_27 rfl ?_
  refine tw_aload_n X dX0_copyFrom_30 1 rfl rfl ?_
  refine gf_X0_18 X (v := .ref (q 11)) 8 rfl rfl dX0_copyFrom_31 ?_
  refine tw_iconst X dX0_copyFrom_34 ?_
  refine tw_aload_n X dX0_copyFrom_35 0 rfl rfl ?_
  refine gf_X0_18 X (v := .ref (q 3)) 0 rfl rfl dX0_copyFrom_36 ?_
  refine tw_iconst X dX0_copyFrom_39 ?_
  refine tw_bipush X dX0_copyFrom_40 (by decide) ?_
  refine tw_copy X (N := 20) (f := (N 2)) (g := (M 2)) (ws' := wR cy q (upf (upf (upf M 0 (N 0)) 1 (N 1)) 2 (N 2)) ++ wR cy (fun i => q (8 + i)) N) 11 3 wl_X0_33 wa_n wa_s wa_i rfl rfl rfl (by decide) (Nat.le_of_ble_eq_true rfl) (Nat.le_of_ble_eq_true rfl) dX0_copyFrom_42 rfl ?_
  refine tw_aload_n X dX0_copyFrom_45 1 rfl rfl ?_
  refine gf_X0_21 X (v := .ref (q 12)) 8 rfl rfl dX0_copyFrom_46 ?_
  refine tw_iconst X dX0_copyFrom_49 ?_
  refine tw_aload_n X dX0_copyFrom_50 0 rfl rfl ?_
  refine gf_X0_21 X (v := .ref (q 4)) 0 rfl rfl dX0_copyFrom_51 ?_
  refine tw_iconst X dX0_copyFrom_54 ?_
  refine tw_bipush X dX0_copyFrom_55 (by decide) ?_
  refine tw_copy X (N := 20) (f := (N 3)) (g := (M 3)) (ws' := wR cy q (upf (upf (upf (upf M 0 (N 0)) 1 (N 1)) 2 (N 2)) 3 (N 3)) ++ wR cy (fun i => q (8 + i)) N) 12 4 wl_X0_33 wa_n wa_s wa_i rfl rfl rfl (by decide) (Nat.le_of_ble_eq_true rfl) (Nat.le_of_ble_eq_true rfl) dX0_copyFrom_57 rfl ?_
  refine tw_aload_n X dX0_copyFrom_60 1 rfl rfl ?_
  refine gf_X0_24 X (v := .ref (q 13)) 8 rfl rfl dX0_copyFrom_61 ?_
  refine tw_iconst X dX0_copyFrom_64 ?_
  refine tw_aload_n X dX0_copyFrom_65 0 rfl rfl ?_
  refine gf_X0_24 X (v := .ref (q 5)) 0 rfl rfl dX0_copyFrom_66 ?_
  refine tw_iconst X dX0_copyFrom_69 ?_
  refine tw_bipush X dX0_copyFrom_70 (by decide) ?_
  refine tw_copy X (N := 20) (f := (N 4)) (g := (M 4)) (ws' := wR cy q (upf (upf (upf (upf (upf M 0 (N 0)) 1 (N 1)) 2 (N 2)) 3 (N 3)) 4 (N 4)) ++ wR cy (fun i => q (8 + i)) N) 13 5 wl_X0_33 wa_n wa_s wa_i rfl rfl rfl (by decide) (Nat.le_of_ble_eq_true rfl) (Nat.le_of_ble_eq_true rfl) dX0_copyFrom_72 rfl ?_
  refine tw_aload_n X dX0_copyFrom_75 1 rfl rfl ?_
  refine gf_X0_27 X (v := .ref (q 14)) 8 rfl rfl dX0_copyFrom_76 ?_
  refine tw_iconst X dX0_copyFrom_79 ?_
  refine tw_aload_n X dX0_copyFrom_80 0 rfl rfl ?_
  refine gf_X0_27 X (v := .ref (q 6)) 0 rfl rfl dX0_copyFrom_81 ?_
  refine tw_iconst X dX0_copyFrom_84 ?_
  refine tw_bipush X dX0_copyFrom_85 (by decide) ?_
  refine tw_copy X (N := 20) (f := (N 5)) (g := (M 5)) (ws' := wR cy q (upf (upf (upf (upf (upf (upf M 0 (N 0)) 1 (N 1)) 2 (N 2)) 3 (N 3)) 4 (N 4)) 5 (N 5)) ++ wR cy (fun i => q (8 + i)) N) 14 6 wl_X0_33 wa_n wa_s wa_i rfl rfl rfl (by decide) (Nat.le_of_ble_eq_true rfl) (Nat.le_of_ble_eq_true rfl) dX0_copyFrom_87 rfl ?_
  refine tw_aload_n X dX0_copyFrom_90 1 rfl rfl ?_
  refine gf_X0_30 X (v := .ref (q 15)) 8 rfl rfl dX0_copyFrom_91 ?_
  refine tw_iconst X dX0_copyFrom_94 ?_
  refine tw_aload_n X dX0_copyFrom_95 0 rfl rfl ?_
  refine gf_X0_30 X (v := .ref (q 7)) 0 rfl rfl dX0_copyFrom_96 ?_
  refine tw_iconst X dX0_copyFrom_99 ?_
  refine tw_bipush X dX0_copyFrom_100 (by decide) ?_
  refine tw_copy X (N := 20) (f := (N 6)) (g := (M 6)) (ws' := wR cy q (upf (upf (upf (upf (upf (upf (upf M 0 (N 0)) 1 (N 1)) 2 (N 2)) 3 (N 3)) 4 (N 4)) 5 (N 5)) 6 (N 6)) ++ wR cy (fun i => q (8 + i)) N) 15 7 wl_X0_33 wa_n wa_s wa_i rfl rfl rfl (by decide) (Nat.le_of_ble_eq_true rfl) (Nat.le_of_ble_eq_true rfl) dX0_copyFrom_102 rfl ?_
  refine tw_aload_n X dX0_copyFrom_105 0 rfl rfl ?_
  refine tw_aload_n X dX0_copyFrom_106 1 rfl rfl ?_
  refine gf_X0_39 X (v := .int (enc (N 16 0))) 8 rfl rfl dX0_copyFrom_107 ?_
  refine pf_X0_39 X (ws' := wR cy q (upc (upf (upf (upf (upf (upf (upf (upf M 0 (N 0)) 1 (N 1)) 2 (N 2)) 3 (N 3)) 4 (N 4)) 5 (N 5)) 6 (N 6)) 16 (N 16 0)) ++ wR cy (fun i => q (8 + i)) N) 0 rfl (Nat.le_of_ble_eq_true rfl) rfl rfl dX0_copyFrom_110 rfl ?_
  exact ret _ _ _ dX0_copyFrom_113 ⟨rfl, rfl⟩
end
section
/-! TOURISTS -/
def onR (M : MT) (r : Int) : Nat → Int
  | 0 => 0
  | t + 1 => onR M r t + (if M 8 t = r then 1 else 0)
theorem onR_s (M : MT) (r : Int) (t : Nat) : onR M r (t + 1) = onR M r t + (if M 8 t = r then 1 else 0) := rfl
def mx0 (z : Int) : Int := if 0 < z then z else 0
def frayAt (M : MT) (t h : Int) : Int := mx0 ((if 0 ≤ M 15 t then M 15 t else h - M 13 t) - M 14 t)
def frA (M : MT) (h : Int) : Nat → Int
  | 0 => 0
  | t + 1 => frA M h t + frayAt M t h
theorem frA_s (M : MT) (h : Int) (t : Nat) : frA M h (t + 1) = frA M h t + frayAt M t h := rfl
def frI (M : MT) : Nat → Int
  | 0 => 0
  | t + 1 => frI M t + (if 0 ≤ M 15 t then mx0 (M 15 t - M 14 t) else 0)
theorem frI_s (M : MT) (t : Nat) : frI M (t + 1) = frI M t + (if 0 ≤ M 15 t then mx0 (M 15 t - M 14 t) else 0) := rfl
def takeT (M : MT) (t r e h : Int) : MT := up (up (up (up M 7 t (-1)) 8 t r) 9 t e) 10 t h
def walkT (M : MT) (t h : Int) : MT := if M 8 t < 0 then M else if 0 < M 10 t - 1 then up M 10 t (M 10 t - 1) else if M 9 t = M 11 t then upc (up (up (up (up M 10 t (M 10 t - 1)) 7 t (M 9 t)) 8 t (-1)) 15 t (h + 1 - M 13 t)) 18 (M 18 0 + 1) else up (up (up M 10 t (M 10 t - 1)) 7 t (M 9 t)) 8 t (-1)
def putT (M : MT) (a g s h : Int) : MT := upc (up (up (up (up (up (up (up M 7 (M 17 0) a) 8 (M 17 0) (-1)) 11 (M 17 0) g) 12 (M 17 0) 0) 13 (M 17 0) h) 14 (M 17 0) s) 15 (M 17 0) (-1)) 17 (M 17 0 + 1)
set_option maxRecDepth 100000 in
set_option maxHeartbeats 4000000 in
theorem m_X1_isIn {G : va_G} {cy : ClassId} {q : Nat → Nat} (M : MT) (t : Int) (hB : Bd M) (ht : 0 ≤ t ∧ t < 12) : Ct G cy yX1_isIn cX1_isIn 2 (some .boolean) ({ frames := 0, cells := 0, slots := 0, locals := 0 } : Room) 0 0 [.ref (q 0), .int (enc (t))] (wT cy q M) (fun v w1 => v = some (.int (enc (if 0 ≤ M 15 t then 1 else 0))) ∧ w1 = wT cy q M) := by
  refine Ct.ofI (by decide) (Nat.le_of_ble_eq_true rfl) rfl rfl (fun x w1 h => by obtain ⟨h1, -⟩ := h; cases h1; exact nar_b) ?_
  intro c X ret
  refine Tlv (lv' := [(0, .ref (q 0)), (1, .int (enc (t)))]) rfl ?_
  refine tw_aload_n X dX1_isIn_0 0 rfl rfl ?_
  refine gf_X1_36 X (v := .ref (q 9)) 0 rfl rfl dX1_isIn_1 ?_
  refine tw_iload_n X dX1_isIn_4 1 rfl rfl ?_
  refine tw_iald X (N := 12) (f := (M 15)) 9 rfl (by decide) (by omega) dX1_isIn_5 ?_
  refine Tst (st' := [.int (enc (M 15 t))]) rfl ?_
  have b1 := hB 15 t
  refine tw_if_lt (tgt := 13) X (In_of (by omega) (by omega)) dX1_isIn_6 (by decide) (fun c6 => ?_) (fun c6 => ?_)
  · skip
    refine tw_iconst X dX1_isIn_13 ?_
    exact ret _ _ _ _ dX1_isIn_14 ⟨by first | rw [if_pos c6] | rw [if_neg (Int.not_le.mpr c6)], rfl⟩
  · skip
    refine tw_iconst X dX1_isIn_9 ?_
    refine tw_goto (tgt := 14) X dX1_isIn_10 (by decide) ?_
    exact ret _ _ _ _ dX1_isIn_14 ⟨by first | rw [if_pos c6] | rw [if_neg (Int.not_le.mpr c6)], rfl⟩
set_option maxRecDepth 100000 in
set_option maxHeartbeats 4000000 in
theorem m_X1_take {G : va_G} {cy : ClassId} {q : Nat → Nat} (M : MT) (t r e h : Int) (ht : 0 ≤ t ∧ t < 12) : Ct G cy yX1_take cX1_take 5 none ({ frames := 0, cells := 0, slots := 0, locals := 0 } : Room) 0 0 [.ref (q 0), .int (enc (t)), .int (enc (r)), .int (enc (e)), .int (enc (h))] (wT cy q M) (fun v w1 => v = none ∧ w1 = wT cy q (takeT M t r e h)) := by
  refine Ct.ofV (by decide) (Nat.le_of_ble_eq_true rfl) rfl rfl ?_
  intro c X ret
  refine Tlv (lv' := [(0, .ref (q 0)), (1, .int (enc (t))), (2, .int (enc (r))), (3, .int (enc (e))), (4, .int (enc (h)))]) rfl ?_
  refine tw_aload_n X dX1_take_0 0 rfl rfl ?_
  refine gf_X1_9 X (v := .ref (q 1)) 0 rfl rfl dX1_take_1 ?_
  refine tw_iload_n X dX1_take_4 1 rfl rfl ?_
  refine tw_iconst X dX1_take_5 ?_
  refine tw_iast X (N := 12) (f := (M 7)) (ws' := wT cy q (up M 7 (t) (-1))) 1 rfl (by decide) (by omega) dX1_take_6 rfl ?_
  refine tw_aload_n X dX1_take_7 0 rfl rfl ?_
  refine gf_X1_15 X (v := .ref (q 2)) 0 rfl rfl dX1_take_8 ?_
  refine tw_iload_n X dX1_take_11 1 rfl rfl ?_
  refine tw_iload_n X dX1_take_12 2 rfl rfl ?_
  refine tw_iast X (N := 12) (f := (M 8)) (ws' := wT cy q (up (up M 7 (t) (-1)) 8 (t) (r))) 2 rfl (by decide) (by omega) dX1_take_13 rfl ?_
  refine tw_aload_n X dX1_take_14 0 rfl rfl ?_
  refine gf_X1_18 X (v := .ref (q 3)) 0 rfl rfl dX1_take_15 ?_
  refine tw_iload_n X dX1_take_18 1 rfl rfl ?_
  refine tw_iload_n X dX1_take_19 3 rfl rfl ?_
  refine tw_iast X (N := 12) (f := (M 9)) (ws' := wT cy q (up (up (up M 7 (t) (-1)) 8 (t) (r)) 9 (t) (e))) 3 rfl (by decide) (by omega) dX1_take_20 rfl ?_
  refine tw_aload_n X dX1_take_21 0 rfl rfl ?_
  refine gf_X1_21 X (v := .ref (q 4)) 0 rfl rfl dX1_take_22 ?_
  refine tw_iload_n X dX1_take_25 1 rfl rfl ?_
  refine tw_iload X dX1_take_26 4 rfl ?_
  refine tw_iast X (N := 12) (f := (M 10)) (ws' := wT cy q (up (up (up (up M 7 (t) (-1)) 8 (t) (r)) 9 (t) (e)) 10 (t) (h))) 4 rfl (by decide) (by omega) dX1_take_28 rfl ?_
  exact ret _ _ _ dX1_take_29 ⟨rfl, rfl⟩
set_option maxRecDepth 100000 in
set_option maxHeartbeats 4000000 in
theorem m_X1_put {G : va_G} {cy : ClassId} {q : Nat → Nat} (M : MT) (a g s h : Int) (ht : 0 ≤ M 17 0 ∧ M 17 0 < 12) : Ct G cy yX1_put cX1_put 6 (some .int) ({ frames := 0, cells := 0, slots := 0, locals := 0 } : Room) 0 0 [.ref (q 0), .int (enc (a)), .int (enc (g)), .int (enc (s)), .int (enc (h))] (wT cy q M) (fun v w1 => v = some (.int (enc (M 17 0))) ∧ w1 = wT cy q (putT M a g s h)) := by
  refine Ct.ofI (by decide) (Nat.le_of_ble_eq_true rfl) rfl rfl (fun _ _ _ => rfl) ?_
  intro c X ret
  refine Tlv (lv' := [(0, .ref (q 0)), (1, .int (enc (a))), (2, .int (enc (g))), (3, .int (enc (s))), (4, .int (enc (h)))]) rfl ?_
  refine tw_aload_n X dX1_put_0 0 rfl rfl ?_
  refine gf_X1_45 X (v := .int (enc (M 17 0))) 0 rfl rfl dX1_put_1 ?_
  refine tw_istore (lv' := [(5, .int (enc (M 17 0))), (0, .ref (q 0)), (1, .int (enc (a))), (2, .int (enc (g))), (3, .int (enc (s))), (4, .int (enc (h)))]) X dX1_put_4 (by decide) rfl ?_
  refine tw_aload_n X dX1_put_6 1 rfl rfl ?_
  refine gf_X1_9 X (v := .ref (q 1)) 0 rfl rfl dX1_put_7 ?_
  refine tw_iload X dX1_put_10 0 rfl ?_
  refine tw_iload_n X dX1_put_12 2 rfl rfl ?_
  refine tw_iast X (N := 12) (f := (M 7)) (ws' := wT cy q (up M 7 (M 17 0) (a))) 1 rfl (by decide) (by omega) dX1_put_13 rfl ?_
  refine tw_aload_n X dX1_put_14 1 rfl rfl ?_
  refine gf_X1_15 X (v := .ref (q 2)) 0 rfl rfl dX1_put_15 ?_
  refine tw_iload X dX1_put_18 0 rfl ?_
  refine tw_iconst X dX1_put_20 ?_
  refine tw_iast X (N := 12) (f := (M 8)) (ws' := wT cy q (up (up M 7 (M 17 0) (a)) 8 (M 17 0) (-1))) 2 rfl (by decide) (by omega) dX1_put_21 rfl ?_
  refine tw_aload_n X dX1_put_22 1 rfl rfl ?_
  refine gf_X1_24 X (v := .ref (q 5)) 0 rfl rfl dX1_put_23 ?_
  refine tw_iload X dX1_put_26 0 rfl ?_
  refine tw_iload_n X dX1_put_28 3 rfl rfl ?_
  refine tw_iast X (N := 12) (f := (M 11)) (ws' := wT cy q (up (up (up M 7 (M 17 0) (a)) 8 (M 17 0) (-1)) 11 (M 17 0) (g))) 5 rfl (by decide) (by omega) dX1_put_29 rfl ?_
  refine tw_aload_n X dX1_put_30 1 rfl rfl ?_
  refine gf_X1_27 X (v := .ref (q 6)) 0 rfl rfl dX1_put_31 ?_
  refine tw_iload X dX1_put_34 0 rfl ?_
  refine tw_iconst X dX1_put_36 ?_
  refine tw_iast X (N := 12) (f := (M 12)) (ws' := wT cy q (up (up (up (up M 7 (M 17 0) (a)) 8 (M 17 0) (-1)) 11 (M 17 0) (g)) 12 (M 17 0) (0))) 6 rfl (by decide) (by omega) dX1_put_37 rfl ?_
  refine tw_aload_n X dX1_put_38 1 rfl rfl ?_
  refine gf_X1_30 X (v := .ref (q 7)) 0 rfl rfl dX1_put_39 ?_
  refine tw_iload X dX1_put_42 0 rfl ?_
  refine tw_iload X dX1_put_44 5 rfl ?_
  refine tw_iast X (N := 12) (f := (M 13)) (ws' := wT cy q (up (up (up (up (up M 7 (M 17 0) (a)) 8 (M 17 0) (-1)) 11 (M 17 0) (g)) 12 (M 17 0) (0)) 13 (M 17 0) (h))) 7 rfl (by decide) (by omega) dX1_put_46 rfl ?_
  refine tw_aload_n X dX1_put_47 1 rfl rfl ?_
  refine gf_X1_33 X (v := .ref (q 8)) 0 rfl rfl dX1_put_48 ?_
  refine tw_iload X dX1_put_51 0 rfl ?_
  refine tw_iload_n X dX1_put_53 4 rfl rfl ?_
  refine tw_iast X (N := 12) (f := (M 14)) (ws' := wT cy q (up (up (up (up (up (up M 7 (M 17 0) (a)) 8 (M 17 0) (-1)) 11 (M 17 0) (g)) 12 (M 17 0) (0)) 13 (M 17 0) (h)) 14 (M 17 0) (s))) 8 rfl (by decide) (by omega) dX1_put_54 rfl ?_
  refine tw_aload_n X dX1_put_55 1 rfl rfl ?_
  refine gf_X1_36 X (v := .ref (q 9)) 0 rfl rfl dX1_put_56 ?_
  refine tw_iload X dX1_put_59 0 rfl ?_
  refine tw_iconst X dX1_put_61 ?_
  refine tw_iast X (N := 12) (f := (M 15)) (ws' := wT cy q (up (up (up (up (up (up (up M 7 (M 17 0) (a)) 8 (M 17 0) (-1)) 11 (M 17 0) (g)) 12 (M 17 0) (0)) 13 (M 17 0) (h)) 14 (M 17 0) (s)) 15 (M 17 0) (-1))) 9 rfl (by decide) (by omega) dX1_put_62 rfl ?_
  refine tw_aload_n X dX1_put_63 1 rfl rfl ?_
  refine tw_dup X dX1_put_64 rfl ?_
  refine gf_X1_45 X (v := .int (enc (M 17 0))) 0 rfl rfl dX1_put_65 ?_
  refine tw_iconst X dX1_put_68 ?_
  refine tw_iadd (z := (M 17 0) + 1) X dX1_put_69 rfl ?_
  refine pf_X1_45 X (ws' := wT cy q (upc (up (up (up (up (up (up (up M 7 (M 17 0) (a)) 8 (M 17 0) (-1)) 11 (M 17 0) (g)) 12 (M 17 0) (0)) 13 (M 17 0) (h)) 14 (M 17 0) (s)) 15 (M 17 0) (-1)) 17 ((M 17 0) + 1))) 0 rfl (Nat.le_of_ble_eq_true rfl) rfl rfl dX1_put_70 rfl ?_
  refine tw_iload X dX1_put_73 0 rfl ?_
  exact ret _ _ _ _ dX1_put_75 ⟨rfl, rfl⟩
set_option maxRecDepth 100000 in
set_option maxHeartbeats 4000000 in
theorem m_X1_walk {G : va_G} {cy : ClassId} {q : Nat → Nat} (M : MT) (t h : Int) (hB : Bd M) (ht : 0 ≤ t ∧ t < 12) (hh : 0 ≤ h ∧ h ≤ 2000000) : Ct G cy yX1_walk cX1_walk 3 none ({ frames := 0, cells := 0, slots := 0, locals := 0 } : Room) 0 0 [.ref (q 0), .int (enc (t)), .int (enc (h))] (wT cy q M) (fun v w1 => v = none ∧ w1 = wT cy q (walkT M t h)) := by
  refine Ct.ofV (by decide) (Nat.le_of_ble_eq_true rfl) rfl rfl ?_
  intro c X ret
  refine Tlv (lv' := [(0, .ref (q 0)), (1, .int (enc (t))), (2, .int (enc (h)))]) rfl ?_
  refine tw_aload_n X dX1_walk_0 0 rfl rfl ?_
  refine gf_X1_15 X (v := .ref (q 2)) 0 rfl rfl dX1_walk_1 ?_
  refine tw_iload_n X dX1_walk_4 1 rfl rfl ?_
  refine tw_iald X (N := 12) (f := (M 8)) 2 rfl (by decide) (by omega) dX1_walk_5 ?_
  refine Tst (st' := [.int (enc (M 8 t))]) rfl ?_
  have b1 := hB 8 t
  refine tw_if_ge (tgt := 10) X (In_of (by omega) (by omega)) dX1_walk_6 (by decide) (fun c6 => ?_) (fun c6 => ?_)
  · skip
    refine tw_aload_n X dX1_walk_10 0 rfl rfl ?_
    refine gf_X1_21 X (v := .ref (q 4)) 0 rfl rfl dX1_walk_11 ?_
    refine tw_iload_n X dX1_walk_14 1 rfl rfl ?_
    refine tw_dup2 X dX1_walk_15 rfl rfl ?_
    refine tw_iald X (N := 12) (f := (M 10)) 4 rfl (by decide) (by omega) dX1_walk_16 ?_
    refine Tst (st' := [.int (enc (M 10 t)), .int (enc (t)), .ref (q 4)]) rfl ?_
    have b2 := hB 10 t
    refine tw_iconst X dX1_walk_17 ?_
    refine tw_isub (z := (M 10 t) - 1) X dX1_walk_18 rfl ?_
    refine tw_iast X (N := 12) (f := (M 10)) (ws' := wT cy q (up M 10 (t) ((M 10 t) - 1))) 4 rfl (by decide) (by omega) dX1_walk_19 rfl ?_
    refine tw_aload_n X dX1_walk_20 0 rfl rfl ?_
    refine gf_X1_21 X (v := .ref (q 4)) 0 rfl rfl dX1_walk_21 ?_
    refine tw_iload_n X dX1_walk_24 1 rfl rfl ?_
    refine tw_iald X (N := 12) (f := (ups (M 10) (t) ((M 10 t) - 1))) 4 rfl (by decide) (by omega) dX1_walk_25 ?_
    refine Tst (st' := [.int (enc ((M 10 t) - 1))]) (by rw [ups_same]) ?_
    refine tw_if_le (tgt := 30) X (In_of (by omega) (by omega)) dX1_walk_26 (by decide) (fun c26 => ?_) (fun c26 => ?_)
    · skip
      refine tw_aload_n X dX1_walk_30 0 rfl rfl ?_
      refine gf_X1_9 X (v := .ref (q 1)) 0 rfl rfl dX1_walk_31 ?_
      refine tw_iload_n X dX1_walk_34 1 rfl rfl ?_
      refine tw_aload_n X dX1_walk_35 0 rfl rfl ?_
      refine gf_X1_18 X (v := .ref (q 3)) 0 rfl rfl dX1_walk_36 ?_
      refine tw_iload_n X dX1_walk_39 1 rfl rfl ?_
      refine tw_iald X (N := 12) (f := (M 9)) 3 rfl (by decide) (by omega) dX1_walk_40 ?_
      refine Tst (st' := [.int (enc (M 9 t)), .int (enc (t)), .ref (q 1)]) rfl ?_
      have b3 := hB 9 t
      refine tw_iast X (N := 12) (f := (M 7)) (ws' := wT cy q (up (up M 10 (t) ((M 10 t) - 1)) 7 (t) (M 9 t))) 1 rfl (by decide) (by omega) dX1_walk_41 rfl ?_
      refine tw_aload_n X dX1_walk_42 0 rfl rfl ?_
      refine gf_X1_15 X (v := .ref (q 2)) 0 rfl rfl dX1_walk_43 ?_
      refine tw_iload_n X dX1_walk_46 1 rfl rfl ?_
      refine tw_iconst X dX1_walk_47 ?_
      refine tw_iast X (N := 12) (f := (M 8)) (ws' := wT cy q (up (up (up M 10 (t) ((M 10 t) - 1)) 7 (t) (M 9 t)) 8 (t) (-1))) 2 rfl (by decide) (by omega) dX1_walk_48 rfl ?_
      refine tw_aload_n X dX1_walk_49 0 rfl rfl ?_
      refine gf_X1_9 X (v := .ref (q 1)) 0 rfl rfl dX1_walk_50 ?_
      refine tw_iload_n X dX1_walk_53 1 rfl rfl ?_
      refine tw_iald X (N := 12) (f := (ups (M 7) (t) (M 9 t))) 1 rfl (by decide) (by omega) dX1_walk_54 ?_
      refine Tst (st' := [.int (enc (M 9 t))]) (by rw [ups_same]) ?_
      have b4 := hB 9 t
      refine tw_aload_n X dX1_walk_55 0 rfl rfl ?_
      refine gf_X1_24 X (v := .ref (q 5)) 0 rfl rfl dX1_walk_56 ?_
      refine tw_iload_n X dX1_walk_59 1 rfl rfl ?_
      refine tw_iald X (N := 12) (f := (M 11)) 5 rfl (by decide) (by omega) dX1_walk_60 ?_
      refine Tst (st' := [.int (enc (M 11 t)), .int (enc (M 9 t))]) rfl ?_
      have b5 := hB 11 t
      refine tw_icmp_ne (tgt := 90) X (In_of (by omega) (by omega)) (In_of (by omega) (by omega)) dX1_walk_61 (by decide) (fun c61 => ?_) (fun c61 => ?_)
      · skip
        exact ret _ _ _ dX1_walk_90 ⟨rfl, by unfold walkT; rw [if_neg (Int.not_lt.mpr c6), if_neg (Int.not_lt.mpr c26)]; first | rw [if_pos c61] | rw [if_neg c61]⟩
      · skip
        refine tw_aload_n X dX1_walk_64 0 rfl rfl ?_
        refine gf_X1_36 X (v := .ref (q 9)) 0 rfl rfl dX1_walk_65 ?_
        refine tw_iload_n X dX1_walk_68 1 rfl rfl ?_
        refine tw_iload_n X dX1_walk_69 2 rfl rfl ?_
        refine tw_iconst X dX1_walk_70 ?_
        refine tw_iadd (z := h + 1) X dX1_walk_71 rfl ?_
        refine tw_aload_n X dX1_walk_72 0 rfl rfl ?_
        refine gf_X1_30 X (v := .ref (q 7)) 0 rfl rfl dX1_walk_73 ?_
        refine tw_iload_n X dX1_walk_76 1 rfl rfl ?_
        refine tw_iald X (N := 12) (f := (M 13)) 7 rfl (by decide) (by omega) dX1_walk_77 ?_
        refine Tst (st' := [.int (enc (M 13 t)), .int (enc (h + 1)), .int (enc (t)), .ref (q 9)]) rfl ?_
        have b6 := hB 13 t
        refine tw_isub (z := (h + 1) - (M 13 t)) X dX1_walk_78 rfl ?_
        refine tw_iast X (N := 12) (f := (M 15)) (ws' := wT cy q (up (up (up (up M 10 (t) ((M 10 t) - 1)) 7 (t) (M 9 t)) 8 (t) (-1)) 15 (t) ((h + 1) - (M 13 t)))) 9 rfl (by decide) (by omega) dX1_walk_79 rfl ?_
        refine tw_aload_n X dX1_walk_80 0 rfl rfl ?_
        refine tw_dup X dX1_walk_81 rfl ?_
        refine gf_X1_49 X (v := .int (enc (M 18 0))) 0 rfl rfl dX1_walk_82 ?_
        have b7 := hB 18 0
        refine tw_iconst X dX1_walk_85 ?_
        refine tw_iadd (z := (M 18 0) + 1) X dX1_walk_86 rfl ?_
        refine pf_X1_49 X (ws' := wT cy q (upc (up (up (up (up M 10 (t) ((M 10 t) - 1)) 7 (t) (M 9 t)) 8 (t) (-1)) 15 (t) ((h + 1) - (M 13 t))) 18 ((M 18 0) + 1))) 0 rfl (Nat.le_of_ble_eq_true rfl) rfl rfl dX1_walk_87 rfl ?_
        exact ret _ _ _ dX1_walk_90 ⟨rfl, by unfold walkT; rw [if_neg (Int.not_lt.mpr c6), if_neg (Int.not_lt.mpr c26)]; first | rw [if_pos c61] | rw [if_neg c61]⟩
    · skip
      exact ret _ _ _ dX1_walk_29 ⟨rfl, by unfold walkT; rw [if_neg (Int.not_lt.mpr c6), if_pos c26]⟩
  · skip
    exact ret _ _ _ dX1_walk_9 ⟨rfl, by unfold walkT; rw [if_pos c6]⟩
set_option maxRecDepth 100000 in
set_option maxHeartbeats 4000000 in
theorem m_X1_countOn {G : va_G} {cy : ClassId} {q : Nat → Nat} (M : MT) (r : Int) (hB : Bd M) (h : 0 ≤ M 17 0 ∧ M 17 0 ≤ 12) (hr : -2000000 ≤ r ∧ r ≤ 2000000) : Ct G cy yX1_countOn cX1_countOn 4 (some .int) ({ frames := 0, cells := 0, slots := 0, locals := 0 } : Room) 0 0 [.ref (q 0), .int (enc (r))] (wT cy q M) (fun v w1 => v = some (.int (enc (onR M r (M 17 0).toNat))) ∧ w1 = wT cy q M) := by
  refine Ct.ofI (by decide) (Nat.le_of_ble_eq_true rfl) rfl rfl (fun _ _ _ => rfl) ?_
  intro c X ret
  refine Tlv (lv' := [(0, .ref (q 0)), (1, .int (enc (r)))]) rfl ?_
  refine tw_iconst X dX1_countOn_0 ?_
  refine tw_istore_n (lv' := [(2, .int (enc (0))), (0, .ref (q 0)), (1, .int (enc (r)))]) X dX1_countOn_1 rfl (by decide) rfl ?_
  refine tw_iconst X dX1_countOn_2 ?_
  refine tw_istore_n (lv' := [(3, .int (enc (0))), (2, .int (enc (0))), (0, .ref (q 0)), (1, .int (enc (r)))]) X dX1_countOn_3 rfl (by decide) rfl ?_
  have L4 : ∀ (fu i : Nat), (i : Int) ≤ M 17 0 → M 17 0 + 1 ≤ (i : Int) + fu → T G c ({ frames := 0, cells := 0, slots := 0, locals := 0 } : Room) 4 0 0 (wT cy q M) 4 [(0, .ref (q 0)), (1, .int (enc (r))), (2, .int (enc (onR M r i))), (3, .int (enc ((i : Int))))] [] := by
    intro fu
    induction fu with
    | zero =>
      intro i  hi0 hi1
      exact absurd hi1 (by omega)
    | succ fu ih4 =>
      intro i  hi0_4 hi1_4 
      refine tw_iload_n X dX1_countOn_4 3 rfl rfl ?_
      refine tw_aload_n X dX1_countOn_5 0 rfl rfl ?_
      refine gf_X1_45 X (v := .int (enc (M 17 0))) 0 rfl rfl dX1_countOn_6 ?_
      have b1 := hB 17 0
      refine tw_icmp_ge (tgt := 31) X (In_of (by omega) (by omega)) (In_of (by omega) (by omega)) dX1_countOn_9 (by decide) (fun c9 => ?_) (fun c9 => ?_)
      · skip
        refine tw_iload_n X dX1_countOn_31 2 rfl rfl ?_
        exact ret _ _ _ _ dX1_countOn_32 ⟨by rw [show (M 17 0).toNat = i by omega], rfl⟩
      · skip
        refine tw_aload_n X dX1_countOn_12 0 rfl rfl ?_
        refine gf_X1_15 X (v := .ref (q 2)) 0 rfl rfl dX1_countOn_13 ?_
        refine tw_iload_n X dX1_countOn_16 3 rfl rfl ?_
        refine tw_iald X (N := 12) (f := (M 8)) 2 rfl (by decide) (by omega) dX1_countOn_17 ?_
        refine Tst (st' := [.int (enc (M 8 (i : Int)))]) rfl ?_
        have b2 := hB 8 (i : Int)
        refine tw_iload_n X dX1_countOn_18 1 rfl rfl ?_
        refine tw_icmp_ne (tgt := 25) X (In_of (by omega) (by omega)) (In_of (by omega) (by omega)) dX1_countOn_19 (by decide) (fun c19 => ?_) (fun c19 => ?_)
        · skip
          refine tw_iinc (q := 3) (x := (i : Int)) (y := (i : Int) + 1) (lv' := [(3, .int (enc ((i : Int) + 1))), (0, .ref (q 0)), (1, .int (enc (r))), (2, .int (enc (onR M r i)))]) X dX1_countOn_25 rfl rfl (by decide) rfl ?_
          refine tw_goto (tgt := 4) X dX1_countOn_28 (by decide) ?_
          refine Tsub (lv' := [(0, .ref (q 0)), (1, .int (enc (r))), (2, .int (enc (onR M r i))), (3, .int (enc ((i : Int) + 1)))]) [1, 2, 3, 0] rfl ?_
          refine Teq (ws' := wT cy q M) (lv' := [(0, .ref (q 0)), (1, .int (enc (r))), (2, .int (enc (onR M r (i + 1)))), (3, .int (enc (((i + 1 : Nat) : Int))))]) (st' := []) (rfl) (lvk (lvk (lvc (by rw [onR_s]; first | rw [if_pos c19] | (rw [if_neg c19]; omega)) (lvc (i_succ i) (rfl))))) rfl (ih4 (i + 1) (by omega) (by omega))
        · skip
          refine tw_iinc (q := 2) (x := onR M r i) (y := onR M r i + 1) (lv' := [(2, .int (enc (onR M r i + 1))), (0, .ref (q 0)), (1, .int (enc (r))), (3, .int (enc ((i : Int))))]) X dX1_countOn_22 rfl rfl (by decide) rfl ?_
          refine tw_iinc (q := 3) (x := (i : Int)) (y := (i : Int) + 1) (lv' := [(3, .int (enc ((i : Int) + 1))), (2, .int (enc (onR M r i + 1))), (0, .ref (q 0)), (1, .int (enc (r)))]) X dX1_countOn_25 rfl rfl (by decide) rfl ?_
          refine tw_goto (tgt := 4) X dX1_countOn_28 (by decide) ?_
          refine Tsub (lv' := [(0, .ref (q 0)), (1, .int (enc (r))), (2, .int (enc (onR M r i + 1))), (3, .int (enc ((i : Int) + 1)))]) [2, 3, 1, 0] rfl ?_
          refine Teq (ws' := wT cy q M) (lv' := [(0, .ref (q 0)), (1, .int (enc (r))), (2, .int (enc (onR M r (i + 1)))), (3, .int (enc (((i + 1 : Nat) : Int))))]) (st' := []) (rfl) (lvk (lvk (lvc (by rw [onR_s]; first | rw [if_pos c19] | (rw [if_neg c19]; omega)) (lvc (i_succ i) (rfl))))) rfl (ih4 (i + 1) (by omega) (by omega))
  refine Tsub (lv' := [(0, .ref (q 0)), (1, .int (enc (r))), (2, .int (enc (0))), (3, .int (enc (0)))]) [2, 3, 1, 0] rfl ?_
  refine Teq (ws' := wT cy q M) (lv' := [(0, .ref (q 0)), (1, .int (enc (r))), (2, .int (enc (onR M r 0))), (3, .int (enc (((0 : Nat) : Int))))]) (st' := []) (rfl) (rfl) rfl (L4 (M 17 0 + 1).toNat 0 (by omega) (by omega))
set_option maxRecDepth 100000 in
set_option maxHeartbeats 4000000 in
theorem m_X1_frayAt {G : va_G} {cy : ClassId} {q : Nat → Nat} (M : MT) (t h : Int) (hB : Bd M) (ht : 0 ≤ t ∧ t < 12) (hh : 0 ≤ h ∧ h ≤ 2000000) : Ct G cy yX1_frayAt cX1_frayAt 4 (some .int) ({ frames := 1, cells := 0, slots := 0, locals := 21 } : Room) 0 0 [.ref (q 0), .int (enc (t)), .int (enc (h))] (wT cy q M) (fun v w1 => v = some (.int (enc (frayAt M t h))) ∧ w1 = wT cy q M) := by
  refine Ct.ofI (by decide) (Nat.le_of_ble_eq_true rfl) rfl rfl (fun _ _ _ => rfl) ?_
  intro c X ret
  refine Tlv (lv' := [(0, .ref (q 0)), (1, .int (enc (t))), (2, .int (enc (h)))]) rfl ?_
  refine tw_aload_n X dX1_frayAt_0 0 rfl rfl ?_
  refine tw_iload_n X dX1_frayAt_1 1 rfl rfl ?_
  refine tw_callV X (As := [.int (enc (t))]) (st := []) vw_X1_52 (m_X1_isIn (q := q) M (t) hB (by omega)) ([]) ([]) rfl rfl (q0 := 0) rfl rfl rfl ⟨rfl, rfl, Nat.le_of_ble_eq_true rfl, Nat.le_of_ble_eq_true rfl⟩ ⟨Nat.le_of_ble_eq_true rfl, Nat.le_of_ble_eq_true rfl⟩ (Nat.le_of_ble_eq_true rfl) dX1_frayAt_2 (fun v w1 hp => ?_)
  obtain ⟨rfl, rfl⟩ := hp
  refine Teq (ws' := wT cy q M) (lv' := [(0, .ref (q 0)), (1, .int (enc (t))), (2, .int (enc (h)))]) (st' := [.int (enc (if 0 ≤ M 15 t then 1 else 0))]) rfl rfl rfl ?_
  refine tw_if_eq (tgt := 17) X In_b dX1_frayAt_5 (by decide) (fun c5 => ?_) (fun c5 => ?_)
  · skip
    have c5 := b01.mp c5
    refine tw_iload_n X dX1_frayAt_17 2 rfl rfl ?_
    refine tw_aload_n X dX1_frayAt_18 0 rfl rfl ?_
    refine gf_X1_30 X (v := .ref (q 7)) 0 rfl rfl dX1_frayAt_19 ?_
    refine tw_iload_n X dX1_frayAt_22 1 rfl rfl ?_
    refine tw_iald X (N := 12) (f := (M 13)) 7 rfl (by decide) (by omega) dX1_frayAt_23 ?_
    refine Tst (st' := [.int (enc (M 13 t)), .int (enc (h))]) rfl ?_
    have b1 := hB 13 t
    refine tw_isub (z := h - (M 13 t)) X dX1_frayAt_24 rfl ?_
    refine tw_istore_n (lv' := [(3, .int (enc (h - (M 13 t)))), (0, .ref (q 0)), (1, .int (enc (t))), (2, .int (enc (h)))]) X dX1_frayAt_25 rfl (by decide) rfl ?_
    refine tw_iconst X dX1_frayAt_26 ?_
    refine tw_iload_n X dX1_frayAt_27 0 rfl rfl ?_
    refine tw_aload_n X dX1_frayAt_28 1 rfl rfl ?_
    refine gf_X1_33 X (v := .ref (q 8)) 0 rfl rfl dX1_frayAt_29 ?_
    refine tw_iload_n X dX1_frayAt_32 2 rfl rfl ?_
    refine tw_iald X (N := 12) (f := (M 14)) 8 rfl (by decide) (by omega) dX1_frayAt_33 ?_
    refine Tst (st' := [.int (enc (M 14 t)), .int (enc (h - (M 13 t))), .int (enc (0))]) rfl ?_
    have b2 := hB 14 t
    refine tw_isub (z := (h - (M 13 t)) - (M 14 t)) X dX1_frayAt_34 rfl ?_
    refine tw_max (z := if 0 < (h - (M 13 t)) - (M 14 t) then (h - (M 13 t)) - (M 14 t) else 0) X (In_of (by omega) (by omega)) (In_of (by omega) (by omega)) wl_X1_56 wm_max_s wm_i wm_max_c (Nat.le_of_ble_eq_true rfl) (Nat.le_of_ble_eq_true rfl) ⟨Nat.le_of_ble_eq_true rfl, Nat.le_of_ble_eq_true rfl⟩ dX1_frayAt_35 rfl ?_
    exact ret _ _ _ _ dX1_frayAt_38 ⟨by unfold frayAt mx0; first | rw [if_pos c5] | rw [if_neg c5], rfl⟩
  · skip
    have c5 := b01n.mp c5
    refine tw_aload_n X dX1_frayAt_8 0 rfl rfl ?_
    refine gf_X1_36 X (v := .ref (q 9)) 0 rfl rfl dX1_frayAt_9 ?_
    refine tw_iload_n X dX1_frayAt_12 1 rfl rfl ?_
    refine tw_iald X (N := 12) (f := (M 15)) 9 rfl (by decide) (by omega) dX1_frayAt_13 ?_
    refine Tst (st' := [.int (enc (M 15 t))]) rfl ?_
    have b3 := hB 15 t
    refine tw_goto (tgt := 25) X dX1_frayAt_14 (by decide) ?_
    refine tw_istore_n (lv' := [(3, .int (enc (M 15 t))), (0, .ref (q 0)), (1, .int (enc (t))), (2, .int (enc (h)))]) X dX1_frayAt_25 rfl (by decide) rfl ?_
    refine tw_iconst X dX1_frayAt_26 ?_
    refine tw_iload_n X dX1_frayAt_27 0 rfl rfl ?_
    refine tw_aload_n X dX1_frayAt_28 1 rfl rfl ?_
    refine gf_X1_33 X (v := .ref (q 8)) 0 rfl rfl dX1_frayAt_29 ?_
    refine tw_iload_n X dX1_frayAt_32 2 rfl rfl ?_
    refine tw_iald X (N := 12) (f := (M 14)) 8 rfl (by decide) (by omega) dX1_frayAt_33 ?_
    refine Tst (st' := [.int (enc (M 14 t)), .int (enc (M 15 t)), .int (enc (0))]) rfl ?_
    have b4 := hB 14 t
    refine tw_isub (z := (M 15 t) - (M 14 t)) X dX1_frayAt_34 rfl ?_
    refine tw_max (z := if 0 < (M 15 t) - (M 14 t) then (M 15 t) - (M 14 t) else 0) X (In_of (by omega) (by omega)) (In_of (by omega) (by omega)) wl_X1_56 wm_max_s wm_i wm_max_c (Nat.le_of_ble_eq_true rfl) (Nat.le_of_ble_eq_true rfl) ⟨Nat.le_of_ble_eq_true rfl, Nat.le_of_ble_eq_true rfl⟩ dX1_frayAt_35 rfl ?_
    exact ret _ _ _ _ dX1_frayAt_38 ⟨by unfold frayAt mx0; first | rw [if_pos c5] | rw [if_neg c5], rfl⟩
set_option maxRecDepth 100000 in
set_option maxHeartbeats 4000000 in
theorem m_X1_frayOfAll {G : va_G} {cy : ClassId} {q : Nat → Nat} (M : MT) (hh : Int) (hB : Bd M) (h : 0 ≤ M 17 0 ∧ M 17 0 ≤ 12) (hr : 0 ≤ hh ∧ hh ≤ 2000000) : Ct G cy yX1_frayOfAll cX1_frayOfAll 4 (some .int) ({ frames := 2, cells := 0, slots := 0, locals := 44 } : Room) 0 0 [.ref (q 0), .int (enc (hh))] (wT cy q M) (fun v w1 => v = some (.int (enc (frA M hh (M 17 0).toNat))) ∧ w1 = wT cy q M) := by
  refine Ct.ofI (by decide) (Nat.le_of_ble_eq_true rfl) rfl rfl (fun _ _ _ => rfl) ?_
  intro c X ret
  refine Tlv (lv' := [(0, .ref (q 0)), (1, .int (enc (hh)))]) rfl ?_
  refine tw_iconst X dX1_frayOfAll_0 ?_
  refine tw_istore_n (lv' := [(2, .int (enc (0))), (0, .ref (q 0)), (1, .int (enc (hh)))]) X dX1_frayOfAll_1 rfl (by decide) rfl ?_
  refine tw_iconst X dX1_frayOfAll_2 ?_
  refine tw_istore_n (lv' := [(3, .int (enc (0))), (2, .int (enc (0))), (0, .ref (q 0)), (1, .int (enc (hh)))]) X dX1_frayOfAll_3 rfl (by decide) rfl ?_
  have L4 : ∀ (fu i : Nat), (i : Int) ≤ M 17 0 → M 17 0 + 1 ≤ (i : Int) + fu → T G c ({ frames := 2, cells := 0, slots := 0, locals := 44 } : Room) 4 0 0 (wT cy q M) 4 [(0, .ref (q 0)), (1, .int (enc (hh))), (2, .int (enc (frA M hh i))), (3, .int (enc ((i : Int))))] [] := by
    intro fu
    induction fu with
    | zero =>
      intro i  hi0 hi1
      exact absurd hi1 (by omega)
    | succ fu ih4 =>
      intro i  hi0_4 hi1_4 
      refine tw_iload_n X dX1_frayOfAll_4 3 rfl rfl ?_
      refine tw_aload_n X dX1_frayOfAll_5 0 rfl rfl ?_
      refine gf_X1_45 X (v := .int (enc (M 17 0))) 0 rfl rfl dX1_frayOfAll_6 ?_
      have b1 := hB 17 0
      refine tw_icmp_ge (tgt := 27) X (In_of (by omega) (by omega)) (In_of (by omega) (by omega)) dX1_frayOfAll_9 (by decide) (fun c9 => ?_) (fun c9 => ?_)
      · skip
        refine tw_iload_n X dX1_frayOfAll_27 2 rfl rfl ?_
        exact ret _ _ _ _ dX1_frayOfAll_28 ⟨by rw [show (M 17 0).toNat = i by omega], rfl⟩
      · skip
        refine tw_iload_n X dX1_frayOfAll_12 2 rfl rfl ?_
        refine tw_aload_n X dX1_frayOfAll_13 0 rfl rfl ?_
        refine tw_iload_n X dX1_frayOfAll_14 3 rfl rfl ?_
        refine tw_iload_n X dX1_frayOfAll_15 1 rfl rfl ?_
        refine tw_callV X (As := [.int (enc ((i : Int))), .int (enc (hh))]) (st := [.int (enc (frA M hh i))]) vw_X1_62 (m_X1_frayAt (q := q) M ((i : Int)) (hh) hB (by omega) (by omega)) ([]) ([]) rfl rfl (q0 := 0) rfl rfl rfl ⟨rfl, rfl, Nat.le_of_ble_eq_true rfl, Nat.le_of_ble_eq_true rfl⟩ ⟨Nat.le_of_ble_eq_true rfl, Nat.le_of_ble_eq_true rfl⟩ (Nat.le_of_ble_eq_true rfl) dX1_frayOfAll_16 (fun v w1 hp => ?_)
        obtain ⟨rfl, rfl⟩ := hp
        refine Teq (ws' := wT cy q M) (lv' := [(0, .ref (q 0)), (1, .int (enc (hh))), (2, .int (enc (frA M hh i))), (3, .int (enc ((i : Int))))]) (st' := [.int (enc (frayAt M (i : Int) hh)), .int (enc (frA M hh i))]) rfl rfl rfl ?_
        refine tw_iadd (z := (frA M hh i) + (frayAt M (i : Int) hh)) X dX1_frayOfAll_19 rfl ?_
        refine tw_istore_n (lv' := [(2, .int (enc ((frA M hh i) + (frayAt M (i : Int) hh)))), (0, .ref (q 0)), (1, .int (enc (hh))), (3, .int (enc ((i : Int))))]) X dX1_frayOfAll_20 rfl (by decide) rfl ?_
        refine tw_iinc (q := 3) (x := (i : Int)) (y := (i : Int) + 1) (lv' := [(3, .int (enc ((i : Int) + 1))), (2, .int (enc ((frA M hh i) + (frayAt M (i : Int) hh)))), (0, .ref (q 0)), (1, .int (enc (hh)))]) X dX1_frayOfAll_21 rfl rfl (by decide) rfl ?_
        refine tw_goto (tgt := 4) X dX1_frayOfAll_24 (by decide) ?_
        refine Tsub (lv' := [(0, .ref (q 0)), (1, .int (enc (hh))), (2, .int (enc ((frA M hh i) + (frayAt M (i : Int) hh)))), (3, .int (enc ((i : Int) + 1)))]) [2, 3, 1, 0] rfl ?_
        refine Teq (ws' := wT cy q M) (lv' := [(0, .ref (q 0)), (1, .int (enc (hh))), (2, .int (enc (frA M hh (i + 1)))), (3, .int (enc (((i + 1 : Nat) : Int))))]) (st' := []) (rfl) (lvk (lvk (lvc (by rw [frA_s]) (lvc (i_succ i) (rfl))))) rfl (ih4 (i + 1) (by omega) (by omega))
  refine Tsub (lv' := [(0, .ref (q 0)), (1, .int (enc (hh))), (2, .int (enc (0))), (3, .int (enc (0)))]) [2, 3, 1, 0] rfl ?_
  refine Teq (ws' := wT cy q M) (lv' := [(0, .ref (q 0)), (1, .int (enc (hh))), (2, .int (enc (frA M hh 0))), (3, .int (enc (((0 : Nat) : Int))))]) (st' := []) (rfl) (rfl) rfl (L4 (M 17 0 + 1).toNat 0 (by omega) (by omega))
set_option maxRecDepth 100000 in
set_option maxHeartbeats 4000000 in
theorem m_X1_frayOfThoseIn {G : va_G} {cy : ClassId} {q : Nat → Nat} (M : MT) (hB : Bd M) (h : 0 ≤ M 17 0 ∧ M 17 0 ≤ 12) : Ct G cy yX1_frayOfThoseIn cX1_frayOfThoseIn 3 (some .int) ({ frames := 1, cells := 0, slots := 0, locals := 21 } : Room) 0 0 [.ref (q 0)] (wT cy q M) (fun v w1 => v = some (.int (enc (frI M (M 17 0).toNat))) ∧ w1 = wT cy q M) := by
  refine Ct.ofI (by decide) (Nat.le_of_ble_eq_true rfl) rfl rfl (fun _ _ _ => rfl) ?_
  intro c X ret
  refine Tlv (lv' := [(0, .ref (q 0))]) rfl ?_
  refine tw_iconst X dX1_frayOfThoseIn_0 ?_
  refine tw_istore_n (lv' := [(1, .int (enc (0))), (0, .ref (q 0))]) X dX1_frayOfThoseIn_1 rfl (by decide) rfl ?_
  refine tw_iconst X dX1_frayOfThoseIn_2 ?_
  refine tw_istore_n (lv' := [(2, .int (enc (0))), (1, .int (enc (0))), (0, .ref (q 0))]) X dX1_frayOfThoseIn_3 rfl (by decide) rfl ?_
  have L4 : ∀ (fu i : Nat), (i : Int) ≤ M 17 0 → M 17 0 + 1 ≤ (i : Int) + fu → T G c ({ frames := 1, cells := 0, slots := 0, locals := 21 } : Room) 3 0 0 (wT cy q M) 4 [(0, .ref (q 0)), (1, .int (enc (frI M i))), (2, .int (enc ((i : Int))))] [] := by
    intro fu
    induction fu with
    | zero =>
      intro i  hi0 hi1
      exact absurd hi1 (by omega)
    | succ fu ih4 =>
      intro i  hi0_4 hi1_4 
      refine tw_iload_n X dX1_frayOfThoseIn_4 2 rfl rfl ?_
      refine tw_aload_n X dX1_frayOfThoseIn_5 0 rfl rfl ?_
      refine gf_X1_45 X (v := .int (enc (M 17 0))) 0 rfl rfl dX1_frayOfThoseIn_6 ?_
      have b1 := hB 17 0
      refine tw_icmp_ge (tgt := 46) X (In_of (by omega) (by omega)) (In_of (by omega) (by omega)) dX1_frayOfThoseIn_9 (by decide) (fun c9 => ?_) (fun c9 => ?_)
      · skip
        refine tw_iload_n X dX1_frayOfThoseIn_46 1 rfl rfl ?_
        exact ret _ _ _ _ dX1_frayOfThoseIn_47 ⟨by rw [show (M 17 0).toNat = i by omega], rfl⟩
      · skip
        refine tw_aload_n X dX1_frayOfThoseIn_12 0 rfl rfl ?_
        refine tw_iload_n X dX1_frayOfThoseIn_13 2 rfl rfl ?_
        refine tw_callV X (As := [.int (enc ((i : Int)))]) (st := []) vw_X1_52 (m_X1_isIn (q := q) M ((i : Int)) hB (by omega)) ([]) ([]) rfl rfl (q0 := 0) rfl rfl rfl ⟨rfl, rfl, Nat.le_of_ble_eq_true rfl, Nat.le_of_ble_eq_true rfl⟩ ⟨Nat.le_of_ble_eq_true rfl, Nat.le_of_ble_eq_true rfl⟩ (Nat.le_of_ble_eq_true rfl) dX1_frayOfThoseIn_14 (fun v w1 hp => ?_)
        obtain ⟨rfl, rfl⟩ := hp
        refine Teq (ws' := wT cy q M) (lv' := [(0, .ref (q 0)), (1, .int (enc (frI M i))), (2, .int (enc ((i : Int))))]) (st' := [.int (enc (if 0 ≤ M 15 (i : Int) then 1 else 0))]) rfl rfl rfl ?_
        refine tw_if_eq (tgt := 40) X In_b dX1_frayOfThoseIn_17 (by decide) (fun c17 => ?_) (fun c17 => ?_)
        · skip
          have c17 := b01.mp c17
          refine tw_iinc (q := 2) (x := (i : Int)) (y := (i : Int) + 1) (lv' := [(2, .int (enc ((i : Int) + 1))), (0, .ref (q 0)), (1, .int (enc (frI M i)))]) X dX1_frayOfThoseIn_40 rfl rfl (by decide) rfl ?_
          refine tw_goto (tgt := 4) X dX1_frayOfThoseIn_43 (by decide) ?_
          refine Tsub (lv' := [(0, .ref (q 0)), (1, .int (enc (frI M i))), (2, .int (enc ((i : Int) + 1)))]) [1, 2, 0] rfl ?_
          refine Teq (ws' := wT cy q M) (lv' := [(0, .ref (q 0)), (1, .int (enc (frI M (i + 1)))), (2, .int (enc (((i + 1 : Nat) : Int))))]) (st' := []) (rfl) (lvk (lvc (by rw [frI_s]; first | (rw [if_pos c17]; rfl) | (rw [if_neg c17]; omega)) (lvc (i_succ i) (rfl)))) rfl (ih4 (i + 1) (by omega) (by omega))
        · skip
          have c17 := b01n.mp c17
          refine tw_iload_n X dX1_frayOfThoseIn_20 1 rfl rfl ?_
          refine tw_iconst X dX1_frayOfThoseIn_21 ?_
          refine tw_aload_n X dX1_frayOfThoseIn_22 0 rfl rfl ?_
          refine gf_X1_36 X (v := .ref (q 9)) 0 rfl rfl dX1_frayOfThoseIn_23 ?_
          refine tw_iload_n X dX1_frayOfThoseIn_26 2 rfl rfl ?_
          refine tw_iald X (N := 12) (f := (M 15)) 9 rfl (by decide) (by omega) dX1_frayOfThoseIn_27 ?_
          refine Tst (st' := [.int (enc (M 15 (i : Int))), .int (enc (0)), .int (enc (frI M i))]) rfl ?_
          have b2 := hB 15 (i : Int)
          refine tw_aload_n X dX1_frayOfThoseIn_28 0 rfl rfl ?_
          refine gf_X1_33 X (v := .ref (q 8)) 0 rfl rfl dX1_frayOfThoseIn_29 ?_
          refine tw_iload_n X dX1_frayOfThoseIn_32 2 rfl rfl ?_
          refine tw_iald X (N := 12) (f := (M 14)) 8 rfl (by decide) (by omega) dX1_frayOfThoseIn_33 ?_
          refine Tst (st' := [.int (enc (M 14 (i : Int))), .int (enc (M 15 (i : Int))), .int (enc (0)), .int (enc (frI M i))]) rfl ?_
          have b3 := hB 14 (i : Int)
          refine tw_isub (z := (M 15 (i : Int)) - (M 14 (i : Int))) X dX1_frayOfThoseIn_34 rfl ?_
          refine tw_max (z := if 0 < (M 15 (i : Int)) - (M 14 (i : Int)) then (M 15 (i : Int)) - (M 14 (i : Int)) else 0) X (In_of (by omega) (by omega)) (In_of (by omega) (by omega)) wl_X1_56 wm_max_s wm_i wm_max_c (Nat.le_of_ble_eq_true rfl) (Nat.le_of_ble_eq_true rfl) ⟨Nat.le_of_ble_eq_true rfl, Nat.le_of_ble_eq_true rfl⟩ dX1_frayOfThoseIn_35 rfl ?_
          refine tw_iadd (z := (frI M i) + (if 0 < (M 15 (i : Int)) - (M 14 (i : Int)) then (M 15 (i : Int)) - (M 14 (i : Int)) else 0)) X dX1_frayOfThoseIn_38 rfl ?_
          refine tw_istore_n (lv' := [(1, .int (enc ((frI M i) + (if 0 < (M 15 (i : Int)) - (M 14 (i : Int)) then (M 15 (i : Int)) - (M 14 (i : Int)) else 0)))), (0, .ref (q 0)), (2, .int (enc ((i : Int))))]) X dX1_frayOfThoseIn_39 rfl (by decide) rfl ?_
          refine tw_iinc (q := 2) (x := (i : Int)) (y := (i : Int) + 1) (lv' := [(2, .int (enc ((i : Int) + 1))), (1, .int (enc ((frI M i) + (if 0 < (M 15 (i : Int)) - (M 14 (i : Int)) then (M 15 (i : Int)) - (M 14 (i : Int)) else 0)))), (0, .ref (q 0))]) X dX1_frayOfThoseIn_40 rfl rfl (by decide) rfl ?_
          refine tw_goto (tgt := 4) X dX1_frayOfThoseIn_43 (by decide) ?_
          refine Tsub (lv' := [(0, .ref (q 0)), (1, .int (enc ((frI M i) + (if 0 < (M 15 (i : Int)) - (M 14 (i : Int)) then (M 15 (i : Int)) - (M 14 (i : Int)) else 0)))), (2, .int (enc ((i : Int) + 1)))]) [2, 1, 0] rfl ?_
          refine Teq (ws' := wT cy q M) (lv' := [(0, .ref (q 0)), (1, .int (enc (frI M (i + 1)))), (2, .int (enc (((i + 1 : Nat) : Int))))]) (st' := []) (rfl) (lvk (lvc (by rw [frI_s]; first | (rw [if_pos c17]; rfl) | (rw [if_neg c17]; omega)) (lvc (i_succ i) (rfl)))) rfl (ih4 (i + 1) (by omega) (by omega))
  refine Tsub (lv' := [(0, .ref (q 0)), (1, .int (enc (0))), (2, .int (enc (0)))]) [2, 1, 0] rfl ?_
  refine Teq (ws' := wT cy q M) (lv' := [(0, .ref (q 0)), (1, .int (enc (frI M 0))), (2, .int (enc (((0 : Nat) : Int))))]) (st' := []) (rfl) (rfl) rfl (L4 (M 17 0 + 1).toNat 0 (by omega) (by omega))
set_option maxRecDepth 100000 in
set_option maxHeartbeats 4000000 in
theorem m_X1_copyFrom {G : va_G} {cy : ClassId} {q : Nat → Nat} (M N : MT) : Ct G cy yX1_copyFrom cX1_copyFrom 2 none ({ frames := 1, cells := 0, slots := 0, locals := 48 } : Room) 0 0 [.ref (q 0), .ref (q 10)] (wT cy q M ++ wT cy (fun i => q (10 + i)) N) (fun v w1 => v = none ∧ w1 = wT cy q N ++ wT cy (fun i => q (10 + i)) N) := by
  refine Ct.ofV (by decide) (Nat.le_of_ble_eq_true rfl) rfl rfl ?_
  intro c X ret
  refine Tlv (lv' := [(0, .ref (q 0)), (1, .ref (q 10))]) rfl ?_
  refine tw_aload_n X dX1_copyFrom_0 1 rfl rfl ?_
  refine gf_X1_9 X (v := .ref (q 11)) 10 rfl rfl dX1_copyFrom_1 ?_
  refine tw_iconst X dX1_copyFrom_4 ?_
  refine tw_aload_n X dX1_copyFrom_5 0 rfl rfl ?_
  refine gf_X1_9 X (v := .ref (q 1)) 0 rfl rfl dX1_copyFrom_6 ?_
  refine tw_iconst X dX1_copyFrom_9 ?_
  refine tw_bipush X dX1_copyFrom_10 (by decide) ?_
  refine tw_copy X (N := 12) (f := (N 7)) (g := (M 7)) (ws' := wT cy q (upf M 7 (N 7)) ++ wT cy (fun i => q (10 + i)) N) 11 1 wl_X1_39 wa_n wa_s wa_i rfl rfl rfl (by decide) (Nat.le_of_ble_eq_true rfl) (Nat.le_of_ble_eq_true rfl) dX1_copyFrom_12 rfl ?_
  refine tw_aload_n X dX1_copyFrom_15 1 rfl rfl ?_
  refine gf_X1_15 X (v := .ref (q 12)) 10 rfl rfl dX1_copyFrom_16 ?_
  refine tw_iconst X dX1_copyFrom_19 ?_
  refine tw_aload_n X dX1_copyFrom_20 0 rfl rfl ?_
  refine gf_X1_15 X (v := .ref (q 2)) 0 rfl rfl dX1_copyFrom_21 ?_
  refine tw_iconst X dX1_copyFrom_24 ?_
  refine tw_bipush X dX1_copyFrom_25 (by decide) ?_
  refine tw_copy X (N := 12) (f := (N 8)) (g := (M 8)) (ws' := wT cy q (upf (upf M 7 (N 7)) 8 (N 8)) ++ wT cy (fun i => q (10 + i)) N) 12 2 wl_X1_39 wa_n wa_s wa_i rfl rfl rfl (by decide) (Nat.le_of_ble_eq_true rfl) (Nat.le_of_ble_eq_true rfl) dX1_copyFrom_27 rfl ?_
  refine tw_aload_n X dX1_copyFrom_30 1 rfl rfl ?_
  refine gf_X1_18 X (v := .ref (q 13)) 10 rfl rfl dX1_copyFrom_31 ?_
  refine tw_iconst X dX1_copyFrom_34 ?_
  refine tw_aload_n X dX1_copyFrom_35 0 rfl rfl ?_
  refine gf_X1_18 X (v := .ref (q 3)) 0 rfl rfl dX1_copyFrom_36 ?_
  refine tw_iconst X dX1_copyFrom_39 ?_
  refine tw_bipush X dX1_copyFrom_40 (by decide) ?_
  refine tw_copy X (N := 12) (f := (N 9)) (g := (M 9)) (ws' := wT cy q (upf (upf (upf M 7 (N 7)) 8 (N 8)) 9 (N 9)) ++ wT cy (fun i => q (10 + i)) N) 13 3 wl_X1_39 wa_n wa_s wa_i rfl rfl rfl (by decide) (Nat.le_of_ble_eq_true rfl) (Nat.le_of_ble_eq_true rfl) dX1_copyFrom_42 rfl ?_
  refine tw_aload_n X dX1_copyFrom_45 1 rfl rfl ?_
  refine gf_X1_21 X (v := .ref (q 14)) 10 rfl rfl dX1_copyFrom_46 ?_
  refine tw_iconst X dX1_copyFrom_49 ?_
  refine tw_aload_n X dX1_copyFrom_50 0 rfl rfl ?_
  refine gf_X1_21 X (v := .ref (q 4)) 0 rfl rfl dX1_copyFrom_51 ?_
  refine tw_iconst X dX1_copyFrom_54 ?_
  refine tw_bipush X dX1_copyFrom_55 (by decide) ?_
  refine tw_copy X (N := 12) (f := (N 10)) (g := (M 10)) (ws' := wT cy q (upf (upf (upf (upf M 7 (N 7)) 8 (N 8)) 9 (N 9)) 10 (N 10)) ++ wT cy (fun i => q (10 + i)) N) 14 4 wl_X1_39 wa_n wa_s wa_i rfl rfl rfl (by decide) (Nat.le_of_ble_eq_true rfl) (Nat.le_of_ble_eq_true rfl) dX1_copyFrom_57 rfl ?_
  refine tw_aload_n X dX1_copyFrom_60 1 rfl rfl ?_
  refine gf_X1_24 X (v := .ref (q 15)) 10 rfl rfl dX1_copyFrom_61 ?_
  refine tw_iconst X dX1_copyFrom_64 ?_
  refine tw_aload_n X dX1_copyFrom_65 0 rfl rfl ?_
  refine gf_X1_24 X (v := .ref (q 5)) 0 rfl rfl dX1_copyFrom_66 ?_
  refine tw_iconst X dX1_copyFrom_69 ?_
  refine tw_bipush X dX1_copyFrom_70 (by decide) ?_
  refine tw_copy X (N := 12) (f := (N 11)) (g := (M 11)) (ws' := wT cy q (upf (upf (upf (upf (upf M 7 (N 7)) 8 (N 8)) 9 (N 9)) 10 (N 10)) 11 (N 11)) ++ wT cy (fun i => q (10 + i)) N) 15 5 wl_X1_39 wa_n wa_s wa_i rfl rfl rfl (by decide) (Nat.le_of_ble_eq_true rfl) (Nat.le_of_ble_eq_true rfl) dX1_copyFrom_72 rfl ?_
  refine tw_aload_n X dX1_copyFrom_75 1 rfl rfl ?_
  refine gf_X1_27 X (v := .ref (q 16)) 10 rfl rfl dX1_copyFrom_76 ?_
  refine tw_iconst X dX1_copyFrom_79 ?_
  refine tw_aload_n X dX1_copyFrom_80 0 rfl rfl ?_
  refine gf_X1_27 X (v := .ref (q 6)) 0 rfl rfl dX1_copyFrom_81 ?_
  refine tw_iconst X dX1_copyFrom_84 ?_
  refine tw_bipush X dX1_copyFrom_85 (by decide) ?_
  refine tw_copy X (N := 12) (f := (N 12)) (g := (M 12)) (ws' := wT cy q (upf (upf (upf (upf (upf (upf M 7 (N 7)) 8 (N 8)) 9 (N 9)) 10 (N 10)) 11 (N 11)) 12 (N 12)) ++ wT cy (fun i => q (10 + i)) N) 16 6 wl_X1_39 wa_n wa_s wa_i rfl rfl rfl (by decide) (Nat.le_of_ble_eq_true rfl) (Nat.le_of_ble_eq_true rfl) dX1_copyFrom_87 rfl ?_
  refine tw_aload_n X dX1_copyFrom_90 1 rfl rfl ?_
  refine gf_X1_30 X (v := .ref (q 17)) 10 rfl rfl dX1_copyFrom_91 ?_
  refine tw_iconst X dX1_copyFrom_94 ?_
  refine tw_aload_n X dX1_copyFrom_95 0 rfl rfl ?_
  refine gf_X1_30 X (v := .ref (q 7)) 0 rfl rfl dX1_copyFrom_96 ?_
  refine tw_iconst X dX1_copyFrom_99 ?_
  refine tw_bipush X dX1_copyFrom_100 (by decide) ?_
  refine tw_copy X (N := 12) (f := (N 13)) (g := (M 13)) (ws' := wT cy q (upf (upf (upf (upf (upf (upf (upf M 7 (N 7)) 8 (N 8)) 9 (N 9)) 10 (N 10)) 11 (N 11)) 12 (N 12)) 13 (N 13)) ++ wT cy (fun i => q (10 + i)) N) 17 7 wl_X1_39 wa_n wa_s wa_i rfl rfl rfl (by decide) (Nat.le_of_ble_eq_true rfl) (Nat.le_of_ble_eq_true rfl) dX1_copyFrom_102 rfl ?_
  refine tw_aload_n X dX1_copyFrom_105 1 rfl rfl ?_
  refine gf_X1_33 X (v := .ref (q 18)) 10 rfl rfl dX1_copyFrom_106 ?_
  refine tw_iconst X dX1_copyFrom_109 ?_
  refine tw_aload_n X dX1_copyFrom_110 0 rfl rfl ?_
  refine gf_X1_33 X (v := .ref (q 8)) 0 rfl rfl dX1_copyFrom_111 ?_
  refine tw_iconst X dX1_copyFrom_114 ?_
  refine tw_bipush X dX1_copyFrom_115 (by decide) ?_
  refine tw_copy X (N := 12) (f := (N 14)) (g := (M 14)) (ws' := wT cy q (upf (upf (upf (upf (upf (upf (upf (upf M 7 (N 7)) 8 (N 8)) 9 (N 9)) 10 (N 10)) 11 (N 11)) 12 (N 12)) 13 (N 13)) 14 (N 14)) ++ wT cy (fun i => q (10 + i)) N) 18 8 wl_X1_39 wa_n wa_s wa_i rfl rfl rfl (by decide) (Nat.le_of_ble_eq_true rfl) (Nat.le_of_ble_eq_true rfl) dX1_copyFrom_117 rfl ?_
  refine tw_aload_n X dX1_copyFrom_120 1 rfl rfl ?_
  refine gf_X1_36 X (v := .ref (q 19)) 10 rfl rfl dX1_copyFrom_121 ?_
  refine tw_iconst X dX1_copyFrom_124 ?_
  refine tw_aload_n X dX1_copyFrom_125 0 rfl rfl ?_
  refine gf_X1_36 X (v := .ref (q 9)) 0 rfl rfl dX1_copyFrom_126 ?_
  refine tw_iconst X dX1_copyFrom_129 ?_
  refine tw_bipush X dX1_copyFrom_130 (by decide) ?_
  refine tw_copy X (N := 12) (f := (N 15)) (g := (M 15)) (ws' := wT cy q (upf (upf (upf (upf (upf (upf (upf (upf (upf M 7 (N 7)) 8 (N 8)) 9 (N 9)) 10 (N 10)) 11 (N 11)) 12 (N 12)) 13 (N 13)) 14 (N 14)) 15 (N 15)) ++ wT cy (fun i => q (10 + i)) N) 19 9 wl_X1_39 wa_n wa_s wa_i rfl rfl rfl (by decide) (Nat.le_of_ble_eq_true rfl) (Nat.le_of_ble_eq_true rfl) dX1_copyFrom_132 rfl ?_
  refine tw_aload_n X dX1_copyFrom_135 0 rfl rfl ?_
  refine tw_aload_n X dX1_copyFrom_136 1 rfl rfl ?_
  refine gf_X1_45 X (v := .int (enc (N 17 0))) 10 rfl rfl dX1_copyFrom_137 ?_
  refine pf_X1_45 X (ws' := wT cy q (upc (upf (upf (upf (upf (upf (upf (upf (upf (upf M 7 (N 7)) 8 (N 8)) 9 (N 9)) 10 (N 10)) 11 (N 11)) 12 (N 12)) 13 (N 13)) 14 (N 14)) 15 (N 15)) 17 (N 17 0)) ++ wT cy (fun i => q (10 + i)) N) 0 rfl (Nat.le_of_ble_eq_true rfl) rfl rfl dX1_copyFrom_140 rfl ?_
  refine tw_aload_n X dX1_copyFrom_143 0 rfl rfl ?_
  refine tw_aload_n X dX1_copyFrom_144 1 rfl rfl ?_
  refine gf_X1_49 X (v := .int (enc (N 18 0))) 10 rfl rfl dX1_copyFrom_145 ?_
  refine pf_X1_49 X (ws' := wT cy q (upc (upc (upf (upf (upf (upf (upf (upf (upf (upf (upf M 7 (N 7)) 8 (N 8)) 9 (N 9)) 10 (N 10)) 11 (N 11)) 12 (N 12)) 13 (N 13)) 14 (N 14)) 15 (N 15)) 17 (N 17 0)) 18 (N 18 0)) ++ wT cy (fun i => q (10 + i)) N) 0 rfl (Nat.le_of_ble_eq_true rfl) rfl rfl dX1_copyFrom_148 rfl ?_
  exact ret _ _ _ dX1_copyFrom_151 ⟨rfl, rfl⟩
end
section
/-! DISTANCES: walks, the distance dst, and what a table of sums must hold to be it -/
theorem ilt (a b : Int) : a < b ∨ b ≤ a := by omega
def usable (M : MT) (o : Bool) (r : Int) : Prop := 0 ≤ r ∧ r < M 16 0 ∧ (o = true → M 6 r = 0)
def wk (M : MT) (o : Bool) : Nat → Int → Int → Int → Prop
  | 0, a, b, L => a = b ∧ L = 0
  | k + 1, a, b, L => ∃ r : Int, usable M o r ∧ 0 ≤ endF M r a ∧ wk M o k (endF M r a) b (L - len M r)
/-- the roads are well made -/
def WFR (M : MT) : Prop := 0 ≤ M 16 0 ∧ M 16 0 ≤ 20 ∧ 0 ≤ M 19 0 ∧ M 19 0 ≤ 10 ∧ (∀ r : Int, 0 ≤ r → r < M 16 0 → 0 ≤ M 0 r ∧ M 0 r < M 19 0 ∧ 0 ≤ M 1 r ∧ M 1 r < M 19 0 ∧ M 0 r ≠ M 1 r ∧ 1 ≤ M 2 r ∧ M 2 r ≤ 9 ∧ 0 ≤ M 5 r ∧ M 5 r ≤ 3)
theorem WFR.ln {M : MT} (h : WFR M) {r : Int} (h0 : 0 ≤ r) (h1 : r < M 16 0) : 1 ≤ len M r ∧ len M r ≤ 12 := by
  have := h.2.2.2.2 r h0 h1
  unfold len
  omega
theorem endF_ok {M : MT} (h : WFR M) {r a : Int} (h0 : 0 ≤ r) (h1 : r < M 16 0) (he : 0 ≤ endF M r a) : (a = M 0 r ∧ endF M r a = M 1 r) ∨ (a = M 1 r ∧ endF M r a = M 0 r) := by
  unfold endF at he ⊢
  split at he
  · rename_i q; rw [if_pos q]; exact Or.inl ⟨q.symm, rfl⟩
  · rename_i q
    split at he
    · rename_i q2; rw [if_neg q, if_pos q2]; exact Or.inr ⟨q2.symm, rfl⟩
    · omega
theorem endF_0 (M : MT) (r : Int) : endF M r (M 0 r) = M 1 r := by unfold endF; rw [if_pos rfl]
theorem endF_1 {M : MT} (h : WFR M) {r : Int} (h0 : 0 ≤ r) (h1 : r < M 16 0) : endF M r (M 1 r) = M 0 r := by
  have := h.2.2.2.2 r h0 h1
  unfold endF; rw [if_neg (by omega), if_pos rfl]
theorem endF_rng {M : MT} (h : WFR M) {r a : Int} (h0 : 0 ≤ r) (h1 : r < M 16 0) (he : 0 ≤ endF M r a) : 0 ≤ a ∧ a < M 19 0 ∧ endF M r a < M 19 0 ∧ endF M r (endF M r a) = a := by
  have g := h.2.2.2.2 r h0 h1
  rcases endF_ok h h0 h1 he with ⟨e1, e2⟩ | ⟨e1, e2⟩
  · rw [e2, endF_1 h h0 h1]; omega
  · rw [e2, endF_0]; omega
theorem wk_pos {M : MT} {o : Bool} (h : WFR M) : ∀ (k : Nat) (a b L : Int), wk M o k a b L → (k : Int) ≤ L
  | 0, a, b, L, q => by rw [q.2]; exact Int.le_refl _
  | k + 1, a, b, L, ⟨r, hu, he, q⟩ => by
    have := wk_pos h k _ b _ q
    have := h.ln hu.1 hu.2.1
    omega
theorem wk_app {M : MT} {o : Bool} : ∀ (k j : Nat) (a c b L L' : Int), wk M o k a c L → wk M o j c b L' → wk M o (k + j) a b (L + L')
  | 0, j, a, c, b, L, L', q, q' => by
    obtain ⟨rfl, rfl⟩ := q
    rw [Nat.zero_add, Int.zero_add]; exact q'
  | k + 1, j, a, c, b, L, L', ⟨r, hu, he, q⟩, q' => by
    rw [show k + 1 + j = (k + j) + 1 by omega]
    exact ⟨r, hu, he, by rw [show L + L' - len M r = (L - len M r) + L' by omega]; exact wk_app k j _ c b _ L' q q'⟩
theorem wk_1 {M : MT} {o : Bool} {r a : Int} (hu : usable M o r) (he : 0 ≤ endF M r a) : wk M o 1 a (endF M r a) (len M r) := ⟨r, hu, he, rfl, by omega⟩
theorem wk_rev {M : MT} {o : Bool} (h : WFR M) : ∀ (k : Nat) (a b L : Int), 0 ≤ a → wk M o k a b L → wk M o k b a L
  | 0, a, b, L, _, q => ⟨q.1.symm, q.2⟩
  | k + 1, a, b, L, ha, ⟨r, hu, he, q⟩ => by
    have h1 := wk_rev h k _ b _ he q
    have g := endF_rng h hu.1 hu.2.1 he
    have h2 := wk_1 (a := endF M r a) hu (by rw [g.2.2.2]; exact ha)
    rw [g.2.2.2] at h2
    have h3 := wk_app k 1 b _ a _ _ h1 h2
    rw [show L - len M r + len M r = L by omega] at h3
    exact h3
/-- d is the distance: 1000000 where there is no way that short -/
def IsD (M : MT) (o : Bool) (a b d : Int) : Prop := 0 ≤ d ∧ d ≤ 1000000 ∧ (∀ (k : Nat) (L : Int), wk M o k a b L → d ≤ L) ∧ (d < 1000000 → ∃ k : Nat, wk M o k a b d)
theorem IsD.uniq {M : MT} {o : Bool} {a b d e : Int} (h : IsD M o a b d) (h' : IsD M o a b e) : d = e := by
  obtain ⟨-, d1, d2, d3⟩ := h
  obtain ⟨-, e1, e2, e3⟩ := h'
  rcases ilt d 1000000 with hd | hd
  · obtain ⟨k, q⟩ := d3 hd
    have := e2 k d q
    obtain ⟨k', q'⟩ := e3 (by omega)
    have := d2 k' e q'
    omega
  · rcases ilt e 1000000 with he | he
    · obtain ⟨k', q'⟩ := e3 he
      have := d2 k' e q'
      omega
    · omega
theorem IsD.ex {M : MT} {o : Bool} (h : WFR M) (a b : Int) : ∃ d, IsD M o a b d := by
  by_cases q : ∃ x : Nat, x < 1000000 ∧ ∃ k : Nat, wk M o k a b x
  · obtain ⟨x, ⟨hx, k, hk⟩, hm⟩ := pk_least (fun x : Nat => x < 1000000 ∧ ∃ k : Nat, wk M o k a b x) q
    refine ⟨x, by omega, by omega, fun j L hj => ?_, fun _ => ⟨k, hk⟩⟩
    have hp := wk_pos h j a b L hj
    rcases ilt L x with hL | hL
    · have := hm L.toNat (by omega)
      exact absurd ⟨by omega, j, by rw [show ((L.toNat : Nat) : Int) = L by omega]; exact hj⟩ this
    · exact hL
  · refine ⟨1000000, by decide, by decide, fun j L hj => ?_, fun z => absurd z (by decide)⟩
    have hp := wk_pos h j a b L hj
    rcases ilt L 1000000 with hL | hL
    · exact absurd ⟨L.toNat, by omega, j, by rw [show ((L.toNat : Nat) : Int) = L by omega]; exact hj⟩ q
    · exact hL
noncomputable def dst (M : MT) (o : Bool) (a b : Int) : Int := Classical.epsilon (fun d => IsD M o a b d)
theorem dst_ok {M : MT} {o : Bool} (h : WFR M) (a b : Int) : IsD M o a b (dst M o a b) := Classical.epsilon_spec (IsD.ex h a b)
theorem dst_sym {M : MT} {o : Bool} (h : WFR M) {a b : Int} (ha : 0 ≤ a) (hb : 0 ≤ b) : dst M o a b = dst M o b a := by
  refine (dst_ok h a b).uniq ?_
  obtain ⟨d0, d1, d2, d3⟩ := dst_ok (o := o) h b a
  refine ⟨d0, d1, fun k L q => d2 k L (wk_rev h k a b L ha q), fun z => ?_⟩
  obtain ⟨k, q⟩ := d3 z
  exact ⟨k, wk_rev h k b a _ hb q⟩
theorem dst_self {M : MT} {o : Bool} (h : WFR M) (a : Int) : dst M o a a = 0 := by
  obtain ⟨d0, -, d2, -⟩ := dst_ok (o := o) h a a
  have := d2 0 0 ⟨rfl, rfl⟩
  omega
theorem wk_congr {M N : MT} {o : Bool} (h0 : M 0 = N 0) (h1 : M 1 = N 1) (h2 : M 2 = N 2) (h5 : M 5 = N 5) (h6 : M 6 = N 6) (h16 : M 16 0 = N 16 0) : ∀ (k : Nat) (a b L : Int), wk M o k a b L → wk N o k a b L
  | 0, a, b, L, q => q
  | k + 1, a, b, L, ⟨r, hu, he, q⟩ => by
    have e1 : endF N r a = endF M r a := by unfold endF; rw [h0, h1]
    have e2 : len N r = len M r := by unfold len; rw [h2, h5]
    refine ⟨r, ⟨hu.1, by rw [← h16]; exact hu.2.1, by rw [← h6]; exact hu.2.2⟩, by rw [e1]; exact he, ?_⟩
    rw [e1, e2]
    exact wk_congr h0 h1 h2 h5 h6 h16 k _ b _ q
theorem dst_congr {M N : MT} {o : Bool} (h0 : M 0 = N 0) (h1 : M 1 = N 1) (h2 : M 2 = N 2) (h5 : M 5 = N 5) (h6 : M 6 = N 6) (h16 : M 16 0 = N 16 0) (a b : Int) : dst M o a b = dst N o a b := by
  unfold dst
  congr 1
  funext d
  have hw : ∀ (k : Nat) (L : Int), wk M o k a b L ↔ wk N o k a b L := fun k L => ⟨wk_congr h0 h1 h2 h5 h6 h16 k a b L, wk_congr h0.symm h1.symm h2.symm h5.symm h6.symm h16.symm k a b L⟩
  unfold IsD
  simp only [hw]
theorem wk_congrA {M N : MT} (h0 : M 0 = N 0) (h1 : M 1 = N 1) (h2 : M 2 = N 2) (h5 : M 5 = N 5) (h16 : M 16 0 = N 16 0) : ∀ (k : Nat) (a b L : Int), wk M false k a b L → wk N false k a b L
  | 0, a, b, L, q => q
  | k + 1, a, b, L, ⟨r, hu, he, q⟩ => by
    have e1 : endF N r a = endF M r a := by unfold endF; rw [h0, h1]
    have e2 : len N r = len M r := by unfold len; rw [h2, h5]
    refine ⟨r, ⟨hu.1, by rw [← h16]; exact hu.2.1, fun z => by cases z⟩, by rw [e1]; exact he, ?_⟩
    rw [e1, e2]
    exact wk_congrA h0 h1 h2 h5 h16 k _ b _ q
/-! the bound: a distance below 1000000 is at most 108 -/
def cnt (p : Nat → Prop) [DecidablePred p] : Nat → Nat
  | 0 => 0
  | n + 1 => cnt p n + (if p n then 1 else 0)
theorem cnt_le (p : Nat → Prop) [DecidablePred p] : ∀ n, cnt p n ≤ n
  | 0 => Nat.le_refl 0
  | n + 1 => by
    have := cnt_le p n
    unfold cnt
    split <;> omega
theorem cnt_mono (p q : Nat → Prop) [DecidablePred p] [DecidablePred q] (h : ∀ i, p i → q i) : ∀ n, cnt p n ≤ cnt q n
  | 0 => Nat.le_refl 0
  | n + 1 => by
    have := cnt_mono p q h n
    unfold cnt
    by_cases hp : p n
    · rw [if_pos hp, if_pos (h n hp)]; omega
    · rw [if_neg hp]; split <;> omega
theorem cnt_lt (p q : Nat → Prop) [DecidablePred p] [DecidablePred q] (h : ∀ i, p i → q i) (v : Nat) (hv : q v) (hp : ¬ p v) : ∀ n, v < n → cnt p n + 1 ≤ cnt q n
  | 0, hn => absurd hn (Nat.not_lt_zero v)
  | n + 1, hn => by
    unfold cnt
    by_cases e : v = n
    · subst e
      rw [if_pos hv, if_neg hp]
      have := cnt_mono p q h v
      omega
    · have := cnt_lt p q h v hv hp n (by omega)
      by_cases hpn : p n
      · rw [if_pos hpn, if_pos (h n hpn)]; omega
      · rw [if_neg hpn]; split <;> omega
theorem cnt_pos (p : Nat → Prop) [DecidablePred p] (v : Nat) (hv : p v) : ∀ n, v < n → 1 ≤ cnt p n
  | 0, hn => absurd hn (Nat.not_lt_zero v)
  | n + 1, hn => by
    unfold cnt
    by_cases e : v = n
    · subst e; rw [if_pos hv]; omega
    · have := cnt_pos p v hv n (by omega); omega
theorem dst_step {M : MT} {o : Bool} (h : WFR M) {a b : Int} (ha : 0 ≤ a) (hd : dst M o a b < 1000000) (hne : 0 < dst M o a b) : ∃ u : Int, 0 ≤ u ∧ u < M 19 0 ∧ a < M 19 0 ∧ dst M o u b < dst M o a b ∧ dst M o a b ≤ dst M o u b + 12 := by
  obtain ⟨d0, d1, d2, d3⟩ := dst_ok (o := o) h a b
  obtain ⟨k, q⟩ := d3 hd
  cases k with
  | zero => have := q.2; omega
  | succ k =>
    obtain ⟨r, hu, he, q⟩ := q
    have g := endF_rng h hu.1 hu.2.1 he
    have hl := h.ln hu.1 hu.2.1
    obtain ⟨u0, u1, u2, u3⟩ := dst_ok (o := o) h (endF M r a) b
    have hlt := u2 k _ q
    obtain ⟨k', q'⟩ := u3 (by omega)
    have := d2 _ _ (wk_app 1 k' a _ b _ _ (wk_1 hu he) q')
    exact ⟨endF M r a, he, g.2.2.1, g.2.1, by omega, by omega⟩
theorem dst_cnt {M : MT} {o : Bool} (h : WFR M) (b : Int) : ∀ (j : Nat) (a : Int), 0 ≤ a → a < M 19 0 → dst M o a b < 1000000 → 12 * (j : Int) < dst M o a b → j + 2 ≤ cnt (fun i : Nat => dst M o (i : Int) b ≤ dst M o a b) 10
  | 0, a, ha, ha2, hd, hj => by
    obtain ⟨u, u0, u1, -, u3, u4⟩ := dst_step h ha hd (by omega)
    have hn := h.2.2.2.1
    have h1 := cnt_pos (fun i : Nat => dst M o (i : Int) b ≤ dst M o u b) u.toNat (by show dst M o ((u.toNat : Nat) : Int) b ≤ _; rw [show ((u.toNat : Nat) : Int) = u by omega]; exact Int.le_refl _) 10 (by omega)
    have h2 := cnt_lt (fun i : Nat => dst M o (i : Int) b ≤ dst M o u b) (fun i : Nat => dst M o (i : Int) b ≤ dst M o a b) (fun i q => by have : dst M o (i : Int) b ≤ dst M o u b := q; show dst M o (i : Int) b ≤ dst M o a b; omega) a.toNat (by show dst M o ((a.toNat : Nat) : Int) b ≤ _; rw [show ((a.toNat : Nat) : Int) = a by omega]; exact Int.le_refl _) (by show ¬ dst M o ((a.toNat : Nat) : Int) b ≤ _; rw [show ((a.toNat : Nat) : Int) = a by omega]; omega) 10 (by omega)
    omega
  | j + 1, a, ha, ha2, hd, hj => by
    obtain ⟨u, u0, u1, -, u3, u4⟩ := dst_step h ha hd (by omega)
    have hn := h.2.2.2.1
    have h1 := dst_cnt (o := o) h b j u u0 u1 (by omega) (by omega)
    have h2 := cnt_lt (fun i : Nat => dst M o (i : Int) b ≤ dst M o u b) (fun i : Nat => dst M o (i : Int) b ≤ dst M o a b) (fun i q => by have : dst M o (i : Int) b ≤ dst M o u b := q; show dst M o (i : Int) b ≤ dst M o a b; omega) a.toNat (by show dst M o ((a.toNat : Nat) : Int) b ≤ _; rw [show ((a.toNat : Nat) : Int) = a by omega]; exact Int.le_refl _) (by show ¬ dst M o ((a.toNat : Nat) : Int) b ≤ _; rw [show ((a.toNat : Nat) : Int) = a by omega]; omega) 10 (by omega)
    omega
theorem dst_108 {M : MT} {o : Bool} (h : WFR M) {a b : Int} (ha : 0 ≤ a) (ha2 : a < M 19 0) (hd : dst M o a b < 1000000) : dst M o a b ≤ 108 := by
  rcases ilt 108 (dst M o a b) with q | q
  · have h1 := dst_cnt h b 9 a ha ha2 hd (by omega)
    have h2 := cnt_le (fun i : Nat => dst M o (i : Int) b ≤ dst M o a b) 10
    omega
  · exact q
/-! a table of sums: s (a * 10 + b) -/
def mn (x y : Int) : Int := if y < x then y else x
theorem mn_le (x y : Int) : mn x y ≤ x ∧ mn x y ≤ y ∧ (mn x y = x ∨ mn x y = y) := by unfold mn; split <;> omega
/-- the table, at the stage at which crossings below k have been gone over -/
def Stg (M : MT) (o : Bool) (n k : Int) (s : Int → Int) : Prop :=
  (∀ a b : Int, 0 ≤ a → a < n → 0 ≤ b → b < n → 0 ≤ s (a * 10 + b) ∧ s (a * 10 + b) ≤ 1000000 ∧ s (a * 10 + b) = s (b * 10 + a) ∧ (s (a * 10 + b) < 1000000 → ∃ j : Nat, wk M o j a b (s (a * 10 + b)))) ∧
  (∀ a : Int, 0 ≤ a → a < n → s (a * 10 + a) = 0) ∧
  (∀ r : Int, usable M o r → s (M 0 r * 10 + M 1 r) ≤ len M r ∧ s (M 1 r * 10 + M 0 r) ≤ len M r) ∧
  (∀ a b c : Int, 0 ≤ a → a < n → 0 ≤ b → b < n → 0 ≤ c → c < k → c < n → s (a * 10 + b) ≤ s (a * 10 + c) + s (c * 10 + b))
theorem Stg.next {M : MT} {o : Bool} {n k : Int} {s s' : Int → Int} (hW : WFR M) (hn : n = M 19 0) (hk : 0 ≤ k ∧ k < n) (h : Stg M o n k s) (h' : ∀ a b : Int, 0 ≤ a → a < n → 0 ≤ b → b < n → s' (a * 10 + b) = mn (s (a * 10 + b)) (s (a * 10 + k) + s (k * 10 + b))) : Stg M o n (k + 1) s' := by
  obtain ⟨h1, h2, h3, h4⟩ := h
  refine ⟨fun a b a0 a1 b0 b1 => ?_, fun a a0 a1 => ?_, fun r hu => ?_, fun a b c a0 a1 b0 b1 c0 c1 c2 => ?_⟩
  · have g1 := h1 a b a0 a1 b0 b1
    have g2 := h1 a k a0 a1 hk.1 hk.2
    have g3 := h1 k b hk.1 hk.2 b0 b1
    have m1 := mn_le (s (a * 10 + b)) (s (a * 10 + k) + s (k * 10 + b))
    rw [h' a b a0 a1 b0 b1, h' b a b0 b1 a0 a1]
    refine ⟨?_, by omega, ?_, fun hf => ?_⟩
    · rcases m1.2.2 with e | e <;> rw [e] <;> omega
    · have g4 := h1 b k b0 b1 hk.1 hk.2
      have g5 := h1 k a hk.1 hk.2 a0 a1
      rw [g1.2.2.1, show s (a * 10 + k) + s (k * 10 + b) = s (b * 10 + k) + s (k * 10 + a) by omega]
    · rcases m1.2.2 with e | e
      · rw [e] at hf ⊢; exact g1.2.2.2 hf
      · rw [e] at hf ⊢
        obtain ⟨j1, q1⟩ := g2.2.2.2 (by omega)
        obtain ⟨j2, q2⟩ := g3.2.2.2 (by omega)
        exact ⟨j1 + j2, wk_app j1 j2 a k b _ _ q1 q2⟩
  · rw [h' a a a0 a1 a0 a1, h2 a a0 a1]
    have g2 := h1 a k a0 a1 hk.1 hk.2
    have g3 := h1 k a hk.1 hk.2 a0 a1
    unfold mn
    rw [if_neg (by omega)]
  · have g := hW.2.2.2.2 r hu.1 hu.2.1
    have g3 := h3 r hu
    rw [h' _ _ (by omega) (by omega) (by omega) (by omega), h' _ _ (by omega) (by omega) (by omega) (by omega)]
    have m1 := mn_le (s (M 0 r * 10 + M 1 r)) (s (M 0 r * 10 + k) + s (k * 10 + M 1 r))
    have m2 := mn_le (s (M 1 r * 10 + M 0 r)) (s (M 1 r * 10 + k) + s (k * 10 + M 0 r))
    omega
  · rw [h' a b a0 a1 b0 b1, h' a c a0 a1 c0 c2, h' c b c0 c2 b0 b1]
    have m0 := mn_le (s (a * 10 + b)) (s (a * 10 + k) + s (k * 10 + b))
    have m1 := mn_le (s (a * 10 + c)) (s (a * 10 + k) + s (k * 10 + c))
    have m2 := mn_le (s (c * 10 + b)) (s (c * 10 + k) + s (k * 10 + b))
    have z1 := h1 k c hk.1 hk.2 c0 c2
    have z2 := h1 c k c0 c2 hk.1 hk.2
    have z3 := h2 k hk.1 hk.2
    by_cases e : c = k
    · subst e
      rcases m1.2.2 with e1 | e1 <;> rcases m2.2.2 with e2 | e2 <;> rw [e1, e2] <;> omega
    · have t1 := h4 a b c a0 a1 b0 b1 c0 (by omega) c2
      have t2 := h4 k b c hk.1 hk.2 b0 b1 c0 (by omega) c2
      have t3 := h4 a k c a0 a1 hk.1 hk.2 c0 (by omega) c2
      rcases m1.2.2 with e1 | e1 <;> rcases m2.2.2 with e2 | e2 <;> rw [e1, e2] <;> omega
theorem Stg.dst {M : MT} {o : Bool} {s : Int → Int} (hW : WFR M) (h : Stg M o (M 19 0) (M 19 0) s) {a b : Int} (a0 : 0 ≤ a) (a1 : a < M 19 0) (b0 : 0 ≤ b) (b1 : b < M 19 0) : s (a * 10 + b) = dst M o a b := by
  obtain ⟨h1, h2, h3, h4⟩ := h
  refine IsD.uniq (M := M) (o := o) (a := a) (b := b) ?_ (dst_ok hW a b)
  have g := h1 a b a0 a1 b0 b1
  refine ⟨g.1, g.2.1, fun k => ?_, g.2.2.2⟩
  induction k generalizing a with
  | zero => intro L q; obtain ⟨rfl, rfl⟩ := q; rw [h2 a a0 a1]; exact Int.le_refl _
  | succ k ih =>
    intro L q
    obtain ⟨r, hu, he, q⟩ := q
    have gr := endF_rng hW hu.1 hu.2.1 he
    have i1 := ih he gr.2.2.1 (h1 _ b he gr.2.2.1 b0 b1) _ q
    have t := h4 a b (endF M r a) a0 a1 b0 b1 he gr.2.2.1 gr.2.2.1
    have g3 := h3 r hu
    rcases endF_ok hW hu.1 hu.2.1 he with ⟨e1, e2⟩ | ⟨e1, e2⟩
    · rw [e2] at t i1
      have : s (a * 10 + M 1 r) ≤ len M r := by rw [e1]; exact g3.1
      omega
    · rw [e2] at t i1
      have : s (a * 10 + M 0 r) ≤ len M r := by rw [e1]; exact g3.2
      omega
end
section
/-! WAYS: the table of sums is made: cleared, the roads laid in, each crossing gone over -/
def nx (s : Int → Int) (k a b : Int) : Int := mn (s (a * 10 + b)) (s (a * 10 + k) + s (k * 10 + b))
def dn (i j a b : Int) : Prop := (b < a ∧ (a < i ∨ (a = i ∧ b < j))) ∨ (a < b ∧ (b < i ∨ (b = i ∧ a < j)))
def SymT (n : Int) (s : Int → Int) : Prop := (∀ a b : Int, 0 ≤ a → a < n → 0 ≤ b → b < n → 0 ≤ s (a * 10 + b) ∧ s (a * 10 + b) ≤ 1000000 ∧ s (a * 10 + b) = s (b * 10 + a)) ∧ ∀ a : Int, 0 ≤ a → a < n → s (a * 10 + a) = 0
def GI (n k : Int) (s s1 : Int → Int) (i j : Int) : Prop := ∀ a b : Int, 0 ≤ a → a < n → 0 ≤ b → b < n → (dn i j a b → s1 (a * 10 + b) = nx s k a b) ∧ (¬ dn i j a b → s1 (a * 10 + b) = s (a * 10 + b))
theorem nx_k {n k : Int} {s : Int → Int} (hs : SymT n s) (hk : 0 ≤ k ∧ k < n) {b : Int} (b0 : 0 ≤ b) (b1 : b < n) : nx s k k b = s (k * 10 + b) ∧ nx s k b k = s (b * 10 + k) := by
  have := hs.2 k hk.1 hk.2
  have := (hs.1 k b hk.1 hk.2 b0 b1).1
  have := (hs.1 b k b0 b1 hk.1 hk.2).1
  unfold nx mn
  exact ⟨by rw [if_neg (by omega)], by rw [if_neg (by omega)]⟩
theorem nx_sym {n k : Int} {s : Int → Int} (hs : SymT n s) (hk : 0 ≤ k ∧ k < n) {a b : Int} (a0 : 0 ≤ a) (a1 : a < n) (b0 : 0 ≤ b) (b1 : b < n) : nx s k a b = nx s k b a := by
  have h1 := (hs.1 a b a0 a1 b0 b1).2.2
  have h2 := (hs.1 a k a0 a1 hk.1 hk.2).2.2
  have h3 := (hs.1 k b hk.1 hk.2 b0 b1).2.2
  unfold nx
  rw [h1, h2, h3, Int.add_comm (s (k * 10 + a))]
theorem GI.zero (n k : Int) (s : Int → Int) : GI n k s s 1 0 := fun a b a0 a1 b0 b1 => ⟨fun h => by unfold dn at h; omega, fun _ => rfl⟩
theorem GI.kj {n k : Int} {s s1 : Int → Int} {i j : Int} (h : GI n k s s1 i j) (hs : SymT n s) (hk : 0 ≤ k ∧ k < n) {b : Int} (b0 : 0 ≤ b) (b1 : b < n) : s1 (k * 10 + b) = s (k * 10 + b) ∧ s1 (b * 10 + k) = s (b * 10 + k) := by
  have g1 := h k b hk.1 hk.2 b0 b1
  have g2 := h b k b0 b1 hk.1 hk.2
  have g3 := nx_k hs hk b0 b1
  constructor
  · by_cases q : dn i j k b
    · rw [g1.1 q]; exact g3.1
    · exact g1.2 q
  · by_cases q : dn i j b k
    · rw [g2.1 q]; exact g3.2
    · exact g2.2 q
theorem GI.ij {n k : Int} {s s1 : Int → Int} {i j : Int} (h : GI n k s s1 i j) (i0 : 0 ≤ i) (i1 : i < n) (j0 : 0 ≤ j) (j1 : j < i) : s1 (i * 10 + j) = s (i * 10 + j) := (h i j i0 i1 j0 (by omega)).2 (by unfold dn; omega)
/-- the pair is made shorter -/
theorem GI.set {n k : Int} {s s1 : Int → Int} {i j v : Int} (h : GI n k s s1 i j) (hs : SymT n s) (hn : n ≤ 10) (hk : 0 ≤ k ∧ k < n) (i0 : 0 ≤ i) (i1 : i < n) (j0 : 0 ≤ j) (j1 : j < i) (hv : v = nx s k i j) : GI n k s (ups (ups s1 (i * 10 + j) v) (j * 10 + i) v) i (j + 1) := by
  intro a b a0 a1 b0 b1
  have g := h a b a0 a1 b0 b1
  have hv2 := nx_sym hs hk i0 i1 j0 (by omega)
  unfold ups
  by_cases e1 : a * 10 + b = j * 10 + i
  · have ea : a = j := by omega
    have eb : b = i := by omega
    subst ea; subst eb
    rw [if_pos rfl]
    exact ⟨fun _ => by rw [hv, hv2], fun q => absurd (by unfold dn; omega) q⟩
  · rw [if_neg e1]
    by_cases e2 : a * 10 + b = i * 10 + j
    · have ea : a = i := by omega
      have eb : b = j := by omega
      subst ea; subst eb
      rw [if_pos rfl]
      exact ⟨fun _ => hv, fun q => absurd (by unfold dn; omega) q⟩
    · rw [if_neg e2]
      have n1 : ¬ (a = j ∧ b = i) := fun q => e1 (by rw [q.1, q.2])
      have n2 : ¬ (a = i ∧ b = j) := fun q => e2 (by rw [q.1, q.2])
      exact ⟨fun q => g.1 (by unfold dn at q ⊢; omega), fun q => g.2 (by unfold dn at q ⊢; omega)⟩
theorem GI.keep {n k : Int} {s s1 : Int → Int} {i j : Int} (h : GI n k s s1 i j) (hs : SymT n s) (hk : 0 ≤ k ∧ k < n) (i0 : 0 ≤ i) (i1 : i < n) (j0 : 0 ≤ j) (j1 : j < i) (hv : s (i * 10 + j) = nx s k i j) : GI n k s s1 i (j + 1) := by
  intro a b a0 a1 b0 b1
  have g := h a b a0 a1 b0 b1
  have hv2 := nx_sym hs hk i0 i1 j0 (by omega)
  have hs2 := (hs.1 i j i0 i1 j0 (by omega)).2.2
  refine ⟨fun q => ?_, fun q => g.2 (by unfold dn at q ⊢; omega)⟩
  by_cases q2 : dn i j a b
  · exact g.1 q2
  · rw [g.2 q2]
    rcases (show (a = i ∧ b = j) ∨ (a = j ∧ b = i) by unfold dn at q q2; omega) with ⟨rfl, rfl⟩ | ⟨rfl, rfl⟩
    · exact hv
    · rw [← hs2, hv, hv2]
theorem GI.next {n k : Int} {s s1 : Int → Int} {i j : Int} (h : GI n k s s1 i j) (hj : i ≤ j) : GI n k s s1 (i + 1) 0 := by
  intro a b a0 a1 b0 b1
  have g := h a b a0 a1 b0 b1
  exact ⟨fun q => g.1 (by unfold dn at q ⊢; omega), fun q => g.2 (by unfold dn at q ⊢; omega)⟩
theorem GI.skip {n k : Int} {s s1 : Int → Int} {i j : Int} (h : GI n k s s1 i j) (hs : SymT n s) (hk : 0 ≤ k ∧ k < n) (i0 : 0 ≤ i) (i1 : i < n) (hf : 1000000 ≤ s (i * 10 + k)) : GI n k s s1 (i + 1) 0 := by
  intro a b a0 a1 b0 b1
  have g := h a b a0 a1 b0 b1
  have h1 := hs.1 a b a0 a1 b0 b1
  have h2 := hs.1 i k i0 i1 hk.1 hk.2
  have h3 := hs.1 k b hk.1 hk.2 b0 b1
  have h4 := hs.1 a k a0 a1 hk.1 hk.2
  refine ⟨fun q => ?_, fun q => g.2 (by unfold dn at q ⊢; omega)⟩
  by_cases q2 : dn i j a b
  · exact g.1 q2
  · rw [g.2 q2]
    unfold nx mn
    rw [if_neg]
    rcases (show a = i ∨ b = i by unfold dn at q q2; omega) with rfl | rfl
    · omega
    · omega
theorem GI.done {n k : Int} {s s1 : Int → Int} {i : Int} (h : GI n k s s1 i 0) (hs : SymT n s) (hk : 0 ≤ k ∧ k < n) (hi : n ≤ i) : ∀ a b : Int, 0 ≤ a → a < n → 0 ≤ b → b < n → s1 (a * 10 + b) = mn (s (a * 10 + b)) (s (a * 10 + k) + s (k * 10 + b)) := by
  intro a b a0 a1 b0 b1
  have g := h a b a0 a1 b0 b1
  by_cases e : a = b
  · subst e
    rw [g.2 (by unfold dn; omega), hs.2 a a0 a1]
    have := (hs.1 a k a0 a1 hk.1 hk.2).1
    have := (hs.1 k a hk.1 hk.2 a0 a1).1
    unfold mn
    rw [if_neg (by omega)]
  · exact g.1 (by unfold dn; omega)
theorem Stg.symT {M : MT} {o : Bool} {n k : Int} {s : Int → Int} (h : Stg M o n k s) : SymT n s := ⟨fun a b a0 a1 b0 b1 => ⟨(h.1 a b a0 a1 b0 b1).1, (h.1 a b a0 a1 b0 b1).2.1, (h.1 a b a0 a1 b0 b1).2.2.1⟩, h.2.1⟩
/-- the roads below r are laid in -/
def RI (M : MT) (o : Bool) (n r : Int) (s : Int → Int) : Prop :=
  (∀ a b : Int, 0 ≤ a → a < n → 0 ≤ b → b < n → 0 ≤ s (a * 10 + b) ∧ s (a * 10 + b) ≤ 1000000 ∧ s (a * 10 + b) = s (b * 10 + a) ∧ (s (a * 10 + b) < 1000000 → ∃ j : Nat, wk M o j a b (s (a * 10 + b)))) ∧
  (∀ a : Int, 0 ≤ a → a < n → s (a * 10 + a) = 0) ∧
  (∀ r' : Int, usable M o r' → r' < r → s (M 0 r' * 10 + M 1 r') ≤ len M r' ∧ s (M 1 r' * 10 + M 0 r') ≤ len M r')
theorem RI.zero {M : MT} {o : Bool} {n : Int} {s : Int → Int} (hn : n ≤ 10) (h : ∀ a b : Int, 0 ≤ a → a < 10 → 0 ≤ b → b < 10 → s (a * 10 + b) = if a = b then 0 else 1000000) : RI M o n 0 s := by
  refine ⟨fun a b a0 a1 b0 b1 => ?_, fun a a0 a1 => ?_, fun r hu h0 => absurd hu.1 (by omega)⟩
  · rw [h a b a0 (by omega) b0 (by omega), h b a b0 (by omega) a0 (by omega)]
    by_cases e : a = b
    · subst e; rw [if_pos rfl]; exact ⟨by decide, by decide, rfl, fun _ => ⟨0, rfl, rfl⟩⟩
    · rw [if_neg e, if_neg (Ne.symm e)]; exact ⟨by decide, by decide, rfl, fun q => absurd q (by decide)⟩
  · rw [h a a a0 (by omega) a0 (by omega), if_pos rfl]
theorem RI.set {M : MT} {o : Bool} {n r : Int} {s : Int → Int} (hW : WFR M) (hn : n = M 19 0) (h : RI M o n r s) (hu : usable M o r) (hl : len M r < s (M 0 r * 10 + M 1 r)) : RI M o n (r + 1) (ups (ups s (M 0 r * 10 + M 1 r) (len M r)) (M 1 r * 10 + M 0 r) (len M r)) := by
  obtain ⟨h1, h2, h3⟩ := h
  have g := hW.2.2.2.2 r hu.1 hu.2.1
  have gl := hW.ln hu.1 hu.2.1
  have hn10 := hW.2.2.2.1
  have w0 : wk M o 1 (M 0 r) (M 1 r) (len M r) := by have := wk_1 (a := M 0 r) hu (by rw [endF_0]; omega); rw [endF_0] at this; exact this
  have w1 : wk M o 1 (M 1 r) (M 0 r) (len M r) := by have := wk_1 (a := M 1 r) hu (by rw [endF_1 hW hu.1 hu.2.1]; omega); rw [endF_1 hW hu.1 hu.2.1] at this; exact this
  have ev : ∀ a b : Int, 0 ≤ a → a < n → 0 ≤ b → b < n → ups (ups s (M 0 r * 10 + M 1 r) (len M r)) (M 1 r * 10 + M 0 r) (len M r) (a * 10 + b) = if (a = M 0 r ∧ b = M 1 r) ∨ (a = M 1 r ∧ b = M 0 r) then len M r else s (a * 10 + b) := by
    intro a b a0 a1 b0 b1
    unfold ups
    by_cases e1 : a = M 1 r ∧ b = M 0 r
    · rw [if_pos (by rw [e1.1, e1.2]), if_pos (Or.inr e1)]
    · rw [if_neg (fun q => e1 (by omega))]
      by_cases e2 : a = M 0 r ∧ b = M 1 r
      · rw [if_pos (by rw [e2.1, e2.2]), if_pos (Or.inl e2)]
      · rw [if_neg (fun q => e2 (by omega)), if_neg (fun q => q.elim e2 e1)]
  have hsym := h1 (M 0 r) (M 1 r) (by omega) (by omega) (by omega) (by omega)
  refine ⟨fun a b a0 a1 b0 b1 => ?_, fun a a0 a1 => ?_, fun r' hu' hr' => ?_⟩
  · rw [ev a b a0 a1 b0 b1, ev b a b0 b1 a0 a1]
    by_cases e : (a = M 0 r ∧ b = M 1 r) ∨ (a = M 1 r ∧ b = M 0 r)
    · rw [if_pos e, if_pos (by omega)]
      refine ⟨by omega, by omega, rfl, fun _ => ⟨1, ?_⟩⟩
      rcases e with ⟨rfl, rfl⟩ | ⟨rfl, rfl⟩
      · exact w0
      · exact w1
    · rw [if_neg e, if_neg (by omega)]
      exact h1 a b a0 a1 b0 b1
  · rw [ev a a a0 a1 a0 a1, if_neg (by omega)]
    exact h2 a a0 a1
  · have g' := hW.2.2.2.2 r' hu'.1 hu'.2.1
    rw [ev _ _ (by omega) (by omega) (by omega) (by omega), ev _ _ (by omega) (by omega) (by omega) (by omega)]
    have hs' := (h1 (M 0 r') (M 1 r') (by omega) (by omega) (by omega) (by omega)).2.2.1
    by_cases er : r' = r
    · subst er
      rw [if_pos (Or.inl ⟨rfl, rfl⟩), if_pos (Or.inr ⟨rfl, rfl⟩)]
      exact ⟨Int.le_refl _, Int.le_refl _⟩
    · have g3 := h3 r' hu' (by omega)
      constructor
      · split
        · rename_i q
          rcases q with ⟨q1, q2⟩ | ⟨q1, q2⟩
          · rw [q1, q2] at g3; omega
          · rw [q1, q2] at g3; omega
        · exact g3.1
      · split
        · rename_i q
          rcases q with ⟨q1, q2⟩ | ⟨q1, q2⟩
          · rw [q1, q2] at g3; omega
          · rw [q1, q2] at g3; omega
        · exact g3.2
theorem RI.keep {M : MT} {o : Bool} {n r : Int} {s : Int → Int} (hW : WFR M) (hn : n = M 19 0) (h : RI M o n r s) (hu : usable M o r → s (M 0 r * 10 + M 1 r) ≤ len M r) : RI M o n (r + 1) s := by
  obtain ⟨h1, h2, h3⟩ := h
  refine ⟨h1, h2, fun r' hu' hr' => ?_⟩
  by_cases er : r' = r
  · subst er
    have g' := hW.2.2.2.2 r' hu'.1 hu'.2.1
    have := (h1 (M 0 r') (M 1 r') (by omega) (by omega) (by omega) (by omega)).2.2.1
    have := hu hu'
    omega
  · exact h3 r' hu' (by omega)
theorem RI.stg {M : MT} {o : Bool} {n : Int} {s : Int → Int} (h : RI M o n (M 16 0) s) : Stg M o n 0 s := ⟨h.1, h.2.1, fun r hu => h.2.2 r hu hu.2.1, fun a b c _ _ _ _ c0 c1 _ => absurd c0 (by omega)⟩
/-- the table is the distances' -/
def WV (M : MT) (o : Bool) (s : Int → Int) : Prop := ∀ a b : Int, 0 ≤ a → a < M 19 0 → 0 ≤ b → b < M 19 0 → s (a * 10 + b) = dst M o a b
def parF (s : Int → Int) (i : Int) : Nat → Int
  | 0 => 0
  | j + 1 => parF s i j + (if 1000000 ≤ s (i * 10 + j) then 1 else 0)
theorem parF_s (s : Int → Int) (i : Int) (j : Nat) : parF s i (j + 1) = parF s i j + (if 1000000 ≤ s (i * 10 + j) then 1 else 0) := rfl
def parP (s : Int → Int) : Nat → Int
  | 0 => 0
  | i + 1 => parP s i + parF s i i
theorem parP_s (s : Int → Int) (i : Nat) : parP s (i + 1) = parP s i + parF s i i := rfl
set_option maxRecDepth 100000 in
set_option maxHeartbeats 4000000 in
theorem m_X2_clear {G : va_G} {cy : ClassId} {q : Nat → Nat} (s : Int → Int) : Ct G cy yX2_clear cX2_clear 3 none ({ frames := 0, cells := 0, slots := 0, locals := 0 } : Room) 0 0 [.ref (q 0)] (wY cy q s) (fun v w1 => v = none ∧ ∃ s', (∀ a b : Int, 0 ≤ a → a < 10 → 0 ≤ b → b < 10 → s' (a * 10 + b) = if a = b then 0 else 1000000) ∧ w1 = wY cy q s') := by
  refine Ct.ofV (by decide) (Nat.le_of_ble_eq_true rfl) rfl rfl ?_
  intro c X ret
  refine Tlv (lv' := [(0, .ref (q 0))]) rfl ?_
  refine tw_iconst X dX2_clear_0 ?_
  refine tw_istore_n (lv' := [(1, .int (enc (0))), (0, .ref (q 0))]) X dX2_clear_1 rfl (by decide) rfl ?_
  have L2 : ∀ (fu i : Nat) (s1 : Int → Int), (i : Int) ≤ (10 : Int) → (10 : Int) + 1 ≤ (i : Int) + fu → (∀ a b : Int, 0 ≤ a → a < (i : Int) → 0 ≤ b → b < 10 → s1 (a * 10 + b) = if a = b then 0 else 1000000) → T G c ({ frames := 0, cells := 0, slots := 0, locals := 0 } : Room) 3 0 0 (wY cy q s1) 2 [(0, .ref (q 0)), (1, .int (enc ((i : Int))))] [] := by
    intro fu
    induction fu with
    | zero =>
      intro i s1 hi0 hi1
      exact absurd hi1 (by omega)
    | succ fu ih2 =>
      intro i s1 hi0_2 hi1_2 hI
      refine tw_iload_n X dX2_clear_2 1 rfl rfl ?_
      refine tw_bipush X dX2_clear_3 (by decide) ?_
      refine tw_icmp_ge (tgt := 50) X (In_of (by omega) (by omega)) (In_of (by omega) (by omega)) dX2_clear_5 (by decide) (fun c5 => ?_) (fun c5 => ?_)
      · skip
        exact ret _ _ _ dX2_clear_50 ⟨rfl, s1, fun a b a0 a1 b0 b1 => hI a b a0 (by omega) b0 b1, rfl⟩
      · skip
        refine tw_iconst X dX2_clear_8 ?_
        refine tw_istore_n (lv' := [(2, .int (enc (0))), (0, .ref (q 0)), (1, .int (enc ((i : Int))))]) X dX2_clear_9 rfl (by decide) rfl ?_
        have L10 : ∀ (fu j : Nat) (s2 : Int → Int), (j : Int) ≤ (10 : Int) → (10 : Int) + 1 ≤ (j : Int) + fu → (∀ a b : Int, 0 ≤ a → 0 ≤ b → b < 10 → (a < (i : Int) ∨ (a = (i : Int) ∧ b < (j : Int))) → s2 (a * 10 + b) = if a = b then 0 else 1000000) → T G c ({ frames := 0, cells := 0, slots := 0, locals := 0 } : Room) 3 0 0 (wY cy q s2) 10 [(0, .ref (q 0)), (1, .int (enc ((i : Int)))), (2, .int (enc ((j : Int))))] [] := by
          intro fu
          induction fu with
          | zero =>
            intro j s2 hi0 hi1
            exact absurd hi1 (by omega)
          | succ fu ih10 =>
            intro j s2 hi0_10 hi1_10 hJ
            refine tw_iload_n X dX2_clear_10 2 rfl rfl ?_
            refine tw_bipush X dX2_clear_11 (by decide) ?_
            refine tw_icmp_ge (tgt := 44) X (In_of (by omega) (by omega)) (In_of (by omega) (by omega)) dX2_clear_13 (by decide) (fun c13 => ?_) (fun c13 => ?_)
            · skip
              refine tw_iinc (q := 1) (x := (i : Int)) (y := (i : Int) + 1) (lv' := [(1, .int (enc ((i : Int) + 1))), (0, .ref (q 0)), (2, .int (enc ((j : Int))))]) X dX2_clear_44 rfl rfl (by decide) rfl ?_
              refine tw_goto (tgt := 2) X dX2_clear_47 (by decide) ?_
              refine Tsub (lv' := [(0, .ref (q 0)), (1, .int (enc ((i : Int) + 1)))]) [1, 0] rfl ?_
              refine Teq (ws' := wY cy q (s2)) (lv' := [(0, .ref (q 0)), (1, .int (enc (((i + 1 : Nat) : Int))))]) (st' := []) (rfl) (lvk (lvc (i_succ i) (rfl))) rfl (ih2 (i + 1) (s2) (by omega) (by omega) (fun a b a0 a1 b0 b1 => hJ a b a0 b0 b1 (by omega)))
            · skip
              refine tw_aload_n X dX2_clear_16 0 rfl rfl ?_
              refine gf_X2_9 X (v := .ref (q 1)) 0 rfl rfl dX2_clear_17 ?_
              refine tw_iload_n X dX2_clear_20 1 rfl rfl ?_
              refine tw_bipush X dX2_clear_21 (by decide) ?_
              refine tw_imul (z := (i : Int) * 10) X dX2_clear_23 rfl ?_
              refine tw_iload_n X dX2_clear_24 2 rfl rfl ?_
              refine tw_iadd (z := ((i : Int) * 10) + (j : Int)) X dX2_clear_25 rfl ?_
              refine tw_iload_n X dX2_clear_26 1 rfl rfl ?_
              refine tw_iload_n X dX2_clear_27 2 rfl rfl ?_
              refine tw_icmp_ne (tgt := 35) X (In_of (by omega) (by omega)) (In_of (by omega) (by omega)) dX2_clear_28 (by decide) (fun c28 => ?_) (fun c28 => ?_)
              · skip
                refine tw_ldc X (z := 1000000) wk_X2_47 (by decide) dX2_clear_35 ?_
                refine tw_iast X (N := 100) (f := s2) (ws' := wY cy q (ups s2 (((i : Int) * 10) + (j : Int)) (1000000))) 1 rfl (by decide) (by omega) dX2_clear_37 rfl ?_
                refine tw_iinc (q := 2) (x := (j : Int)) (y := (j : Int) + 1) (lv' := [(2, .int (enc ((j : Int) + 1))), (0, .ref (q 0)), (1, .int (enc ((i : Int))))]) X dX2_clear_38 rfl rfl (by decide) rfl ?_
                refine tw_goto (tgt := 10) X dX2_clear_41 (by decide) ?_
                refine Tsub (lv' := [(0, .ref (q 0)), (1, .int (enc ((i : Int)))), (2, .int (enc ((j : Int) + 1)))]) [1, 2, 0] rfl ?_
                refine Teq (ws' := wY cy q ((ups s2 (((i : Int) * 10) + (j : Int)) (1000000)))) (lv' := [(0, .ref (q 0)), (1, .int (enc ((i : Int)))), (2, .int (enc (((j + 1 : Nat) : Int))))]) (st' := []) (rfl) (lvk (lvk (lvc (i_succ j) (rfl)))) rfl (ih10 (j + 1) ((ups s2 (((i : Int) * 10) + (j : Int)) (1000000))) (by omega) (by omega) (fun a b a0 b0 b1 h => by unfold ups; by_cases e : a * 10 + b = (i : Int) * 10 + (j : Int); (rw [if_pos e]; first | rw [if_pos (by omega)] | rw [if_neg (by omega)]); (rw [if_neg e]; exact hJ a b a0 b0 b1 (by omega))))
              · skip
                refine tw_iconst X dX2_clear_31 ?_
                refine tw_goto (tgt := 37) X dX2_clear_32 (by decide) ?_
                refine tw_iast X (N := 100) (f := s2) (ws' := wY cy q (ups s2 (((i : Int) * 10) + (j : Int)) (0))) 1 rfl (by decide) (by omega) dX2_clear_37 rfl ?_
                refine tw_iinc (q := 2) (x := (j : Int)) (y := (j : Int) + 1) (lv' := [(2, .int (enc ((j : Int) + 1))), (0, .ref (q 0)), (1, .int (enc ((i : Int))))]) X dX2_clear_38 rfl rfl (by decide) rfl ?_
                refine tw_goto (tgt := 10) X dX2_clear_41 (by decide) ?_
                refine Tsub (lv' := [(0, .ref (q 0)), (1, .int (enc ((i : Int)))), (2, .int (enc ((j : Int) + 1)))]) [1, 2, 0] rfl ?_
                refine Teq (ws' := wY cy q ((ups s2 (((i : Int) * 10) + (j : Int)) (0)))) (lv' := [(0, .ref (q 0)), (1, .int (enc ((i : Int)))), (2, .int (enc (((j + 1 : Nat) : Int))))]) (st' := []) (rfl) (lvk (lvk (lvc (i_succ j) (rfl)))) rfl (ih10 (j + 1) ((ups s2 (((i : Int) * 10) + (j : Int)) (0))) (by omega) (by omega) (fun a b a0 b0 b1 h => by unfold ups; by_cases e : a * 10 + b = (i : Int) * 10 + (j : Int); (rw [if_pos e]; first | rw [if_pos (by omega)] | rw [if_neg (by omega)]); (rw [if_neg e]; exact hJ a b a0 b0 b1 (by omega))))
        refine Tsub (lv' := [(0, .ref (q 0)), (1, .int (enc ((i : Int)))), (2, .int (enc (0)))]) [1, 2, 0] rfl ?_
        refine Teq (ws' := wY cy q (s1)) (lv' := [(0, .ref (q 0)), (1, .int (enc ((i : Int)))), (2, .int (enc (((0 : Nat) : Int))))]) (st' := []) (rfl) (rfl) rfl (L10 ((10 : Int) + 1).toNat 0 (s1) (by omega) (by omega) (fun a b a0 b0 b1 h => hI a b a0 (by omega) b0 b1))
  refine Tsub (lv' := [(0, .ref (q 0)), (1, .int (enc (0)))]) [1, 0] rfl ?_
  refine Teq (ws' := wY cy q (s)) (lv' := [(0, .ref (q 0)), (1, .int (enc (((0 : Nat) : Int))))]) (st' := []) (rfl) (rfl) rfl (L2 ((10 : Int) + 1).toNat 0 (s) (by omega) (by omega) (fun a b a0 a1 => absurd a1 (by omega)))
set_option maxRecDepth 100000 in
set_option maxHeartbeats 4000000 in
theorem m_X2_goOver {G : va_G} {cy : ClassId} {q : Nat → Nat} (s : Int → Int) (k n : Int) (hn : 0 ≤ n ∧ n ≤ 10) (hk : 0 ≤ k ∧ k < n) (hs : SymT n s) : Ct G cy yX2_goOver cX2_goOver 7 none ({ frames := 0, cells := 0, slots := 0, locals := 0 } : Room) 0 0 [.ref (q 0), .int (enc (k)), .int (enc (n))] (wY cy q s) (fun v w1 => v = none ∧ ∃ s', (∀ a b : Int, 0 ≤ a → a < n → 0 ≤ b → b < n → s' (a * 10 + b) = mn (s (a * 10 + b)) (s (a * 10 + k) + s (k * 10 + b))) ∧ w1 = wY cy q s') := by
  refine Ct.ofV (by decide) (Nat.le_of_ble_eq_true rfl) rfl rfl ?_
  intro c X ret
  refine Tlv (lv' := [(0, .ref (q 0)), (1, .int (enc (k))), (2, .int (enc (n)))]) rfl ?_
  refine tw_iconst X dX2_goOver_0 ?_
  refine tw_istore_n (lv' := [(3, .int (enc (1))), (0, .ref (q 0)), (1, .int (enc (k))), (2, .int (enc (n)))]) X dX2_goOver_1 rfl (by decide) rfl ?_
  have L2 : ∀ (fu i : Nat) (s1 : Int → Int), (i : Int) ≤ n + 1 → n + 1 + 1 ≤ (i : Int) + fu → 1 ≤ (i : Int) → GI n k s s1 (i : Int) 0 → T G c ({ frames := 0, cells := 0, slots := 0, locals := 0 } : Room) 7 0 0 (wY cy q s1) 2 [(0, .ref (q 0)), (1, .int (enc (k))), (2, .int (enc (n))), (3, .int (enc ((i : Int))))] [] := by
    intro fu
    induction fu with
    | zero =>
      intro i s1 hi0 hi1
      exact absurd hi1 (by omega)
    | succ fu ih2 =>
      intro i s1 hi0_2 hi1_2 h1i hI
      refine tw_iload_n X dX2_goOver_2 3 rfl rfl ?_
      refine tw_iload_n X dX2_goOver_3 2 rfl rfl ?_
      refine tw_icmp_ge (tgt := 110) X (In_of (by omega) (by omega)) (In_of (by omega) (by omega)) dX2_goOver_4 (by decide) (fun c4 => ?_) (fun c4 => ?_)
      · skip
        exact ret _ _ _ dX2_goOver_110 ⟨rfl, s1, hI.done hs hk c4, rfl⟩
      · skip
        refine tw_aload_n X dX2_goOver_7 0 rfl rfl ?_
        refine gf_X2_9 X (v := .ref (q 1)) 0 rfl rfl dX2_goOver_8 ?_
        refine tw_iload_n X dX2_goOver_11 3 rfl rfl ?_
        refine tw_bipush X dX2_goOver_12 (by decide) ?_
        refine tw_imul (z := (i : Int) * 10) X dX2_goOver_14 rfl ?_
        refine tw_iload_n X dX2_goOver_15 1 rfl rfl ?_
        refine tw_iadd (z := ((i : Int) * 10) + k) X dX2_goOver_16 rfl ?_
        refine tw_iald X (N := 100) (f := s1) 1 rfl (by decide) (by omega) dX2_goOver_17 ?_
        refine Tst (st' := [.int (enc (s1 (((i : Int) * 10) + k)))]) rfl ?_
        refine tw_istore (lv' := [(4, .int (enc (s1 (((i : Int) * 10) + k)))), (0, .ref (q 0)), (1, .int (enc (k))), (2, .int (enc (n))), (3, .int (enc ((i : Int))))]) X dX2_goOver_18 (by decide) rfl ?_
        refine tw_iconst X dX2_goOver_20 ?_
        refine tw_istore (lv' := [(5, .int (enc (0))), (4, .int (enc (s1 (((i : Int) * 10) + k)))), (0, .ref (q 0)), (1, .int (enc (k))), (2, .int (enc (n))), (3, .int (enc ((i : Int))))]) X dX2_goOver_21 (by decide) rfl ?_
        have L23 : ∀ (fu j : Nat) (s2 : Int → Int), (j : Int) ≤ (i : Int) → (i : Int) + 1 ≤ (j : Int) + fu → GI n k s s2 (i : Int) (j : Int) → T G c ({ frames := 0, cells := 0, slots := 0, locals := 0 } : Room) 7 0 0 (wY cy q s2) 23 [(0, .ref (q 0)), (1, .int (enc (k))), (2, .int (enc (n))), (3, .int (enc ((i : Int)))), (4, .int (enc (s ((i : Int) * 10 + k)))), (5, .int (enc ((j : Int))))] [] := by
          intro fu
          induction fu with
          | zero =>
            intro j s2 hi0 hi1
            exact absurd hi1 (by omega)
          | succ fu ih23 =>
            intro j s2 hi0_23 hi1_23 hJ
            refine tw_iload X dX2_goOver_23 4 rfl ?_
            have bf := hs.1 (i : Int) k (by omega) c4 hk.1 hk.2
            refine tw_ldc X (z := 1000000) wk_X2_47 (by decide) dX2_goOver_25 ?_
            refine tw_icmp_ge (tgt := 104) X (In_of (by omega) (by omega)) (In_of (by omega) (by omega)) dX2_goOver_27 (by decide) (fun c27 => ?_) (fun c27 => ?_)
            · skip
              refine tw_iinc (q := 3) (x := (i : Int)) (y := (i : Int) + 1) (lv' := [(3, .int (enc ((i : Int) + 1))), (0, .ref (q 0)), (1, .int (enc (k))), (2, .int (enc (n))), (4, .int (enc (s ((i : Int) * 10 + k)))), (5, .int (enc ((j : Int))))]) X dX2_goOver_104 rfl rfl (by decide) rfl ?_
              refine tw_goto (tgt := 2) X dX2_goOver_107 (by decide) ?_
              refine Tsub (lv' := [(0, .ref (q 0)), (1, .int (enc (k))), (2, .int (enc (n))), (3, .int (enc ((i : Int) + 1)))]) [1, 2, 3, 0] rfl ?_
              refine Teq (ws' := wY cy q (s2)) (lv' := [(0, .ref (q 0)), (1, .int (enc (k))), (2, .int (enc (n))), (3, .int (enc (((i + 1 : Nat) : Int))))]) (st' := []) (rfl) (lvk (lvk (lvk (lvc (i_succ i) (rfl))))) rfl (ih2 (i + 1) (s2) (by omega) (by omega) (by omega) (by first | exact hJ.next c33 | exact hJ.skip hs hk (by omega) c4 c27))
            · skip
              refine tw_iload X dX2_goOver_30 5 rfl ?_
              refine tw_iload_n X dX2_goOver_32 3 rfl rfl ?_
              refine tw_icmp_ge (tgt := 104) X (In_of (by omega) (by omega)) (In_of (by omega) (by omega)) dX2_goOver_33 (by decide) (fun c33 => ?_) (fun c33 => ?_)
              · skip
                refine tw_iinc (q := 3) (x := (i : Int)) (y := (i : Int) + 1) (lv' := [(3, .int (enc ((i : Int) + 1))), (0, .ref (q 0)), (1, .int (enc (k))), (2, .int (enc (n))), (4, .int (enc (s ((i : Int) * 10 + k)))), (5, .int (enc ((j : Int))))]) X dX2_goOver_104 rfl rfl (by decide) rfl ?_
                refine tw_goto (tgt := 2) X dX2_goOver_107 (by decide) ?_
                refine Tsub (lv' := [(0, .ref (q 0)), (1, .int (enc (k))), (2, .int (enc (n))), (3, .int (enc ((i : Int) + 1)))]) [1, 2, 3, 0] rfl ?_
                refine Teq (ws' := wY cy q (s2)) (lv' := [(0, .ref (q 0)), (1, .int (enc (k))), (2, .int (enc (n))), (3, .int (enc (((i + 1 : Nat) : Int))))]) (st' := []) (rfl) (lvk (lvk (lvk (lvc (i_succ i) (rfl))))) rfl (ih2 (i + 1) (s2) (by omega) (by omega) (by omega) (by first | exact hJ.next c33 | exact hJ.skip hs hk (by omega) c4 c27))
              · skip
                refine tw_iload X dX2_goOver_36 4 rfl ?_
                refine tw_aload_n X dX2_goOver_38 0 rfl rfl ?_
                refine gf_X2_9 X (v := .ref (q 1)) 0 rfl rfl dX2_goOver_39 ?_
                refine tw_iload_n X dX2_goOver_42 1 rfl rfl ?_
                refine tw_bipush X dX2_goOver_43 (by decide) ?_
                refine tw_imul (z := k * 10) X dX2_goOver_45 rfl ?_
                refine tw_iload X dX2_goOver_46 5 rfl ?_
                refine tw_iadd (z := (k * 10) + (j : Int)) X dX2_goOver_48 rfl ?_
                refine tw_iald X (N := 100) (f := s2) 1 rfl (by decide) (by omega) dX2_goOver_49 ?_
                refine Tst (st' := [.int (enc (s2 ((k * 10) + (j : Int)))), .int (enc (s ((i : Int) * 10 + k)))]) rfl ?_
                have ekj := (hJ.kj hs hk (b := (j : Int)) (by omega) (by omega)).1
                have bkj := hs.1 k (j : Int) hk.1 hk.2 (by omega) (by omega)
                have eij := hJ.ij (by omega) c4 (by omega) c33
                have bij := hs.1 (i : Int) (j : Int) (by omega) c4 (by omega) (by omega)
                refine tw_iadd (z := (s ((i : Int) * 10 + k)) + (s2 ((k * 10) + (j : Int)))) X dX2_goOver_50 rfl ?_
                refine tw_istore (lv' := [(6, .int (enc ((s ((i : Int) * 10 + k)) + (s2 ((k * 10) + (j : Int)))))), (0, .ref (q 0)), (1, .int (enc (k))), (2, .int (enc (n))), (3, .int (enc ((i : Int)))), (4, .int (enc (s ((i : Int) * 10 + k)))), (5, .int (enc ((j : Int))))]) X dX2_goOver_51 (by decide) rfl ?_
                refine tw_iload X dX2_goOver_53 0 rfl ?_
                refine tw_aload_n X dX2_goOver_55 1 rfl rfl ?_
                refine gf_X2_9 X (v := .ref (q 1)) 0 rfl rfl dX2_goOver_56 ?_
                refine tw_iload_n X dX2_goOver_59 4 rfl rfl ?_
                refine tw_bipush X dX2_goOver_60 (by decide) ?_
                refine tw_imul (z := (i : Int) * 10) X dX2_goOver_62 rfl ?_
                refine tw_iload X dX2_goOver_63 6 rfl ?_
                refine tw_iadd (z := ((i : Int) * 10) + (j : Int)) X dX2_goOver_65 rfl ?_
                refine tw_iald X (N := 100) (f := s2) 1 rfl (by decide) (by omega) dX2_goOver_66 ?_
                refine Tst (st' := [.int (enc (s2 (((i : Int) * 10) + (j : Int)))), .int (enc ((s ((i : Int) * 10 + k)) + (s2 ((k * 10) + (j : Int)))))]) rfl ?_
                refine tw_icmp_ge (tgt := 98) X (In_of (by omega) (by omega)) (In_of (by omega) (by omega)) dX2_goOver_67 (by decide) (fun c67 => ?_) (fun c67 => ?_)
                · skip
                  have hNX : GI n k s s2 (i : Int) ((j : Int) + 1) := hJ.keep hs hk (by omega) c4 (by omega) c33 (by unfold nx mn; rw [if_neg (by omega)])
                  refine tw_iinc (q := 6) (x := (j : Int)) (y := (j : Int) + 1) (lv' := [(5, .int (enc ((j : Int) + 1))), (6, .int (enc ((s ((i : Int) * 10 + k)) + (s2 ((k * 10) + (j : Int)))))), (0, .ref (q 0)), (1, .int (enc (k))), (2, .int (enc (n))), (3, .int (enc ((i : Int)))), (4, .int (enc (s ((i : Int) * 10 + k))))]) X dX2_goOver_98 rfl rfl (by decide) rfl ?_
                  refine tw_goto (tgt := 23) X dX2_goOver_101 (by decide) ?_
                  refine Tsub (lv' := [(0, .ref (q 0)), (1, .int (enc (k))), (2, .int (enc (n))), (3, .int (enc ((i : Int)))), (4, .int (enc (s ((i : Int) * 10 + k)))), (5, .int (enc ((j : Int) + 1)))]) [2, 3, 4, 5, 6, 0] rfl ?_
                  refine Teq (ws' := wY cy q (s2)) (lv' := [(0, .ref (q 0)), (1, .int (enc (k))), (2, .int (enc (n))), (3, .int (enc ((i : Int)))), (4, .int (enc (s ((i : Int) * 10 + k)))), (5, .int (enc (((j + 1 : Nat) : Int))))]) (st' := []) (rfl) (lvk (lvk (lvk (lvk (lvk (lvc (i_succ j) (rfl))))))) rfl (ih23 (j + 1) (s2) (by omega) (by omega) (hNX))
                · skip
                  have hNX := hJ.set (v := s ((i : Int) * 10 + k) + s2 (k * 10 + (j : Int))) hs hn.2 hk (by omega) c4 (by omega) c33 (by unfold nx mn; rw [ekj, if_pos (by omega)])
                  refine tw_aload_n X dX2_goOver_70 1 rfl rfl ?_
                  refine gf_X2_9 X (v := .ref (q 1)) 0 rfl rfl dX2_goOver_71 ?_
                  refine tw_iload_n X dX2_goOver_74 4 rfl rfl ?_
                  refine tw_bipush X dX2_goOver_75 (by decide) ?_
                  refine tw_imul (z := (i : Int) * 10) X dX2_goOver_77 rfl ?_
                  refine tw_iload X dX2_goOver_78 6 rfl ?_
                  refine tw_iadd (z := ((i : Int) * 10) + (j : Int)) X dX2_goOver_80 rfl ?_
                  refine tw_iload X dX2_goOver_81 0 rfl ?_
                  refine tw_iast X (N := 100) (f := s2) (ws' := wY cy q (ups s2 (((i : Int) * 10) + (j : Int)) ((s ((i : Int) * 10 + k)) + (s2 ((k * 10) + (j : Int)))))) 1 rfl (by decide) (by omega) dX2_goOver_83 rfl ?_
                  refine tw_aload_n X dX2_goOver_84 1 rfl rfl ?_
                  refine gf_X2_9 X (v := .ref (q 1)) 0 rfl rfl dX2_goOver_85 ?_
                  refine tw_iload X dX2_goOver_88 6 rfl ?_
                  refine tw_bipush X dX2_goOver_90 (by decide) ?_
                  refine tw_imul (z := (j : Int) * 10) X dX2_goOver_92 rfl ?_
                  refine tw_iload_n X dX2_goOver_93 4 rfl rfl ?_
                  refine tw_iadd (z := ((j : Int) * 10) + (i : Int)) X dX2_goOver_94 rfl ?_
                  refine tw_iload X dX2_goOver_95 0 rfl ?_
                  refine tw_iast X (N := 100) (f := (ups s2 (((i : Int) * 10) + (j : Int)) ((s ((i : Int) * 10 + k)) + (s2 ((k * 10) + (j : Int)))))) (ws' := wY cy q (ups (ups s2 (((i : Int) * 10) + (j : Int)) ((s ((i : Int) * 10 + k)) + (s2 ((k * 10) + (j : Int))))) (((j : Int) * 10) + (i : Int)) ((s ((i : Int) * 10 + k)) + (s2 ((k * 10) + (j : Int)))))) 1 rfl (by decide) (by omega) dX2_goOver_97 rfl ?_
                  refine tw_iinc (q := 6) (x := (j : Int)) (y := (j : Int) + 1) (lv' := [(5, .int (enc ((j : Int) + 1))), (6, .int (enc ((s ((i : Int) * 10 + k)) + (s2 ((k * 10) + (j : Int)))))), (0, .ref (q 0)), (1, .int (enc (k))), (2, .int (enc (n))), (3, .int (enc ((i : Int)))), (4, .int (enc (s ((i : Int) * 10 + k))))]) X dX2_goOver_98 rfl rfl (by decide) rfl ?_
                  refine tw_goto (tgt := 23) X dX2_goOver_101 (by decide) ?_
                  refine Tsub (lv' := [(0, .ref (q 0)), (1, .int (enc (k))), (2, .int (enc (n))), (3, .int (enc ((i : Int)))), (4, .int (enc (s ((i : Int) * 10 + k)))), (5, .int (enc ((j : Int) + 1)))]) [2, 3, 4, 5, 6, 0] rfl ?_
                  refine Teq (ws' := wY cy q ((ups (ups s2 (((i : Int) * 10) + (j : Int)) ((s ((i : Int) * 10 + k)) + (s2 ((k * 10) + (j : Int))))) (((j : Int) * 10) + (i : Int)) ((s ((i : Int) * 10 + k)) + (s2 ((k * 10) + (j : Int))))))) (lv' := [(0, .ref (q 0)), (1, .int (enc (k))), (2, .int (enc (n))), (3, .int (enc ((i : Int)))), (4, .int (enc (s ((i : Int) * 10 + k)))), (5, .int (enc (((j + 1 : Nat) : Int))))]) (st' := []) (rfl) (lvk (lvk (lvk (lvk (lvk (lvc (i_succ j) (rfl))))))) rfl (ih23 (j + 1) ((ups (ups s2 (((i : Int) * 10) + (j : Int)) ((s ((i : Int) * 10 + k)) + (s2 ((k * 10) + (j : Int))))) (((j : Int) * 10) + (i : Int)) ((s ((i : Int) * 10 + k)) + (s2 ((k * 10) + (j : Int)))))) (by omega) (by omega) (hNX))
        refine Tsub (lv' := [(0, .ref (q 0)), (1, .int (enc (k))), (2, .int (enc (n))), (3, .int (enc ((i : Int)))), (4, .int (enc (s1 (((i : Int) * 10) + k)))), (5, .int (enc (0)))]) [2, 3, 4, 5, 1, 0] rfl ?_
        refine Teq (ws' := wY cy q (s1)) (lv' := [(0, .ref (q 0)), (1, .int (enc (k))), (2, .int (enc (n))), (3, .int (enc ((i : Int)))), (4, .int (enc (s ((i : Int) * 10 + k)))), (5, .int (enc (((0 : Nat) : Int))))]) (st' := []) (rfl) (lvk (lvk (lvk (lvk (lvc ((hI.kj hs hk (b := (i : Int)) (by omega) c4).2) (lvk (rfl))))))) rfl (L23 ((i : Int) + 1).toNat 0 (s1) (by omega) (by omega) (hI))
  refine Tsub (lv' := [(0, .ref (q 0)), (1, .int (enc (k))), (2, .int (enc (n))), (3, .int (enc (1)))]) [1, 2, 3, 0] rfl ?_
  refine Teq (ws' := wY cy q (s)) (lv' := [(0, .ref (q 0)), (1, .int (enc (k))), (2, .int (enc (n))), (3, .int (enc (((1 : Nat) : Int))))]) (st' := []) (rfl) (rfl) rfl (L2 (n + 1 + 1).toNat 1 (s) (by omega) (by omega) (by omega) (GI.zero n k s))
set_option maxRecDepth 100000 in
set_option maxHeartbeats 4000000 in
theorem m_X2_sumOrNone {G : va_G} {cy : ClassId} {q : Nat → Nat} (s : Int → Int) (a b : Int) (ha : 0 ≤ a ∧ a < 10) (hb : 0 ≤ b ∧ b < 10) (hs : 0 ≤ s (a * 10 + b) ∧ s (a * 10 + b) ≤ 1000000) : Ct G cy yX2_sumOrNone cX2_sumOrNone 4 (some .int) ({ frames := 0, cells := 0, slots := 0, locals := 0 } : Room) 0 0 [.ref (q 0), .int (enc (a)), .int (enc (b))] (wY cy q s) (fun v w1 => v = some (.int (enc (if s (a * 10 + b) < 1000000 then s (a * 10 + b) else -1))) ∧ w1 = wY cy q s) := by
  refine Ct.ofI (by decide) (Nat.le_of_ble_eq_true rfl) rfl rfl (fun _ _ _ => rfl) ?_
  intro c X ret
  refine Tlv (lv' := [(0, .ref (q 0)), (1, .int (enc (a))), (2, .int (enc (b)))]) rfl ?_
  refine tw_aload_n X dX2_sumOrNone_0 0 rfl rfl ?_
  refine gf_X2_9 X (v := .ref (q 1)) 0 rfl rfl dX2_sumOrNone_1 ?_
  refine tw_iload_n X dX2_sumOrNone_4 1 rfl rfl ?_
  refine tw_bipush X dX2_sumOrNone_5 (by decide) ?_
  refine tw_imul (z := a * 10) X dX2_sumOrNone_7 rfl ?_
  refine tw_iload_n X dX2_sumOrNone_8 2 rfl rfl ?_
  refine tw_iadd (z := (a * 10) + b) X dX2_sumOrNone_9 rfl ?_
  refine tw_iald X (N := 100) (f := s) 1 rfl (by decide) (by omega) dX2_sumOrNone_10 ?_
  refine Tst (st' := [.int (enc (s ((a * 10) + b)))]) rfl ?_
  refine tw_istore_n (lv' := [(3, .int (enc (s ((a * 10) + b)))), (0, .ref (q 0)), (1, .int (enc (a))), (2, .int (enc (b)))]) X dX2_sumOrNone_11 rfl (by decide) rfl ?_
  refine tw_iload_n X dX2_sumOrNone_12 0 rfl rfl ?_
  refine tw_ldc X (z := 1000000) wk_X2_47 (by decide) dX2_sumOrNone_13 ?_
  refine tw_icmp_ge (tgt := 22) X (In_of (by omega) (by omega)) (In_of (by omega) (by omega)) dX2_sumOrNone_15 (by decide) (fun c15 => ?_) (fun c15 => ?_)
  · skip
    refine tw_iconst X dX2_sumOrNone_22 ?_
    exact ret _ _ _ _ dX2_sumOrNone_23 ⟨by first | rw [if_pos c15] | rw [if_neg (Int.not_lt.mpr c15)], rfl⟩
  · skip
    refine tw_iload_n X dX2_sumOrNone_18 0 rfl rfl ?_
    refine tw_goto (tgt := 23) X dX2_sumOrNone_19 (by decide) ?_
    exact ret _ _ _ _ dX2_sumOrNone_23 ⟨by first | rw [if_pos c15] | rw [if_neg (Int.not_lt.mpr c15)], rfl⟩
set_option maxRecDepth 100000 in
set_option maxHeartbeats 4000000 in
theorem m_X2_countParted {G : va_G} {cy : ClassId} {q : Nat → Nat} (s : Int → Int) (n : Int) (hn : 0 ≤ n ∧ n ≤ 10) (hs : ∀ a b : Int, 0 ≤ a → a < n → 0 ≤ b → b < n → 0 ≤ s (a * 10 + b) ∧ s (a * 10 + b) ≤ 1000000) : Ct G cy yX2_countParted cX2_countParted 5 (some .int) ({ frames := 0, cells := 0, slots := 0, locals := 0 } : Room) 0 0 [.ref (q 0), .int (enc (n))] (wY cy q s) (fun v w1 => v = some (.int (enc (parP s n.toNat))) ∧ w1 = wY cy q s) := by
  refine Ct.ofI (by decide) (Nat.le_of_ble_eq_true rfl) rfl rfl (fun _ _ _ => rfl) ?_
  intro c X ret
  refine Tlv (lv' := [(0, .ref (q 0)), (1, .int (enc (n)))]) rfl ?_
  refine tw_iconst X dX2_countParted_0 ?_
  refine tw_istore_n (lv' := [(2, .int (enc (0))), (0, .ref (q 0)), (1, .int (enc (n)))]) X dX2_countParted_1 rfl (by decide) rfl ?_
  refine tw_iconst X dX2_countParted_2 ?_
  refine tw_istore_n (lv' := [(3, .int (enc (1))), (2, .int (enc (0))), (0, .ref (q 0)), (1, .int (enc (n)))]) X dX2_countParted_3 rfl (by decide) rfl ?_
  have L4 : ∀ (fu i : Nat), (i : Int) ≤ n + 1 → n + 1 + 1 ≤ (i : Int) + fu → 1 ≤ (i : Int) → ((i : Int) ≤ n ∨ (i : Int) = 1) → T G c ({ frames := 0, cells := 0, slots := 0, locals := 0 } : Room) 5 0 0 (wY cy q s) 4 [(0, .ref (q 0)), (1, .int (enc (n))), (2, .int (enc (parP s i))), (3, .int (enc ((i : Int))))] [] := by
    intro fu
    induction fu with
    | zero =>
      intro i  hi0 hi1
      exact absurd hi1 (by omega)
    | succ fu ih4 =>
      intro i  hi0_4 hi1_4 h1i h1j
      refine tw_iload_n X dX2_countParted_4 3 rfl rfl ?_
      refine tw_iload_n X dX2_countParted_5 1 rfl rfl ?_
      refine tw_icmp_ge (tgt := 50) X (In_of (by omega) (by omega)) (In_of (by omega) (by omega)) dX2_countParted_6 (by decide) (fun c6 => ?_) (fun c6 => ?_)
      · skip
        refine tw_iload_n X dX2_countParted_50 2 rfl rfl ?_
        exact ret _ _ _ _ dX2_countParted_51 ⟨by rcases (show n.toNat = i ∨ (n.toNat = 0 ∧ i = 1) by omega) with e | ⟨e, e2⟩; (rw [e]); (rw [e, e2]; rfl), rfl⟩
      · skip
        refine tw_iconst X dX2_countParted_9 ?_
        refine tw_istore (lv' := [(4, .int (enc (0))), (0, .ref (q 0)), (1, .int (enc (n))), (2, .int (enc (parP s i))), (3, .int (enc ((i : Int))))]) X dX2_countParted_10 (by decide) rfl ?_
        have L12 : ∀ (fu j : Nat), (j : Int) ≤ (i : Int) → (i : Int) + 1 ≤ (j : Int) + fu → T G c ({ frames := 0, cells := 0, slots := 0, locals := 0 } : Room) 5 0 0 (wY cy q s) 12 [(0, .ref (q 0)), (1, .int (enc (n))), (2, .int (enc (parP s i + parF s i j))), (3, .int (enc ((i : Int)))), (4, .int (enc ((j : Int))))] [] := by
          intro fu
          induction fu with
          | zero =>
            intro j  hi0 hi1
            exact absurd hi1 (by omega)
          | succ fu ih12 =>
            intro j  hi0_12 hi1_12 
            refine tw_iload X dX2_countParted_12 4 rfl ?_
            refine tw_iload_n X dX2_countParted_14 3 rfl rfl ?_
            refine tw_icmp_ge (tgt := 44) X (In_of (by omega) (by omega)) (In_of (by omega) (by omega)) dX2_countParted_15 (by decide) (fun c15 => ?_) (fun c15 => ?_)
            · skip
              refine tw_iinc (q := 3) (x := (i : Int)) (y := (i : Int) + 1) (lv' := [(3, .int (enc ((i : Int) + 1))), (0, .ref (q 0)), (1, .int (enc (n))), (2, .int (enc (parP s i + parF s i j))), (4, .int (enc ((j : Int))))]) X dX2_countParted_44 rfl rfl (by decide) rfl ?_
              refine tw_goto (tgt := 4) X dX2_countParted_47 (by decide) ?_
              refine Tsub (lv' := [(0, .ref (q 0)), (1, .int (enc (n))), (2, .int (enc (parP s i + parF s i j))), (3, .int (enc ((i : Int) + 1)))]) [1, 2, 3, 0] rfl ?_
              refine Teq (ws' := wY cy q s) (lv' := [(0, .ref (q 0)), (1, .int (enc (n))), (2, .int (enc (parP s (i + 1)))), (3, .int (enc (((i + 1 : Nat) : Int))))]) (st' := []) (rfl) (lvk (lvk (lvc (by rw [parP_s, show i = j by omega]) (lvc (i_succ i) (rfl))))) rfl (ih4 (i + 1) (by omega) (by omega) (by omega) (Or.inl (by omega)))
            · skip
              refine tw_aload_n X dX2_countParted_18 0 rfl rfl ?_
              refine gf_X2_9 X (v := .ref (q 1)) 0 rfl rfl dX2_countParted_19 ?_
              refine tw_iload_n X dX2_countParted_22 3 rfl rfl ?_
              refine tw_bipush X dX2_countParted_23 (by decide) ?_
              refine tw_imul (z := (i : Int) * 10) X dX2_countParted_25 rfl ?_
              refine tw_iload X dX2_countParted_26 4 rfl ?_
              refine tw_iadd (z := ((i : Int) * 10) + (j : Int)) X dX2_countParted_28 rfl ?_
              have bs := hs (i : Int) (j : Int) (by omega) c6 (by omega) (by omega)
              refine tw_iald X (N := 100) (f := s) 1 rfl (by decide) (by omega) dX2_countParted_29 ?_
              refine Tst (st' := [.int (enc (s (((i : Int) * 10) + (j : Int))))]) rfl ?_
              refine tw_ldc X (z := 1000000) wk_X2_47 (by decide) dX2_countParted_30 ?_
              refine tw_icmp_lt (tgt := 38) X (In_of (by omega) (by omega)) (In_of (by omega) (by omega)) dX2_countParted_32 (by decide) (fun c32 => ?_) (fun c32 => ?_)
              · skip
                refine tw_iinc (q := 4) (x := (j : Int)) (y := (j : Int) + 1) (lv' := [(4, .int (enc ((j : Int) + 1))), (0, .ref (q 0)), (1, .int (enc (n))), (2, .int (enc (parP s i + parF s i j))), (3, .int (enc ((i : Int))))]) X dX2_countParted_38 rfl rfl (by decide) rfl ?_
                refine tw_goto (tgt := 12) X dX2_countParted_41 (by decide) ?_
                refine Tsub (lv' := [(0, .ref (q 0)), (1, .int (enc (n))), (2, .int (enc (parP s i + parF s i j))), (3, .int (enc ((i : Int)))), (4, .int (enc ((j : Int) + 1)))]) [1, 2, 3, 4, 0] rfl ?_
                refine Teq (ws' := wY cy q s) (lv' := [(0, .ref (q 0)), (1, .int (enc (n))), (2, .int (enc (parP s i + parF s i (j + 1)))), (3, .int (enc ((i : Int)))), (4, .int (enc (((j + 1 : Nat) : Int))))]) (st' := []) (rfl) (lvk (lvk (lvc (by rw [parF_s]; first | (rw [if_pos c32]; omega) | (rw [if_neg (Int.not_le.mpr c32)]; omega)) (lvk (lvc (i_succ j) (rfl)))))) rfl (ih12 (j + 1) (by omega) (by omega))
              · skip
                refine tw_iinc (q := 2) (x := parP s i + parF s i j) (y := parP s i + parF s i j + 1) (lv' := [(2, .int (enc (parP s i + parF s i j + 1))), (0, .ref (q 0)), (1, .int (enc (n))), (3, .int (enc ((i : Int)))), (4, .int (enc ((j : Int))))]) X dX2_countParted_35 rfl rfl (by decide) rfl ?_
                refine tw_iinc (q := 4) (x := (j : Int)) (y := (j : Int) + 1) (lv' := [(4, .int (enc ((j : Int) + 1))), (2, .int (enc (parP s i + parF s i j + 1))), (0, .ref (q 0)), (1, .int (enc (n))), (3, .int (enc ((i : Int))))]) X dX2_countParted_38 rfl rfl (by decide) rfl ?_
                refine tw_goto (tgt := 12) X dX2_countParted_41 (by decide) ?_
                refine Tsub (lv' := [(0, .ref (q 0)), (1, .int (enc (n))), (2, .int (enc (parP s i + parF s i j + 1))), (3, .int (enc ((i : Int)))), (4, .int (enc ((j : Int) + 1)))]) [2, 3, 1, 4, 0] rfl ?_
                refine Teq (ws' := wY cy q s) (lv' := [(0, .ref (q 0)), (1, .int (enc (n))), (2, .int (enc (parP s i + parF s i (j + 1)))), (3, .int (enc ((i : Int)))), (4, .int (enc (((j + 1 : Nat) : Int))))]) (st' := []) (rfl) (lvk (lvk (lvc (by rw [parF_s]; first | (rw [if_pos c32]; omega) | (rw [if_neg (Int.not_le.mpr c32)]; omega)) (lvk (lvc (i_succ j) (rfl)))))) rfl (ih12 (j + 1) (by omega) (by omega))
        refine Tsub (lv' := [(0, .ref (q 0)), (1, .int (enc (n))), (2, .int (enc (parP s i))), (3, .int (enc ((i : Int)))), (4, .int (enc (0)))]) [1, 2, 3, 4, 0] rfl ?_
        refine Teq (ws' := wY cy q s) (lv' := [(0, .ref (q 0)), (1, .int (enc (n))), (2, .int (enc (parP s i + parF s i 0))), (3, .int (enc ((i : Int)))), (4, .int (enc (((0 : Nat) : Int))))]) (st' := []) (rfl) (lvk (lvk (lvc (by show _ = parP s i + 0; omega) (lvk (lvk (rfl)))))) rfl (L12 ((i : Int) + 1).toNat 0 (by omega) (by omega))
  refine Tsub (lv' := [(0, .ref (q 0)), (1, .int (enc (n))), (2, .int (enc (0))), (3, .int (enc (1)))]) [2, 3, 1, 0] rfl ?_
  refine Teq (ws' := wY cy q s) (lv' := [(0, .ref (q 0)), (1, .int (enc (n))), (2, .int (enc (parP s 1))), (3, .int (enc (((1 : Nat) : Int))))]) (st' := []) (rfl) (rfl) rfl (L4 (n + 1 + 1).toNat 1 (by omega) (by omega) (by omega) (Or.inr rfl))
set_option maxRecDepth 100000 in
set_option maxHeartbeats 4000000 in
theorem m_X2_copyFrom {G : va_G} {cy : ClassId} {q : Nat → Nat} (s t : Int → Int) : Ct G cy yX2_copyFrom cX2_copyFrom 2 none ({ frames := 1, cells := 0, slots := 0, locals := 48 } : Room) 0 0 [.ref (q 0), .ref (q 2)] (wY cy q s ++ wY cy (fun i => q (2 + i)) t) (fun v w1 => v = none ∧ w1 = wY cy q t ++ wY cy (fun i => q (2 + i)) t) := by
  refine Ct.ofV (by decide) (Nat.le_of_ble_eq_true rfl) rfl rfl ?_
  intro c X ret
  refine Tlv (lv' := [(0, .ref (q 0)), (1, .ref (q 2))]) rfl ?_
  refine tw_aload_n X dX2_copyFrom_0 1 rfl rfl ?_
  refine gf_X2_9 X (v := .ref (q 3)) 2 rfl rfl dX2_copyFrom_1 ?_
  refine tw_iconst X dX2_copyFrom_4 ?_
  refine tw_aload_n X dX2_copyFrom_5 0 rfl rfl ?_
  refine gf_X2_9 X (v := .ref (q 1)) 0 rfl rfl dX2_copyFrom_6 ?_
  refine tw_iconst X dX2_copyFrom_9 ?_
  refine tw_bipush X dX2_copyFrom_10 (by decide) ?_
  refine tw_copy X (N := 100) (f := t) (g := s) (ws' := wY cy q t ++ wY cy (fun i => q (2 + i)) t) 3 1 wl_X2_15 wa_n wa_s wa_i rfl rfl rfl (by decide) (Nat.le_of_ble_eq_true rfl) (Nat.le_of_ble_eq_true rfl) dX2_copyFrom_12 rfl ?_
  exact ret _ _ _ dX2_copyFrom_15 ⟨rfl, rfl⟩
set_option maxRecDepth 100000 in
set_option maxHeartbeats 4000000 in
theorem m_X2_find {G : va_G} {cy : ClassId} {q : Nat → Nat} (M : MT) (s : Int → Int) (ob : Bool) (hW : WFR M) (hB : Bd M) : Ct G cy yX2_find cX2_find 7 none ({ frames := 1, cells := 0, slots := 0, locals := 26 } : Room) 0 0 [.ref (q 8), .ref (q 0), .int (enc (M 19 0)), .int (enc (if ob = true then 1 else 0))] (wR cy q M ++ wY cy (fun i => q (8 + i)) s) (fun v w1 => v = none ∧ ∃ s', Stg M ob (M 19 0) (M 19 0) s' ∧ w1 = wR cy q M ++ wY cy (fun i => q (8 + i)) s') := by
  refine Ct.ofV (by decide) (Nat.le_of_ble_eq_true rfl) rfl rfl ?_
  intro c X ret
  obtain ⟨w0, w1, w2, w3, w4⟩ := id hW
  refine Tlv (lv' := [(0, .ref (q 8)), (1, .ref (q 0)), (2, .int (enc (M 19 0))), (3, .int (enc (if ob = true then 1 else 0)))]) rfl ?_
  refine tw_aload_n X dX2_find_0 0 rfl rfl ?_
  refine tw_callV X (As := []) (st := []) vw_X2_21 (m_X2_clear (q := (fun i => q (8 + i))) s) ((wR cy q M)) ([]) rfl rfl (q0 := 0) rfl rfl rfl ⟨rfl, rfl, Nat.le_of_ble_eq_true rfl, Nat.le_of_ble_eq_true rfl⟩ ⟨Nat.le_of_ble_eq_true rfl, Nat.le_of_ble_eq_true rfl⟩ (Nat.le_of_ble_eq_true rfl) dX2_find_1 (fun v w1 hp => ?_)
  obtain ⟨rfl, sc, hsc, rfl⟩ := hp
  refine Teq (ws' := wR cy q M ++ wY cy (fun i => q (8 + i)) sc) (lv' := [(0, .ref (q 8)), (1, .ref (q 0)), (2, .int (enc (M 19 0))), (3, .int (enc (if ob = true then 1 else 0)))]) (st' := []) rfl rfl rfl ?_
  refine tw_iconst X dX2_find_4 ?_
  refine tw_istore (lv' := [(4, .int (enc (0))), (0, .ref (q 8)), (1, .ref (q 0)), (2, .int (enc (M 19 0))), (3, .int (enc (if ob = true then 1 else 0)))]) X dX2_find_5 (by decide) rfl ?_
  have L7 : ∀ (fu i : Nat) (s1 : Int → Int), (i : Int) ≤ M 16 0 → M 16 0 + 1 ≤ (i : Int) + fu → RI M ob (M 19 0) (i : Int) s1 → T G c ({ frames := 1, cells := 0, slots := 0, locals := 26 } : Room) 7 0 0 (wR cy q M ++ wY cy (fun i => q (8 + i)) s1) 7 [(0, .ref (q 8)), (1, .ref (q 0)), (2, .int (enc (M 19 0))), (3, .int (enc (if ob = true then 1 else 0))), (4, .int (enc ((i : Int))))] [] := by
    intro fu
    induction fu with
    | zero =>
      intro i s1 hi0 hi1
      exact absurd hi1 (by omega)
    | succ fu ih7 =>
      intro i s1 hi0_7 hi1_7 hI
      refine tw_iload X dX2_find_7 4 rfl ?_
      refine tw_aload_n X dX2_find_9 1 rfl rfl ?_
      refine gf_X2_24 X (v := .int (enc (M 16 0))) 0 rfl rfl dX2_find_10 ?_
      have b1 := hB 16 0
      refine tw_icmp_ge (tgt := 110) X (In_of (by omega) (by omega)) (In_of (by omega) (by omega)) dX2_find_13 (by decide) (fun c13 => ?_) (fun c13 => ?_)
      · skip
        refine tw_iconst X dX2_find_110 ?_
        refine tw_istore (lv' := [(4, .int (enc (0))), (0, .ref (q 8)), (1, .ref (q 0)), (2, .int (enc (M 19 0))), (3, .int (enc (if ob = true then 1 else 0)))]) X dX2_find_111 (by decide) rfl ?_
        have L113 : ∀ (fu k : Nat) (s2 : Int → Int), (k : Int) ≤ M 19 0 → M 19 0 + 1 ≤ (k : Int) + fu → Stg M ob (M 19 0) (k : Int) s2 → T G c ({ frames := 1, cells := 0, slots := 0, locals := 26 } : Room) 7 0 0 (wR cy q M ++ wY cy (fun i => q (8 + i)) s2) 113 [(0, .ref (q 8)), (1, .ref (q 0)), (2, .int (enc (M 19 0))), (3, .int (enc (if ob = true then 1 else 0))), (4, .int (enc ((k : Int))))] [] := by
          intro fu
          induction fu with
          | zero =>
            intro k s2 hi0 hi1
            exact absurd hi1 (by omega)
          | succ fu ih113 =>
            intro k s2 hi0_113 hi1_113 hK
            refine tw_iload X dX2_find_113 4 rfl ?_
            refine tw_iload_n X dX2_find_115 2 rfl rfl ?_
            refine tw_icmp_ge (tgt := 132) X (In_of (by omega) (by omega)) (In_of (by omega) (by omega)) dX2_find_116 (by decide) (fun c116 => ?_) (fun c116 => ?_)
            · skip
              exact ret _ _ _ dX2_find_132 ⟨rfl, s2, by rw [show (M 19 0) = (k : Int) by omega] at hK ⊢; exact hK, rfl⟩
            · skip
              refine tw_aload_n X dX2_find_119 0 rfl rfl ?_
              refine tw_iload X dX2_find_120 4 rfl ?_
              refine tw_iload_n X dX2_find_122 2 rfl rfl ?_
              refine tw_callV X (As := [.int (enc ((k : Int))), .int (enc (M 19 0))]) (st := []) vw_X2_43 (m_X2_goOver (q := (fun i => q (8 + i))) s2 ((k : Int)) (M 19 0) (by omega) ⟨by omega, c116⟩ hK.symT) ((wR cy q M)) ([]) rfl rfl (q0 := 0) rfl rfl rfl ⟨rfl, rfl, Nat.le_of_ble_eq_true rfl, Nat.le_of_ble_eq_true rfl⟩ ⟨Nat.le_of_ble_eq_true rfl, Nat.le_of_ble_eq_true rfl⟩ (Nat.le_of_ble_eq_true rfl) dX2_find_123 (fun v w1 hp => ?_)
              obtain ⟨rfl, sg, hsg, rfl⟩ := hp
              refine Teq (ws' := wR cy q M ++ wY cy (fun i => q (8 + i)) sg) (lv' := [(0, .ref (q 8)), (1, .ref (q 0)), (2, .int (enc (M 19 0))), (3, .int (enc (if ob = true then 1 else 0))), (4, .int (enc ((k : Int))))]) (st' := []) rfl rfl rfl ?_
              refine tw_iinc (q := 4) (x := (k : Int)) (y := (k : Int) + 1) (lv' := [(4, .int (enc ((k : Int) + 1))), (0, .ref (q 8)), (1, .ref (q 0)), (2, .int (enc (M 19 0))), (3, .int (enc (if ob = true then 1 else 0)))]) X dX2_find_126 rfl rfl (by decide) rfl ?_
              refine tw_goto (tgt := 113) X dX2_find_129 (by decide) ?_
              refine Tsub (lv' := [(0, .ref (q 8)), (1, .ref (q 0)), (2, .int (enc (M 19 0))), (3, .int (enc (if ob = true then 1 else 0))), (4, .int (enc ((k : Int) + 1)))]) [1, 2, 3, 4, 0] rfl ?_
              refine Teq (ws' := wR cy q M ++ wY cy (fun i => q (8 + i)) (sg)) (lv' := [(0, .ref (q 8)), (1, .ref (q 0)), (2, .int (enc (M 19 0))), (3, .int (enc (if ob = true then 1 else 0))), (4, .int (enc (((k + 1 : Nat) : Int))))]) (st' := []) (rfl) (lvk (lvk (lvk (lvk (lvc (i_succ k) (rfl)))))) rfl (ih113 (k + 1) (sg) (by omega) (by omega) (hK.next hW rfl ⟨by omega, c116⟩ hsg))
        refine Tsub (lv' := [(0, .ref (q 8)), (1, .ref (q 0)), (2, .int (enc (M 19 0))), (3, .int (enc (if ob = true then 1 else 0))), (4, .int (enc (0)))]) [1, 2, 3, 4, 0] rfl ?_
        refine Teq (ws' := wR cy q M ++ wY cy (fun i => q (8 + i)) (s1)) (lv' := [(0, .ref (q 8)), (1, .ref (q 0)), (2, .int (enc (M 19 0))), (3, .int (enc (if ob = true then 1 else 0))), (4, .int (enc (((0 : Nat) : Int))))]) (st' := []) (rfl) (rfl) rfl (L113 (M 19 0 + 1).toNat 0 (s1) (by omega) (by omega) (RI.stg (by rw [show M 16 0 = (i : Int) by omega]; exact hI)))
      · skip
        have gi := w4 (i : Int) (by omega) c13
        have gl := hW.ln (r := (i : Int)) (by omega) c13
        have ga := hI.1 (M 0 (i : Int)) (M 1 (i : Int)) (by omega) (by omega) (by omega) (by omega)
        refine tw_aload_n X dX2_find_16 1 rfl rfl ?_
        refine gf_X2_30 X (v := .ref (q 1)) 0 rfl rfl dX2_find_17 ?_
        refine tw_iload X dX2_find_20 4 rfl ?_
        refine tw_iald X (N := 20) (f := (M 0)) 1 rfl (by decide) (by omega) dX2_find_22 ?_
        refine Tst (st' := [.int (enc (M 0 (i : Int)))]) rfl ?_
        have b2 := hB 0 (i : Int)
        refine tw_bipush X dX2_find_23 (by decide) ?_
        refine tw_imul (z := (M 0 (i : Int)) * 10) X dX2_find_25 rfl ?_
        refine tw_aload_n X dX2_find_26 1 rfl rfl ?_
        refine gf_X2_33 X (v := .ref (q 2)) 0 rfl rfl dX2_find_27 ?_
        refine tw_iload X dX2_find_30 4 rfl ?_
        refine tw_iald X (N := 20) (f := (M 1)) 2 rfl (by decide) (by omega) dX2_find_32 ?_
        refine Tst (st' := [.int (enc (M 1 (i : Int))), .int (enc ((M 0 (i : Int)) * 10))]) rfl ?_
        have b3 := hB 1 (i : Int)
        refine tw_iadd (z := ((M 0 (i : Int)) * 10) + (M 1 (i : Int))) X dX2_find_33 rfl ?_
        refine tw_istore (lv' := [(5, .int (enc (((M 0 (i : Int)) * 10) + (M 1 (i : Int))))), (0, .ref (q 8)), (1, .ref (q 0)), (2, .int (enc (M 19 0))), (3, .int (enc (if ob = true then 1 else 0))), (4, .int (enc ((i : Int))))]) X dX2_find_34 (by decide) rfl ?_
        refine tw_aload_n X dX2_find_36 2 rfl rfl ?_
        refine tw_iload X dX2_find_37 5 rfl ?_
        refine tw_callV X (As := [.int (enc ((i : Int)))]) (st := []) vw_X2_36 (m_X0_lengthNow (q := q) M ((i : Int)) (by omega)) ([]) ((wY cy (fun i => q (8 + i)) s1)) rfl rfl (q0 := 0) rfl rfl rfl ⟨rfl, rfl, Nat.le_of_ble_eq_true rfl, Nat.le_of_ble_eq_true rfl⟩ ⟨Nat.le_of_ble_eq_true rfl, Nat.le_of_ble_eq_true rfl⟩ (Nat.le_of_ble_eq_true rfl) dX2_find_39 (fun v w1 hp => ?_)
        obtain ⟨rfl, rfl⟩ := hp
        refine Teq (ws' := wR cy q M ++ wY cy (fun i => q (8 + i)) s1) (lv' := [(5, .int (enc (((M 0 (i : Int)) * 10) + (M 1 (i : Int))))), (0, .ref (q 8)), (1, .ref (q 0)), (2, .int (enc (M 19 0))), (3, .int (enc (if ob = true then 1 else 0))), (4, .int (enc ((i : Int))))]) (st' := [.int (enc (len M (i : Int)))]) rfl rfl rfl ?_
        refine tw_istore (lv' := [(6, .int (enc (len M (i : Int)))), (5, .int (enc (((M 0 (i : Int)) * 10) + (M 1 (i : Int))))), (0, .ref (q 8)), (1, .ref (q 0)), (2, .int (enc (M 19 0))), (3, .int (enc (if ob = true then 1 else 0))), (4, .int (enc ((i : Int))))]) X dX2_find_42 (by decide) rfl ?_
        refine tw_iload X dX2_find_44 0 rfl ?_
        refine tw_aload_n X dX2_find_46 2 rfl rfl ?_
        refine gf_X2_9 X (v := .ref (q 9)) 8 rfl rfl dX2_find_47 ?_
        refine tw_iload X dX2_find_50 1 rfl ?_
        refine tw_iald X (N := 100) (f := s1) 9 rfl (by decide) (by omega) dX2_find_52 ?_
        refine Tst (st' := [.int (enc (s1 (((M 0 (i : Int)) * 10) + (M 1 (i : Int))))), .int (enc (len M (i : Int)))]) rfl ?_
        refine tw_icmp_ge (tgt := 104) X (In_of (by omega) (by omega)) (In_of (by omega) (by omega)) dX2_find_53 (by decide) (fun c53 => ?_) (fun c53 => ?_)
        · skip
          have hNX : RI M ob (M 19 0) ((i : Int) + 1) s1 := hI.keep hW rfl (fun _ => c53)
          refine tw_iinc (q := 6) (x := (i : Int)) (y := (i : Int) + 1) (lv' := [(4, .int (enc ((i : Int) + 1))), (6, .int (enc (len M (i : Int)))), (5, .int (enc (((M 0 (i : Int)) * 10) + (M 1 (i : Int))))), (0, .ref (q 8)), (1, .ref (q 0)), (2, .int (enc (M 19 0))), (3, .int (enc (if ob = true then 1 else 0)))]) X dX2_find_104 rfl rfl (by decide) rfl ?_
          refine tw_goto (tgt := 7) X dX2_find_107 (by decide) ?_
          refine Tsub (lv' := [(0, .ref (q 8)), (1, .ref (q 0)), (2, .int (enc (M 19 0))), (3, .int (enc (if ob = true then 1 else 0))), (4, .int (enc ((i : Int) + 1)))]) [3, 4, 5, 6, 0] rfl ?_
          refine Teq (ws' := wR cy q M ++ wY cy (fun i => q (8 + i)) (s1)) (lv' := [(0, .ref (q 8)), (1, .ref (q 0)), (2, .int (enc (M 19 0))), (3, .int (enc (if ob = true then 1 else 0))), (4, .int (enc (((i + 1 : Nat) : Int))))]) (st' := []) (rfl) (lvk (lvk (lvk (lvk (lvc (i_succ i) (rfl)))))) rfl (ih7 (i + 1) (s1) (by omega) (by omega) (hNX))
        · skip
          refine tw_iload_n X dX2_find_56 5 rfl rfl ?_
          refine tw_if_eq (tgt := 70) X In_b dX2_find_57 (by decide) (fun c57 => ?_) (fun c57 => ?_)
          · skip
            have c57 := b01.mp c57
            have hu : usable M ob (i : Int) := ⟨by omega, c13, fun z => absurd z c57⟩
            have hNX := hI.set hW rfl hu c53
            refine tw_aload_n X dX2_find_70 2 rfl rfl ?_
            refine gf_X2_9 X (v := .ref (q 9)) 8 rfl rfl dX2_find_71 ?_
            refine tw_iload X dX2_find_74 1 rfl ?_
            refine tw_iload X dX2_find_76 0 rfl ?_
            refine tw_iast X (N := 100) (f := s1) (ws' := wR cy q M ++ wY cy (fun i => q (8 + i)) (ups s1 (((M 0 (i : Int)) * 10) + (M 1 (i : Int))) (len M (i : Int)))) 9 rfl (by decide) (by omega) dX2_find_78 rfl ?_
            refine tw_aload_n X dX2_find_79 2 rfl rfl ?_
            refine gf_X2_9 X (v := .ref (q 9)) 8 rfl rfl dX2_find_80 ?_
            refine tw_aload_n X dX2_find_83 3 rfl rfl ?_
            refine gf_X2_33 X (v := .ref (q 2)) 0 rfl rfl dX2_find_84 ?_
            refine tw_iload X dX2_find_87 6 rfl ?_
            refine tw_iald X (N := 20) (f := (M 1)) 2 rfl (by decide) (by omega) dX2_find_89 ?_
            refine Tst (st' := [.int (enc (M 1 (i : Int))), .ref (q 9)]) rfl ?_
            have b4 := hB 1 (i : Int)
            refine tw_bipush X dX2_find_90 (by decide) ?_
            refine tw_imul (z := (M 1 (i : Int)) * 10) X dX2_find_92 rfl ?_
            refine tw_aload_n X dX2_find_93 3 rfl rfl ?_
            refine gf_X2_30 X (v := .ref (q 1)) 0 rfl rfl dX2_find_94 ?_
            refine tw_iload X dX2_find_97 6 rfl ?_
            refine tw_iald X (N := 20) (f := (M 0)) 1 rfl (by decide) (by omega) dX2_find_99 ?_
            refine Tst (st' := [.int (enc (M 0 (i : Int))), .int (enc ((M 1 (i : Int)) * 10)), .ref (q 9)]) rfl ?_
            have b5 := hB 0 (i : Int)
            refine tw_iadd (z := ((M 1 (i : Int)) * 10) + (M 0 (i : Int))) X dX2_find_100 rfl ?_
            refine tw_iload X dX2_find_101 0 rfl ?_
            refine tw_iast X (N := 100) (f := (ups s1 (((M 0 (i : Int)) * 10) + (M 1 (i : Int))) (len M (i : Int)))) (ws' := wR cy q M ++ wY cy (fun i => q (8 + i)) (ups (ups s1 (((M 0 (i : Int)) * 10) + (M 1 (i : Int))) (len M (i : Int))) (((M 1 (i : Int)) * 10) + (M 0 (i : Int))) (len M (i : Int)))) 9 rfl (by decide) (by omega) dX2_find_103 rfl ?_
            refine tw_iinc (q := 6) (x := (i : Int)) (y := (i : Int) + 1) (lv' := [(4, .int (enc ((i : Int) + 1))), (6, .int (enc (len M (i : Int)))), (5, .int (enc (((M 0 (i : Int)) * 10) + (M 1 (i : Int))))), (0, .ref (q 8)), (1, .ref (q 0)), (2, .int (enc (M 19 0))), (3, .int (enc (if ob = true then 1 else 0)))]) X dX2_find_104 rfl rfl (by decide) rfl ?_
            refine tw_goto (tgt := 7) X dX2_find_107 (by decide) ?_
            refine Tsub (lv' := [(0, .ref (q 8)), (1, .ref (q 0)), (2, .int (enc (M 19 0))), (3, .int (enc (if ob = true then 1 else 0))), (4, .int (enc ((i : Int) + 1)))]) [3, 4, 5, 6, 0] rfl ?_
            refine Teq (ws' := wR cy q M ++ wY cy (fun i => q (8 + i)) ((ups (ups s1 (((M 0 (i : Int)) * 10) + (M 1 (i : Int))) (len M (i : Int))) (((M 1 (i : Int)) * 10) + (M 0 (i : Int))) (len M (i : Int))))) (lv' := [(0, .ref (q 8)), (1, .ref (q 0)), (2, .int (enc (M 19 0))), (3, .int (enc (if ob = true then 1 else 0))), (4, .int (enc (((i + 1 : Nat) : Int))))]) (st' := []) (rfl) (lvk (lvk (lvk (lvk (lvc (i_succ i) (rfl)))))) rfl (ih7 (i + 1) ((ups (ups s1 (((M 0 (i : Int)) * 10) + (M 1 (i : Int))) (len M (i : Int))) (((M 1 (i : Int)) * 10) + (M 0 (i : Int))) (len M (i : Int)))) (by omega) (by omega) (hNX))
          · skip
            have c57 := b01n.mp c57
            refine tw_aload_n X dX2_find_60 3 rfl rfl ?_
            refine gf_X2_40 X (v := .ref (q 7)) 0 rfl rfl dX2_find_61 ?_
            refine tw_iload X dX2_find_64 6 rfl ?_
            refine tw_iald X (N := 20) (f := (M 6)) 7 rfl (by decide) (by omega) dX2_find_66 ?_
            refine Tst (st' := [.int (enc (M 6 (i : Int)))]) rfl ?_
            have b6 := hB 6 (i : Int)
            refine tw_if_ne (tgt := 104) X (In_of (by omega) (by omega)) dX2_find_67 (by decide) (fun c67 => ?_) (fun c67 => ?_)
            · skip
              have hNX : RI M ob (M 19 0) ((i : Int) + 1) s1 := hI.keep hW rfl (fun hu => absurd (hu.2.2 c57) c67)
              refine tw_iinc (q := 6) (x := (i : Int)) (y := (i : Int) + 1) (lv' := [(4, .int (enc ((i : Int) + 1))), (6, .int (enc (len M (i : Int)))), (5, .int (enc (((M 0 (i : Int)) * 10) + (M 1 (i : Int))))), (0, .ref (q 8)), (1, .ref (q 0)), (2, .int (enc (M 19 0))), (3, .int (enc (if ob = true then 1 else 0)))]) X dX2_find_104 rfl rfl (by decide) rfl ?_
              refine tw_goto (tgt := 7) X dX2_find_107 (by decide) ?_
              refine Tsub (lv' := [(0, .ref (q 8)), (1, .ref (q 0)), (2, .int (enc (M 19 0))), (3, .int (enc (if ob = true then 1 else 0))), (4, .int (enc ((i : Int) + 1)))]) [3, 4, 5, 6, 0] rfl ?_
              refine Teq (ws' := wR cy q M ++ wY cy (fun i => q (8 + i)) (s1)) (lv' := [(0, .ref (q 8)), (1, .ref (q 0)), (2, .int (enc (M 19 0))), (3, .int (enc (if ob = true then 1 else 0))), (4, .int (enc (((i + 1 : Nat) : Int))))]) (st' := []) (rfl) (lvk (lvk (lvk (lvk (lvc (i_succ i) (rfl)))))) rfl (ih7 (i + 1) (s1) (by omega) (by omega) (hNX))
            · skip
              have hu : usable M ob (i : Int) := ⟨by omega, c13, fun _ => c67⟩
              have hNX := hI.set hW rfl hu c53
              refine tw_aload_n X dX2_find_70 2 rfl rfl ?_
              refine gf_X2_9 X (v := .ref (q 9)) 8 rfl rfl dX2_find_71 ?_
              refine tw_iload X dX2_find_74 1 rfl ?_
              refine tw_iload X dX2_find_76 0 rfl ?_
              refine tw_iast X (N := 100) (f := s1) (ws' := wR cy q M ++ wY cy (fun i => q (8 + i)) (ups s1 (((M 0 (i : Int)) * 10) + (M 1 (i : Int))) (len M (i : Int)))) 9 rfl (by decide) (by omega) dX2_find_78 rfl ?_
              refine tw_aload_n X dX2_find_79 2 rfl rfl ?_
              refine gf_X2_9 X (v := .ref (q 9)) 8 rfl rfl dX2_find_80 ?_
              refine tw_aload_n X dX2_find_83 3 rfl rfl ?_
              refine gf_X2_33 X (v := .ref (q 2)) 0 rfl rfl dX2_find_84 ?_
              refine tw_iload X dX2_find_87 6 rfl ?_
              refine tw_iald X (N := 20) (f := (M 1)) 2 rfl (by decide) (by omega) dX2_find_89 ?_
              refine Tst (st' := [.int (enc (M 1 (i : Int))), .ref (q 9)]) rfl ?_
              have b7 := hB 1 (i : Int)
              refine tw_bipush X dX2_find_90 (by decide) ?_
              refine tw_imul (z := (M 1 (i : Int)) * 10) X dX2_find_92 rfl ?_
              refine tw_aload_n X dX2_find_93 3 rfl rfl ?_
              refine gf_X2_30 X (v := .ref (q 1)) 0 rfl rfl dX2_find_94 ?_
              refine tw_iload X dX2_find_97 6 rfl ?_
              refine tw_iald X (N := 20) (f := (M 0)) 1 rfl (by decide) (by omega) dX2_find_99 ?_
              refine Tst (st' := [.int (enc (M 0 (i : Int))), .int (enc ((M 1 (i : Int)) * 10)), .ref (q 9)]) rfl ?_
              have b8 := hB 0 (i : Int)
              refine tw_iadd (z := ((M 1 (i : Int)) * 10) + (M 0 (i : Int))) X dX2_find_100 rfl ?_
              refine tw_iload X dX2_find_101 0 rfl ?_
              refine tw_iast X (N := 100) (f := (ups s1 (((M 0 (i : Int)) * 10) + (M 1 (i : Int))) (len M (i : Int)))) (ws' := wR cy q M ++ wY cy (fun i => q (8 + i)) (ups (ups s1 (((M 0 (i : Int)) * 10) + (M 1 (i : Int))) (len M (i : Int))) (((M 1 (i : Int)) * 10) + (M 0 (i : Int))) (len M (i : Int)))) 9 rfl (by decide) (by omega) dX2_find_103 rfl ?_
              refine tw_iinc (q := 6) (x := (i : Int)) (y := (i : Int) + 1) (lv' := [(4, .int (enc ((i : Int) + 1))), (6, .int (enc (len M (i : Int)))), (5, .int (enc (((M 0 (i : Int)) * 10) + (M 1 (i : Int))))), (0, .ref (q 8)), (1, .ref (q 0)), (2, .int (enc (M 19 0))), (3, .int (enc (if ob = true then 1 else 0)))]) X dX2_find_104 rfl rfl (by decide) rfl ?_
              refine tw_goto (tgt := 7) X dX2_find_107 (by decide) ?_
              refine Tsub (lv' := [(0, .ref (q 8)), (1, .ref (q 0)), (2, .int (enc (M 19 0))), (3, .int (enc (if ob = true then 1 else 0))), (4, .int (enc ((i : Int) + 1)))]) [3, 4, 5, 6, 0] rfl ?_
              refine Teq (ws' := wR cy q M ++ wY cy (fun i => q (8 + i)) ((ups (ups s1 (((M 0 (i : Int)) * 10) + (M 1 (i : Int))) (len M (i : Int))) (((M 1 (i : Int)) * 10) + (M 0 (i : Int))) (len M (i : Int))))) (lv' := [(0, .ref (q 8)), (1, .ref (q 0)), (2, .int (enc (M 19 0))), (3, .int (enc (if ob = true then 1 else 0))), (4, .int (enc (((i + 1 : Nat) : Int))))]) (st' := []) (rfl) (lvk (lvk (lvk (lvk (lvc (i_succ i) (rfl)))))) rfl (ih7 (i + 1) ((ups (ups s1 (((M 0 (i : Int)) * 10) + (M 1 (i : Int))) (len M (i : Int))) (((M 1 (i : Int)) * 10) + (M 0 (i : Int))) (len M (i : Int)))) (by omega) (by omega) (hNX))
  refine Tsub (lv' := [(0, .ref (q 8)), (1, .ref (q 0)), (2, .int (enc (M 19 0))), (3, .int (enc (if ob = true then 1 else 0))), (4, .int (enc (0)))]) [1, 2, 3, 4, 0] rfl ?_
  refine Teq (ws' := wR cy q M ++ wY cy (fun i => q (8 + i)) (sc)) (lv' := [(0, .ref (q 8)), (1, .ref (q 0)), (2, .int (enc (M 19 0))), (3, .int (enc (if ob = true then 1 else 0))), (4, .int (enc (((0 : Nat) : Int))))]) (st' := []) (rfl) (rfl) rfl (L7 (M 16 0 + 1).toNat 0 (sc) (by omega) (by omega) (RI.zero (by omega) hsc))
end
section
/-! AN HOUR, as numbers; the invariant WF M B, and that the hour keeps it -/
def BdB (M : MT) (B : Int) : Prop := ∀ (k : Nat) (j : Int), -B ≤ M k j ∧ M k j ≤ B
theorem BdB.up {M : MT} {B B' : Int} (h : BdB M B) (hB : B ≤ B') {k : Nat} {i v : Int} (hv : -B' ≤ v ∧ v ≤ B') : BdB (up M k i v) B' := by
  intro k' j
  have := h k' j
  rw [up_eq]
  split
  · exact hv
  · omega
theorem BdB.upc {M : MT} {B B' : Int} (h : BdB M B) (hB : B ≤ B') {k : Nat} {v : Int} (hv : -B' ≤ v ∧ v ≤ B') : BdB (upc M k v) B' := by
  intro k' j
  have := h k' j
  rw [upc_eq]
  split
  · exact hv
  · omega
theorem BdB.mono {M : MT} {B B' : Int} (h : BdB M B) (hB : B ≤ B') : BdB M B' := fun k j => by have := h k j; omega
theorem BdB.bd {M : MT} {B : Int} (h : BdB M B) (hB : B ≤ 2000000) : Bd M := fun k j => by have := h k j; omega
def cntIn (M : MT) : Nat → Int
  | 0 => 0
  | t + 1 => cntIn M t + (if 0 ≤ M 15 t then 1 else 0)
theorem cntIn_s (M : MT) (t : Nat) : cntIn M (t + 1) = cntIn M t + (if 0 ≤ M 15 t then 1 else 0) := rfl
theorem cntIn_congr {M N : MT} : ∀ (n : Nat), (∀ j : Nat, j < n → (0 ≤ M 15 j ↔ 0 ≤ N 15 j)) → cntIn M n = cntIn N n
  | 0, _ => rfl
  | n + 1, h => by
    rw [cntIn_s, cntIn_s, cntIn_congr n (fun j hj => h j (by omega))]
    have := h n (by omega)
    by_cases q : 0 ≤ M 15 n
    · rw [if_pos q, if_pos (this.mp q)]
    · rw [if_neg q, if_neg (fun z => q (this.mpr z))]
theorem cntIn_one {M N : MT} {t : Nat} (h1 : M 15 t < 0) (h2 : 0 ≤ N 15 t) (h : ∀ j : Nat, j ≠ t → N 15 j = M 15 j) : ∀ n : Nat, t < n → cntIn N n = cntIn M n + 1
  | 0, hn => absurd hn (Nat.not_lt_zero t)
  | n + 1, hn => by
    rw [cntIn_s, cntIn_s]
    by_cases e : t = n
    · subst e
      rw [cntIn_congr (M := N) (N := M) t (fun j hj => by rw [h j (by omega)]), if_pos h2, if_neg (by omega)]; omega
    · rw [cntIn_one h1 h2 h n (by omega), h n (fun q => e q.symm)]; omega
theorem cntIn_rng (M : MT) : ∀ n : Nat, 0 ≤ cntIn M n ∧ cntIn M n ≤ n
  | 0 => ⟨Int.le_refl _, Int.le_refl _⟩
  | n + 1 => by
    have := cntIn_rng M n
    rw [cntIn_s]
    split <;> omega
/-- what holds of a tourist -/
def TI (M : MT) (t : Int) : Prop := -1 ≤ M 7 t ∧ M 7 t < M 19 0 ∧ -1 ≤ M 8 t ∧ M 8 t < M 16 0 ∧ 0 ≤ M 11 t ∧ M 11 t < M 19 0 ∧ 0 ≤ M 12 t ∧ M 12 t ≤ 3 ∧ 0 ≤ M 13 t ∧ M 13 t ≤ M 20 0 ∧ 0 ≤ M 14 t ∧ M 14 t ≤ 108 ∧ -1 ≤ M 15 t ∧ (M 15 t < 0 → (0 ≤ M 8 t → 0 ≤ M 9 t ∧ M 9 t < M 19 0 ∧ 1 ≤ M 10 t ∧ M 7 t = -1) ∧ (M 8 t < 0 → 0 ≤ M 7 t ∧ M 7 t ≠ M 11 t)) ∧ (0 ≤ M 15 t → M 8 t = -1)
theorem TI.congr {M N : MT} {t : Int} (h : ∀ k : Nat, 7 ≤ k → k ≤ 15 → N k t = M k t) (h16 : N 16 0 = M 16 0) (h19 : N 19 0 = M 19 0) (h20 : N 20 0 = M 20 0) (q : TI M t) : TI N t := by
  unfold TI at q ⊢
  rw [h 7 (by decide) (by decide), h 8 (by decide) (by decide), h 9 (by decide) (by decide), h 10 (by decide) (by decide), h 11 (by decide) (by decide), h 12 (by decide) (by decide), h 13 (by decide) (by decide), h 14 (by decide) (by decide), h 15 (by decide) (by decide), h16, h19, h20]
  exact q
def WF (M : MT) (B : Int) : Prop := BdB M B ∧ 200 ≤ B ∧ WFR M ∧ (∀ r : Int, 0 ≤ M 4 r ∧ 0 ≤ M 6 r ∧ M 6 r ≤ 20 ∧ 0 ≤ M 5 r ∧ M 5 r ≤ 3) ∧ (∀ r : Int, 0 ≤ r → r < M 16 0 → 0 ≤ M 3 r ∧ M 3 r ≤ 3) ∧ 0 ≤ M 17 0 ∧ M 17 0 ≤ 12 ∧ 0 ≤ M 20 0 ∧ M 18 0 = cntIn M (M 17 0).toNat ∧ (∀ t : Int, 0 ≤ t → t < M 17 0 → TI M t) ∧ (∀ t : Int, M 17 0 ≤ t → M 12 t = 0)
theorem WF.mono {M : MT} {B B' : Int} (h : WF M B) (hB : B ≤ B') : WF M B' := ⟨h.1.mono hB, by have := h.2.1; omega, h.2.2⟩
theorem WF.bd {M : MT} {B : Int} (h : WF M B) (hB : B ≤ 2000000) : Bd M := h.1.bd hB
theorem WF.r {M : MT} {B : Int} (h : WF M B) : WFR M := h.2.2.1
/-- what the roads alone need, kept where their fixed fields are -/
theorem WFR.congr {M N : MT} (h0 : N 0 = M 0) (h1 : N 1 = M 1) (h2 : N 2 = M 2) (h16 : N 16 0 = M 16 0) (h19 : N 19 0 = M 19 0) (h5 : ∀ r : Int, 0 ≤ N 5 r ∧ N 5 r ≤ 3) (h : WFR M) : WFR N := by
  obtain ⟨a, b, c, d, e⟩ := h
  refine ⟨by rw [h16]; exact a, by rw [h16]; exact b, by rw [h19]; exact c, by rw [h19]; exact d, fun r r0 r1 => ?_⟩
  rw [h16] at r1
  have := e r r0 r1
  have := h5 r
  rw [h0, h1, h2, h19]
  omega
/-! step 1: mending goes on -/
def mend1 (M : MT) (r : Int) : MT := if 0 < M 6 r then (if M 6 r - 1 = 0 then reop (up M 6 r (M 6 r - 1)) r else up M 6 r (M 6 r - 1)) else M
def mendI (M : MT) : Nat → MT
  | 0 => M
  | i + 1 => mend1 (mendI M i) i
theorem mendI_s (M : MT) (i : Nat) : mendI M (i + 1) = mend1 (mendI M i) i := rfl
theorem reop_eq (M : MT) (r : Int) (k : Nat) (j : Int) : reop M r k j = if k = 4 ∧ j = r then 0 else if k = 5 ∧ j = r then (if M 5 r < 3 then M 5 r + 1 else M 5 r) else M k j := by
  unfold reop
  split
  · rw [up_eq, up_eq]
    by_cases e : k = 5 ∧ j = r
    · rw [if_pos e, if_neg (by omega), if_pos e]
    · rw [if_neg e, if_neg e]
  · rw [up_eq]
    by_cases e : k = 5 ∧ j = r
    · rw [if_pos e, if_neg (by omega), if_neg (by omega), e.1, e.2]
    · rw [if_neg e]
/-- what a mending step leaves as it is -/
theorem mend1_eq (M : MT) (r : Int) {k : Nat} (h : k ≠ 4 ∧ k ≠ 5 ∧ k ≠ 6) : mend1 M r k = M k := by
  funext j
  unfold mend1
  split
  · split
    · rw [reop_eq, if_neg (by omega), if_neg (by omega), up_eq, if_neg (by omega)]
    · rw [up_eq, if_neg (by omega)]
  · rfl
theorem mendI_eq (M : MT) {k : Nat} (h : k ≠ 4 ∧ k ≠ 5 ∧ k ≠ 6) : ∀ i : Nat, mendI M i k = M k
  | 0 => rfl
  | i + 1 => by rw [mendI_s, mend1_eq _ _ h, mendI_eq M h i]
theorem mend1_456 (M : MT) (r : Int) (h : ∀ r : Int, 0 ≤ M 4 r ∧ 0 ≤ M 6 r ∧ M 6 r ≤ 20 ∧ 0 ≤ M 5 r ∧ M 5 r ≤ 3) (r' : Int) : 0 ≤ mend1 M r 4 r' ∧ 0 ≤ mend1 M r 6 r' ∧ mend1 M r 6 r' ≤ 20 ∧ 0 ≤ mend1 M r 5 r' ∧ mend1 M r 5 r' ≤ 3 := by
  have h1 := h r
  have h2 := h r'
  unfold mend1
  split
  · split
    · simp only [reop_eq, up_eq]
      simp
      refine ⟨?_, ?_, ?_, ?_, ?_⟩ <;> (repeat' split) <;> omega
    · simp only [up_eq]
      simp
      refine ⟨?_, ?_, ?_, ?_, ?_⟩ <;> (repeat' split) <;> omega
  · exact h2
theorem mend1_bd {M : MT} {B : Int} (hB : 200 ≤ B) (h : BdB M B) (h4 : ∀ r : Int, 0 ≤ M 4 r ∧ 0 ≤ M 6 r ∧ M 6 r ≤ 20 ∧ 0 ≤ M 5 r ∧ M 5 r ≤ 3) (r : Int) : BdB (mend1 M r) B := by
  have h1 := h4 r
  have hu : BdB (up M 6 r (M 6 r - 1)) B := h.up (Int.le_refl B) (by omega)
  unfold mend1
  split
  · split
    · unfold reop
      split
      · exact (hu.up (Int.le_refl B) (by omega)).up (Int.le_refl B) (by rw [up_eq, if_neg (by omega)]; omega)
      · exact hu.up (Int.le_refl B) (by omega)
    · exact hu
  · exact h
theorem WF.k_mend1 {M : MT} {B : Int} (h : WF M B) (r : Int) : WF (mend1 M r) B := by
  obtain ⟨a, b, c, d, e, f, g, i, j, k, l⟩ := h
  have q : ∀ k : Nat, k ≠ 4 ∧ k ≠ 5 ∧ k ≠ 6 → mend1 M r k = M k := fun k h => mend1_eq M r h
  refine ⟨mend1_bd b a d r, b, WFR.congr (q 0 (by omega)) (q 1 (by omega)) (q 2 (by omega)) (by rw [q 16 (by omega)]) (by rw [q 19 (by omega)]) (fun r' => ⟨(mend1_456 M r d r').2.2.2.1, (mend1_456 M r d r').2.2.2.2⟩) c, mend1_456 M r d, by rw [q 3 (by omega), q 16 (by omega)]; exact e, by rw [q 17 (by omega)]; exact f, by rw [q 17 (by omega)]; exact g, by rw [q 20 (by omega)]; exact i, ?_, ?_, by rw [q 17 (by omega), q 12 (by omega)]; exact l⟩
  · rw [q 18 (by omega), q 17 (by omega), j]
    exact cntIn_congr _ (fun t _ => by rw [q 15 (by omega)])
  · rw [q 17 (by omega)]
    exact fun t t0 t1 => (k t t0 t1).congr (fun x _ _ => by rw [q x (by omega)]) (by rw [q 16 (by omega)]) (by rw [q 19 (by omega)]) (by rw [q 20 (by omega)])
theorem WF.k_mendI {M : MT} {B : Int} (h : WF M B) : ∀ i : Nat, WF (mendI M i) B
  | 0 => h
  | i + 1 => (WF.k_mendI h i).k_mend1 i
/-! step 2: the tourists go -/
noncomputable def twd (M : MT) (p g : Int) : Nat → Int × Int
  | 0 => (-1, 1000000)
  | i + 1 => if M 6 i = 0 ∧ 0 ≤ endF M i p ∧ len M i + dst M true (endF M i p) g < (twd M p g i).2 then ((i : Int), len M i + dst M true (endF M i p) g) else twd M p g i
theorem twd_y {M : MT} {p g : Int} {i : Nat} (h1 : M 6 i = 0) (h2 : 0 ≤ endF M i p) (h3 : len M i + dst M true (endF M i p) g < (twd M p g i).2) : twd M p g (i + 1) = ((i : Int), len M i + dst M true (endF M i p) g) := if_pos ⟨h1, h2, h3⟩
theorem twd_n {M : MT} {p g : Int} {i : Nat} (h : ¬ (M 6 i = 0 ∧ 0 ≤ endF M i p ∧ len M i + dst M true (endF M i p) g < (twd M p g i).2)) : twd M p g (i + 1) = twd M p g i := if_neg h
noncomputable def toward (M : MT) (p g : Int) : Int := (twd M p g (M 16 0).toNat).1
theorem twd_ok {M : MT} (p g : Int) : ∀ n : Nat, ((twd M p g n).1 = -1 ∨ (0 ≤ (twd M p g n).1 ∧ (twd M p g n).1 < n ∧ M 6 (twd M p g n).1 = 0 ∧ 0 ≤ endF M (twd M p g n).1 p)) ∧ (twd M p g n).2 ≤ 1000000
  | 0 => ⟨Or.inl rfl, Int.le_refl _⟩
  | n + 1 => by
    have ih := twd_ok (M := M) p g n
    by_cases h : M 6 n = 0 ∧ 0 ≤ endF M n p ∧ len M n + dst M true (endF M n p) g < (twd M p g n).2
    · rw [twd_y h.1 h.2.1 h.2.2]
      refine ⟨Or.inr ⟨by show (0 : Int) ≤ n; omega, by show (n : Int) < (n + 1 : Nat); omega, h.1, h.2.1⟩, ?_⟩
      show len M n + dst M true (endF M n p) g ≤ 1000000
      omega
    · rw [twd_n h]
      exact ⟨ih.1.imp id (fun q => ⟨q.1, by omega, q.2.2⟩), ih.2⟩
theorem twd_lo {M : MT} (hW : WFR M) (p g : Int) : ∀ n : Nat, (n : Int) ≤ M 16 0 → 0 ≤ (twd M p g n).2
  | 0, _ => by show (0 : Int) ≤ 1000000; decide
  | n + 1, hn => by
    have ih := twd_lo hW p g n (by omega)
    by_cases h : M 6 n = 0 ∧ 0 ≤ endF M n p ∧ len M n + dst M true (endF M n p) g < (twd M p g n).2
    · rw [twd_y h.1 h.2.1 h.2.2]
      have := hW.ln (r := (n : Int)) (by omega) (by omega)
      have := (dst_ok (o := true) hW (endF M n p) g).1
      show 0 ≤ len M n + dst M true (endF M n p) g
      omega
    · rw [twd_n h]; exact ih
theorem toward_ok {M : MT} (hW : WFR M) (p g : Int) : toward M p g = -1 ∨ (0 ≤ toward M p g ∧ toward M p g < M 16 0 ∧ M 6 (toward M p g) = 0 ∧ 0 ≤ endF M (toward M p g) p) := by
  have := (twd_ok (M := M) p g (M 16 0).toNat).1
  have := hW.1
  unfold toward
  omega
def mixD (a b : Int) : Int := if a = 0 ∨ a = b then b else if b = 0 then a else 6 - a - b
theorem mixD_rng {a b : Int} (ha : 0 ≤ a ∧ a ≤ 3) (hb : 0 ≤ b ∧ b ≤ 3) : 0 ≤ mixD a b ∧ mixD a b ≤ 3 := by
  unfold mixD
  split
  · omega
  · split <;> omega
/-- the tourist t sets out on the road r -/
def goR (M : MT) (t r : Int) : MT := up (up (takeT M t r (endF M r (M 7 t)) (len M r)) 12 t (mixD (M 12 t) (M 3 r))) 4 r (M 4 r + 1)
noncomputable def outT (M : MT) (t : Int) : MT := if M 7 t < 0 then M else if toward M (M 7 t) (M 11 t) < 0 then M else goR M t (toward M (M 7 t) (M 11 t))
noncomputable def tour1 (M : MT) (t : Int) : MT := if 0 ≤ M 15 t then M else walkT (outT M t) t (M 20 0)
noncomputable def tourI (M : MT) : Nat → MT
  | 0 => M
  | t + 1 => tour1 (tourI M t) t
theorem tourI_s (M : MT) (t : Nat) : tourI M (t + 1) = tour1 (tourI M t) t := rfl
theorem goR_eq (M : MT) (t r : Int) (k : Nat) (j : Int) : goR M t r k j = if k = 4 ∧ j = r then M 4 r + 1 else if k = 12 ∧ j = t then mixD (M 12 t) (M 3 r) else if k = 10 ∧ j = t then len M r else if k = 9 ∧ j = t then endF M r (M 7 t) else if k = 8 ∧ j = t then r else if k = 7 ∧ j = t then -1 else M k j := by
  unfold goR takeT
  simp only [up_eq]
theorem goR_fix (M : MT) (t r : Int) {k : Nat} (h : k ≠ 4 ∧ k ≠ 12 ∧ k ≠ 10 ∧ k ≠ 9 ∧ k ≠ 8 ∧ k ≠ 7) : goR M t r k = M k := by
  funext j
  rw [goR_eq, if_neg (by omega), if_neg (by omega), if_neg (by omega), if_neg (by omega), if_neg (by omega), if_neg (by omega)]
theorem outT_fix (M : MT) (t : Int) {k : Nat} (h : k ≠ 4 ∧ k ≠ 12 ∧ k ≠ 10 ∧ k ≠ 9 ∧ k ≠ 8 ∧ k ≠ 7) : outT M t k = M k := by
  unfold outT
  split
  · rfl
  · split
    · rfl
    · exact goR_fix M t _ h
theorem WF.k_goR {M : MT} {B : Int} (h : WF M B) {t r : Int} (ht : 0 ≤ t ∧ t < M 17 0) (hd : M 15 t < 0) (hr : 0 ≤ r ∧ r < M 16 0) (he : 0 ≤ endF M r (M 7 t)) : WF (goR M t r) (B + 1) := by
  obtain ⟨a, b, c, d, e, f, g, i, j, k, l⟩ := h
  have hm := mixD_rng (a := M 12 t) (b := M 3 r) (by have := (k t ht.1 ht.2); unfold TI at this; omega) (e r hr.1 hr.2)
  have hl := c.ln hr.1 hr.2
  have hee := endF_rng c hr.1 hr.2 he
  have hc4 := c.2.2.2.1
  have hc2 := c.2.1
  have ha4 := a 4 r
  have hd4 := d r
  have q : ∀ k : Nat, (k ≠ 4 ∧ k ≠ 12 ∧ k ≠ 10 ∧ k ≠ 9 ∧ k ≠ 8 ∧ k ≠ 7) → goR M t r k = M k := fun k h => goR_fix M t r h
  have w4 : ∀ r' : Int, 0 ≤ goR M t r 4 r' := by
    intro r'
    rw [goR_eq]
    have := (d r').1
    split
    · omega
    · simp; exact this
  refine ⟨fun x y => ?_, by omega, WFR.congr (q 0 (by omega)) (q 1 (by omega)) (q 2 (by omega)) (by rw [q 16 (by omega)]) (by rw [q 19 (by omega)]) (fun r' => by rw [q 5 (by omega)]; exact (d r').2.2.2) c, fun r' => ⟨w4 r', by rw [q 5 (by omega), q 6 (by omega)]; exact (d r').2⟩, by rw [q 3 (by omega), q 16 (by omega)]; exact e, by rw [q 17 (by omega)]; exact f, by rw [q 17 (by omega)]; exact g, by rw [q 20 (by omega)]; exact i, ?_, ?_, ?_⟩
  · have := a x y
    have h7 := a 7 t
    rw [goR_eq]
    split
    · omega
    · split
      · omega
      · split
        · omega
        · split
          · omega
          · split
            · omega
            · split <;> omega
  · rw [q 18 (by omega), q 17 (by omega), j]
    exact cntIn_congr _ (fun t _ => by rw [q 15 (by omega)])
  · rw [q 17 (by omega)]
    intro t' t0 t1
    have hk := k t' t0 t1
    by_cases et : t' = t
    · subst et
      unfold TI at hk ⊢
      rw [q 16 (by omega), q 19 (by omega), q 20 (by omega), q 11 (by omega), q 13 (by omega), q 14 (by omega), q 15 (by omega)]
      simp only [goR_eq]
      simp
      omega
    · refine hk.congr (fun x x0 x1 => ?_) (by rw [q 16 (by omega)]) (by rw [q 19 (by omega)]) (by rw [q 20 (by omega)])
      rw [goR_eq, if_neg (by omega), if_neg (by omega), if_neg (by omega), if_neg (by omega), if_neg (by omega), if_neg (by omega)]
  · rw [q 17 (by omega)]
    intro t' ht'
    have := l t' ht'
    rw [goR_eq, if_neg (by omega), if_neg (by omega), if_neg (by omega), if_neg (by omega), if_neg (by omega), if_neg (by omega)]
    exact this
theorem WF.k_outT {M : MT} {B : Int} (h : WF M B) {t : Int} (ht : 0 ≤ t ∧ t < M 17 0) (hd : M 15 t < 0) : WF (outT M t) (B + 1) := by
  have hto := toward_ok h.r (M 7 t) (M 11 t)
  unfold outT
  split
  · exact h.mono (by omega)
  · split
    · exact h.mono (by omega)
    · exact h.k_goR ht hd (by omega) (by omega)
theorem walkT_fix (M : MT) (t h : Int) {k : Nat} (q : k ≠ 7 ∧ k ≠ 8 ∧ k ≠ 10 ∧ k ≠ 15 ∧ k ≠ 18) : walkT M t h k = M k := by
  funext j
  unfold walkT
  split
  · rfl
  · split
    · rw [up_eq, if_neg (by omega)]
    · split
      · rw [upc_eq, if_neg (by omega)]; simp only [up_eq]
        rw [if_neg (by omega), if_neg (by omega), if_neg (by omega), if_neg (by omega)]
      · simp only [up_eq]
        rw [if_neg (by omega), if_neg (by omega), if_neg (by omega)]
/-- the walk changes nothing of another tourist -/
theorem walkT_oth (M : MT) (t h : Int) {k : Nat} {j : Int} (q : j ≠ t) (hk : k ≠ 18) : walkT M t h k j = M k j := by
  unfold walkT
  split
  · rfl
  · split
    · rw [up_eq, if_neg (by omega)]
    · split
      · rw [upc_eq, if_neg (by omega)]; simp only [up_eq]
        rw [if_neg (by omega), if_neg (by omega), if_neg (by omega), if_neg (by omega)]
      · simp only [up_eq]
        rw [if_neg (by omega), if_neg (by omega), if_neg (by omega)]
theorem WF.k_walkT {M : MT} {B : Int} (h : WF M B) {t : Int} (ht : 0 ≤ t ∧ t < M 17 0) (hd : M 15 t < 0) : WF (walkT M t (M 20 0)) (B + 1) := by
  obtain ⟨a, b, c, d, e, f, g, i, j, k, l⟩ := h
  have q : ∀ k : Nat, (k ≠ 7 ∧ k ≠ 8 ∧ k ≠ 10 ∧ k ≠ 15 ∧ k ≠ 18) → walkT M t (M 20 0) k = M k := fun k h => walkT_fix M t _ h
  have hk := k t ht.1 ht.2
  have a9 := a 9 t
  have a10 := a 10 t
  have a13 := a 13 t
  have a20 := a 20 0
  have a18 := a 18 0
  refine ⟨?_, by omega, WFR.congr (q 0 (by omega)) (q 1 (by omega)) (q 2 (by omega)) (by rw [q 16 (by omega)]) (by rw [q 19 (by omega)]) (fun r' => by rw [q 5 (by omega)]; exact (d r').2.2.2) c, by rw [q 4 (by omega), q 5 (by omega), q 6 (by omega)]; exact d, by rw [q 3 (by omega), q 16 (by omega)]; exact e, by rw [q 17 (by omega)]; exact f, by rw [q 17 (by omega)]; exact g, by rw [q 20 (by omega)]; exact i, ?_, ?_, by rw [q 17 (by omega), q 12 (by omega)]; exact l⟩
  · unfold TI at hk
    unfold walkT
    split
    · exact a.mono (by omega)
    · have h1 : BdB (up M 10 t (M 10 t - 1)) (B + 1) := a.up (by omega) (by omega)
      split
      · exact h1
      · have h2 : BdB (up (up (up M 10 t (M 10 t - 1)) 7 t (M 9 t)) 8 t (-1)) (B + 1) := (h1.up (Int.le_refl _) (by omega)).up (Int.le_refl _) (by omega)
        split
        · exact (h2.up (Int.le_refl _) (by omega)).upc (Int.le_refl _) (by omega)
        · exact h2
  · rw [q 17 (by omega)]
    unfold walkT
    unfold TI at hk
    split
    · exact j
    · split
      · rw [up_eq, if_neg (by omega), j]
        exact cntIn_congr _ (fun t' _ => by rw [up_eq, if_neg (by omega)])
      · split
        · have en := cntIn_one (M := M) (N := upc (up (up (up (up M 10 t (M 10 t - 1)) 7 t (M 9 t)) 8 t (-1)) 15 t (M 20 0 + 1 - M 13 t)) 18 (M 18 0 + 1)) (t := t.toNat) (by rw [show ((t.toNat : Nat) : Int) = t by omega]; exact hd) (by rw [upc_eq, if_neg (by omega), up_eq, if_pos (by omega)]; omega) (fun t' ht' => by
            rw [upc_eq, if_neg (by omega)]
            simp only [up_eq]
            rw [if_neg (by omega), if_neg (by omega), if_neg (by omega), if_neg (by omega)]) (M 17 0).toNat (by omega)
          rw [en, upc_eq, if_pos rfl]
          omega
        · simp only [up_eq]
          rw [if_neg (by omega), if_neg (by omega), if_neg (by omega), j]
          exact cntIn_congr _ (fun t' _ => by
            simp only [up_eq]
            rw [if_neg (by omega), if_neg (by omega), if_neg (by omega)])
  · rw [q 17 (by omega)]
    intro t' t0 t1
    by_cases et : t' = t
    · subst et
      unfold TI at hk ⊢
      rw [q 16 (by omega), q 19 (by omega), q 20 (by omega), q 9 (by omega), q 11 (by omega), q 12 (by omega), q 13 (by omega), q 14 (by omega)]
      unfold walkT
      split
      · exact hk
      · split
        · simp only [up_eq]; simp; omega
        · split
          · simp only [up_eq, upc_eq]; simp; omega
          · simp only [up_eq]; simp; omega
    · exact (k t' t0 t1).congr (fun x x0 x1 => walkT_oth M t _ et (by omega)) (by rw [q 16 (by omega)]) (by rw [q 19 (by omega)]) (by rw [q 20 (by omega)])
theorem outT_15 (M : MT) (t : Int) : outT M t 15 = M 15 := outT_fix M t (by omega)
theorem WF.k_tour1 {M : MT} {B : Int} (h : WF M B) {t : Int} (ht : 0 ≤ t ∧ t < M 17 0) : WF (tour1 M t) (B + 2) := by
  unfold tour1
  split
  · exact h.mono (by omega)
  · have h1 := h.k_outT ht (by omega)
    have h2 := h1.k_walkT (t := t) (by rw [outT_fix M t (k := 17) (by omega)]; exact ht) (by rw [outT_15]; omega)
    rw [outT_fix M t (k := 20) (by omega), show B + 1 + 1 = B + 2 by omega] at h2
    exact h2
theorem tour1_fix (M : MT) (t : Int) {k : Nat} (q : k < 4 ∨ k = 5 ∨ k = 6 ∨ k = 11 ∨ k = 13 ∨ k = 14 ∨ k = 16 ∨ k = 17 ∨ k = 19 ∨ k = 20) : tour1 M t k = M k := by
  unfold tour1
  split
  · rfl
  · rw [walkT_fix _ _ _ (by omega), outT_fix M t (by omega)]
theorem tourI_fix (M : MT) {k : Nat} (q : k < 4 ∨ k = 5 ∨ k = 6 ∨ k = 11 ∨ k = 13 ∨ k = 14 ∨ k = 16 ∨ k = 17 ∨ k = 19 ∨ k = 20) : ∀ t : Nat, tourI M t k = M k
  | 0 => rfl
  | t + 1 => by rw [tourI_s, tour1_fix _ _ q, tourI_fix M q t]
theorem WF.k_tourI {M : MT} {B : Int} (h : WF M B) : ∀ t : Nat, (t : Int) ≤ M 17 0 → WF (tourI M t) (B + 2 * t)
  | 0, _ => by rw [show B + 2 * ((0 : Nat) : Int) = B by omega]; exact h
  | t + 1, ht => by
    have ih := WF.k_tourI h t (by omega)
    have := ih.k_tour1 (t := (t : Int)) (by rw [tourI_fix M (k := 17) (by omega)]; omega)
    rw [show B + 2 * ((t + 1 : Nat) : Int) = B + 2 * t + 2 by omega]
    exact this
/-! step 3: worn roads are closed -/
def close1 (M : MT) (r : Int) : MT := if M 6 r = 0 ∧ 5 ≤ M 4 r ∧ onR M r (M 17 0).toNat = 0 then up M 6 r 4 else M
def closeI (M : MT) : Nat → MT
  | 0 => M
  | i + 1 => close1 (closeI M i) i
theorem closeI_s (M : MT) (i : Nat) : closeI M (i + 1) = close1 (closeI M i) i := rfl
theorem close1_fix (M : MT) (r : Int) {k : Nat} (q : k ≠ 6) : close1 M r k = M k := by
  funext j
  unfold close1
  split
  · rw [up_eq, if_neg (by omega)]
  · rfl
theorem closeI_fix (M : MT) {k : Nat} (q : k ≠ 6) : ∀ i : Nat, closeI M i k = M k
  | 0 => rfl
  | i + 1 => by rw [closeI_s, close1_fix _ _ q, closeI_fix M q i]
/-- a road is closed for some hours -/
theorem WF.shut {M : MT} {B : Int} (h : WF M B) {r v : Int} (hv : 0 ≤ v ∧ v ≤ 20) : WF (up M 6 r v) B := by
  obtain ⟨a, b, c, d, e, f, g, i, j, k, l⟩ := h
  have q : ∀ k : Nat, k ≠ 6 → up M 6 r v k = M k := fun k h => by funext j; rw [up_eq, if_neg (by omega)]
  refine ⟨a.up (Int.le_refl _) (by omega), b, WFR.congr (q 0 (by omega)) (q 1 (by omega)) (q 2 (by omega)) (by rw [q 16 (by omega)]) (by rw [q 19 (by omega)]) (fun r' => by rw [q 5 (by omega)]; exact (d r').2.2.2) c, fun r' => ?_, by rw [q 3 (by omega), q 16 (by omega)]; exact e, by rw [q 17 (by omega)]; exact f, by rw [q 17 (by omega)]; exact g, by rw [q 20 (by omega)]; exact i, ?_, ?_, by rw [q 17 (by omega), q 12 (by omega)]; exact l⟩
  · have := d r'
    rw [q 4 (by omega), q 5 (by omega), up_eq]
    split <;> omega
  · rw [q 18 (by omega), q 17 (by omega), j]
    exact cntIn_congr _ (fun t _ => by rw [q 15 (by omega)])
  · rw [q 17 (by omega)]
    exact fun t t0 t1 => (k t t0 t1).congr (fun x _ _ => by rw [q x (by omega)]) (by rw [q 16 (by omega)]) (by rw [q 19 (by omega)]) (by rw [q 20 (by omega)])
theorem WF.k_close1 {M : MT} {B : Int} (h : WF M B) (r : Int) : WF (close1 M r) B := by
  unfold close1
  split
  · exact h.shut (by omega)
  · exact h
theorem WF.k_closeI {M : MT} {B : Int} (h : WF M B) : ∀ i : Nat, WF (closeI M i) B
  | 0 => h
  | i + 1 => (WF.k_closeI h i).k_close1 i
/-! the hour -/
theorem WF.later {M : MT} {B : Int} (h : WF M B) {v : Int} (hv : M 20 0 ≤ v ∧ v ≤ B) : WF (upc M 20 v) B := by
  obtain ⟨a, b, c, d, e, f, g, i, j, k, l⟩ := h
  have q : ∀ k : Nat, k ≠ 20 → upc M 20 v k = M k := fun k h => by funext j; rw [upc_eq, if_neg (by omega)]
  refine ⟨a.upc (Int.le_refl _) (by omega), b, WFR.congr (q 0 (by omega)) (q 1 (by omega)) (q 2 (by omega)) (by rw [q 16 (by omega)]) (by rw [q 19 (by omega)]) (fun r' => by rw [q 5 (by omega)]; exact (d r').2.2.2) c, by rw [q 4 (by omega), q 5 (by omega), q 6 (by omega)]; exact d, by rw [q 3 (by omega), q 16 (by omega)]; exact e, by rw [q 17 (by omega)]; exact f, by rw [q 17 (by omega)]; exact g, by rw [upc_eq, if_pos rfl]; omega, ?_, ?_, by rw [q 17 (by omega), q 12 (by omega)]; exact l⟩
  · rw [q 18 (by omega), q 17 (by omega), j]
    exact cntIn_congr _ (fun t _ => by rw [q 15 (by omega)])
  · rw [q 17 (by omega)]
    intro t t0 t1
    have := k t t0 t1
    unfold TI at this ⊢
    rw [q 7 (by omega), q 8 (by omega), q 9 (by omega), q 10 (by omega), q 11 (by omega), q 12 (by omega), q 13 (by omega), q 14 (by omega), q 15 (by omega), q 16 (by omega), q 19 (by omega), upc_eq, if_pos rfl]
    omega
noncomputable def hourM (M : MT) : MT := upc (closeI (tourI (mendI M (M 16 0).toNat) (M 17 0).toNat) (M 16 0).toNat) 20 (M 20 0 + 1)
theorem WF.hour {M : MT} {B : Int} (h : WF M B) : WF (hourM M) (B + 26) := by
  have h1 := h.k_mendI (M 16 0).toNat
  have e17 : mendI M (M 16 0).toNat 17 = M 17 := mendI_eq M (by omega) _
  have e20 : mendI M (M 16 0).toNat 20 = M 20 := mendI_eq M (by omega) _
  have h17 := h.2.2.2.2.2.1
  have h172 := h.2.2.2.2.2.2.1
  have h20 := h.1 20 0
  have h2 := h1.k_tourI (M 17 0).toNat (by rw [e17]; omega)
  have h3 := (h2.mono (B' := B + 26) (by omega)).k_closeI (M 16 0).toNat
  refine h3.later ?_
  rw [closeI_fix _ (by omega), tourI_fix _ (by omega), e20]
  omega
theorem hourM_20 (M : MT) : hourM M 20 0 = M 20 0 + 1 := by unfold hourM; rw [upc_eq, if_pos rfl]
theorem hourM_fix (M : MT) {k : Nat} (q : k < 4 ∨ k = 11 ∨ k = 13 ∨ k = 14 ∨ k = 16 ∨ k = 17 ∨ k = 19) : hourM M k = M k := by
  unfold hourM
  funext j
  rw [upc_eq, if_neg (by omega), closeI_fix _ (by omega), tourI_fix _ (by omega), mendI_eq _ (by omega)]
noncomputable def hoursM (M : MT) : Nat → MT
  | 0 => M
  | h + 1 => hourM (hoursM M h)
theorem hoursM_s (M : MT) (h : Nat) : hoursM M (h + 1) = hourM (hoursM M h) := rfl
theorem WF.hours {M : MT} {B : Int} (h : WF M B) : ∀ n : Nat, WF (hoursM M n) (B + 26 * n)
  | 0 => by rw [show B + 26 * ((0 : Nat) : Int) = B by omega]; exact h
  | n + 1 => by rw [show B + 26 * ((n + 1 : Nat) : Int) = B + 26 * n + 26 by omega]; exact (WF.hours h n).hour
end
