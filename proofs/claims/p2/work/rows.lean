section
-- ===== PART A: goes FIRST, ahead of the names: the tables' words, and 'selects' of the private methods out of them =====
/-- a private method of a class that the tables say can be made, by its rows of tables_1 -/
def lw_okq (q : MethodName × Nat) : Prop := (q.1.cls ≠ "java/lang/invoke/MethodHandle" ∧ q.1.cls ≠ "java/lang/invoke/VarHandle") ∧ Cond.instantiable q.1.cls q.2 ∈ tables_1 ∧ Cond.privateMethod q.1 ∈ tables_1 ∧ Cond.instanceMethod q.1 ∈ tables_1
theorem lw_p0 : lw_okq (⟨"AirClock$Search", "goOn", "(I)I"⟩, 7) := ⟨⟨by decide +kernel, by decide +kernel⟩, List.mem_of_getElem? (i := 60) (by decide +kernel), List.mem_of_getElem? (i := 301) (by decide +kernel), List.mem_of_getElem? (i := 302) (by decide +kernel)⟩
theorem lw_p1 : lw_okq (⟨"AirClock$Packer", "allowAll", "()V"⟩, 4) := ⟨⟨by decide +kernel, by decide +kernel⟩, List.mem_of_getElem? (i := 89) (by decide +kernel), List.mem_of_getElem? (i := 329) (by decide +kernel), List.mem_of_getElem? (i := 330) (by decide +kernel)⟩
theorem lw_p2 : lw_okq (⟨"AirClock$Packer", "packs", "(I)Z"⟩, 4) := ⟨⟨by decide +kernel, by decide +kernel⟩, List.mem_of_getElem? (i := 89) (by decide +kernel), List.mem_of_getElem? (i := 334) (by decide +kernel), List.mem_of_getElem? (i := 335) (by decide +kernel)⟩
theorem lw_p3 : lw_okq (⟨"AirClock$Packer", "hardPart", "(I)I"⟩, 4) := ⟨⟨by decide +kernel, by decide +kernel⟩, List.mem_of_getElem? (i := 89) (by decide +kernel), List.mem_of_getElem? (i := 338) (by decide +kernel), List.mem_of_getElem? (i := 339) (by decide +kernel)⟩
theorem lw_p4 : lw_okq (⟨"AirClock$Packer", "mostShut", "(II)I"⟩, 4) := ⟨⟨by decide +kernel, by decide +kernel⟩, List.mem_of_getElem? (i := 89) (by decide +kernel), List.mem_of_getElem? (i := 343) (by decide +kernel), List.mem_of_getElem? (i := 344) (by decide +kernel)⟩
theorem lw_p5 : lw_okq (⟨"AirClock$Packer", "packRest", "(II)Z"⟩, 4) := ⟨⟨by decide +kernel, by decide +kernel⟩, List.mem_of_getElem? (i := 89) (by decide +kernel), List.mem_of_getElem? (i := 354) (by decide +kernel), List.mem_of_getElem? (i := 355) (by decide +kernel)⟩
theorem lw_p6 : lw_okq (⟨"AirClock$Packer", "tightest", "(II)I"⟩, 4) := ⟨⟨by decide +kernel, by decide +kernel⟩, List.mem_of_getElem? (i := 89) (by decide +kernel), List.mem_of_getElem? (i := 358) (by decide +kernel), List.mem_of_getElem? (i := 359) (by decide +kernel)⟩
theorem lw_p7 : lw_okq (⟨"AirClock$Packer", "narrow", "(IIII)Z"⟩, 4) := ⟨⟨by decide +kernel, by decide +kernel⟩, List.mem_of_getElem? (i := 89) (by decide +kernel), List.mem_of_getElem? (i := 362) (by decide +kernel), List.mem_of_getElem? (i := 363) (by decide +kernel)⟩
theorem lw_p8 : lw_okq (⟨"AirClock$Packer", "fixFirst", "(II)V"⟩, 4) := ⟨⟨by decide +kernel, by decide +kernel⟩, List.mem_of_getElem? (i := 89) (by decide +kernel), List.mem_of_getElem? (i := 367) (by decide +kernel), List.mem_of_getElem? (i := 368) (by decide +kernel)⟩
theorem lw_p9 : lw_okq (⟨"AirClock$Fall", "offer", "(III)V"⟩, 12) := ⟨⟨by decide +kernel, by decide +kernel⟩, List.mem_of_getElem? (i := 108) (by decide +kernel), List.mem_of_getElem? (i := 414) (by decide +kernel), List.mem_of_getElem? (i := 415) (by decide +kernel)⟩
theorem lw_p10 : lw_okq (⟨"AirClock$Fall", "priceIn", "(I)I"⟩, 12) := ⟨⟨by decide +kernel, by decide +kernel⟩, List.mem_of_getElem? (i := 108) (by decide +kernel), List.mem_of_getElem? (i := 418) (by decide +kernel), List.mem_of_getElem? (i := 419) (by decide +kernel)⟩
theorem lw_p11 : lw_okq (⟨"AirClock$Fall", "allPaid", "()I"⟩, 12) := ⟨⟨by decide +kernel, by decide +kernel⟩, List.mem_of_getElem? (i := 108) (by decide +kernel), List.mem_of_getElem? (i := 435) (by decide +kernel), List.mem_of_getElem? (i := 436) (by decide +kernel)⟩
theorem lw_p12 : lw_okq (⟨"AirClock$Trade", "weigh", "()V"⟩, 9) := ⟨⟨by decide +kernel, by decide +kernel⟩, List.mem_of_getElem? (i := 158) (by decide +kernel), List.mem_of_getElem? (i := 504) (by decide +kernel), List.mem_of_getElem? (i := 505) (by decide +kernel)⟩
theorem lw_p13 : lw_okq (⟨"AirClock$Trade", "raise", "(IIII)V"⟩, 9) := ⟨⟨by decide +kernel, by decide +kernel⟩, List.mem_of_getElem? (i := 158) (by decide +kernel), List.mem_of_getElem? (i := 512) (by decide +kernel), List.mem_of_getElem? (i := 513) (by decide +kernel)⟩
theorem lw_p14 : lw_okq (⟨"AirClock$Trade", "firstToReach", "(IIII)I"⟩, 9) := ⟨⟨by decide +kernel, by decide +kernel⟩, List.mem_of_getElem? (i := 158) (by decide +kernel), List.mem_of_getElem? (i := 522) (by decide +kernel), List.mem_of_getElem? (i := 523) (by decide +kernel)⟩
theorem lw_p15 : lw_okq (⟨"AirClock$Trade", "winOf", "(I)I"⟩, 9) := ⟨⟨by decide +kernel, by decide +kernel⟩, List.mem_of_getElem? (i := 158) (by decide +kernel), List.mem_of_getElem? (i := 536) (by decide +kernel), List.mem_of_getElem? (i := 537) (by decide +kernel)⟩
def lw_privs_1 : List (MethodName × Nat) := [(⟨"AirClock$Search", "goOn", "(I)I"⟩, 7), (⟨"AirClock$Packer", "allowAll", "()V"⟩, 4), (⟨"AirClock$Packer", "packs", "(I)Z"⟩, 4), (⟨"AirClock$Packer", "hardPart", "(I)I"⟩, 4), (⟨"AirClock$Packer", "mostShut", "(II)I"⟩, 4), (⟨"AirClock$Packer", "packRest", "(II)Z"⟩, 4), (⟨"AirClock$Packer", "tightest", "(II)I"⟩, 4), (⟨"AirClock$Packer", "narrow", "(IIII)Z"⟩, 4), (⟨"AirClock$Packer", "fixFirst", "(II)V"⟩, 4), (⟨"AirClock$Fall", "offer", "(III)V"⟩, 12), (⟨"AirClock$Fall", "priceIn", "(I)I"⟩, 12), (⟨"AirClock$Fall", "allPaid", "()I"⟩, 12), (⟨"AirClock$Trade", "weigh", "()V"⟩, 9), (⟨"AirClock$Trade", "raise", "(IIII)V"⟩, 9), (⟨"AirClock$Trade", "firstToReach", "(IIII)I"⟩, 9), (⟨"AirClock$Trade", "winOf", "(I)I"⟩, 9)]
theorem lw_r1 : ∀ q ∈ lw_privs_1, lw_okq q := List.forall_mem_cons.mpr ⟨lw_p0, List.forall_mem_cons.mpr ⟨lw_p1, List.forall_mem_cons.mpr ⟨lw_p2, List.forall_mem_cons.mpr ⟨lw_p3, List.forall_mem_cons.mpr ⟨lw_p4, List.forall_mem_cons.mpr ⟨lw_p5, List.forall_mem_cons.mpr ⟨lw_p6, List.forall_mem_cons.mpr ⟨lw_p7, List.forall_mem_cons.mpr ⟨lw_p8, List.forall_mem_cons.mpr ⟨lw_p9, List.forall_mem_cons.mpr ⟨lw_p10, List.forall_mem_cons.mpr ⟨lw_p11, List.forall_mem_cons.mpr ⟨lw_p12, List.forall_mem_cons.mpr ⟨lw_p13, List.forall_mem_cons.mpr ⟨lw_p14, List.forall_mem_cons.mpr ⟨lw_p15, fun _ h => absurd h List.not_mem_nil⟩⟩⟩⟩⟩⟩⟩⟩⟩⟩⟩⟩⟩⟩⟩⟩
theorem lw_p16 : lw_okq (⟨"AirClock$Moves", "toMove", "()I"⟩, 4) := ⟨⟨by decide +kernel, by decide +kernel⟩, List.mem_of_getElem? (i := 199) (by decide +kernel), List.mem_of_getElem? (i := 575) (by decide +kernel), List.mem_of_getElem? (i := 576) (by decide +kernel)⟩
theorem lw_p17 : lw_okq (⟨"AirClock$Moves", "nobodyIsHeard", "(I)Z"⟩, 4) := ⟨⟨by decide +kernel, by decide +kernel⟩, List.mem_of_getElem? (i := 199) (by decide +kernel), List.mem_of_getElem? (i := 579) (by decide +kernel), List.mem_of_getElem? (i := 580) (by decide +kernel)⟩
theorem lw_p18 : lw_okq (⟨"AirClock$Moves", "channelOf", "(II)I"⟩, 4) := ⟨⟨by decide +kernel, by decide +kernel⟩, List.mem_of_getElem? (i := 199) (by decide +kernel), List.mem_of_getElem? (i := 583) (by decide +kernel), List.mem_of_getElem? (i := 584) (by decide +kernel)⟩
theorem lw_p19 : lw_okq (⟨"AirClock$Moves", "weeksFrom", "(III)I"⟩, 4) := ⟨⟨by decide +kernel, by decide +kernel⟩, List.mem_of_getElem? (i := 199) (by decide +kernel), List.mem_of_getElem? (i := 590) (by decide +kernel), List.mem_of_getElem? (i := 591) (by decide +kernel)⟩
theorem lw_p20 : lw_okq (⟨"AirClock$Moves", "firstStep", "(III)I"⟩, 4) := ⟨⟨by decide +kernel, by decide +kernel⟩, List.mem_of_getElem? (i := 199) (by decide +kernel), List.mem_of_getElem? (i := 602) (by decide +kernel), List.mem_of_getElem? (i := 603) (by decide +kernel)⟩
theorem lw_p21 : lw_okq (⟨"AirClock", "mixMast", "(JI)J"⟩, 7) := ⟨⟨by decide +kernel, by decide +kernel⟩, List.mem_of_getElem? (i := 13) (by decide +kernel), List.mem_of_getElem? (i := 645) (by decide +kernel), List.mem_of_getElem? (i := 646) (by decide +kernel)⟩
theorem lw_p22 : lw_okq (⟨"AirClockModel", "noMast", "(I)Z"⟩, 35) := ⟨⟨by decide +kernel, by decide +kernel⟩, List.mem_of_getElem? (i := 649) (by decide +kernel), List.mem_of_getElem? (i := 778) (by decide +kernel), List.mem_of_getElem? (i := 779) (by decide +kernel)⟩
theorem lw_p23 : lw_okq (⟨"AirClockModel", "noSet", "(I)Z"⟩, 35) := ⟨⟨by decide +kernel, by decide +kernel⟩, List.mem_of_getElem? (i := 649) (by decide +kernel), List.mem_of_getElem? (i := 797) (by decide +kernel), List.mem_of_getElem? (i := 798) (by decide +kernel)⟩
theorem lw_p24 : lw_okq (⟨"AirClockModel", "search", "(I)I"⟩, 35) := ⟨⟨by decide +kernel, by decide +kernel⟩, List.mem_of_getElem? (i := 649) (by decide +kernel), List.mem_of_getElem? (i := 801) (by decide +kernel), List.mem_of_getElem? (i := 802) (by decide +kernel)⟩
theorem lw_p25 : lw_okq (⟨"AirClockModel", "layRow", "(I)V"⟩, 35) := ⟨⟨by decide +kernel, by decide +kernel⟩, List.mem_of_getElem? (i := 649) (by decide +kernel), List.mem_of_getElem? (i := 805) (by decide +kernel), List.mem_of_getElem? (i := 806) (by decide +kernel)⟩
theorem lw_p26 : lw_okq (⟨"AirClockModel", "mayHave", "(II)Z"⟩, 35) := ⟨⟨by decide +kernel, by decide +kernel⟩, List.mem_of_getElem? (i := 649) (by decide +kernel), List.mem_of_getElem? (i := 809) (by decide +kernel), List.mem_of_getElem? (i := 810) (by decide +kernel)⟩
theorem lw_p27 : lw_okq (⟨"AirClockModel", "breaks", "(IIII)Z"⟩, 35) := ⟨⟨by decide +kernel, by decide +kernel⟩, List.mem_of_getElem? (i := 649) (by decide +kernel), List.mem_of_getElem? (i := 813) (by decide +kernel), List.mem_of_getElem? (i := 814) (by decide +kernel)⟩
theorem lw_p28 : lw_okq (⟨"AirClockModel", "packs", "(I)Z"⟩, 35) := ⟨⟨by decide +kernel, by decide +kernel⟩, List.mem_of_getElem? (i := 649) (by decide +kernel), List.mem_of_getElem? (i := 828) (by decide +kernel), List.mem_of_getElem? (i := 829) (by decide +kernel)⟩
theorem lw_p29 : lw_okq (⟨"AirClockModel", "looksGood", "(I)Z"⟩, 35) := ⟨⟨by decide +kernel, by decide +kernel⟩, List.mem_of_getElem? (i := 649) (by decide +kernel), List.mem_of_getElem? (i := 832) (by decide +kernel), List.mem_of_getElem? (i := 833) (by decide +kernel)⟩
theorem lw_p30 : lw_okq (⟨"AirClockModel", "findGood", "(I)V"⟩, 35) := ⟨⟨by decide +kernel, by decide +kernel⟩, List.mem_of_getElem? (i := 649) (by decide +kernel), List.mem_of_getElem? (i := 840) (by decide +kernel), List.mem_of_getElem? (i := 841) (by decide +kernel)⟩
theorem lw_p31 : lw_okq (⟨"AirClockModel", "goDown", "(II)V"⟩, 35) := ⟨⟨by decide +kernel, by decide +kernel⟩, List.mem_of_getElem? (i := 649) (by decide +kernel), List.mem_of_getElem? (i := 867) (by decide +kernel), List.mem_of_getElem? (i := 868) (by decide +kernel)⟩
def lw_privs_2 : List (MethodName × Nat) := [(⟨"AirClock$Moves", "toMove", "()I"⟩, 4), (⟨"AirClock$Moves", "nobodyIsHeard", "(I)Z"⟩, 4), (⟨"AirClock$Moves", "channelOf", "(II)I"⟩, 4), (⟨"AirClock$Moves", "weeksFrom", "(III)I"⟩, 4), (⟨"AirClock$Moves", "firstStep", "(III)I"⟩, 4), (⟨"AirClock", "mixMast", "(JI)J"⟩, 7), (⟨"AirClockModel", "noMast", "(I)Z"⟩, 35), (⟨"AirClockModel", "noSet", "(I)Z"⟩, 35), (⟨"AirClockModel", "search", "(I)I"⟩, 35), (⟨"AirClockModel", "layRow", "(I)V"⟩, 35), (⟨"AirClockModel", "mayHave", "(II)Z"⟩, 35), (⟨"AirClockModel", "breaks", "(IIII)Z"⟩, 35), (⟨"AirClockModel", "packs", "(I)Z"⟩, 35), (⟨"AirClockModel", "looksGood", "(I)Z"⟩, 35), (⟨"AirClockModel", "findGood", "(I)V"⟩, 35), (⟨"AirClockModel", "goDown", "(II)V"⟩, 35)]
theorem lw_r2 : ∀ q ∈ lw_privs_2, lw_okq q := List.forall_mem_cons.mpr ⟨lw_p16, List.forall_mem_cons.mpr ⟨lw_p17, List.forall_mem_cons.mpr ⟨lw_p18, List.forall_mem_cons.mpr ⟨lw_p19, List.forall_mem_cons.mpr ⟨lw_p20, List.forall_mem_cons.mpr ⟨lw_p21, List.forall_mem_cons.mpr ⟨lw_p22, List.forall_mem_cons.mpr ⟨lw_p23, List.forall_mem_cons.mpr ⟨lw_p24, List.forall_mem_cons.mpr ⟨lw_p25, List.forall_mem_cons.mpr ⟨lw_p26, List.forall_mem_cons.mpr ⟨lw_p27, List.forall_mem_cons.mpr ⟨lw_p28, List.forall_mem_cons.mpr ⟨lw_p29, List.forall_mem_cons.mpr ⟨lw_p30, List.forall_mem_cons.mpr ⟨lw_p31, fun _ h => absurd h List.not_mem_nil⟩⟩⟩⟩⟩⟩⟩⟩⟩⟩⟩⟩⟩⟩⟩⟩
theorem lw_p32 : lw_okq (⟨"AirClockModel", "olds", "()I"⟩, 35) := ⟨⟨by decide +kernel, by decide +kernel⟩, List.mem_of_getElem? (i := 649) (by decide +kernel), List.mem_of_getElem? (i := 871) (by decide +kernel), List.mem_of_getElem? (i := 872) (by decide +kernel)⟩
theorem lw_p33 : lw_okq (⟨"AirClockModel", "paidAll", "()I"⟩, 35) := ⟨⟨by decide +kernel, by decide +kernel⟩, List.mem_of_getElem? (i := 649) (by decide +kernel), List.mem_of_getElem? (i := 875) (by decide +kernel), List.mem_of_getElem? (i := 876) (by decide +kernel)⟩
theorem lw_p34 : lw_okq (⟨"AirClockModel", "noOld", "(I)Z"⟩, 35) := ⟨⟨by decide +kernel, by decide +kernel⟩, List.mem_of_getElem? (i := 649) (by decide +kernel), List.mem_of_getElem? (i := 883) (by decide +kernel), List.mem_of_getElem? (i := 884) (by decide +kernel)⟩
theorem lw_p35 : lw_okq (⟨"AirClockModel", "wins", "(II)I"⟩, 35) := ⟨⟨by decide +kernel, by decide +kernel⟩, List.mem_of_getElem? (i := 649) (by decide +kernel), List.mem_of_getElem? (i := 896) (by decide +kernel), List.mem_of_getElem? (i := 897) (by decide +kernel)⟩
theorem lw_p36 : lw_okq (⟨"AirClockModel", "noHouse", "(I)Z"⟩, 35) := ⟨⟨by decide +kernel, by decide +kernel⟩, List.mem_of_getElem? (i := 649) (by decide +kernel), List.mem_of_getElem? (i := 912) (by decide +kernel), List.mem_of_getElem? (i := 913) (by decide +kernel)⟩
theorem lw_p37 : lw_okq (⟨"AirClockModel", "noGroup", "(I)Z"⟩, 35) := ⟨⟨by decide +kernel, by decide +kernel⟩, List.mem_of_getElem? (i := 649) (by decide +kernel), List.mem_of_getElem? (i := 921) (by decide +kernel), List.mem_of_getElem? (i := 922) (by decide +kernel)⟩
theorem lw_p38 : lw_okq (⟨"AirClockModel", "findBest", "(I)V"⟩, 35) := ⟨⟨by decide +kernel, by decide +kernel⟩, List.mem_of_getElem? (i := 649) (by decide +kernel), List.mem_of_getElem? (i := 925) (by decide +kernel), List.mem_of_getElem? (i := 926) (by decide +kernel)⟩
theorem lw_p39 : lw_okq (⟨"AirClockModel", "findWorths", "(I)V"⟩, 35) := ⟨⟨by decide +kernel, by decide +kernel⟩, List.mem_of_getElem? (i := 649) (by decide +kernel), List.mem_of_getElem? (i := 929) (by decide +kernel), List.mem_of_getElem? (i := 930) (by decide +kernel)⟩
theorem lw_p40 : lw_okq (⟨"AirClockModel", "allHouses", "()I"⟩, 35) := ⟨⟨by decide +kernel, by decide +kernel⟩, List.mem_of_getElem? (i := 649) (by decide +kernel), List.mem_of_getElem? (i := 937) (by decide +kernel), List.mem_of_getElem? (i := 938) (by decide +kernel)⟩
theorem lw_p41 : lw_okq (⟨"AirClockModel", "wonBy", "(I)I"⟩, 35) := ⟨⟨by decide +kernel, by decide +kernel⟩, List.mem_of_getElem? (i := 649) (by decide +kernel), List.mem_of_getElem? (i := 941) (by decide +kernel), List.mem_of_getElem? (i := 942) (by decide +kernel)⟩
theorem lw_p42 : lw_okq (⟨"AirClockModel", "isBlocking", "(I)Z"⟩, 35) := ⟨⟨by decide +kernel, by decide +kernel⟩, List.mem_of_getElem? (i := 649) (by decide +kernel), List.mem_of_getElem? (i := 953) (by decide +kernel), List.mem_of_getElem? (i := 954) (by decide +kernel)⟩
theorem lw_p43 : lw_okq (⟨"AirClockModel", "findFar", "(II)V"⟩, 35) := ⟨⟨by decide +kernel, by decide +kernel⟩, List.mem_of_getElem? (i := 649) (by decide +kernel), List.mem_of_getElem? (i := 971) (by decide +kernel), List.mem_of_getElem? (i := 972) (by decide +kernel)⟩
theorem lw_p44 : lw_okq (⟨"AirClockModel", "isQuiet", "(I)Z"⟩, 35) := ⟨⟨by decide +kernel, by decide +kernel⟩, List.mem_of_getElem? (i := 649) (by decide +kernel), List.mem_of_getElem? (i := 975) (by decide +kernel), List.mem_of_getElem? (i := 976) (by decide +kernel)⟩
theorem lw_p45 : lw_okq (⟨"AirClockModel", "at", "(II)I"⟩, 35) := ⟨⟨by decide +kernel, by decide +kernel⟩, List.mem_of_getElem? (i := 649) (by decide +kernel), List.mem_of_getElem? (i := 979) (by decide +kernel), List.mem_of_getElem? (i := 980) (by decide +kernel)⟩
theorem lw_p46 : lw_okq (⟨"AirClockModel", "broken", "(II)I"⟩, 35) := ⟨⟨by decide +kernel, by decide +kernel⟩, List.mem_of_getElem? (i := 649) (by decide +kernel), List.mem_of_getElem? (i := 987) (by decide +kernel), List.mem_of_getElem? (i := 988) (by decide +kernel)⟩
theorem lw_p47 : lw_okq (⟨"AirClockModel", "add", "(I)V"⟩, 35) := ⟨⟨by decide +kernel, by decide +kernel⟩, List.mem_of_getElem? (i := 649) (by decide +kernel), List.mem_of_getElem? (i := 1014) (by decide +kernel), List.mem_of_getElem? (i := 1015) (by decide +kernel)⟩
def lw_privs_3 : List (MethodName × Nat) := [(⟨"AirClockModel", "olds", "()I"⟩, 35), (⟨"AirClockModel", "paidAll", "()I"⟩, 35), (⟨"AirClockModel", "noOld", "(I)Z"⟩, 35), (⟨"AirClockModel", "wins", "(II)I"⟩, 35), (⟨"AirClockModel", "noHouse", "(I)Z"⟩, 35), (⟨"AirClockModel", "noGroup", "(I)Z"⟩, 35), (⟨"AirClockModel", "findBest", "(I)V"⟩, 35), (⟨"AirClockModel", "findWorths", "(I)V"⟩, 35), (⟨"AirClockModel", "allHouses", "()I"⟩, 35), (⟨"AirClockModel", "wonBy", "(I)I"⟩, 35), (⟨"AirClockModel", "isBlocking", "(I)Z"⟩, 35), (⟨"AirClockModel", "findFar", "(II)V"⟩, 35), (⟨"AirClockModel", "isQuiet", "(I)Z"⟩, 35), (⟨"AirClockModel", "at", "(II)I"⟩, 35), (⟨"AirClockModel", "broken", "(II)I"⟩, 35), (⟨"AirClockModel", "add", "(I)V"⟩, 35)]
theorem lw_r3 : ∀ q ∈ lw_privs_3, lw_okq q := List.forall_mem_cons.mpr ⟨lw_p32, List.forall_mem_cons.mpr ⟨lw_p33, List.forall_mem_cons.mpr ⟨lw_p34, List.forall_mem_cons.mpr ⟨lw_p35, List.forall_mem_cons.mpr ⟨lw_p36, List.forall_mem_cons.mpr ⟨lw_p37, List.forall_mem_cons.mpr ⟨lw_p38, List.forall_mem_cons.mpr ⟨lw_p39, List.forall_mem_cons.mpr ⟨lw_p40, List.forall_mem_cons.mpr ⟨lw_p41, List.forall_mem_cons.mpr ⟨lw_p42, List.forall_mem_cons.mpr ⟨lw_p43, List.forall_mem_cons.mpr ⟨lw_p44, List.forall_mem_cons.mpr ⟨lw_p45, List.forall_mem_cons.mpr ⟨lw_p46, List.forall_mem_cons.mpr ⟨lw_p47, fun _ h => absurd h List.not_mem_nil⟩⟩⟩⟩⟩⟩⟩⟩⟩⟩⟩⟩⟩⟩⟩⟩
def lw_privs : List (MethodName × Nat) := lw_privs_1 ++ (lw_privs_2 ++ (lw_privs_3))
def lw_tbl : List Cond := k2_sels lw_privs ++ tables_1
theorem lw_privs_ok : ∀ q ∈ lw_privs, lw_okq q := by
  show ∀ q ∈ lw_privs_1 ++ (lw_privs_2 ++ (lw_privs_3)), lw_okq q
  exact List.forall_mem_append.mpr ⟨lw_r1, List.forall_mem_append.mpr ⟨lw_r2, lw_r3⟩⟩
-- ===== end of PART A; then your names; then what follows =====
end
section
def RX0 : String := "AirClock$Air"
def TX0 : u_T := fun k => match k with
  | 0 => ("AirClock$Air", "masts", "I", false)
  | 1 => ("AirClock$Air", "channels", "I", false)
  | 2 => ("AirClock$Air", "limit", "I", false)
  | 3 => ("AirClock$Air", "changes", "I", false)
  | 4 => ("AirClock$Air", "bars", "[I", true)
  | _ => ("AirClock$Air", "pairs", "[I", true)
def tyX0 : Nat → FieldType := fun k => match k with
  | 0 => .int
  | 1 => .int
  | 2 => .int
  | 3 => .int
  | 4 => .array .int
  | _ => .array .int
theorem nmX0 : ∀ a, a < 6 → ∀ b, b < 6 → a ≠ b → (TX0 a).2.1 ≠ (TX0 b).2.1 := by decide +kernel
theorem tyX0_ok : ∀ k, k < 6 → parseFieldDescriptor (TX0 k).2.2.1 = some (tyX0 k) := by decide +kernel
abbrev cX0_init : ByteArray := prog_2_method_1_code
def yX0_init : MethodName := ⟨RX0, "<init>", "()V"⟩
abbrev cX0_isMast : ByteArray := prog_2_method_2_code
def yX0_isMast : MethodName := ⟨RX0, "isMast", "(I)Z"⟩
abbrev cX0_isSet : ByteArray := prog_2_method_3_code
def yX0_isSet : MethodName := ⟨RX0, "isSet", "(I)Z"⟩
abbrev cX0_allChannels : ByteArray := prog_2_method_4_code
def yX0_allChannels : MethodName := ⟨RX0, "allChannels", "()I"⟩
abbrev cX0_mayHave : ByteArray := prog_2_method_5_code
def yX0_mayHave : MethodName := ⟨RX0, "mayHave", "(I)I"⟩
abbrev cX0_pairOf : ByteArray := prog_2_method_6_code
def yX0_pairOf : MethodName := ⟨RX0, "pairOf", "(II)I"⟩
abbrev cX0_setPair : ByteArray := prog_2_method_7_code
def yX0_setPair : MethodName := ⟨RX0, "setPair", "(III)V"⟩
abbrev cX0_shutFor : ByteArray := prog_2_method_8_code
def yX0_shutFor : MethodName := ⟨RX0, "shutFor", "(III)I"⟩
def RX1 : String := "AirClock$Fall"
def TX1 : u_T := fun k => match k with
  | 0 => ("AirClock$Fall", "olds", "I", false)
  | 1 => ("AirClock$Fall", "start", "I", false)
  | 2 => ("AirClock$Fall", "step", "I", false)
  | 3 => ("AirClock$Fall", "values", "[I", true)
  | 4 => ("AirClock$Fall", "weights", "[I", true)
  | 5 => ("AirClock$Fall", "paidTo", "[I", true)
  | 6 => ("AirClock$Fall", "endedIn", "[I", true)
  | 7 => ("AirClock$Fall", "air", "LAirClock$Air;", true)
  | 8 => ("AirClock$Fall", "search", "LAirClock$Search;", true)
  | 9 => ("AirClock$Fall", "back", "I", false)
  | 10 => ("AirClock$Fall", "frozen", "I", false)
  | _ => ("AirClock$Fall", "rounds", "I", false)
def tyX1 : Nat → FieldType := fun k => match k with
  | 0 => .int
  | 1 => .int
  | 2 => .int
  | 3 => .array .int
  | 4 => .array .int
  | 5 => .array .int
  | 6 => .array .int
  | 7 => .object "AirClock$Air"
  | 8 => .object "AirClock$Search"
  | 9 => .int
  | 10 => .int
  | _ => .int
theorem nmX1 : ∀ a, a < 12 → ∀ b, b < 12 → a ≠ b → (TX1 a).2.1 ≠ (TX1 b).2.1 := by decide +kernel
theorem tyX1_ok : ∀ k, k < 12 → parseFieldDescriptor (TX1 k).2.2.1 = some (tyX1 k) := by decide +kernel
abbrev cX1_init : ByteArray := prog_3_method_1_code
def yX1_init : MethodName := ⟨RX1, "<init>", "(LAirClock$Air;LAirClock$Search;)V"⟩
abbrev cX1_isOld : ByteArray := prog_3_method_2_code
def yX1_isOld : MethodName := ⟨RX1, "isOld", "(I)Z"⟩
abbrev cX1_addStation : ByteArray := prog_3_method_3_code
def yX1_addStation : MethodName := ⟨RX1, "addStation", "(III)V"⟩
abbrev cX1_letFall : ByteArray := prog_3_method_4_code
def yX1_letFall : MethodName := ⟨RX1, "letFall", "(II)V"⟩
abbrev cX1_ending : ByteArray := prog_3_method_5_code
def yX1_ending : MethodName := ⟨RX1, "ending", "(I)I"⟩
abbrev cX1_profit : ByteArray := prog_3_method_6_code
def yX1_profit : MethodName := ⟨RX1, "profit", "(II)I"⟩
abbrev cX1_offer : ByteArray := prog_3_method_7_code
def yX1_offer : MethodName := ⟨RX1, "offer", "(III)V"⟩
abbrev cX1_priceIn : ByteArray := prog_3_method_8_code
def yX1_priceIn : MethodName := ⟨RX1, "priceIn", "(I)I"⟩
abbrev cX1_allPaid : ByteArray := prog_3_method_9_code
def yX1_allPaid : MethodName := ⟨RX1, "allPaid", "()I"⟩
def RX2 : String := "AirClock$Moves"
def TX2 : u_T := fun k => match k with
  | 0 => ("AirClock$Moves", "before", "[I", true)
  | 1 => ("AirClock$Moves", "after", "[I", true)
  | 2 => ("AirClock$Moves", "air", "LAirClock$Air;", true)
  | _ => ("AirClock$Moves", "needed", "[I", true)
def tyX2 : Nat → FieldType := fun k => match k with
  | 0 => .array .int
  | 1 => .array .int
  | 2 => .object "AirClock$Air"
  | _ => .array .int
theorem nmX2 : ∀ a, a < 4 → ∀ b, b < 4 → a ≠ b → (TX2 a).2.1 ≠ (TX2 b).2.1 := by decide +kernel
theorem tyX2_ok : ∀ k, k < 4 → parseFieldDescriptor (TX2 k).2.2.1 = some (tyX2 k) := by decide +kernel
abbrev cX2_init : ByteArray := prog_4_method_1_code
def yX2_init : MethodName := ⟨RX2, "<init>", "(LAirClock$Air;)V"⟩
abbrev cX2_fewestWeeks : ByteArray := prog_4_method_2_code
def yX2_fewestWeeks : MethodName := ⟨RX2, "fewestWeeks", "(I)I"⟩
abbrev cX2_movedIn : ByteArray := prog_4_method_3_code
def yX2_movedIn : MethodName := ⟨RX2, "movedIn", "(II)I"⟩
abbrev cX2_brokenBy : ByteArray := prog_4_method_4_code
def yX2_brokenBy : MethodName := ⟨RX2, "brokenBy", "(II)I"⟩
abbrev cX2_freeFor : ByteArray := prog_4_method_5_code
def yX2_freeFor : MethodName := ⟨RX2, "freeFor", "(I)I"⟩
abbrev cX2_toMove : ByteArray := prog_4_method_6_code
def yX2_toMove : MethodName := ⟨RX2, "toMove", "()I"⟩
abbrev cX2_nobodyIsHeard : ByteArray := prog_4_method_7_code
def yX2_nobodyIsHeard : MethodName := ⟨RX2, "nobodyIsHeard", "(I)Z"⟩
abbrev cX2_channelOf : ByteArray := prog_4_method_8_code
def yX2_channelOf : MethodName := ⟨RX2, "channelOf", "(II)I"⟩
abbrev cX2_weeksFrom : ByteArray := prog_4_method_9_code
def yX2_weeksFrom : MethodName := ⟨RX2, "weeksFrom", "(III)I"⟩
abbrev cX2_firstStep : ByteArray := prog_4_method_10_code
def yX2_firstStep : MethodName := ⟨RX2, "firstStep", "(III)I"⟩
def RX3 : String := "AirClock$Packer"
def TX3 : u_T := fun k => match k with
  | 0 => ("AirClock$Packer", "air", "LAirClock$Air;", true)
  | 1 => ("AirClock$Packer", "allowed", "[I", true)
  | 2 => ("AirClock$Packer", "crowd", "[I", true)
  | _ => ("AirClock$Packer", "open", "[I", true)
def tyX3 : Nat → FieldType := fun k => match k with
  | 0 => .object "AirClock$Air"
  | 1 => .array .int
  | 2 => .array .int
  | _ => .array .int
theorem nmX3 : ∀ a, a < 4 → ∀ b, b < 4 → a ≠ b → (TX3 a).2.1 ≠ (TX3 b).2.1 := by decide +kernel
theorem tyX3_ok : ∀ k, k < 4 → parseFieldDescriptor (TX3 k).2.2.1 = some (tyX3 k) := by decide +kernel
abbrev cX3_init : ByteArray := prog_5_method_1_code
def yX3_init : MethodName := ⟨RX3, "<init>", "(LAirClock$Air;)V"⟩
abbrev cX3_canPack : ByteArray := prog_5_method_2_code
def yX3_canPack : MethodName := ⟨RX3, "canPack", "(I)Z"⟩
abbrev cX3_firstChannel : ByteArray := prog_5_method_3_code
def yX3_firstChannel : MethodName := ⟨RX3, "firstChannel", "(II)I"⟩
abbrev cX3_leastPartThatFails : ByteArray := prog_5_method_4_code
def yX3_leastPartThatFails : MethodName := ⟨RX3, "leastPartThatFails", "(I)I"⟩
abbrev cX3_couldJoin : ByteArray := prog_5_method_5_code
def yX3_couldJoin : MethodName := ⟨RX3, "couldJoin", "(I)I"⟩
abbrev cX3_allowAll : ByteArray := prog_5_method_6_code
def yX3_allowAll : MethodName := ⟨RX3, "allowAll", "()V"⟩
abbrev cX3_fixFirst : ByteArray := prog_5_method_7_code
def yX3_fixFirst : MethodName := ⟨RX3, "fixFirst", "(II)V"⟩
abbrev cX3_packs : ByteArray := prog_5_method_8_code
def yX3_packs : MethodName := ⟨RX3, "packs", "(I)Z"⟩
abbrev cX3_hardPart : ByteArray := prog_5_method_9_code
def yX3_hardPart : MethodName := ⟨RX3, "hardPart", "(I)I"⟩
abbrev cX3_mostShut : ByteArray := prog_5_method_10_code
def yX3_mostShut : MethodName := ⟨RX3, "mostShut", "(II)I"⟩
abbrev cX3_packRest : ByteArray := prog_5_method_11_code
def yX3_packRest : MethodName := ⟨RX3, "packRest", "(II)Z"⟩
abbrev cX3_tightest : ByteArray := prog_5_method_12_code
def yX3_tightest : MethodName := ⟨RX3, "tightest", "(II)I"⟩
abbrev cX3_narrow : ByteArray := prog_5_method_13_code
def yX3_narrow : MethodName := ⟨RX3, "narrow", "(IIII)Z"⟩
def RX4 : String := "AirClock$Search"
def TX4 : u_T := fun k => match k with
  | 0 => ("AirClock$Search", "made", "I", false)
  | 1 => ("AirClock$Search", "air", "LAirClock$Air;", true)
  | 2 => ("AirClock$Search", "size", "I", false)
  | 3 => ("AirClock$Search", "row", "[I", true)
  | 4 => ("AirClock$Search", "may", "[I", true)
  | 5 => ("AirClock$Search", "given", "[I", true)
  | _ => ("AirClock$Search", "found", "[I", true)
def tyX4 : Nat → FieldType := fun k => match k with
  | 0 => .int
  | 1 => .object "AirClock$Air"
  | 2 => .int
  | 3 => .array .int
  | 4 => .array .int
  | 5 => .array .int
  | _ => .array .int
theorem nmX4 : ∀ a, a < 7 → ∀ b, b < 7 → a ≠ b → (TX4 a).2.1 ≠ (TX4 b).2.1 := by decide +kernel
theorem tyX4_ok : ∀ k, k < 7 → parseFieldDescriptor (TX4 k).2.2.1 = some (tyX4 k) := by decide +kernel
abbrev cX4_init : ByteArray := prog_6_method_1_code
def yX4_init : MethodName := ⟨RX4, "<init>", "(LAirClock$Air;)V"⟩
abbrev cX4_lookFor : ByteArray := prog_6_method_2_code
def yX4_lookFor : MethodName := ⟨RX4, "lookFor", "(I)I"⟩
abbrev cX4_finds : ByteArray := prog_6_method_3_code
def yX4_finds : MethodName := ⟨RX4, "finds", "(I)Z"⟩
abbrev cX4_goOn : ByteArray := prog_6_method_4_code
def yX4_goOn : MethodName := ⟨RX4, "goOn", "(I)I"⟩
def RX5 : String := "AirClock$Trade"
def TX5 : u_T := fun k => match k with
  | 0 => ("AirClock$Trade", "houses", "I", false)
  | 1 => ("AirClock$Trade", "sentences", "I", false)
  | 2 => ("AirClock$Trade", "houseOf", "[I", true)
  | 3 => ("AirClock$Trade", "bandsOf", "[I", true)
  | 4 => ("AirClock$Trade", "sumOf", "[I", true)
  | 5 => ("AirClock$Trade", "prices", "[I", true)
  | 6 => ("AirClock$Trade", "won", "[I", true)
  | 7 => ("AirClock$Trade", "sums", "[I", true)
  | _ => ("AirClock$Trade", "stale", "Z", false)
def tyX5 : Nat → FieldType := fun k => match k with
  | 0 => .int
  | 1 => .int
  | 2 => .array .int
  | 3 => .array .int
  | 4 => .array .int
  | 5 => .array .int
  | 6 => .array .int
  | 7 => .array .int
  | _ => .boolean
theorem nmX5 : ∀ a, a < 9 → ∀ b, b < 9 → a ≠ b → (TX5 a).2.1 ≠ (TX5 b).2.1 := by decide +kernel
theorem tyX5_ok : ∀ k, k < 9 → parseFieldDescriptor (TX5 k).2.2.1 = some (tyX5 k) := by decide +kernel
abbrev cX5_init : ByteArray := prog_7_method_1_code
def yX5_init : MethodName := ⟨RX5, "<init>", "()V"⟩
abbrev cX5_isHouse : ByteArray := prog_7_method_2_code
def yX5_isHouse : MethodName := ⟨RX5, "isHouse", "(I)Z"⟩
abbrev cX5_isGroup : ByteArray := prog_7_method_3_code
def yX5_isGroup : MethodName := ⟨RX5, "isGroup", "(I)Z"⟩
abbrev cX5_allHouses : ByteArray := prog_7_method_4_code
def yX5_allHouses : MethodName := ⟨RX5, "allHouses", "()I"⟩
abbrev cX5_addHouse : ByteArray := prog_7_method_5_code
def yX5_addHouse : MethodName := ⟨RX5, "addHouse", "()I"⟩
abbrev cX5_addSentence : ByteArray := prog_7_method_6_code
def yX5_addSentence : MethodName := ⟨RX5, "addSentence", "(III)I"⟩
abbrev cX5_greatest : ByteArray := prog_7_method_7_code
def yX5_greatest : MethodName := ⟨RX5, "greatest", "(I)I"⟩
abbrev cX5_share : ByteArray := prog_7_method_8_code
def yX5_share : MethodName := ⟨RX5, "share", "(I)V"⟩
abbrev cX5_takenBy : ByteArray := prog_7_method_9_code
def yX5_takenBy : MethodName := ⟨RX5, "takenBy", "(I)I"⟩
abbrev cX5_wouldLeave : ByteArray := prog_7_method_10_code
def yX5_wouldLeave : MethodName := ⟨RX5, "wouldLeave", "(I)Z"⟩
abbrev cX5_firstToLeave : ByteArray := prog_7_method_11_code
def yX5_firstToLeave : MethodName := ⟨RX5, "firstToLeave", "()I"⟩
abbrev cX5_winOf : ByteArray := prog_7_method_12_code
def yX5_winOf : MethodName := ⟨RX5, "winOf", "(I)I"⟩
abbrev cX5_firstToReach : ByteArray := prog_7_method_13_code
def yX5_firstToReach : MethodName := ⟨RX5, "firstToReach", "(IIII)I"⟩
abbrev cX5_weigh : ByteArray := prog_7_method_14_code
def yX5_weigh : MethodName := ⟨RX5, "weigh", "()V"⟩
abbrev cX5_raise : ByteArray := prog_7_method_15_code
def yX5_raise : MethodName := ⟨RX5, "raise", "(IIII)V"⟩
def RX6 : String := "AirClock"
def TX6 : u_T := fun k => match k with
  | 0 => ("AirClock", "air", "LAirClock$Air;", true)
  | 1 => ("AirClock", "search", "LAirClock$Search;", true)
  | 2 => ("AirClock", "packer", "LAirClock$Packer;", true)
  | 3 => ("AirClock", "fall", "LAirClock$Fall;", true)
  | 4 => ("AirClock", "trade", "LAirClock$Trade;", true)
  | 5 => ("AirClock", "moves", "LAirClock$Moves;", true)
  | _ => ("AirClock", "hearers", "[I", true)
def tyX6 : Nat → FieldType := fun k => match k with
  | 0 => .object "AirClock$Air"
  | 1 => .object "AirClock$Search"
  | 2 => .object "AirClock$Packer"
  | 3 => .object "AirClock$Fall"
  | 4 => .object "AirClock$Trade"
  | 5 => .object "AirClock$Moves"
  | _ => .array .int
theorem nmX6 : ∀ a, a < 7 → ∀ b, b < 7 → a ≠ b → (TX6 a).2.1 ≠ (TX6 b).2.1 := by decide +kernel
theorem tyX6_ok : ∀ k, k < 7 → parseFieldDescriptor (TX6 k).2.2.1 = some (tyX6 k) := by decide +kernel
abbrev cX6_init : ByteArray := prog_1_method_1_code
def yX6_init : MethodName := ⟨RX6, "<init>", "()V"⟩
abbrev cX6_mast : ByteArray := prog_1_method_2_code
def yX6_mast : MethodName := ⟨RX6, "mast", "()I"⟩
abbrev cX6_channels : ByteArray := prog_1_method_3_code
def yX6_channels : MethodName := ⟨RX6, "channels", "(I)I"⟩
abbrev cX6_pair : ByteArray := prog_1_method_4_code
def yX6_pair : MethodName := ⟨RX6, "pair", "(III)I"⟩
abbrev cX6_bar : ByteArray := prog_1_method_5_code
def yX6_bar : MethodName := ⟨RX6, "bar", "(II)I"⟩
abbrev cX6_limit : ByteArray := prog_1_method_6_code
def yX6_limit : MethodName := ⟨RX6, "limit", "(I)I"⟩
abbrev cX6_fits : ByteArray := prog_1_method_7_code
def yX6_fits : MethodName := ⟨RX6, "fits", "(I)I"⟩
abbrev cX6_tries : ByteArray := prog_1_method_8_code
def yX6_tries : MethodName := ⟨RX6, "tries", "(I)I"⟩
abbrev cX6_packing : ByteArray := prog_1_method_9_code
def yX6_packing : MethodName := ⟨RX6, "packing", "(II)I"⟩
abbrev cX6_reason : ByteArray := prog_1_method_10_code
def yX6_reason : MethodName := ⟨RX6, "reason", "(I)I"⟩
abbrev cX6_spare : ByteArray := prog_1_method_11_code
def yX6_spare : MethodName := ⟨RX6, "spare", "(I)I"⟩
abbrev cX6_old : ByteArray := prog_1_method_12_code
def yX6_old : MethodName := ⟨RX6, "old", "(III)I"⟩
abbrev cX6_clock : ByteArray := prog_1_method_13_code
def yX6_clock : MethodName := ⟨RX6, "clock", "(II)I"⟩
abbrev cX6_run : ByteArray := prog_1_method_14_code
def yX6_run : MethodName := ⟨RX6, "run", "(I)I"⟩
abbrev cX6_paid : ByteArray := prog_1_method_15_code
def yX6_paid : MethodName := ⟨RX6, "paid", "(I)I"⟩
abbrev cX6_round : ByteArray := prog_1_method_16_code
def yX6_round : MethodName := ⟨RX6, "round", "(I)I"⟩
abbrev cX6_gain : ByteArray := prog_1_method_17_code
def yX6_gain : MethodName := ⟨RX6, "gain", "(II)I"⟩
abbrev cX6_most : ByteArray := prog_1_method_18_code
def yX6_most : MethodName := ⟨RX6, "most", "(IIII)I"⟩
abbrev cX6_house : ByteArray := prog_1_method_19_code
def yX6_house : MethodName := ⟨RX6, "house", "()I"⟩
abbrev cX6_ask : ByteArray := prog_1_method_20_code
def yX6_ask : MethodName := ⟨RX6, "ask", "(III)I"⟩
abbrev cX6_best : ByteArray := prog_1_method_21_code
def yX6_best : MethodName := ⟨RX6, "best", "(II)I"⟩
abbrev cX6_takes : ByteArray := prog_1_method_22_code
def yX6_takes : MethodName := ⟨RX6, "takes", "(I)I"⟩
abbrev cX6_price : ByteArray := prog_1_method_23_code
def yX6_price : MethodName := ⟨RX6, "price", "(II)I"⟩
abbrev cX6_blocks : ByteArray := prog_1_method_24_code
def yX6_blocks : MethodName := ⟨RX6, "blocks", "(I)I"⟩
abbrev cX6_alone : ByteArray := prog_1_method_25_code
def yX6_alone : MethodName := ⟨RX6, "alone", "()I"⟩
abbrev cX6_tell : ByteArray := prog_1_method_26_code
def yX6_tell : MethodName := ⟨RX6, "tell", "(III)I"⟩
abbrev cX6_weeks : ByteArray := prog_1_method_27_code
def yX6_weeks : MethodName := ⟨RX6, "weeks", "(II)I"⟩
abbrev cX6_tower : ByteArray := prog_1_method_28_code
def yX6_tower : MethodName := ⟨RX6, "tower", "(II)I"⟩
abbrev cX6_free : ByteArray := prog_1_method_29_code
def yX6_free : MethodName := ⟨RX6, "free", "(I)I"⟩
abbrev cX6_heard : ByteArray := prog_1_method_30_code
def yX6_heard : MethodName := ⟨RX6, "heard", "(II)I"⟩
abbrev cX6_could : ByteArray := prog_1_method_31_code
def yX6_could : MethodName := ⟨RX6, "could", "(II)I"⟩
abbrev cX6_count : ByteArray := prog_1_method_32_code
def yX6_count : MethodName := ⟨RX6, "count", "(I)I"⟩
abbrev cX6_digest : ByteArray := prog_1_method_33_code
def yX6_digest : MethodName := ⟨RX6, "digest", "()J"⟩
abbrev cX6_mixMast : ByteArray := prog_1_method_34_code
def yX6_mixMast : MethodName := ⟨RX6, "mixMast", "(JI)J"⟩
abbrev cX6_mix : ByteArray := prog_1_method_35_code
def yX6_mix : MethodName := ⟨RX6, "mix", "(JI)J"⟩
abbrev cX6_within : ByteArray := prog_1_method_36_code
def yX6_within : MethodName := ⟨RX6, "within", "(III)Z"⟩
abbrev cX6_has : ByteArray := prog_1_method_37_code
def yX6_has : MethodName := ⟨RX6, "has", "(II)Z"⟩
abbrev cX6_placeOf : ByteArray := prog_1_method_38_code
def yX6_placeOf : MethodName := ⟨RX6, "placeOf", "(I)I"⟩
def RX7 : String := "AirClockModel"
def TX7 : u_T := fun k => match k with
  | 0 => ("AirClockModel", "masts", "I", false)
  | 1 => ("AirClockModel", "channels", "I", false)
  | 2 => ("AirClockModel", "limit", "I", false)
  | 3 => ("AirClockModel", "pair", "[I", true)
  | 4 => ("AirClockModel", "bars", "[I", true)
  | 5 => ("AirClockModel", "row", "[I", true)
  | 6 => ("AirClockModel", "has", "[I", true)
  | 7 => ("AirClockModel", "rowSize", "I", false)
  | 8 => ("AirClockModel", "tries", "I", false)
  | 9 => ("AirClockModel", "isGood", "[Z", true)
  | 10 => ("AirClockModel", "isOld", "[Z", true)
  | 11 => ("AirClockModel", "value", "[I", true)
  | 12 => ("AirClockModel", "weight", "[I", true)
  | 13 => ("AirClockModel", "start", "I", false)
  | 14 => ("AirClockModel", "step", "I", false)
  | 15 => ("AirClockModel", "back", "I", false)
  | 16 => ("AirClockModel", "frozen", "I", false)
  | 17 => ("AirClockModel", "rounds", "I", false)
  | 18 => ("AirClockModel", "paid", "[I", true)
  | 19 => ("AirClockModel", "settled", "[I", true)
  | 20 => ("AirClockModel", "houses", "I", false)
  | 21 => ("AirClockModel", "price", "[I", true)
  | 22 => ("AirClockModel", "sentences", "I", false)
  | 23 => ("AirClockModel", "houseOf", "[I", true)
  | 24 => ("AirClockModel", "bandsOf", "[I", true)
  | 25 => ("AirClockModel", "sumOf", "[I", true)
  | 26 => ("AirClockModel", "pick", "[I", true)
  | 27 => ("AirClockModel", "bestPick", "[I", true)
  | 28 => ("AirClockModel", "bestSum", "I", false)
  | 29 => ("AirClockModel", "worth", "[I", true)
  | 30 => ("AirClockModel", "from", "[I", true)
  | 31 => ("AirClockModel", "to", "[I", true)
  | 32 => ("AirClockModel", "far", "[I", true)
  | 33 => ("AirClockModel", "heardBy", "[I", true)
  | _ => ("AirClockModel", "h", "J", false)
def tyX7 : Nat → FieldType := fun k => match k with
  | 0 => .int
  | 1 => .int
  | 2 => .int
  | 3 => .array .int
  | 4 => .array .int
  | 5 => .array .int
  | 6 => .array .int
  | 7 => .int
  | 8 => .int
  | 9 => .array .boolean
  | 10 => .array .boolean
  | 11 => .array .int
  | 12 => .array .int
  | 13 => .int
  | 14 => .int
  | 15 => .int
  | 16 => .int
  | 17 => .int
  | 18 => .array .int
  | 19 => .array .int
  | 20 => .int
  | 21 => .array .int
  | 22 => .int
  | 23 => .array .int
  | 24 => .array .int
  | 25 => .array .int
  | 26 => .array .int
  | 27 => .array .int
  | 28 => .int
  | 29 => .array .int
  | 30 => .array .int
  | 31 => .array .int
  | 32 => .array .int
  | 33 => .array .int
  | _ => .long
theorem nmX7 : ∀ a, a < 35 → ∀ b, b < 35 → a ≠ b → (TX7 a).2.1 ≠ (TX7 b).2.1 := by decide +kernel
theorem tyX7_ok : ∀ k, k < 35 → parseFieldDescriptor (TX7 k).2.2.1 = some (tyX7 k) := by decide +kernel
abbrev cX7_init : ByteArray := prog_9_method_1_code
def yX7_init : MethodName := ⟨RX7, "<init>", "()V"⟩
abbrev cX7_in : ByteArray := prog_9_method_3_code
def yX7_in : MethodName := ⟨RX7, "in", "(JJJ)Z"⟩
abbrev cX7_one : ByteArray := prog_9_method_4_code
def yX7_one : MethodName := ⟨RX7, "one", "(Z)I"⟩
abbrev cX7_noMast : ByteArray := prog_9_method_5_code
def yX7_noMast : MethodName := ⟨RX7, "noMast", "(I)Z"⟩
abbrev cX7_noSet : ByteArray := prog_9_method_6_code
def yX7_noSet : MethodName := ⟨RX7, "noSet", "(I)Z"⟩
abbrev cX7_mast : ByteArray := prog_9_method_7_code
def yX7_mast : MethodName := ⟨RX7, "mast", "()I"⟩
abbrev cX7_channels : ByteArray := prog_9_method_8_code
def yX7_channels : MethodName := ⟨RX7, "channels", "(I)I"⟩
abbrev cX7_pair : ByteArray := prog_9_method_9_code
def yX7_pair : MethodName := ⟨RX7, "pair", "(III)I"⟩
abbrev cX7_bar : ByteArray := prog_9_method_10_code
def yX7_bar : MethodName := ⟨RX7, "bar", "(II)I"⟩
abbrev cX7_limit : ByteArray := prog_9_method_11_code
def yX7_limit : MethodName := ⟨RX7, "limit", "(I)I"⟩
abbrev cX7_breaks : ByteArray := prog_9_method_12_code
def yX7_breaks : MethodName := ⟨RX7, "breaks", "(IIII)Z"⟩
abbrev cX7_layRow : ByteArray := prog_9_method_13_code
def yX7_layRow : MethodName := ⟨RX7, "layRow", "(I)V"⟩
abbrev cX7_mayHave : ByteArray := prog_9_method_14_code
def yX7_mayHave : MethodName := ⟨RX7, "mayHave", "(II)Z"⟩
abbrev cX7_search : ByteArray := prog_9_method_15_code
def yX7_search : MethodName := ⟨RX7, "search", "(I)I"⟩
abbrev cX7_looksGood : ByteArray := prog_9_method_16_code
def yX7_looksGood : MethodName := ⟨RX7, "looksGood", "(I)Z"⟩
abbrev cX7_packs : ByteArray := prog_9_method_17_code
def yX7_packs : MethodName := ⟨RX7, "packs", "(I)Z"⟩
abbrev cX7_fits : ByteArray := prog_9_method_18_code
def yX7_fits : MethodName := ⟨RX7, "fits", "(I)I"⟩
abbrev cX7_tries : ByteArray := prog_9_method_19_code
def yX7_tries : MethodName := ⟨RX7, "tries", "(I)I"⟩
abbrev cX7_packing : ByteArray := prog_9_method_20_code
def yX7_packing : MethodName := ⟨RX7, "packing", "(II)I"⟩
abbrev cX7_ones : ByteArray := prog_9_method_21_code
def yX7_ones : MethodName := ⟨RX7, "ones", "(I)I"⟩
abbrev cX7_findGood : ByteArray := prog_9_method_22_code
def yX7_findGood : MethodName := ⟨RX7, "findGood", "(I)V"⟩
abbrev cX7_reason : ByteArray := prog_9_method_23_code
def yX7_reason : MethodName := ⟨RX7, "reason", "(I)I"⟩
abbrev cX7_spare : ByteArray := prog_9_method_24_code
def yX7_spare : MethodName := ⟨RX7, "spare", "(I)I"⟩
abbrev cX7_old : ByteArray := prog_9_method_25_code
def yX7_old : MethodName := ⟨RX7, "old", "(III)I"⟩
abbrev cX7_clock : ByteArray := prog_9_method_26_code
def yX7_clock : MethodName := ⟨RX7, "clock", "(II)I"⟩
abbrev cX7_olds : ByteArray := prog_9_method_27_code
def yX7_olds : MethodName := ⟨RX7, "olds", "()I"⟩
abbrev cX7_goDown : ByteArray := prog_9_method_28_code
def yX7_goDown : MethodName := ⟨RX7, "goDown", "(II)V"⟩
abbrev cX7_paidAll : ByteArray := prog_9_method_29_code
def yX7_paidAll : MethodName := ⟨RX7, "paidAll", "()I"⟩
abbrev cX7_run : ByteArray := prog_9_method_30_code
def yX7_run : MethodName := ⟨RX7, "run", "(I)I"⟩
abbrev cX7_noOld : ByteArray := prog_9_method_31_code
def yX7_noOld : MethodName := ⟨RX7, "noOld", "(I)Z"⟩
abbrev cX7_paid : ByteArray := prog_9_method_32_code
def yX7_paid : MethodName := ⟨RX7, "paid", "(I)I"⟩
abbrev cX7_round : ByteArray := prog_9_method_33_code
def yX7_round : MethodName := ⟨RX7, "round", "(I)I"⟩
abbrev cX7_wins : ByteArray := prog_9_method_34_code
def yX7_wins : MethodName := ⟨RX7, "wins", "(II)I"⟩
abbrev cX7_gain : ByteArray := prog_9_method_35_code
def yX7_gain : MethodName := ⟨RX7, "gain", "(II)I"⟩
abbrev cX7_most : ByteArray := prog_9_method_36_code
def yX7_most : MethodName := ⟨RX7, "most", "(IIII)I"⟩
abbrev cX7_noHouse : ByteArray := prog_9_method_37_code
def yX7_noHouse : MethodName := ⟨RX7, "noHouse", "(I)Z"⟩
abbrev cX7_noGroup : ByteArray := prog_9_method_38_code
def yX7_noGroup : MethodName := ⟨RX7, "noGroup", "(I)Z"⟩
abbrev cX7_house : ByteArray := prog_9_method_39_code
def yX7_house : MethodName := ⟨RX7, "house", "()I"⟩
abbrev cX7_ask : ByteArray := prog_9_method_40_code
def yX7_ask : MethodName := ⟨RX7, "ask", "(III)I"⟩
abbrev cX7_findWorths : ByteArray := prog_9_method_41_code
def yX7_findWorths : MethodName := ⟨RX7, "findWorths", "(I)V"⟩
abbrev cX7_findBest : ByteArray := prog_9_method_42_code
def yX7_findBest : MethodName := ⟨RX7, "findBest", "(I)V"⟩
abbrev cX7_best : ByteArray := prog_9_method_43_code
def yX7_best : MethodName := ⟨RX7, "best", "(II)I"⟩
abbrev cX7_allHouses : ByteArray := prog_9_method_44_code
def yX7_allHouses : MethodName := ⟨RX7, "allHouses", "()I"⟩
abbrev cX7_wonBy : ByteArray := prog_9_method_45_code
def yX7_wonBy : MethodName := ⟨RX7, "wonBy", "(I)I"⟩
abbrev cX7_takes : ByteArray := prog_9_method_46_code
def yX7_takes : MethodName := ⟨RX7, "takes", "(I)I"⟩
abbrev cX7_price : ByteArray := prog_9_method_47_code
def yX7_price : MethodName := ⟨RX7, "price", "(II)I"⟩
abbrev cX7_isBlocking : ByteArray := prog_9_method_48_code
def yX7_isBlocking : MethodName := ⟨RX7, "isBlocking", "(I)Z"⟩
abbrev cX7_blocks : ByteArray := prog_9_method_49_code
def yX7_blocks : MethodName := ⟨RX7, "blocks", "(I)I"⟩
abbrev cX7_alone : ByteArray := prog_9_method_50_code
def yX7_alone : MethodName := ⟨RX7, "alone", "()I"⟩
abbrev cX7_tell : ByteArray := prog_9_method_51_code
def yX7_tell : MethodName := ⟨RX7, "tell", "(III)I"⟩
abbrev cX7_at : ByteArray := prog_9_method_52_code
def yX7_at : MethodName := ⟨RX7, "at", "(II)I"⟩
abbrev cX7_isQuiet : ByteArray := prog_9_method_53_code
def yX7_isQuiet : MethodName := ⟨RX7, "isQuiet", "(I)Z"⟩
abbrev cX7_findFar : ByteArray := prog_9_method_54_code
def yX7_findFar : MethodName := ⟨RX7, "findFar", "(II)V"⟩
abbrev cX7_weeks : ByteArray := prog_9_method_55_code
def yX7_weeks : MethodName := ⟨RX7, "weeks", "(II)I"⟩
abbrev cX7_broken : ByteArray := prog_9_method_56_code
def yX7_broken : MethodName := ⟨RX7, "broken", "(II)I"⟩
abbrev cX7_tower : ByteArray := prog_9_method_57_code
def yX7_tower : MethodName := ⟨RX7, "tower", "(II)I"⟩
abbrev cX7_free : ByteArray := prog_9_method_58_code
def yX7_free : MethodName := ⟨RX7, "free", "(I)I"⟩
abbrev cX7_heard : ByteArray := prog_9_method_59_code
def yX7_heard : MethodName := ⟨RX7, "heard", "(II)I"⟩
abbrev cX7_could : ByteArray := prog_9_method_60_code
def yX7_could : MethodName := ⟨RX7, "could", "(II)I"⟩
abbrev cX7_count : ByteArray := prog_9_method_61_code
def yX7_count : MethodName := ⟨RX7, "count", "(I)I"⟩
abbrev cX7_add : ByteArray := prog_9_method_62_code
def yX7_add : MethodName := ⟨RX7, "add", "(I)V"⟩
abbrev cX7_digest : ByteArray := prog_9_method_63_code
def yX7_digest : MethodName := ⟨RX7, "digest", "()J"⟩
def RJ6 : String := "java/lang/Integer"
def TJ6 : u_T := fun k => match k with
  | _ => ("", "", "", false)
def tyJ6 : Nat → FieldType := fun k => match k with
  | _ => .int
theorem nmJ6 : ∀ a, a < 0 → ∀ b, b < 0 → a ≠ b → (TJ6 a).2.1 ≠ (TJ6 b).2.1 := by decide +kernel
theorem tyJ6_ok : ∀ k, k < 0 → parseFieldDescriptor (TJ6 k).2.2.1 = some (tyJ6 k) := by decide +kernel
abbrev cJ6_bitCount_0f7a4 : ByteArray := prog_10_method_49_code
def yJ6_bitCount_0f7a4 : MethodName := ⟨RJ6, "bitCount", "(I)I"⟩
def RJ9 : String := "java/lang/Math"
def TJ9 : u_T := fun k => match k with
  | _ => ("", "", "", false)
def tyJ9 : Nat → FieldType := fun k => match k with
  | _ => .int
theorem nmJ9 : ∀ a, a < 0 → ∀ b, b < 0 → a ≠ b → (TJ9 a).2.1 ≠ (TJ9 b).2.1 := by decide +kernel
theorem tyJ9_ok : ∀ k, k < 0 → parseFieldDescriptor (TJ9 k).2.2.1 = some (tyJ9 k) := by decide +kernel
abbrev cJ9_max_7cf53 : ByteArray := prog_11_method_65_code
def yJ9_max_7cf53 : MethodName := ⟨RJ9, "max", "(II)I"⟩
abbrev cJ9_min_7cf53 : ByteArray := prog_11_method_69_code
def yJ9_min_7cf53 : MethodName := ⟨RJ9, "min", "(II)I"⟩
def RJ10 : String := "java/lang/System"
def TJ10 : u_T := fun k => match k with
  | _ => ("", "", "", false)
def tyJ10 : Nat → FieldType := fun k => match k with
  | _ => .int
theorem nmJ10 : ∀ a, a < 0 → ∀ b, b < 0 → a ≠ b → (TJ10 a).2.1 ≠ (TJ10 b).2.1 := by decide +kernel
theorem tyJ10_ok : ∀ k, k < 0 → parseFieldDescriptor (TJ10 k).2.2.1 = some (tyJ10 k) := by decide +kernel
def RL : String := "AirClockLaw"
abbrev cL_law : ByteArray := code
def yL_law : MethodName := ⟨RL, "law", "([I)Z"⟩
abbrev vwCl : List vw_C := [(RX0, TX0, 6), (RX1, TX1, 12), (RX2, TX2, 4), (RX3, TX3, 4), (RX4, TX4, 7), (RX5, TX5, 9), (RX6, TX6, 7), (RX7, TX7, 35)]
end
section
theorem dX0_init_0 : decode cX0_init 0 = .ok (.aload_n 0, 1) := by decide +kernel
theorem dX0_init_1 : decode cX0_init 1 = .ok (.invokespecial 3, 3) := by decide +kernel
theorem dX0_init_4 : decode cX0_init 4 = .ok (.aload_n 0, 1) := by decide +kernel
theorem dX0_init_5 : decode cX0_init 5 = .ok (.iconst 0, 1) := by decide +kernel
theorem dX0_init_6 : decode cX0_init 6 = .ok (.putfield 9, 3) := by decide +kernel
theorem dX0_init_9 : decode cX0_init 9 = .ok (.aload_n 0, 1) := by decide +kernel
theorem dX0_init_10 : decode cX0_init 10 = .ok (.iconst 3, 1) := by decide +kernel
theorem dX0_init_11 : decode cX0_init 11 = .ok (.putfield 15, 3) := by decide +kernel
theorem dX0_init_14 : decode cX0_init 14 = .ok (.aload_n 0, 1) := by decide +kernel
theorem dX0_init_15 : decode cX0_init 15 = .ok (.sipush 2000, 3) := by decide +kernel
theorem dX0_init_18 : decode cX0_init 18 = .ok (.putfield 18, 3) := by decide +kernel
theorem dX0_init_21 : decode cX0_init 21 = .ok (.aload_n 0, 1) := by decide +kernel
theorem dX0_init_22 : decode cX0_init 22 = .ok (.iconst 1, 1) := by decide +kernel
theorem dX0_init_23 : decode cX0_init 23 = .ok (.putfield 21, 3) := by decide +kernel
theorem dX0_init_26 : decode cX0_init 26 = .ok (.aload_n 0, 1) := by decide +kernel
theorem dX0_init_27 : decode cX0_init 27 = .ok (.bipush 10, 2) := by decide +kernel
theorem dX0_init_29 : decode cX0_init 29 = .ok (.newarray .int, 2) := by decide +kernel
theorem dX0_init_31 : decode cX0_init 31 = .ok (.putfield 24, 3) := by decide +kernel
theorem dX0_init_34 : decode cX0_init 34 = .ok (.aload_n 0, 1) := by decide +kernel
theorem dX0_init_35 : decode cX0_init 35 = .ok (.bipush 100, 2) := by decide +kernel
theorem dX0_init_37 : decode cX0_init 37 = .ok (.newarray .int, 2) := by decide +kernel
theorem dX0_init_39 : decode cX0_init 39 = .ok (.putfield 28, 3) := by decide +kernel
theorem dX0_init_42 : decode cX0_init 42 = .ok (.return_, 1) := by decide +kernel
theorem dX0_isMast_0 : decode cX0_isMast 0 = .ok (.iload_n 1, 1) := by decide +kernel
theorem dX0_isMast_1 : decode cX0_isMast 1 = .ok (.ifCond .lt 15, 3) := by decide +kernel
theorem dX0_isMast_4 : decode cX0_isMast 4 = .ok (.iload_n 1, 1) := by decide +kernel
theorem dX0_isMast_5 : decode cX0_isMast 5 = .ok (.aload_n 0, 1) := by decide +kernel
theorem dX0_isMast_6 : decode cX0_isMast 6 = .ok (.getfield 9, 3) := by decide +kernel
theorem dX0_isMast_9 : decode cX0_isMast 9 = .ok (.if_icmp .ge 7, 3) := by decide +kernel
theorem dX0_isMast_12 : decode cX0_isMast 12 = .ok (.iconst 1, 1) := by decide +kernel
theorem dX0_isMast_13 : decode cX0_isMast 13 = .ok (.goto 4, 3) := by decide +kernel
theorem dX0_isMast_16 : decode cX0_isMast 16 = .ok (.iconst 0, 1) := by decide +kernel
theorem dX0_isMast_17 : decode cX0_isMast 17 = .ok (.ireturn, 1) := by decide +kernel
theorem dX0_isSet_0 : decode cX0_isSet 0 = .ok (.iload_n 1, 1) := by decide +kernel
theorem dX0_isSet_1 : decode cX0_isSet 1 = .ok (.ifCond .lt 17, 3) := by decide +kernel
theorem dX0_isSet_4 : decode cX0_isSet 4 = .ok (.iload_n 1, 1) := by decide +kernel
theorem dX0_isSet_5 : decode cX0_isSet 5 = .ok (.iconst 1, 1) := by decide +kernel
theorem dX0_isSet_6 : decode cX0_isSet 6 = .ok (.aload_n 0, 1) := by decide +kernel
theorem dX0_isSet_7 : decode cX0_isSet 7 = .ok (.getfield 9, 3) := by decide +kernel
theorem dX0_isSet_10 : decode cX0_isSet 10 = .ok (.ishl, 1) := by decide +kernel
theorem dX0_isSet_11 : decode cX0_isSet 11 = .ok (.if_icmp .ge 7, 3) := by decide +kernel
theorem dX0_isSet_14 : decode cX0_isSet 14 = .ok (.iconst 1, 1) := by decide +kernel
theorem dX0_isSet_15 : decode cX0_isSet 15 = .ok (.goto 4, 3) := by decide +kernel
theorem dX0_isSet_18 : decode cX0_isSet 18 = .ok (.iconst 0, 1) := by decide +kernel
theorem dX0_isSet_19 : decode cX0_isSet 19 = .ok (.ireturn, 1) := by decide +kernel
theorem dX0_allChannels_0 : decode cX0_allChannels 0 = .ok (.iconst 1, 1) := by decide +kernel
theorem dX0_allChannels_1 : decode cX0_allChannels 1 = .ok (.aload_n 0, 1) := by decide +kernel
theorem dX0_allChannels_2 : decode cX0_allChannels 2 = .ok (.getfield 15, 3) := by decide +kernel
theorem dX0_allChannels_5 : decode cX0_allChannels 5 = .ok (.ishl, 1) := by decide +kernel
theorem dX0_allChannels_6 : decode cX0_allChannels 6 = .ok (.iconst 1, 1) := by decide +kernel
theorem dX0_allChannels_7 : decode cX0_allChannels 7 = .ok (.isub, 1) := by decide +kernel
theorem dX0_allChannels_8 : decode cX0_allChannels 8 = .ok (.ireturn, 1) := by decide +kernel
theorem dX0_mayHave_0 : decode cX0_mayHave 0 = .ok (.iload_n 1, 1) := by decide +kernel
theorem dX0_mayHave_1 : decode cX0_mayHave 1 = .ok (.ifCond .lt 31, 3) := by decide +kernel
theorem dX0_mayHave_4 : decode cX0_mayHave 4 = .ok (.iload_n 1, 1) := by decide +kernel
theorem dX0_mayHave_5 : decode cX0_mayHave 5 = .ok (.aload_n 0, 1) := by decide +kernel
theorem dX0_mayHave_6 : decode cX0_mayHave 6 = .ok (.getfield 9, 3) := by decide +kernel
theorem dX0_mayHave_9 : decode cX0_mayHave 9 = .ok (.if_icmp .ge 23, 3) := by decide +kernel
theorem dX0_mayHave_12 : decode cX0_mayHave 12 = .ok (.iconst 1, 1) := by decide +kernel
theorem dX0_mayHave_13 : decode cX0_mayHave 13 = .ok (.aload_n 0, 1) := by decide +kernel
theorem dX0_mayHave_14 : decode cX0_mayHave 14 = .ok (.getfield 15, 3) := by decide +kernel
theorem dX0_mayHave_17 : decode cX0_mayHave 17 = .ok (.ishl, 1) := by decide +kernel
theorem dX0_mayHave_18 : decode cX0_mayHave 18 = .ok (.iconst 1, 1) := by decide +kernel
theorem dX0_mayHave_19 : decode cX0_mayHave 19 = .ok (.isub, 1) := by decide +kernel
theorem dX0_mayHave_20 : decode cX0_mayHave 20 = .ok (.aload_n 0, 1) := by decide +kernel
theorem dX0_mayHave_21 : decode cX0_mayHave 21 = .ok (.getfield 24, 3) := by decide +kernel
theorem dX0_mayHave_24 : decode cX0_mayHave 24 = .ok (.iload_n 1, 1) := by decide +kernel
theorem dX0_mayHave_25 : decode cX0_mayHave 25 = .ok (.iaload, 1) := by decide +kernel
theorem dX0_mayHave_26 : decode cX0_mayHave 26 = .ok (.iconst (-1), 1) := by decide +kernel
theorem dX0_mayHave_27 : decode cX0_mayHave 27 = .ok (.ixor, 1) := by decide +kernel
theorem dX0_mayHave_28 : decode cX0_mayHave 28 = .ok (.iand, 1) := by decide +kernel
theorem dX0_mayHave_29 : decode cX0_mayHave 29 = .ok (.goto 4, 3) := by decide +kernel
theorem dX0_mayHave_32 : decode cX0_mayHave 32 = .ok (.iconst 0, 1) := by decide +kernel
theorem dX0_mayHave_33 : decode cX0_mayHave 33 = .ok (.ireturn, 1) := by decide +kernel
theorem dX0_pairOf_0 : decode cX0_pairOf 0 = .ok (.aload_n 0, 1) := by decide +kernel
theorem dX0_pairOf_1 : decode cX0_pairOf 1 = .ok (.iload_n 1, 1) := by decide +kernel
theorem dX0_pairOf_2 : decode cX0_pairOf 2 = .ok (.invokevirtual 31, 3) := by decide +kernel
theorem dX0_pairOf_5 : decode cX0_pairOf 5 = .ok (.ifCond .eq 25, 3) := by decide +kernel
theorem dX0_pairOf_8 : decode cX0_pairOf 8 = .ok (.aload_n 0, 1) := by decide +kernel
theorem dX0_pairOf_9 : decode cX0_pairOf 9 = .ok (.iload_n 2, 1) := by decide +kernel
theorem dX0_pairOf_10 : decode cX0_pairOf 10 = .ok (.invokevirtual 31, 3) := by decide +kernel
theorem dX0_pairOf_13 : decode cX0_pairOf 13 = .ok (.ifCond .eq 17, 3) := by decide +kernel
theorem dX0_pairOf_16 : decode cX0_pairOf 16 = .ok (.aload_n 0, 1) := by decide +kernel
theorem dX0_pairOf_17 : decode cX0_pairOf 17 = .ok (.getfield 28, 3) := by decide +kernel
theorem dX0_pairOf_20 : decode cX0_pairOf 20 = .ok (.iload_n 1, 1) := by decide +kernel
theorem dX0_pairOf_21 : decode cX0_pairOf 21 = .ok (.bipush 10, 2) := by decide +kernel
theorem dX0_pairOf_23 : decode cX0_pairOf 23 = .ok (.imul, 1) := by decide +kernel
theorem dX0_pairOf_24 : decode cX0_pairOf 24 = .ok (.iload_n 2, 1) := by decide +kernel
theorem dX0_pairOf_25 : decode cX0_pairOf 25 = .ok (.iadd, 1) := by decide +kernel
theorem dX0_pairOf_26 : decode cX0_pairOf 26 = .ok (.iaload, 1) := by decide +kernel
theorem dX0_pairOf_27 : decode cX0_pairOf 27 = .ok (.goto 4, 3) := by decide +kernel
theorem dX0_pairOf_30 : decode cX0_pairOf 30 = .ok (.iconst 0, 1) := by decide +kernel
theorem dX0_pairOf_31 : decode cX0_pairOf 31 = .ok (.ireturn, 1) := by decide +kernel
theorem dX0_setPair_0 : decode cX0_setPair 0 = .ok (.aload_n 0, 1) := by decide +kernel
theorem dX0_setPair_1 : decode cX0_setPair 1 = .ok (.iload_n 1, 1) := by decide +kernel
theorem dX0_setPair_2 : decode cX0_setPair 2 = .ok (.invokevirtual 31, 3) := by decide +kernel
theorem dX0_setPair_5 : decode cX0_setPair 5 = .ok (.ifCond .eq 35, 3) := by decide +kernel
theorem dX0_setPair_8 : decode cX0_setPair 8 = .ok (.aload_n 0, 1) := by decide +kernel
theorem dX0_setPair_9 : decode cX0_setPair 9 = .ok (.iload_n 2, 1) := by decide +kernel
theorem dX0_setPair_10 : decode cX0_setPair 10 = .ok (.invokevirtual 31, 3) := by decide +kernel
theorem dX0_setPair_13 : decode cX0_setPair 13 = .ok (.ifCond .eq 27, 3) := by decide +kernel
theorem dX0_setPair_16 : decode cX0_setPair 16 = .ok (.aload_n 0, 1) := by decide +kernel
theorem dX0_setPair_17 : decode cX0_setPair 17 = .ok (.getfield 28, 3) := by decide +kernel
theorem dX0_setPair_20 : decode cX0_setPair 20 = .ok (.iload_n 1, 1) := by decide +kernel
theorem dX0_setPair_21 : decode cX0_setPair 21 = .ok (.bipush 10, 2) := by decide +kernel
theorem dX0_setPair_23 : decode cX0_setPair 23 = .ok (.imul, 1) := by decide +kernel
theorem dX0_setPair_24 : decode cX0_setPair 24 = .ok (.iload_n 2, 1) := by decide +kernel
theorem dX0_setPair_25 : decode cX0_setPair 25 = .ok (.iadd, 1) := by decide +kernel
theorem dX0_setPair_26 : decode cX0_setPair 26 = .ok (.iload_n 3, 1) := by decide +kernel
theorem dX0_setPair_27 : decode cX0_setPair 27 = .ok (.iastore, 1) := by decide +kernel
theorem dX0_setPair_28 : decode cX0_setPair 28 = .ok (.aload_n 0, 1) := by decide +kernel
theorem dX0_setPair_29 : decode cX0_setPair 29 = .ok (.getfield 28, 3) := by decide +kernel
theorem dX0_setPair_32 : decode cX0_setPair 32 = .ok (.iload_n 2, 1) := by decide +kernel
theorem dX0_setPair_33 : decode cX0_setPair 33 = .ok (.bipush 10, 2) := by decide +kernel
theorem dX0_setPair_35 : decode cX0_setPair 35 = .ok (.imul, 1) := by decide +kernel
theorem dX0_setPair_36 : decode cX0_setPair 36 = .ok (.iload_n 1, 1) := by decide +kernel
theorem dX0_setPair_37 : decode cX0_setPair 37 = .ok (.iadd, 1) := by decide +kernel
theorem dX0_setPair_38 : decode cX0_setPair 38 = .ok (.iload_n 3, 1) := by decide +kernel
theorem dX0_setPair_39 : decode cX0_setPair 39 = .ok (.iastore, 1) := by decide +kernel
theorem dX0_setPair_40 : decode cX0_setPair 40 = .ok (.return_, 1) := by decide +kernel
theorem dX0_shutFor_0 : decode cX0_shutFor 0 = .ok (.iload_n 1, 1) := by decide +kernel
theorem dX0_shutFor_1 : decode cX0_shutFor 1 = .ok (.bipush 10, 2) := by decide +kernel
theorem dX0_shutFor_3 : decode cX0_shutFor 3 = .ok (.imul, 1) := by decide +kernel
theorem dX0_shutFor_4 : decode cX0_shutFor 4 = .ok (.iload_n 2, 1) := by decide +kernel
theorem dX0_shutFor_5 : decode cX0_shutFor 5 = .ok (.iadd, 1) := by decide +kernel
theorem dX0_shutFor_6 : decode cX0_shutFor 6 = .ok (.istore 4, 2) := by decide +kernel
theorem dX0_shutFor_8 : decode cX0_shutFor 8 = .ok (.iload 4, 2) := by decide +kernel
theorem dX0_shutFor_10 : decode cX0_shutFor 10 = .ok (.ifCond .lt 23, 3) := by decide +kernel
theorem dX0_shutFor_13 : decode cX0_shutFor 13 = .ok (.iload 4, 2) := by decide +kernel
theorem dX0_shutFor_15 : decode cX0_shutFor 15 = .ok (.aload_n 0, 1) := by decide +kernel
theorem dX0_shutFor_16 : decode cX0_shutFor 16 = .ok (.getfield 28, 3) := by decide +kernel
theorem dX0_shutFor_19 : decode cX0_shutFor 19 = .ok (.arraylength, 1) := by decide +kernel
theorem dX0_shutFor_20 : decode cX0_shutFor 20 = .ok (.if_icmp .ge 13, 3) := by decide +kernel
theorem dX0_shutFor_23 : decode cX0_shutFor 23 = .ok (.iload_n 3, 1) := by decide +kernel
theorem dX0_shutFor_24 : decode cX0_shutFor 24 = .ok (.ifCond .lt 9, 3) := by decide +kernel
theorem dX0_shutFor_27 : decode cX0_shutFor 27 = .ok (.iload_n 3, 1) := by decide +kernel
theorem dX0_shutFor_28 : decode cX0_shutFor 28 = .ok (.bipush 6, 2) := by decide +kernel
theorem dX0_shutFor_30 : decode cX0_shutFor 30 = .ok (.if_icmp .lt 5, 3) := by decide +kernel
theorem dX0_shutFor_33 : decode cX0_shutFor 33 = .ok (.iconst 0, 1) := by decide +kernel
theorem dX0_shutFor_34 : decode cX0_shutFor 34 = .ok (.ireturn, 1) := by decide +kernel
theorem dX0_shutFor_35 : decode cX0_shutFor 35 = .ok (.getstatic 35, 3) := by decide +kernel
theorem dX0_shutFor_38 : decode cX0_shutFor 38 = .ok (.aload_n 0, 1) := by decide +kernel
theorem dX0_shutFor_39 : decode cX0_shutFor 39 = .ok (.getfield 28, 3) := by decide +kernel
theorem dX0_shutFor_42 : decode cX0_shutFor 42 = .ok (.iload 4, 2) := by decide +kernel
theorem dX0_shutFor_44 : decode cX0_shutFor 44 = .ok (.iaload, 1) := by decide +kernel
theorem dX0_shutFor_45 : decode cX0_shutFor 45 = .ok (.bipush 6, 2) := by decide +kernel
theorem dX0_shutFor_47 : decode cX0_shutFor 47 = .ok (.imul, 1) := by decide +kernel
theorem dX0_shutFor_48 : decode cX0_shutFor 48 = .ok (.iload_n 3, 1) := by decide +kernel
theorem dX0_shutFor_49 : decode cX0_shutFor 49 = .ok (.iadd, 1) := by decide +kernel
theorem dX0_shutFor_50 : decode cX0_shutFor 50 = .ok (.iaload, 1) := by decide +kernel
theorem dX0_shutFor_51 : decode cX0_shutFor 51 = .ok (.ireturn, 1) := by decide +kernel
theorem dX1_init_0 : decode cX1_init 0 = .ok (.aload_n 0, 1) := by decide +kernel
theorem dX1_init_1 : decode cX1_init 1 = .ok (.invokespecial 3, 3) := by decide +kernel
theorem dX1_init_4 : decode cX1_init 4 = .ok (.aload_n 0, 1) := by decide +kernel
theorem dX1_init_5 : decode cX1_init 5 = .ok (.iconst 0, 1) := by decide +kernel
theorem dX1_init_6 : decode cX1_init 6 = .ok (.putfield 9, 3) := by decide +kernel
theorem dX1_init_9 : decode cX1_init 9 = .ok (.aload_n 0, 1) := by decide +kernel
theorem dX1_init_10 : decode cX1_init 10 = .ok (.bipush 100, 2) := by decide +kernel
theorem dX1_init_12 : decode cX1_init 12 = .ok (.putfield 15, 3) := by decide +kernel
theorem dX1_init_15 : decode cX1_init 15 = .ok (.aload_n 0, 1) := by decide +kernel
theorem dX1_init_16 : decode cX1_init 16 = .ok (.bipush 10, 2) := by decide +kernel
theorem dX1_init_18 : decode cX1_init 18 = .ok (.putfield 18, 3) := by decide +kernel
theorem dX1_init_21 : decode cX1_init 21 = .ok (.aload_n 0, 1) := by decide +kernel
theorem dX1_init_22 : decode cX1_init 22 = .ok (.bipush 10, 2) := by decide +kernel
theorem dX1_init_24 : decode cX1_init 24 = .ok (.newarray .int, 2) := by decide +kernel
theorem dX1_init_26 : decode cX1_init 26 = .ok (.putfield 21, 3) := by decide +kernel
theorem dX1_init_29 : decode cX1_init 29 = .ok (.aload_n 0, 1) := by decide +kernel
theorem dX1_init_30 : decode cX1_init 30 = .ok (.bipush 10, 2) := by decide +kernel
theorem dX1_init_32 : decode cX1_init 32 = .ok (.newarray .int, 2) := by decide +kernel
theorem dX1_init_34 : decode cX1_init 34 = .ok (.putfield 25, 3) := by decide +kernel
theorem dX1_init_37 : decode cX1_init 37 = .ok (.aload_n 0, 1) := by decide +kernel
theorem dX1_init_38 : decode cX1_init 38 = .ok (.bipush 10, 2) := by decide +kernel
theorem dX1_init_40 : decode cX1_init 40 = .ok (.newarray .int, 2) := by decide +kernel
theorem dX1_init_42 : decode cX1_init 42 = .ok (.putfield 28, 3) := by decide +kernel
theorem dX1_init_45 : decode cX1_init 45 = .ok (.aload_n 0, 1) := by decide +kernel
theorem dX1_init_46 : decode cX1_init 46 = .ok (.bipush 10, 2) := by decide +kernel
theorem dX1_init_48 : decode cX1_init 48 = .ok (.newarray .int, 2) := by decide +kernel
theorem dX1_init_50 : decode cX1_init 50 = .ok (.putfield 31, 3) := by decide +kernel
theorem dX1_init_53 : decode cX1_init 53 = .ok (.aload_n 0, 1) := by decide +kernel
theorem dX1_init_54 : decode cX1_init 54 = .ok (.iconst 0, 1) := by decide +kernel
theorem dX1_init_55 : decode cX1_init 55 = .ok (.putfield 34, 3) := by decide +kernel
theorem dX1_init_58 : decode cX1_init 58 = .ok (.aload_n 0, 1) := by decide +kernel
theorem dX1_init_59 : decode cX1_init 59 = .ok (.iconst 0, 1) := by decide +kernel
theorem dX1_init_60 : decode cX1_init 60 = .ok (.putfield 37, 3) := by decide +kernel
theorem dX1_init_63 : decode cX1_init 63 = .ok (.aload_n 0, 1) := by decide +kernel
theorem dX1_init_64 : decode cX1_init 64 = .ok (.iconst 0, 1) := by decide +kernel
theorem dX1_init_65 : decode cX1_init 65 = .ok (.putfield 40, 3) := by decide +kernel
theorem dX1_init_68 : decode cX1_init 68 = .ok (.aload_n 0, 1) := by decide +kernel
theorem dX1_init_69 : decode cX1_init 69 = .ok (.aload_n 1, 1) := by decide +kernel
theorem dX1_init_70 : decode cX1_init 70 = .ok (.putfield 43, 3) := by decide +kernel
theorem dX1_init_73 : decode cX1_init 73 = .ok (.aload_n 0, 1) := by decide +kernel
theorem dX1_init_74 : decode cX1_init 74 = .ok (.aload_n 2, 1) := by decide +kernel
theorem dX1_init_75 : decode cX1_init 75 = .ok (.putfield 47, 3) := by decide +kernel
theorem dX1_init_78 : decode cX1_init 78 = .ok (.return_, 1) := by decide +kernel
theorem dX1_isOld_0 : decode cX1_isOld 0 = .ok (.aload_n 0, 1) := by decide +kernel
theorem dX1_isOld_1 : decode cX1_isOld 1 = .ok (.getfield 43, 3) := by decide +kernel
theorem dX1_isOld_4 : decode cX1_isOld 4 = .ok (.iload_n 1, 1) := by decide +kernel
theorem dX1_isOld_5 : decode cX1_isOld 5 = .ok (.invokevirtual 51, 3) := by decide +kernel
theorem dX1_isOld_8 : decode cX1_isOld 8 = .ok (.ifCond .eq 18, 3) := by decide +kernel
theorem dX1_isOld_11 : decode cX1_isOld 11 = .ok (.aload_n 0, 1) := by decide +kernel
theorem dX1_isOld_12 : decode cX1_isOld 12 = .ok (.getfield 9, 3) := by decide +kernel
theorem dX1_isOld_15 : decode cX1_isOld 15 = .ok (.iload_n 1, 1) := by decide +kernel
theorem dX1_isOld_16 : decode cX1_isOld 16 = .ok (.invokestatic 57, 3) := by decide +kernel
theorem dX1_isOld_19 : decode cX1_isOld 19 = .ok (.ifCond .eq 7, 3) := by decide +kernel
theorem dX1_isOld_22 : decode cX1_isOld 22 = .ok (.iconst 1, 1) := by decide +kernel
theorem dX1_isOld_23 : decode cX1_isOld 23 = .ok (.goto 4, 3) := by decide +kernel
theorem dX1_isOld_26 : decode cX1_isOld 26 = .ok (.iconst 0, 1) := by decide +kernel
theorem dX1_isOld_27 : decode cX1_isOld 27 = .ok (.ireturn, 1) := by decide +kernel
theorem dX1_addStation_0 : decode cX1_addStation 0 = .ok (.aload_n 0, 1) := by decide +kernel
theorem dX1_addStation_1 : decode cX1_addStation 1 = .ok (.getfield 43, 3) := by decide +kernel
theorem dX1_addStation_4 : decode cX1_addStation 4 = .ok (.iload_n 1, 1) := by decide +kernel
theorem dX1_addStation_5 : decode cX1_addStation 5 = .ok (.invokevirtual 51, 3) := by decide +kernel
theorem dX1_addStation_8 : decode cX1_addStation 8 = .ok (.ifCond .eq 29, 3) := by decide +kernel
theorem dX1_addStation_11 : decode cX1_addStation 11 = .ok (.aload_n 0, 1) := by decide +kernel
theorem dX1_addStation_12 : decode cX1_addStation 12 = .ok (.dup, 1) := by decide +kernel
theorem dX1_addStation_13 : decode cX1_addStation 13 = .ok (.getfield 9, 3) := by decide +kernel
theorem dX1_addStation_16 : decode cX1_addStation 16 = .ok (.iconst 1, 1) := by decide +kernel
theorem dX1_addStation_17 : decode cX1_addStation 17 = .ok (.iload_n 1, 1) := by decide +kernel
theorem dX1_addStation_18 : decode cX1_addStation 18 = .ok (.ishl, 1) := by decide +kernel
theorem dX1_addStation_19 : decode cX1_addStation 19 = .ok (.ior, 1) := by decide +kernel
theorem dX1_addStation_20 : decode cX1_addStation 20 = .ok (.putfield 9, 3) := by decide +kernel
theorem dX1_addStation_23 : decode cX1_addStation 23 = .ok (.aload_n 0, 1) := by decide +kernel
theorem dX1_addStation_24 : decode cX1_addStation 24 = .ok (.getfield 21, 3) := by decide +kernel
theorem dX1_addStation_27 : decode cX1_addStation 27 = .ok (.iload_n 1, 1) := by decide +kernel
theorem dX1_addStation_28 : decode cX1_addStation 28 = .ok (.iload_n 2, 1) := by decide +kernel
theorem dX1_addStation_29 : decode cX1_addStation 29 = .ok (.iastore, 1) := by decide +kernel
theorem dX1_addStation_30 : decode cX1_addStation 30 = .ok (.aload_n 0, 1) := by decide +kernel
theorem dX1_addStation_31 : decode cX1_addStation 31 = .ok (.getfield 25, 3) := by decide +kernel
theorem dX1_addStation_34 : decode cX1_addStation 34 = .ok (.iload_n 1, 1) := by decide +kernel
theorem dX1_addStation_35 : decode cX1_addStation 35 = .ok (.iload_n 3, 1) := by decide +kernel
theorem dX1_addStation_36 : decode cX1_addStation 36 = .ok (.iastore, 1) := by decide +kernel
theorem dX1_addStation_37 : decode cX1_addStation 37 = .ok (.return_, 1) := by decide +kernel
theorem dX1_letFall_0 : decode cX1_letFall 0 = .ok (.aload_n 0, 1) := by decide +kernel
theorem dX1_letFall_1 : decode cX1_letFall 1 = .ok (.iconst 0, 1) := by decide +kernel
theorem dX1_letFall_2 : decode cX1_letFall 2 = .ok (.putfield 34, 3) := by decide +kernel
theorem dX1_letFall_5 : decode cX1_letFall 5 = .ok (.aload_n 0, 1) := by decide +kernel
theorem dX1_letFall_6 : decode cX1_letFall 6 = .ok (.iconst 0, 1) := by decide +kernel
theorem dX1_letFall_7 : decode cX1_letFall 7 = .ok (.putfield 37, 3) := by decide +kernel
theorem dX1_letFall_10 : decode cX1_letFall 10 = .ok (.aload_n 0, 1) := by decide +kernel
theorem dX1_letFall_11 : decode cX1_letFall 11 = .ok (.iconst 0, 1) := by decide +kernel
theorem dX1_letFall_12 : decode cX1_letFall 12 = .ok (.putfield 40, 3) := by decide +kernel
theorem dX1_letFall_15 : decode cX1_letFall 15 = .ok (.iconst 0, 1) := by decide +kernel
theorem dX1_letFall_16 : decode cX1_letFall 16 = .ok (.istore_n 3, 1) := by decide +kernel
theorem dX1_letFall_17 : decode cX1_letFall 17 = .ok (.iload_n 3, 1) := by decide +kernel
theorem dX1_letFall_18 : decode cX1_letFall 18 = .ok (.bipush 50, 2) := by decide +kernel
theorem dX1_letFall_20 : decode cX1_letFall 20 = .ok (.if_icmp .gt 104, 3) := by decide +kernel
theorem dX1_letFall_23 : decode cX1_letFall 23 = .ok (.aload_n 0, 1) := by decide +kernel
theorem dX1_letFall_24 : decode cX1_letFall 24 = .ok (.getfield 34, 3) := by decide +kernel
theorem dX1_letFall_27 : decode cX1_letFall 27 = .ok (.aload_n 0, 1) := by decide +kernel
theorem dX1_letFall_28 : decode cX1_letFall 28 = .ok (.getfield 37, 3) := by decide +kernel
theorem dX1_letFall_31 : decode cX1_letFall 31 = .ok (.ior, 1) := by decide +kernel
theorem dX1_letFall_32 : decode cX1_letFall 32 = .ok (.aload_n 0, 1) := by decide +kernel
theorem dX1_letFall_33 : decode cX1_letFall 33 = .ok (.getfield 9, 3) := by decide +kernel
theorem dX1_letFall_36 : decode cX1_letFall 36 = .ok (.if_icmp .eq 88, 3) := by decide +kernel
theorem dX1_letFall_39 : decode cX1_letFall 39 = .ok (.iconst 0, 1) := by decide +kernel
theorem dX1_letFall_40 : decode cX1_letFall 40 = .ok (.istore 4, 2) := by decide +kernel
theorem dX1_letFall_42 : decode cX1_letFall 42 = .ok (.iload 4, 2) := by decide +kernel
theorem dX1_letFall_44 : decode cX1_letFall 44 = .ok (.aload_n 0, 1) := by decide +kernel
theorem dX1_letFall_45 : decode cX1_letFall 45 = .ok (.getfield 43, 3) := by decide +kernel
theorem dX1_letFall_48 : decode cX1_letFall 48 = .ok (.getfield 61, 3) := by decide +kernel
theorem dX1_letFall_51 : decode cX1_letFall 51 = .ok (.if_icmp .ge 57, 3) := by decide +kernel
theorem dX1_letFall_54 : decode cX1_letFall 54 = .ok (.aload_n 0, 1) := by decide +kernel
theorem dX1_letFall_55 : decode cX1_letFall 55 = .ok (.getfield 9, 3) := by decide +kernel
theorem dX1_letFall_58 : decode cX1_letFall 58 = .ok (.aload_n 0, 1) := by decide +kernel
theorem dX1_letFall_59 : decode cX1_letFall 59 = .ok (.getfield 34, 3) := by decide +kernel
theorem dX1_letFall_62 : decode cX1_letFall 62 = .ok (.aload_n 0, 1) := by decide +kernel
theorem dX1_letFall_63 : decode cX1_letFall 63 = .ok (.getfield 37, 3) := by decide +kernel
theorem dX1_letFall_66 : decode cX1_letFall 66 = .ok (.ior, 1) := by decide +kernel
theorem dX1_letFall_67 : decode cX1_letFall 67 = .ok (.iconst (-1), 1) := by decide +kernel
theorem dX1_letFall_68 : decode cX1_letFall 68 = .ok (.ixor, 1) := by decide +kernel
theorem dX1_letFall_69 : decode cX1_letFall 69 = .ok (.iand, 1) := by decide +kernel
theorem dX1_letFall_70 : decode cX1_letFall 70 = .ok (.iload 4, 2) := by decide +kernel
theorem dX1_letFall_72 : decode cX1_letFall 72 = .ok (.invokestatic 57, 3) := by decide +kernel
theorem dX1_letFall_75 : decode cX1_letFall 75 = .ok (.ifCond .eq 27, 3) := by decide +kernel
theorem dX1_letFall_78 : decode cX1_letFall 78 = .ok (.aload_n 0, 1) := by decide +kernel
theorem dX1_letFall_79 : decode cX1_letFall 79 = .ok (.iload 4, 2) := by decide +kernel
theorem dX1_letFall_81 : decode cX1_letFall 81 = .ok (.iload_n 3, 1) := by decide +kernel
theorem dX1_letFall_82 : decode cX1_letFall 82 = .ok (.iload 4, 2) := by decide +kernel
theorem dX1_letFall_84 : decode cX1_letFall 84 = .ok (.iload_n 1, 1) := by decide +kernel
theorem dX1_letFall_85 : decode cX1_letFall 85 = .ok (.if_icmp .ne 7, 3) := by decide +kernel
theorem dX1_letFall_88 : decode cX1_letFall 88 = .ok (.iload_n 2, 1) := by decide +kernel
theorem dX1_letFall_89 : decode cX1_letFall 89 = .ok (.goto 10, 3) := by decide +kernel
theorem dX1_letFall_92 : decode cX1_letFall 92 = .ok (.aload_n 0, 1) := by decide +kernel
theorem dX1_letFall_93 : decode cX1_letFall 93 = .ok (.getfield 21, 3) := by decide +kernel
theorem dX1_letFall_96 : decode cX1_letFall 96 = .ok (.iload 4, 2) := by decide +kernel
theorem dX1_letFall_98 : decode cX1_letFall 98 = .ok (.iaload, 1) := by decide +kernel
theorem dX1_letFall_99 : decode cX1_letFall 99 = .ok (.invokevirtual 64, 3) := by decide +kernel
theorem dX1_letFall_102 : decode cX1_letFall 102 = .ok (.iinc 4 1, 3) := by decide +kernel
theorem dX1_letFall_105 : decode cX1_letFall 105 = .ok (.goto (-63), 3) := by decide +kernel
theorem dX1_letFall_108 : decode cX1_letFall 108 = .ok (.aload_n 0, 1) := by decide +kernel
theorem dX1_letFall_109 : decode cX1_letFall 109 = .ok (.dup, 1) := by decide +kernel
theorem dX1_letFall_110 : decode cX1_letFall 110 = .ok (.getfield 40, 3) := by decide +kernel
theorem dX1_letFall_113 : decode cX1_letFall 113 = .ok (.iconst 1, 1) := by decide +kernel
theorem dX1_letFall_114 : decode cX1_letFall 114 = .ok (.iadd, 1) := by decide +kernel
theorem dX1_letFall_115 : decode cX1_letFall 115 = .ok (.putfield 40, 3) := by decide +kernel
theorem dX1_letFall_118 : decode cX1_letFall 118 = .ok (.iinc 3 1, 3) := by decide +kernel
theorem dX1_letFall_121 : decode cX1_letFall 121 = .ok (.goto (-104), 3) := by decide +kernel
theorem dX1_letFall_124 : decode cX1_letFall 124 = .ok (.return_, 1) := by decide +kernel
theorem dX1_ending_0 : decode cX1_ending 0 = .ok (.iload_n 1, 1) := by decide +kernel
theorem dX1_ending_1 : decode cX1_ending 1 = .ok (.tableswitch 42 0 2 #[27, 32, 37], 27) := by decide +kernel
theorem dX1_ending_28 : decode cX1_ending 28 = .ok (.aload_n 0, 1) := by decide +kernel
theorem dX1_ending_29 : decode cX1_ending 29 = .ok (.getfield 34, 3) := by decide +kernel
theorem dX1_ending_32 : decode cX1_ending 32 = .ok (.ireturn, 1) := by decide +kernel
theorem dX1_ending_33 : decode cX1_ending 33 = .ok (.aload_n 0, 1) := by decide +kernel
theorem dX1_ending_34 : decode cX1_ending 34 = .ok (.getfield 37, 3) := by decide +kernel
theorem dX1_ending_37 : decode cX1_ending 37 = .ok (.ireturn, 1) := by decide +kernel
theorem dX1_ending_38 : decode cX1_ending 38 = .ok (.aload_n 0, 1) := by decide +kernel
theorem dX1_ending_39 : decode cX1_ending 39 = .ok (.getfield 40, 3) := by decide +kernel
theorem dX1_ending_42 : decode cX1_ending 42 = .ok (.ireturn, 1) := by decide +kernel
theorem dX1_ending_43 : decode cX1_ending 43 = .ok (.aload_n 0, 1) := by decide +kernel
theorem dX1_ending_44 : decode cX1_ending 44 = .ok (.invokevirtual 68, 3) := by decide +kernel
theorem dX1_ending_47 : decode cX1_ending 47 = .ok (.ireturn, 1) := by decide +kernel
theorem dX1_profit_0 : decode cX1_profit 0 = .ok (.aload_n 0, 1) := by decide +kernel
theorem dX1_profit_1 : decode cX1_profit 1 = .ok (.iload_n 1, 1) := by decide +kernel
theorem dX1_profit_2 : decode cX1_profit 2 = .ok (.invokevirtual 72, 3) := by decide +kernel
theorem dX1_profit_5 : decode cX1_profit 5 = .ok (.ifCond .ne 5, 3) := by decide +kernel
theorem dX1_profit_8 : decode cX1_profit 8 = .ok (.iconst 0, 1) := by decide +kernel
theorem dX1_profit_9 : decode cX1_profit 9 = .ok (.ireturn, 1) := by decide +kernel
theorem dX1_profit_10 : decode cX1_profit 10 = .ok (.aload_n 0, 1) := by decide +kernel
theorem dX1_profit_11 : decode cX1_profit 11 = .ok (.iload_n 1, 1) := by decide +kernel
theorem dX1_profit_12 : decode cX1_profit 12 = .ok (.iload_n 2, 1) := by decide +kernel
theorem dX1_profit_13 : decode cX1_profit 13 = .ok (.invokevirtual 75, 3) := by decide +kernel
theorem dX1_profit_16 : decode cX1_profit 16 = .ok (.aload_n 0, 1) := by decide +kernel
theorem dX1_profit_17 : decode cX1_profit 17 = .ok (.getfield 37, 3) := by decide +kernel
theorem dX1_profit_20 : decode cX1_profit 20 = .ok (.iload_n 1, 1) := by decide +kernel
theorem dX1_profit_21 : decode cX1_profit 21 = .ok (.invokestatic 57, 3) := by decide +kernel
theorem dX1_profit_24 : decode cX1_profit 24 = .ok (.ifCond .eq 19, 3) := by decide +kernel
theorem dX1_profit_27 : decode cX1_profit 27 = .ok (.aload_n 0, 1) := by decide +kernel
theorem dX1_profit_28 : decode cX1_profit 28 = .ok (.getfield 28, 3) := by decide +kernel
theorem dX1_profit_31 : decode cX1_profit 31 = .ok (.iload_n 1, 1) := by decide +kernel
theorem dX1_profit_32 : decode cX1_profit 32 = .ok (.iaload, 1) := by decide +kernel
theorem dX1_profit_33 : decode cX1_profit 33 = .ok (.aload_n 0, 1) := by decide +kernel
theorem dX1_profit_34 : decode cX1_profit 34 = .ok (.getfield 21, 3) := by decide +kernel
theorem dX1_profit_37 : decode cX1_profit 37 = .ok (.iload_n 1, 1) := by decide +kernel
theorem dX1_profit_38 : decode cX1_profit 38 = .ok (.iaload, 1) := by decide +kernel
theorem dX1_profit_39 : decode cX1_profit 39 = .ok (.isub, 1) := by decide +kernel
theorem dX1_profit_40 : decode cX1_profit 40 = .ok (.goto 4, 3) := by decide +kernel
theorem dX1_profit_43 : decode cX1_profit 43 = .ok (.iconst 0, 1) := by decide +kernel
theorem dX1_profit_44 : decode cX1_profit 44 = .ok (.ireturn, 1) := by decide +kernel
theorem dX1_offer_0 : decode cX1_offer 0 = .ok (.aload_n 0, 1) := by decide +kernel
theorem dX1_offer_1 : decode cX1_offer 1 = .ok (.iload_n 2, 1) := by decide +kernel
theorem dX1_offer_2 : decode cX1_offer 2 = .ok (.invokevirtual 79, 3) := by decide +kernel
theorem dX1_offer_5 : decode cX1_offer 5 = .ok (.istore 4, 2) := by decide +kernel
theorem dX1_offer_7 : decode cX1_offer 7 = .ok (.aload_n 0, 1) := by decide +kernel
theorem dX1_offer_8 : decode cX1_offer 8 = .ok (.getfield 47, 3) := by decide +kernel
theorem dX1_offer_11 : decode cX1_offer 11 = .ok (.aload_n 0, 1) := by decide +kernel
theorem dX1_offer_12 : decode cX1_offer 12 = .ok (.getfield 34, 3) := by decide +kernel
theorem dX1_offer_15 : decode cX1_offer 15 = .ok (.iconst 1, 1) := by decide +kernel
theorem dX1_offer_16 : decode cX1_offer 16 = .ok (.iload_n 1, 1) := by decide +kernel
theorem dX1_offer_17 : decode cX1_offer 17 = .ok (.ishl, 1) := by decide +kernel
theorem dX1_offer_18 : decode cX1_offer 18 = .ok (.ior, 1) := by decide +kernel
theorem dX1_offer_19 : decode cX1_offer 19 = .ok (.invokevirtual 83, 3) := by decide +kernel
theorem dX1_offer_22 : decode cX1_offer 22 = .ok (.ifCond .ne 45, 3) := by decide +kernel
theorem dX1_offer_25 : decode cX1_offer 25 = .ok (.aload_n 0, 1) := by decide +kernel
theorem dX1_offer_26 : decode cX1_offer 26 = .ok (.dup, 1) := by decide +kernel
theorem dX1_offer_27 : decode cX1_offer 27 = .ok (.getfield 37, 3) := by decide +kernel
theorem dX1_offer_30 : decode cX1_offer 30 = .ok (.iconst 1, 1) := by decide +kernel
theorem dX1_offer_31 : decode cX1_offer 31 = .ok (.iload_n 1, 1) := by decide +kernel
theorem dX1_offer_32 : decode cX1_offer 32 = .ok (.ishl, 1) := by decide +kernel
theorem dX1_offer_33 : decode cX1_offer 33 = .ok (.ior, 1) := by decide +kernel
theorem dX1_offer_34 : decode cX1_offer 34 = .ok (.putfield 37, 3) := by decide +kernel
theorem dX1_offer_37 : decode cX1_offer 37 = .ok (.aload_n 0, 1) := by decide +kernel
theorem dX1_offer_38 : decode cX1_offer 38 = .ok (.getfield 28, 3) := by decide +kernel
theorem dX1_offer_41 : decode cX1_offer 41 = .ok (.iload_n 1, 1) := by decide +kernel
theorem dX1_offer_42 : decode cX1_offer 42 = .ok (.aload_n 0, 1) := by decide +kernel
theorem dX1_offer_43 : decode cX1_offer 43 = .ok (.iload_n 2, 1) := by decide +kernel
theorem dX1_offer_44 : decode cX1_offer 44 = .ok (.iconst 1, 1) := by decide +kernel
theorem dX1_offer_45 : decode cX1_offer 45 = .ok (.isub, 1) := by decide +kernel
theorem dX1_offer_46 : decode cX1_offer 46 = .ok (.invokevirtual 79, 3) := by decide +kernel
theorem dX1_offer_49 : decode cX1_offer 49 = .ok (.aload_n 0, 1) := by decide +kernel
theorem dX1_offer_50 : decode cX1_offer 50 = .ok (.getfield 25, 3) := by decide +kernel
theorem dX1_offer_53 : decode cX1_offer 53 = .ok (.iload_n 1, 1) := by decide +kernel
theorem dX1_offer_54 : decode cX1_offer 54 = .ok (.iaload, 1) := by decide +kernel
theorem dX1_offer_55 : decode cX1_offer 55 = .ok (.imul, 1) := by decide +kernel
theorem dX1_offer_56 : decode cX1_offer 56 = .ok (.iastore, 1) := by decide +kernel
theorem dX1_offer_57 : decode cX1_offer 57 = .ok (.aload_n 0, 1) := by decide +kernel
theorem dX1_offer_58 : decode cX1_offer 58 = .ok (.getfield 31, 3) := by decide +kernel
theorem dX1_offer_61 : decode cX1_offer 61 = .ok (.iload_n 1, 1) := by decide +kernel
theorem dX1_offer_62 : decode cX1_offer 62 = .ok (.iload_n 2, 1) := by decide +kernel
theorem dX1_offer_63 : decode cX1_offer 63 = .ok (.iastore, 1) := by decide +kernel
theorem dX1_offer_64 : decode cX1_offer 64 = .ok (.goto 47, 3) := by decide +kernel
theorem dX1_offer_67 : decode cX1_offer 67 = .ok (.iload 4, 2) := by decide +kernel
theorem dX1_offer_69 : decode cX1_offer 69 = .ok (.ifCond .eq 16, 3) := by decide +kernel
theorem dX1_offer_72 : decode cX1_offer 72 = .ok (.iload 4, 2) := by decide +kernel
theorem dX1_offer_74 : decode cX1_offer 74 = .ok (.aload_n 0, 1) := by decide +kernel
theorem dX1_offer_75 : decode cX1_offer 75 = .ok (.getfield 25, 3) := by decide +kernel
theorem dX1_offer_78 : decode cX1_offer 78 = .ok (.iload_n 1, 1) := by decide +kernel
theorem dX1_offer_79 : decode cX1_offer 79 = .ok (.iaload, 1) := by decide +kernel
theorem dX1_offer_80 : decode cX1_offer 80 = .ok (.imul, 1) := by decide +kernel
theorem dX1_offer_81 : decode cX1_offer 81 = .ok (.iload_n 3, 1) := by decide +kernel
theorem dX1_offer_82 : decode cX1_offer 82 = .ok (.if_icmp .ge 29, 3) := by decide +kernel
theorem dX1_offer_85 : decode cX1_offer 85 = .ok (.aload_n 0, 1) := by decide +kernel
theorem dX1_offer_86 : decode cX1_offer 86 = .ok (.dup, 1) := by decide +kernel
theorem dX1_offer_87 : decode cX1_offer 87 = .ok (.getfield 34, 3) := by decide +kernel
theorem dX1_offer_90 : decode cX1_offer 90 = .ok (.iconst 1, 1) := by decide +kernel
theorem dX1_offer_91 : decode cX1_offer 91 = .ok (.iload_n 1, 1) := by decide +kernel
theorem dX1_offer_92 : decode cX1_offer 92 = .ok (.ishl, 1) := by decide +kernel
theorem dX1_offer_93 : decode cX1_offer 93 = .ok (.ior, 1) := by decide +kernel
theorem dX1_offer_94 : decode cX1_offer 94 = .ok (.putfield 34, 3) := by decide +kernel
theorem dX1_offer_97 : decode cX1_offer 97 = .ok (.aload_n 0, 1) := by decide +kernel
theorem dX1_offer_98 : decode cX1_offer 98 = .ok (.getfield 28, 3) := by decide +kernel
theorem dX1_offer_101 : decode cX1_offer 101 = .ok (.iload_n 1, 1) := by decide +kernel
theorem dX1_offer_102 : decode cX1_offer 102 = .ok (.iconst 0, 1) := by decide +kernel
theorem dX1_offer_103 : decode cX1_offer 103 = .ok (.iastore, 1) := by decide +kernel
theorem dX1_offer_104 : decode cX1_offer 104 = .ok (.aload_n 0, 1) := by decide +kernel
theorem dX1_offer_105 : decode cX1_offer 105 = .ok (.getfield 31, 3) := by decide +kernel
theorem dX1_offer_108 : decode cX1_offer 108 = .ok (.iload_n 1, 1) := by decide +kernel
theorem dX1_offer_109 : decode cX1_offer 109 = .ok (.iload_n 2, 1) := by decide +kernel
theorem dX1_offer_110 : decode cX1_offer 110 = .ok (.iastore, 1) := by decide +kernel
theorem dX1_offer_111 : decode cX1_offer 111 = .ok (.return_, 1) := by decide +kernel
theorem dX1_priceIn_0 : decode cX1_priceIn 0 = .ok (.iload_n 1, 1) := by decide +kernel
theorem dX1_priceIn_1 : decode cX1_priceIn 1 = .ok (.ifCond .gt 10, 3) := by decide +kernel
theorem dX1_priceIn_4 : decode cX1_priceIn 4 = .ok (.aload_n 0, 1) := by decide +kernel
theorem dX1_priceIn_5 : decode cX1_priceIn 5 = .ok (.getfield 15, 3) := by decide +kernel
theorem dX1_priceIn_8 : decode cX1_priceIn 8 = .ok (.goto 18, 3) := by decide +kernel
theorem dX1_priceIn_11 : decode cX1_priceIn 11 = .ok (.iconst 0, 1) := by decide +kernel
theorem dX1_priceIn_12 : decode cX1_priceIn 12 = .ok (.aload_n 0, 1) := by decide +kernel
theorem dX1_priceIn_13 : decode cX1_priceIn 13 = .ok (.getfield 15, 3) := by decide +kernel
theorem dX1_priceIn_16 : decode cX1_priceIn 16 = .ok (.iload_n 1, 1) := by decide +kernel
theorem dX1_priceIn_17 : decode cX1_priceIn 17 = .ok (.aload_n 0, 1) := by decide +kernel
theorem dX1_priceIn_18 : decode cX1_priceIn 18 = .ok (.getfield 18, 3) := by decide +kernel
theorem dX1_priceIn_21 : decode cX1_priceIn 21 = .ok (.imul, 1) := by decide +kernel
theorem dX1_priceIn_22 : decode cX1_priceIn 22 = .ok (.isub, 1) := by decide +kernel
theorem dX1_priceIn_23 : decode cX1_priceIn 23 = .ok (.invokestatic 88, 3) := by decide +kernel
theorem dX1_priceIn_26 : decode cX1_priceIn 26 = .ok (.ireturn, 1) := by decide +kernel
theorem dX1_allPaid_0 : decode cX1_allPaid 0 = .ok (.iconst 0, 1) := by decide +kernel
theorem dX1_allPaid_1 : decode cX1_allPaid 1 = .ok (.istore_n 1, 1) := by decide +kernel
theorem dX1_allPaid_2 : decode cX1_allPaid 2 = .ok (.iconst 0, 1) := by decide +kernel
theorem dX1_allPaid_3 : decode cX1_allPaid 3 = .ok (.istore_n 2, 1) := by decide +kernel
theorem dX1_allPaid_4 : decode cX1_allPaid 4 = .ok (.iload_n 2, 1) := by decide +kernel
theorem dX1_allPaid_5 : decode cX1_allPaid 5 = .ok (.aload_n 0, 1) := by decide +kernel
theorem dX1_allPaid_6 : decode cX1_allPaid 6 = .ok (.getfield 43, 3) := by decide +kernel
theorem dX1_allPaid_9 : decode cX1_allPaid 9 = .ok (.getfield 61, 3) := by decide +kernel
theorem dX1_allPaid_12 : decode cX1_allPaid 12 = .ok (.if_icmp .ge 33, 3) := by decide +kernel
theorem dX1_allPaid_15 : decode cX1_allPaid 15 = .ok (.iload_n 1, 1) := by decide +kernel
theorem dX1_allPaid_16 : decode cX1_allPaid 16 = .ok (.aload_n 0, 1) := by decide +kernel
theorem dX1_allPaid_17 : decode cX1_allPaid 17 = .ok (.getfield 37, 3) := by decide +kernel
theorem dX1_allPaid_20 : decode cX1_allPaid 20 = .ok (.iload_n 2, 1) := by decide +kernel
theorem dX1_allPaid_21 : decode cX1_allPaid 21 = .ok (.invokestatic 57, 3) := by decide +kernel
theorem dX1_allPaid_24 : decode cX1_allPaid 24 = .ok (.ifCond .eq 12, 3) := by decide +kernel
theorem dX1_allPaid_27 : decode cX1_allPaid 27 = .ok (.aload_n 0, 1) := by decide +kernel
theorem dX1_allPaid_28 : decode cX1_allPaid 28 = .ok (.getfield 28, 3) := by decide +kernel
theorem dX1_allPaid_31 : decode cX1_allPaid 31 = .ok (.iload_n 2, 1) := by decide +kernel
theorem dX1_allPaid_32 : decode cX1_allPaid 32 = .ok (.iaload, 1) := by decide +kernel
theorem dX1_allPaid_33 : decode cX1_allPaid 33 = .ok (.goto 4, 3) := by decide +kernel
theorem dX1_allPaid_36 : decode cX1_allPaid 36 = .ok (.iconst 0, 1) := by decide +kernel
theorem dX1_allPaid_37 : decode cX1_allPaid 37 = .ok (.iadd, 1) := by decide +kernel
theorem dX1_allPaid_38 : decode cX1_allPaid 38 = .ok (.istore_n 1, 1) := by decide +kernel
theorem dX1_allPaid_39 : decode cX1_allPaid 39 = .ok (.iinc 2 1, 3) := by decide +kernel
theorem dX1_allPaid_42 : decode cX1_allPaid 42 = .ok (.goto (-38), 3) := by decide +kernel
theorem dX1_allPaid_45 : decode cX1_allPaid 45 = .ok (.iload_n 1, 1) := by decide +kernel
theorem dX1_allPaid_46 : decode cX1_allPaid 46 = .ok (.ireturn, 1) := by decide +kernel
theorem dX2_init_0 : decode cX2_init 0 = .ok (.aload_n 0, 1) := by decide +kernel
theorem dX2_init_1 : decode cX2_init 1 = .ok (.invokespecial 3, 3) := by decide +kernel
theorem dX2_init_4 : decode cX2_init 4 = .ok (.aload_n 0, 1) := by decide +kernel
theorem dX2_init_5 : decode cX2_init 5 = .ok (.bipush 10, 2) := by decide +kernel
theorem dX2_init_7 : decode cX2_init 7 = .ok (.newarray .int, 2) := by decide +kernel
theorem dX2_init_9 : decode cX2_init 9 = .ok (.dup, 1) := by decide +kernel
theorem dX2_init_10 : decode cX2_init 10 = .ok (.iconst 0, 1) := by decide +kernel
theorem dX2_init_11 : decode cX2_init 11 = .ok (.iconst (-1), 1) := by decide +kernel
theorem dX2_init_12 : decode cX2_init 12 = .ok (.iastore, 1) := by decide +kernel
theorem dX2_init_13 : decode cX2_init 13 = .ok (.dup, 1) := by decide +kernel
theorem dX2_init_14 : decode cX2_init 14 = .ok (.iconst 1, 1) := by decide +kernel
theorem dX2_init_15 : decode cX2_init 15 = .ok (.iconst (-1), 1) := by decide +kernel
theorem dX2_init_16 : decode cX2_init 16 = .ok (.iastore, 1) := by decide +kernel
theorem dX2_init_17 : decode cX2_init 17 = .ok (.dup, 1) := by decide +kernel
theorem dX2_init_18 : decode cX2_init 18 = .ok (.iconst 2, 1) := by decide +kernel
theorem dX2_init_19 : decode cX2_init 19 = .ok (.iconst (-1), 1) := by decide +kernel
theorem dX2_init_20 : decode cX2_init 20 = .ok (.iastore, 1) := by decide +kernel
theorem dX2_init_21 : decode cX2_init 21 = .ok (.dup, 1) := by decide +kernel
theorem dX2_init_22 : decode cX2_init 22 = .ok (.iconst 3, 1) := by decide +kernel
theorem dX2_init_23 : decode cX2_init 23 = .ok (.iconst (-1), 1) := by decide +kernel
theorem dX2_init_24 : decode cX2_init 24 = .ok (.iastore, 1) := by decide +kernel
theorem dX2_init_25 : decode cX2_init 25 = .ok (.dup, 1) := by decide +kernel
theorem dX2_init_26 : decode cX2_init 26 = .ok (.iconst 4, 1) := by decide +kernel
theorem dX2_init_27 : decode cX2_init 27 = .ok (.iconst (-1), 1) := by decide +kernel
theorem dX2_init_28 : decode cX2_init 28 = .ok (.iastore, 1) := by decide +kernel
theorem dX2_init_29 : decode cX2_init 29 = .ok (.dup, 1) := by decide +kernel
theorem dX2_init_30 : decode cX2_init 30 = .ok (.iconst 5, 1) := by decide +kernel
theorem dX2_init_31 : decode cX2_init 31 = .ok (.iconst (-1), 1) := by decide +kernel
theorem dX2_init_32 : decode cX2_init 32 = .ok (.iastore, 1) := by decide +kernel
theorem dX2_init_33 : decode cX2_init 33 = .ok (.dup, 1) := by decide +kernel
theorem dX2_init_34 : decode cX2_init 34 = .ok (.bipush 6, 2) := by decide +kernel
theorem dX2_init_36 : decode cX2_init 36 = .ok (.iconst (-1), 1) := by decide +kernel
theorem dX2_init_37 : decode cX2_init 37 = .ok (.iastore, 1) := by decide +kernel
theorem dX2_init_38 : decode cX2_init 38 = .ok (.dup, 1) := by decide +kernel
theorem dX2_init_39 : decode cX2_init 39 = .ok (.bipush 7, 2) := by decide +kernel
theorem dX2_init_41 : decode cX2_init 41 = .ok (.iconst (-1), 1) := by decide +kernel
theorem dX2_init_42 : decode cX2_init 42 = .ok (.iastore, 1) := by decide +kernel
theorem dX2_init_43 : decode cX2_init 43 = .ok (.dup, 1) := by decide +kernel
theorem dX2_init_44 : decode cX2_init 44 = .ok (.bipush 8, 2) := by decide +kernel
theorem dX2_init_46 : decode cX2_init 46 = .ok (.iconst (-1), 1) := by decide +kernel
theorem dX2_init_47 : decode cX2_init 47 = .ok (.iastore, 1) := by decide +kernel
theorem dX2_init_48 : decode cX2_init 48 = .ok (.dup, 1) := by decide +kernel
theorem dX2_init_49 : decode cX2_init 49 = .ok (.bipush 9, 2) := by decide +kernel
theorem dX2_init_51 : decode cX2_init 51 = .ok (.iconst (-1), 1) := by decide +kernel
theorem dX2_init_52 : decode cX2_init 52 = .ok (.iastore, 1) := by decide +kernel
theorem dX2_init_53 : decode cX2_init 53 = .ok (.putfield 9, 3) := by decide +kernel
theorem dX2_init_56 : decode cX2_init 56 = .ok (.aload_n 0, 1) := by decide +kernel
theorem dX2_init_57 : decode cX2_init 57 = .ok (.bipush 10, 2) := by decide +kernel
theorem dX2_init_59 : decode cX2_init 59 = .ok (.newarray .int, 2) := by decide +kernel
theorem dX2_init_61 : decode cX2_init 61 = .ok (.dup, 1) := by decide +kernel
theorem dX2_init_62 : decode cX2_init 62 = .ok (.iconst 0, 1) := by decide +kernel
theorem dX2_init_63 : decode cX2_init 63 = .ok (.iconst (-1), 1) := by decide +kernel
theorem dX2_init_64 : decode cX2_init 64 = .ok (.iastore, 1) := by decide +kernel
theorem dX2_init_65 : decode cX2_init 65 = .ok (.dup, 1) := by decide +kernel
theorem dX2_init_66 : decode cX2_init 66 = .ok (.iconst 1, 1) := by decide +kernel
theorem dX2_init_67 : decode cX2_init 67 = .ok (.iconst (-1), 1) := by decide +kernel
theorem dX2_init_68 : decode cX2_init 68 = .ok (.iastore, 1) := by decide +kernel
theorem dX2_init_69 : decode cX2_init 69 = .ok (.dup, 1) := by decide +kernel
theorem dX2_init_70 : decode cX2_init 70 = .ok (.iconst 2, 1) := by decide +kernel
theorem dX2_init_71 : decode cX2_init 71 = .ok (.iconst (-1), 1) := by decide +kernel
theorem dX2_init_72 : decode cX2_init 72 = .ok (.iastore, 1) := by decide +kernel
theorem dX2_init_73 : decode cX2_init 73 = .ok (.dup, 1) := by decide +kernel
theorem dX2_init_74 : decode cX2_init 74 = .ok (.iconst 3, 1) := by decide +kernel
theorem dX2_init_75 : decode cX2_init 75 = .ok (.iconst (-1), 1) := by decide +kernel
theorem dX2_init_76 : decode cX2_init 76 = .ok (.iastore, 1) := by decide +kernel
theorem dX2_init_77 : decode cX2_init 77 = .ok (.dup, 1) := by decide +kernel
theorem dX2_init_78 : decode cX2_init 78 = .ok (.iconst 4, 1) := by decide +kernel
theorem dX2_init_79 : decode cX2_init 79 = .ok (.iconst (-1), 1) := by decide +kernel
theorem dX2_init_80 : decode cX2_init 80 = .ok (.iastore, 1) := by decide +kernel
theorem dX2_init_81 : decode cX2_init 81 = .ok (.dup, 1) := by decide +kernel
theorem dX2_init_82 : decode cX2_init 82 = .ok (.iconst 5, 1) := by decide +kernel
theorem dX2_init_83 : decode cX2_init 83 = .ok (.iconst (-1), 1) := by decide +kernel
theorem dX2_init_84 : decode cX2_init 84 = .ok (.iastore, 1) := by decide +kernel
theorem dX2_init_85 : decode cX2_init 85 = .ok (.dup, 1) := by decide +kernel
theorem dX2_init_86 : decode cX2_init 86 = .ok (.bipush 6, 2) := by decide +kernel
theorem dX2_init_88 : decode cX2_init 88 = .ok (.iconst (-1), 1) := by decide +kernel
theorem dX2_init_89 : decode cX2_init 89 = .ok (.iastore, 1) := by decide +kernel
theorem dX2_init_90 : decode cX2_init 90 = .ok (.dup, 1) := by decide +kernel
theorem dX2_init_91 : decode cX2_init 91 = .ok (.bipush 7, 2) := by decide +kernel
theorem dX2_init_93 : decode cX2_init 93 = .ok (.iconst (-1), 1) := by decide +kernel
theorem dX2_init_94 : decode cX2_init 94 = .ok (.iastore, 1) := by decide +kernel
theorem dX2_init_95 : decode cX2_init 95 = .ok (.dup, 1) := by decide +kernel
theorem dX2_init_96 : decode cX2_init 96 = .ok (.bipush 8, 2) := by decide +kernel
theorem dX2_init_98 : decode cX2_init 98 = .ok (.iconst (-1), 1) := by decide +kernel
theorem dX2_init_99 : decode cX2_init 99 = .ok (.iastore, 1) := by decide +kernel
theorem dX2_init_100 : decode cX2_init 100 = .ok (.dup, 1) := by decide +kernel
theorem dX2_init_101 : decode cX2_init 101 = .ok (.bipush 9, 2) := by decide +kernel
theorem dX2_init_103 : decode cX2_init 103 = .ok (.iconst (-1), 1) := by decide +kernel
theorem dX2_init_104 : decode cX2_init 104 = .ok (.iastore, 1) := by decide +kernel
theorem dX2_init_105 : decode cX2_init 105 = .ok (.putfield 15, 3) := by decide +kernel
theorem dX2_init_108 : decode cX2_init 108 = .ok (.aload_n 0, 1) := by decide +kernel
theorem dX2_init_109 : decode cX2_init 109 = .ok (.sipush 1024, 3) := by decide +kernel
theorem dX2_init_112 : decode cX2_init 112 = .ok (.newarray .int, 2) := by decide +kernel
theorem dX2_init_114 : decode cX2_init 114 = .ok (.putfield 18, 3) := by decide +kernel
theorem dX2_init_117 : decode cX2_init 117 = .ok (.aload_n 0, 1) := by decide +kernel
theorem dX2_init_118 : decode cX2_init 118 = .ok (.aload_n 1, 1) := by decide +kernel
theorem dX2_init_119 : decode cX2_init 119 = .ok (.putfield 21, 3) := by decide +kernel
theorem dX2_init_122 : decode cX2_init 122 = .ok (.return_, 1) := by decide +kernel
theorem dX2_fewestWeeks_0 : decode cX2_fewestWeeks 0 = .ok (.aload_n 0, 1) := by decide +kernel
theorem dX2_fewestWeeks_1 : decode cX2_fewestWeeks 1 = .ok (.invokevirtual 25, 3) := by decide +kernel
theorem dX2_fewestWeeks_4 : decode cX2_fewestWeeks 4 = .ok (.istore_n 2, 1) := by decide +kernel
theorem dX2_fewestWeeks_5 : decode cX2_fewestWeeks 5 = .ok (.iload_n 2, 1) := by decide +kernel
theorem dX2_fewestWeeks_6 : decode cX2_fewestWeeks 6 = .ok (.istore_n 3, 1) := by decide +kernel
theorem dX2_fewestWeeks_7 : decode cX2_fewestWeeks 7 = .ok (.iload_n 3, 1) := by decide +kernel
theorem dX2_fewestWeeks_8 : decode cX2_fewestWeeks 8 = .ok (.ifCond .lt 44, 3) := by decide +kernel
theorem dX2_fewestWeeks_11 : decode cX2_fewestWeeks 11 = .ok (.iload_n 3, 1) := by decide +kernel
theorem dX2_fewestWeeks_12 : decode cX2_fewestWeeks 12 = .ok (.iload_n 2, 1) := by decide +kernel
theorem dX2_fewestWeeks_13 : decode cX2_fewestWeeks 13 = .ok (.iconst (-1), 1) := by decide +kernel
theorem dX2_fewestWeeks_14 : decode cX2_fewestWeeks 14 = .ok (.ixor, 1) := by decide +kernel
theorem dX2_fewestWeeks_15 : decode cX2_fewestWeeks 15 = .ok (.iand, 1) := by decide +kernel
theorem dX2_fewestWeeks_16 : decode cX2_fewestWeeks 16 = .ok (.ifCond .ne 30, 3) := by decide +kernel
theorem dX2_fewestWeeks_19 : decode cX2_fewestWeeks 19 = .ok (.aload_n 0, 1) := by decide +kernel
theorem dX2_fewestWeeks_20 : decode cX2_fewestWeeks 20 = .ok (.getfield 18, 3) := by decide +kernel
theorem dX2_fewestWeeks_23 : decode cX2_fewestWeeks 23 = .ok (.iload_n 3, 1) := by decide +kernel
theorem dX2_fewestWeeks_24 : decode cX2_fewestWeeks 24 = .ok (.aload_n 0, 1) := by decide +kernel
theorem dX2_fewestWeeks_25 : decode cX2_fewestWeeks 25 = .ok (.iload_n 3, 1) := by decide +kernel
theorem dX2_fewestWeeks_26 : decode cX2_fewestWeeks 26 = .ok (.invokevirtual 29, 3) := by decide +kernel
theorem dX2_fewestWeeks_29 : decode cX2_fewestWeeks 29 = .ok (.ifCond .eq 13, 3) := by decide +kernel
theorem dX2_fewestWeeks_32 : decode cX2_fewestWeeks 32 = .ok (.aload_n 0, 1) := by decide +kernel
theorem dX2_fewestWeeks_33 : decode cX2_fewestWeeks 33 = .ok (.iload_n 3, 1) := by decide +kernel
theorem dX2_fewestWeeks_34 : decode cX2_fewestWeeks 34 = .ok (.iload_n 2, 1) := by decide +kernel
theorem dX2_fewestWeeks_35 : decode cX2_fewestWeeks 35 = .ok (.iload_n 1, 1) := by decide +kernel
theorem dX2_fewestWeeks_36 : decode cX2_fewestWeeks 36 = .ok (.invokevirtual 33, 3) := by decide +kernel
theorem dX2_fewestWeeks_39 : decode cX2_fewestWeeks 39 = .ok (.goto 6, 3) := by decide +kernel
theorem dX2_fewestWeeks_42 : decode cX2_fewestWeeks 42 = .ok (.sipush 1000, 3) := by decide +kernel
theorem dX2_fewestWeeks_45 : decode cX2_fewestWeeks 45 = .ok (.iastore, 1) := by decide +kernel
theorem dX2_fewestWeeks_46 : decode cX2_fewestWeeks 46 = .ok (.iinc 3 (-1), 3) := by decide +kernel
theorem dX2_fewestWeeks_49 : decode cX2_fewestWeeks 49 = .ok (.goto (-42), 3) := by decide +kernel
theorem dX2_fewestWeeks_52 : decode cX2_fewestWeeks 52 = .ok (.aload_n 0, 1) := by decide +kernel
theorem dX2_fewestWeeks_53 : decode cX2_fewestWeeks 53 = .ok (.getfield 18, 3) := by decide +kernel
theorem dX2_fewestWeeks_56 : decode cX2_fewestWeeks 56 = .ok (.iconst 0, 1) := by decide +kernel
theorem dX2_fewestWeeks_57 : decode cX2_fewestWeeks 57 = .ok (.iaload, 1) := by decide +kernel
theorem dX2_fewestWeeks_58 : decode cX2_fewestWeeks 58 = .ok (.ireturn, 1) := by decide +kernel
theorem dX2_movedIn_0 : decode cX2_movedIn 0 = .ok (.aload_n 0, 1) := by decide +kernel
theorem dX2_movedIn_1 : decode cX2_movedIn 1 = .ok (.invokevirtual 25, 3) := by decide +kernel
theorem dX2_movedIn_4 : decode cX2_movedIn 4 = .ok (.istore_n 3, 1) := by decide +kernel
theorem dX2_movedIn_5 : decode cX2_movedIn 5 = .ok (.iconst 0, 1) := by decide +kernel
theorem dX2_movedIn_6 : decode cX2_movedIn 6 = .ok (.istore 4, 2) := by decide +kernel
theorem dX2_movedIn_8 : decode cX2_movedIn 8 = .ok (.iconst 0, 1) := by decide +kernel
theorem dX2_movedIn_9 : decode cX2_movedIn 9 = .ok (.istore 5, 2) := by decide +kernel
theorem dX2_movedIn_11 : decode cX2_movedIn 11 = .ok (.iconst 0, 1) := by decide +kernel
theorem dX2_movedIn_12 : decode cX2_movedIn 12 = .ok (.istore 6, 2) := by decide +kernel
theorem dX2_movedIn_14 : decode cX2_movedIn 14 = .ok (.iload 6, 2) := by decide +kernel
theorem dX2_movedIn_16 : decode cX2_movedIn 16 = .ok (.iload_n 1, 1) := by decide +kernel
theorem dX2_movedIn_17 : decode cX2_movedIn 17 = .ok (.if_icmp .gt 38, 3) := by decide +kernel
theorem dX2_movedIn_20 : decode cX2_movedIn 20 = .ok (.iload 6, 2) := by decide +kernel
theorem dX2_movedIn_22 : decode cX2_movedIn 22 = .ok (.bipush 10, 2) := by decide +kernel
theorem dX2_movedIn_24 : decode cX2_movedIn 24 = .ok (.if_icmp .ge 31, 3) := by decide +kernel
theorem dX2_movedIn_27 : decode cX2_movedIn 27 = .ok (.aload_n 0, 1) := by decide +kernel
theorem dX2_movedIn_28 : decode cX2_movedIn 28 = .ok (.iload 4, 2) := by decide +kernel
theorem dX2_movedIn_30 : decode cX2_movedIn 30 = .ok (.iload_n 3, 1) := by decide +kernel
theorem dX2_movedIn_31 : decode cX2_movedIn 31 = .ok (.iload 4, 2) := by decide +kernel
theorem dX2_movedIn_33 : decode cX2_movedIn 33 = .ok (.iconst (-1), 1) := by decide +kernel
theorem dX2_movedIn_34 : decode cX2_movedIn 34 = .ok (.ixor, 1) := by decide +kernel
theorem dX2_movedIn_35 : decode cX2_movedIn 35 = .ok (.iand, 1) := by decide +kernel
theorem dX2_movedIn_36 : decode cX2_movedIn 36 = .ok (.iload_n 2, 1) := by decide +kernel
theorem dX2_movedIn_37 : decode cX2_movedIn 37 = .ok (.invokevirtual 37, 3) := by decide +kernel
theorem dX2_movedIn_40 : decode cX2_movedIn 40 = .ok (.istore 5, 2) := by decide +kernel
theorem dX2_movedIn_42 : decode cX2_movedIn 42 = .ok (.iload 4, 2) := by decide +kernel
theorem dX2_movedIn_44 : decode cX2_movedIn 44 = .ok (.iload 5, 2) := by decide +kernel
theorem dX2_movedIn_46 : decode cX2_movedIn 46 = .ok (.ior, 1) := by decide +kernel
theorem dX2_movedIn_47 : decode cX2_movedIn 47 = .ok (.istore 4, 2) := by decide +kernel
theorem dX2_movedIn_49 : decode cX2_movedIn 49 = .ok (.iinc 6 1, 3) := by decide +kernel
theorem dX2_movedIn_52 : decode cX2_movedIn 52 = .ok (.goto (-38), 3) := by decide +kernel
theorem dX2_movedIn_55 : decode cX2_movedIn 55 = .ok (.iload 5, 2) := by decide +kernel
theorem dX2_movedIn_57 : decode cX2_movedIn 57 = .ok (.ireturn, 1) := by decide +kernel
theorem dX2_brokenBy_0 : decode cX2_brokenBy 0 = .ok (.iconst 0, 1) := by decide +kernel
theorem dX2_brokenBy_1 : decode cX2_brokenBy 1 = .ok (.istore_n 3, 1) := by decide +kernel
theorem dX2_brokenBy_2 : decode cX2_brokenBy 2 = .ok (.iconst 0, 1) := by decide +kernel
theorem dX2_brokenBy_3 : decode cX2_brokenBy 3 = .ok (.istore 4, 2) := by decide +kernel
theorem dX2_brokenBy_5 : decode cX2_brokenBy 5 = .ok (.iload 4, 2) := by decide +kernel
theorem dX2_brokenBy_7 : decode cX2_brokenBy 7 = .ok (.aload_n 0, 1) := by decide +kernel
theorem dX2_brokenBy_8 : decode cX2_brokenBy 8 = .ok (.getfield 21, 3) := by decide +kernel
theorem dX2_brokenBy_11 : decode cX2_brokenBy 11 = .ok (.getfield 40, 3) := by decide +kernel
theorem dX2_brokenBy_14 : decode cX2_brokenBy 14 = .ok (.if_icmp .ge 46, 3) := by decide +kernel
theorem dX2_brokenBy_17 : decode cX2_brokenBy 17 = .ok (.iload 4, 2) := by decide +kernel
theorem dX2_brokenBy_19 : decode cX2_brokenBy 19 = .ok (.iload_n 1, 1) := by decide +kernel
theorem dX2_brokenBy_20 : decode cX2_brokenBy 20 = .ok (.if_icmp .eq 34, 3) := by decide +kernel
theorem dX2_brokenBy_23 : decode cX2_brokenBy 23 = .ok (.aload_n 0, 1) := by decide +kernel
theorem dX2_brokenBy_24 : decode cX2_brokenBy 24 = .ok (.getfield 21, 3) := by decide +kernel
theorem dX2_brokenBy_27 : decode cX2_brokenBy 27 = .ok (.iload_n 1, 1) := by decide +kernel
theorem dX2_brokenBy_28 : decode cX2_brokenBy 28 = .ok (.iload 4, 2) := by decide +kernel
theorem dX2_brokenBy_30 : decode cX2_brokenBy 30 = .ok (.aload_n 0, 1) := by decide +kernel
theorem dX2_brokenBy_31 : decode cX2_brokenBy 31 = .ok (.getfield 15, 3) := by decide +kernel
theorem dX2_brokenBy_34 : decode cX2_brokenBy 34 = .ok (.iload 4, 2) := by decide +kernel
theorem dX2_brokenBy_36 : decode cX2_brokenBy 36 = .ok (.iaload, 1) := by decide +kernel
theorem dX2_brokenBy_37 : decode cX2_brokenBy 37 = .ok (.invokevirtual 46, 3) := by decide +kernel
theorem dX2_brokenBy_40 : decode cX2_brokenBy 40 = .ok (.iload_n 2, 1) := by decide +kernel
theorem dX2_brokenBy_41 : decode cX2_brokenBy 41 = .ok (.invokestatic 49, 3) := by decide +kernel
theorem dX2_brokenBy_44 : decode cX2_brokenBy 44 = .ok (.ifCond .eq 10, 3) := by decide +kernel
theorem dX2_brokenBy_47 : decode cX2_brokenBy 47 = .ok (.iload_n 3, 1) := by decide +kernel
theorem dX2_brokenBy_48 : decode cX2_brokenBy 48 = .ok (.iconst 1, 1) := by decide +kernel
theorem dX2_brokenBy_49 : decode cX2_brokenBy 49 = .ok (.iload 4, 2) := by decide +kernel
theorem dX2_brokenBy_51 : decode cX2_brokenBy 51 = .ok (.ishl, 1) := by decide +kernel
theorem dX2_brokenBy_52 : decode cX2_brokenBy 52 = .ok (.ior, 1) := by decide +kernel
theorem dX2_brokenBy_53 : decode cX2_brokenBy 53 = .ok (.istore_n 3, 1) := by decide +kernel
theorem dX2_brokenBy_54 : decode cX2_brokenBy 54 = .ok (.iinc 4 1, 3) := by decide +kernel
theorem dX2_brokenBy_57 : decode cX2_brokenBy 57 = .ok (.goto (-52), 3) := by decide +kernel
theorem dX2_brokenBy_60 : decode cX2_brokenBy 60 = .ok (.iload_n 3, 1) := by decide +kernel
theorem dX2_brokenBy_61 : decode cX2_brokenBy 61 = .ok (.ireturn, 1) := by decide +kernel
theorem dX2_freeFor_0 : decode cX2_freeFor 0 = .ok (.aload_n 0, 1) := by decide +kernel
theorem dX2_freeFor_1 : decode cX2_freeFor 1 = .ok (.getfield 21, 3) := by decide +kernel
theorem dX2_freeFor_4 : decode cX2_freeFor 4 = .ok (.iload_n 1, 1) := by decide +kernel
theorem dX2_freeFor_5 : decode cX2_freeFor 5 = .ok (.invokevirtual 53, 3) := by decide +kernel
theorem dX2_freeFor_8 : decode cX2_freeFor 8 = .ok (.istore_n 2, 1) := by decide +kernel
theorem dX2_freeFor_9 : decode cX2_freeFor 9 = .ok (.iconst 0, 1) := by decide +kernel
theorem dX2_freeFor_10 : decode cX2_freeFor 10 = .ok (.istore_n 3, 1) := by decide +kernel
theorem dX2_freeFor_11 : decode cX2_freeFor 11 = .ok (.iload_n 3, 1) := by decide +kernel
theorem dX2_freeFor_12 : decode cX2_freeFor 12 = .ok (.aload_n 0, 1) := by decide +kernel
theorem dX2_freeFor_13 : decode cX2_freeFor 13 = .ok (.getfield 21, 3) := by decide +kernel
theorem dX2_freeFor_16 : decode cX2_freeFor 16 = .ok (.getfield 40, 3) := by decide +kernel
theorem dX2_freeFor_19 : decode cX2_freeFor 19 = .ok (.if_icmp .ge 34, 3) := by decide +kernel
theorem dX2_freeFor_22 : decode cX2_freeFor 22 = .ok (.iload_n 3, 1) := by decide +kernel
theorem dX2_freeFor_23 : decode cX2_freeFor 23 = .ok (.iload_n 1, 1) := by decide +kernel
theorem dX2_freeFor_24 : decode cX2_freeFor 24 = .ok (.if_icmp .eq 23, 3) := by decide +kernel
theorem dX2_freeFor_27 : decode cX2_freeFor 27 = .ok (.iload_n 2, 1) := by decide +kernel
theorem dX2_freeFor_28 : decode cX2_freeFor 28 = .ok (.aload_n 0, 1) := by decide +kernel
theorem dX2_freeFor_29 : decode cX2_freeFor 29 = .ok (.getfield 21, 3) := by decide +kernel
theorem dX2_freeFor_32 : decode cX2_freeFor 32 = .ok (.iload_n 1, 1) := by decide +kernel
theorem dX2_freeFor_33 : decode cX2_freeFor 33 = .ok (.iload_n 3, 1) := by decide +kernel
theorem dX2_freeFor_34 : decode cX2_freeFor 34 = .ok (.aload_n 0, 1) := by decide +kernel
theorem dX2_freeFor_35 : decode cX2_freeFor 35 = .ok (.getfield 15, 3) := by decide +kernel
theorem dX2_freeFor_38 : decode cX2_freeFor 38 = .ok (.iload_n 3, 1) := by decide +kernel
theorem dX2_freeFor_39 : decode cX2_freeFor 39 = .ok (.iaload, 1) := by decide +kernel
theorem dX2_freeFor_40 : decode cX2_freeFor 40 = .ok (.invokevirtual 46, 3) := by decide +kernel
theorem dX2_freeFor_43 : decode cX2_freeFor 43 = .ok (.iconst (-1), 1) := by decide +kernel
theorem dX2_freeFor_44 : decode cX2_freeFor 44 = .ok (.ixor, 1) := by decide +kernel
theorem dX2_freeFor_45 : decode cX2_freeFor 45 = .ok (.iand, 1) := by decide +kernel
theorem dX2_freeFor_46 : decode cX2_freeFor 46 = .ok (.istore_n 2, 1) := by decide +kernel
theorem dX2_freeFor_47 : decode cX2_freeFor 47 = .ok (.iinc 3 1, 3) := by decide +kernel
theorem dX2_freeFor_50 : decode cX2_freeFor 50 = .ok (.goto (-39), 3) := by decide +kernel
theorem dX2_freeFor_53 : decode cX2_freeFor 53 = .ok (.iload_n 2, 1) := by decide +kernel
theorem dX2_freeFor_54 : decode cX2_freeFor 54 = .ok (.ireturn, 1) := by decide +kernel
theorem dX2_toMove_0 : decode cX2_toMove 0 = .ok (.iconst 0, 1) := by decide +kernel
theorem dX2_toMove_1 : decode cX2_toMove 1 = .ok (.istore_n 1, 1) := by decide +kernel
theorem dX2_toMove_2 : decode cX2_toMove 2 = .ok (.iconst 0, 1) := by decide +kernel
theorem dX2_toMove_3 : decode cX2_toMove 3 = .ok (.istore_n 2, 1) := by decide +kernel
theorem dX2_toMove_4 : decode cX2_toMove 4 = .ok (.iload_n 2, 1) := by decide +kernel
theorem dX2_toMove_5 : decode cX2_toMove 5 = .ok (.aload_n 0, 1) := by decide +kernel
theorem dX2_toMove_6 : decode cX2_toMove 6 = .ok (.getfield 21, 3) := by decide +kernel
theorem dX2_toMove_9 : decode cX2_toMove 9 = .ok (.getfield 40, 3) := by decide +kernel
theorem dX2_toMove_12 : decode cX2_toMove 12 = .ok (.if_icmp .ge 34, 3) := by decide +kernel
theorem dX2_toMove_15 : decode cX2_toMove 15 = .ok (.iload_n 1, 1) := by decide +kernel
theorem dX2_toMove_16 : decode cX2_toMove 16 = .ok (.aload_n 0, 1) := by decide +kernel
theorem dX2_toMove_17 : decode cX2_toMove 17 = .ok (.getfield 9, 3) := by decide +kernel
theorem dX2_toMove_20 : decode cX2_toMove 20 = .ok (.iload_n 2, 1) := by decide +kernel
theorem dX2_toMove_21 : decode cX2_toMove 21 = .ok (.iaload, 1) := by decide +kernel
theorem dX2_toMove_22 : decode cX2_toMove 22 = .ok (.aload_n 0, 1) := by decide +kernel
theorem dX2_toMove_23 : decode cX2_toMove 23 = .ok (.getfield 15, 3) := by decide +kernel
theorem dX2_toMove_26 : decode cX2_toMove 26 = .ok (.iload_n 2, 1) := by decide +kernel
theorem dX2_toMove_27 : decode cX2_toMove 27 = .ok (.iaload, 1) := by decide +kernel
theorem dX2_toMove_28 : decode cX2_toMove 28 = .ok (.if_icmp .eq 9, 3) := by decide +kernel
theorem dX2_toMove_31 : decode cX2_toMove 31 = .ok (.iconst 1, 1) := by decide +kernel
theorem dX2_toMove_32 : decode cX2_toMove 32 = .ok (.iload_n 2, 1) := by decide +kernel
theorem dX2_toMove_33 : decode cX2_toMove 33 = .ok (.ishl, 1) := by decide +kernel
theorem dX2_toMove_34 : decode cX2_toMove 34 = .ok (.goto 4, 3) := by decide +kernel
theorem dX2_toMove_37 : decode cX2_toMove 37 = .ok (.iconst 0, 1) := by decide +kernel
theorem dX2_toMove_38 : decode cX2_toMove 38 = .ok (.ior, 1) := by decide +kernel
theorem dX2_toMove_39 : decode cX2_toMove 39 = .ok (.istore_n 1, 1) := by decide +kernel
theorem dX2_toMove_40 : decode cX2_toMove 40 = .ok (.iinc 2 1, 3) := by decide +kernel
theorem dX2_toMove_43 : decode cX2_toMove 43 = .ok (.goto (-39), 3) := by decide +kernel
theorem dX2_toMove_46 : decode cX2_toMove 46 = .ok (.iload_n 1, 1) := by decide +kernel
theorem dX2_toMove_47 : decode cX2_toMove 47 = .ok (.ireturn, 1) := by decide +kernel
theorem dX2_nobodyIsHeard_0 : decode cX2_nobodyIsHeard 0 = .ok (.iconst 1, 1) := by decide +kernel
theorem dX2_nobodyIsHeard_1 : decode cX2_nobodyIsHeard 1 = .ok (.istore_n 2, 1) := by decide +kernel
theorem dX2_nobodyIsHeard_2 : decode cX2_nobodyIsHeard 2 = .ok (.iload_n 2, 1) := by decide +kernel
theorem dX2_nobodyIsHeard_3 : decode cX2_nobodyIsHeard 3 = .ok (.aload_n 0, 1) := by decide +kernel
theorem dX2_nobodyIsHeard_4 : decode cX2_nobodyIsHeard 4 = .ok (.getfield 21, 3) := by decide +kernel
theorem dX2_nobodyIsHeard_7 : decode cX2_nobodyIsHeard 7 = .ok (.getfield 40, 3) := by decide +kernel
theorem dX2_nobodyIsHeard_10 : decode cX2_nobodyIsHeard 10 = .ok (.if_icmp .ge 62, 3) := by decide +kernel
theorem dX2_nobodyIsHeard_13 : decode cX2_nobodyIsHeard 13 = .ok (.aload_n 0, 1) := by decide +kernel
theorem dX2_nobodyIsHeard_14 : decode cX2_nobodyIsHeard 14 = .ok (.iload_n 2, 1) := by decide +kernel
theorem dX2_nobodyIsHeard_15 : decode cX2_nobodyIsHeard 15 = .ok (.iload_n 1, 1) := by decide +kernel
theorem dX2_nobodyIsHeard_16 : decode cX2_nobodyIsHeard 16 = .ok (.invokevirtual 57, 3) := by decide +kernel
theorem dX2_nobodyIsHeard_19 : decode cX2_nobodyIsHeard 19 = .ok (.istore_n 3, 1) := by decide +kernel
theorem dX2_nobodyIsHeard_20 : decode cX2_nobodyIsHeard 20 = .ok (.iconst 0, 1) := by decide +kernel
theorem dX2_nobodyIsHeard_21 : decode cX2_nobodyIsHeard 21 = .ok (.istore 4, 2) := by decide +kernel
theorem dX2_nobodyIsHeard_23 : decode cX2_nobodyIsHeard 23 = .ok (.iload_n 3, 1) := by decide +kernel
theorem dX2_nobodyIsHeard_24 : decode cX2_nobodyIsHeard 24 = .ok (.iconst (-1), 1) := by decide +kernel
theorem dX2_nobodyIsHeard_25 : decode cX2_nobodyIsHeard 25 = .ok (.if_icmp .eq 41, 3) := by decide +kernel
theorem dX2_nobodyIsHeard_28 : decode cX2_nobodyIsHeard 28 = .ok (.iload 4, 2) := by decide +kernel
theorem dX2_nobodyIsHeard_30 : decode cX2_nobodyIsHeard 30 = .ok (.iload_n 2, 1) := by decide +kernel
theorem dX2_nobodyIsHeard_31 : decode cX2_nobodyIsHeard 31 = .ok (.if_icmp .ge 35, 3) := by decide +kernel
theorem dX2_nobodyIsHeard_34 : decode cX2_nobodyIsHeard 34 = .ok (.aload_n 0, 1) := by decide +kernel
theorem dX2_nobodyIsHeard_35 : decode cX2_nobodyIsHeard 35 = .ok (.getfield 21, 3) := by decide +kernel
theorem dX2_nobodyIsHeard_38 : decode cX2_nobodyIsHeard 38 = .ok (.iload_n 2, 1) := by decide +kernel
theorem dX2_nobodyIsHeard_39 : decode cX2_nobodyIsHeard 39 = .ok (.iload 4, 2) := by decide +kernel
theorem dX2_nobodyIsHeard_41 : decode cX2_nobodyIsHeard 41 = .ok (.aload_n 0, 1) := by decide +kernel
theorem dX2_nobodyIsHeard_42 : decode cX2_nobodyIsHeard 42 = .ok (.iload 4, 2) := by decide +kernel
theorem dX2_nobodyIsHeard_44 : decode cX2_nobodyIsHeard 44 = .ok (.iload_n 1, 1) := by decide +kernel
theorem dX2_nobodyIsHeard_45 : decode cX2_nobodyIsHeard 45 = .ok (.invokevirtual 57, 3) := by decide +kernel
theorem dX2_nobodyIsHeard_48 : decode cX2_nobodyIsHeard 48 = .ok (.invokevirtual 46, 3) := by decide +kernel
theorem dX2_nobodyIsHeard_51 : decode cX2_nobodyIsHeard 51 = .ok (.iload_n 3, 1) := by decide +kernel
theorem dX2_nobodyIsHeard_52 : decode cX2_nobodyIsHeard 52 = .ok (.invokestatic 49, 3) := by decide +kernel
theorem dX2_nobodyIsHeard_55 : decode cX2_nobodyIsHeard 55 = .ok (.ifCond .eq 5, 3) := by decide +kernel
theorem dX2_nobodyIsHeard_58 : decode cX2_nobodyIsHeard 58 = .ok (.iconst 0, 1) := by decide +kernel
theorem dX2_nobodyIsHeard_59 : decode cX2_nobodyIsHeard 59 = .ok (.ireturn, 1) := by decide +kernel
theorem dX2_nobodyIsHeard_60 : decode cX2_nobodyIsHeard 60 = .ok (.iinc 4 1, 3) := by decide +kernel
theorem dX2_nobodyIsHeard_63 : decode cX2_nobodyIsHeard 63 = .ok (.goto (-40), 3) := by decide +kernel
theorem dX2_nobodyIsHeard_66 : decode cX2_nobodyIsHeard 66 = .ok (.iinc 2 1, 3) := by decide +kernel
theorem dX2_nobodyIsHeard_69 : decode cX2_nobodyIsHeard 69 = .ok (.goto (-67), 3) := by decide +kernel
theorem dX2_nobodyIsHeard_72 : decode cX2_nobodyIsHeard 72 = .ok (.iconst 1, 1) := by decide +kernel
theorem dX2_nobodyIsHeard_73 : decode cX2_nobodyIsHeard 73 = .ok (.ireturn, 1) := by decide +kernel
theorem dX2_channelOf_0 : decode cX2_channelOf 0 = .ok (.aload_n 0, 1) := by decide +kernel
theorem dX2_channelOf_1 : decode cX2_channelOf 1 = .ok (.getfield 21, 3) := by decide +kernel
theorem dX2_channelOf_4 : decode cX2_channelOf 4 = .ok (.iload_n 1, 1) := by decide +kernel
theorem dX2_channelOf_5 : decode cX2_channelOf 5 = .ok (.invokevirtual 61, 3) := by decide +kernel
theorem dX2_channelOf_8 : decode cX2_channelOf 8 = .ok (.ifCond .ne 5, 3) := by decide +kernel
theorem dX2_channelOf_11 : decode cX2_channelOf 11 = .ok (.iconst (-1), 1) := by decide +kernel
theorem dX2_channelOf_12 : decode cX2_channelOf 12 = .ok (.ireturn, 1) := by decide +kernel
theorem dX2_channelOf_13 : decode cX2_channelOf 13 = .ok (.iload_n 2, 1) := by decide +kernel
theorem dX2_channelOf_14 : decode cX2_channelOf 14 = .ok (.iload_n 1, 1) := by decide +kernel
theorem dX2_channelOf_15 : decode cX2_channelOf 15 = .ok (.invokestatic 49, 3) := by decide +kernel
theorem dX2_channelOf_18 : decode cX2_channelOf 18 = .ok (.ifCond .eq 12, 3) := by decide +kernel
theorem dX2_channelOf_21 : decode cX2_channelOf 21 = .ok (.aload_n 0, 1) := by decide +kernel
theorem dX2_channelOf_22 : decode cX2_channelOf 22 = .ok (.getfield 15, 3) := by decide +kernel
theorem dX2_channelOf_25 : decode cX2_channelOf 25 = .ok (.iload_n 1, 1) := by decide +kernel
theorem dX2_channelOf_26 : decode cX2_channelOf 26 = .ok (.iaload, 1) := by decide +kernel
theorem dX2_channelOf_27 : decode cX2_channelOf 27 = .ok (.goto 9, 3) := by decide +kernel
theorem dX2_channelOf_30 : decode cX2_channelOf 30 = .ok (.aload_n 0, 1) := by decide +kernel
theorem dX2_channelOf_31 : decode cX2_channelOf 31 = .ok (.getfield 9, 3) := by decide +kernel
theorem dX2_channelOf_34 : decode cX2_channelOf 34 = .ok (.iload_n 1, 1) := by decide +kernel
theorem dX2_channelOf_35 : decode cX2_channelOf 35 = .ok (.iaload, 1) := by decide +kernel
theorem dX2_channelOf_36 : decode cX2_channelOf 36 = .ok (.ireturn, 1) := by decide +kernel
theorem dX2_weeksFrom_0 : decode cX2_weeksFrom 0 = .ok (.iload_n 1, 1) := by decide +kernel
theorem dX2_weeksFrom_1 : decode cX2_weeksFrom 1 = .ok (.iload_n 2, 1) := by decide +kernel
theorem dX2_weeksFrom_2 : decode cX2_weeksFrom 2 = .ok (.if_icmp .ne 5, 3) := by decide +kernel
theorem dX2_weeksFrom_5 : decode cX2_weeksFrom 5 = .ok (.iconst 0, 1) := by decide +kernel
theorem dX2_weeksFrom_6 : decode cX2_weeksFrom 6 = .ok (.ireturn, 1) := by decide +kernel
theorem dX2_weeksFrom_7 : decode cX2_weeksFrom 7 = .ok (.iload_n 2, 1) := by decide +kernel
theorem dX2_weeksFrom_8 : decode cX2_weeksFrom 8 = .ok (.iload_n 1, 1) := by decide +kernel
theorem dX2_weeksFrom_9 : decode cX2_weeksFrom 9 = .ok (.iconst (-1), 1) := by decide +kernel
theorem dX2_weeksFrom_10 : decode cX2_weeksFrom 10 = .ok (.ixor, 1) := by decide +kernel
theorem dX2_weeksFrom_11 : decode cX2_weeksFrom 11 = .ok (.iand, 1) := by decide +kernel
theorem dX2_weeksFrom_12 : decode cX2_weeksFrom 12 = .ok (.istore 4, 2) := by decide +kernel
theorem dX2_weeksFrom_14 : decode cX2_weeksFrom 14 = .ok (.sipush 1000, 3) := by decide +kernel
theorem dX2_weeksFrom_17 : decode cX2_weeksFrom 17 = .ok (.istore 5, 2) := by decide +kernel
theorem dX2_weeksFrom_19 : decode cX2_weeksFrom 19 = .ok (.iload 4, 2) := by decide +kernel
theorem dX2_weeksFrom_21 : decode cX2_weeksFrom 21 = .ok (.istore 6, 2) := by decide +kernel
theorem dX2_weeksFrom_23 : decode cX2_weeksFrom 23 = .ok (.iload 6, 2) := by decide +kernel
theorem dX2_weeksFrom_25 : decode cX2_weeksFrom 25 = .ok (.ifCond .le 42, 3) := by decide +kernel
theorem dX2_weeksFrom_28 : decode cX2_weeksFrom 28 = .ok (.iload 6, 2) := by decide +kernel
theorem dX2_weeksFrom_30 : decode cX2_weeksFrom 30 = .ok (.invokestatic 64, 3) := by decide +kernel
theorem dX2_weeksFrom_33 : decode cX2_weeksFrom 33 = .ok (.iload_n 3, 1) := by decide +kernel
theorem dX2_weeksFrom_34 : decode cX2_weeksFrom 34 = .ok (.if_icmp .gt 21, 3) := by decide +kernel
theorem dX2_weeksFrom_37 : decode cX2_weeksFrom 37 = .ok (.iload 5, 2) := by decide +kernel
theorem dX2_weeksFrom_39 : decode cX2_weeksFrom 39 = .ok (.aload_n 0, 1) := by decide +kernel
theorem dX2_weeksFrom_40 : decode cX2_weeksFrom 40 = .ok (.getfield 18, 3) := by decide +kernel
theorem dX2_weeksFrom_43 : decode cX2_weeksFrom 43 = .ok (.iload_n 1, 1) := by decide +kernel
theorem dX2_weeksFrom_44 : decode cX2_weeksFrom 44 = .ok (.iload 6, 2) := by decide +kernel
theorem dX2_weeksFrom_46 : decode cX2_weeksFrom 46 = .ok (.ior, 1) := by decide +kernel
theorem dX2_weeksFrom_47 : decode cX2_weeksFrom 47 = .ok (.iaload, 1) := by decide +kernel
theorem dX2_weeksFrom_48 : decode cX2_weeksFrom 48 = .ok (.iconst 1, 1) := by decide +kernel
theorem dX2_weeksFrom_49 : decode cX2_weeksFrom 49 = .ok (.iadd, 1) := by decide +kernel
theorem dX2_weeksFrom_50 : decode cX2_weeksFrom 50 = .ok (.invokestatic 69, 3) := by decide +kernel
theorem dX2_weeksFrom_53 : decode cX2_weeksFrom 53 = .ok (.istore 5, 2) := by decide +kernel
theorem dX2_weeksFrom_55 : decode cX2_weeksFrom 55 = .ok (.iload 6, 2) := by decide +kernel
theorem dX2_weeksFrom_57 : decode cX2_weeksFrom 57 = .ok (.iconst 1, 1) := by decide +kernel
theorem dX2_weeksFrom_58 : decode cX2_weeksFrom 58 = .ok (.isub, 1) := by decide +kernel
theorem dX2_weeksFrom_59 : decode cX2_weeksFrom 59 = .ok (.iload 4, 2) := by decide +kernel
theorem dX2_weeksFrom_61 : decode cX2_weeksFrom 61 = .ok (.iand, 1) := by decide +kernel
theorem dX2_weeksFrom_62 : decode cX2_weeksFrom 62 = .ok (.istore 6, 2) := by decide +kernel
theorem dX2_weeksFrom_64 : decode cX2_weeksFrom 64 = .ok (.goto (-41), 3) := by decide +kernel
theorem dX2_weeksFrom_67 : decode cX2_weeksFrom 67 = .ok (.iload 5, 2) := by decide +kernel
theorem dX2_weeksFrom_69 : decode cX2_weeksFrom 69 = .ok (.sipush 1000, 3) := by decide +kernel
theorem dX2_weeksFrom_72 : decode cX2_weeksFrom 72 = .ok (.invokestatic 69, 3) := by decide +kernel
theorem dX2_weeksFrom_75 : decode cX2_weeksFrom 75 = .ok (.ireturn, 1) := by decide +kernel
theorem dX2_firstStep_0 : decode cX2_firstStep 0 = .ok (.iconst 1, 1) := by decide +kernel
theorem dX2_firstStep_1 : decode cX2_firstStep 1 = .ok (.istore 4, 2) := by decide +kernel
theorem dX2_firstStep_3 : decode cX2_firstStep 3 = .ok (.iload 4, 2) := by decide +kernel
theorem dX2_firstStep_5 : decode cX2_firstStep 5 = .ok (.iload_n 2, 1) := by decide +kernel
theorem dX2_firstStep_6 : decode cX2_firstStep 6 = .ok (.if_icmp .gt 50, 3) := by decide +kernel
theorem dX2_firstStep_9 : decode cX2_firstStep 9 = .ok (.iload 4, 2) := by decide +kernel
theorem dX2_firstStep_11 : decode cX2_firstStep 11 = .ok (.iload_n 2, 1) := by decide +kernel
theorem dX2_firstStep_12 : decode cX2_firstStep 12 = .ok (.iconst (-1), 1) := by decide +kernel
theorem dX2_firstStep_13 : decode cX2_firstStep 13 = .ok (.ixor, 1) := by decide +kernel
theorem dX2_firstStep_14 : decode cX2_firstStep 14 = .ok (.iand, 1) := by decide +kernel
theorem dX2_firstStep_15 : decode cX2_firstStep 15 = .ok (.ifCond .ne 35, 3) := by decide +kernel
theorem dX2_firstStep_18 : decode cX2_firstStep 18 = .ok (.iload 4, 2) := by decide +kernel
theorem dX2_firstStep_20 : decode cX2_firstStep 20 = .ok (.invokestatic 64, 3) := by decide +kernel
theorem dX2_firstStep_23 : decode cX2_firstStep 23 = .ok (.iload_n 3, 1) := by decide +kernel
theorem dX2_firstStep_24 : decode cX2_firstStep 24 = .ok (.if_icmp .gt 26, 3) := by decide +kernel
theorem dX2_firstStep_27 : decode cX2_firstStep 27 = .ok (.aload_n 0, 1) := by decide +kernel
theorem dX2_firstStep_28 : decode cX2_firstStep 28 = .ok (.getfield 18, 3) := by decide +kernel
theorem dX2_firstStep_31 : decode cX2_firstStep 31 = .ok (.iload_n 1, 1) := by decide +kernel
theorem dX2_firstStep_32 : decode cX2_firstStep 32 = .ok (.iload 4, 2) := by decide +kernel
theorem dX2_firstStep_34 : decode cX2_firstStep 34 = .ok (.ior, 1) := by decide +kernel
theorem dX2_firstStep_35 : decode cX2_firstStep 35 = .ok (.iaload, 1) := by decide +kernel
theorem dX2_firstStep_36 : decode cX2_firstStep 36 = .ok (.iconst 1, 1) := by decide +kernel
theorem dX2_firstStep_37 : decode cX2_firstStep 37 = .ok (.iadd, 1) := by decide +kernel
theorem dX2_firstStep_38 : decode cX2_firstStep 38 = .ok (.aload_n 0, 1) := by decide +kernel
theorem dX2_firstStep_39 : decode cX2_firstStep 39 = .ok (.getfield 18, 3) := by decide +kernel
theorem dX2_firstStep_42 : decode cX2_firstStep 42 = .ok (.iload_n 1, 1) := by decide +kernel
theorem dX2_firstStep_43 : decode cX2_firstStep 43 = .ok (.iaload, 1) := by decide +kernel
theorem dX2_firstStep_44 : decode cX2_firstStep 44 = .ok (.if_icmp .ne 6, 3) := by decide +kernel
theorem dX2_firstStep_47 : decode cX2_firstStep 47 = .ok (.iload 4, 2) := by decide +kernel
theorem dX2_firstStep_49 : decode cX2_firstStep 49 = .ok (.ireturn, 1) := by decide +kernel
theorem dX2_firstStep_50 : decode cX2_firstStep 50 = .ok (.iinc 4 1, 3) := by decide +kernel
theorem dX2_firstStep_53 : decode cX2_firstStep 53 = .ok (.goto (-50), 3) := by decide +kernel
theorem dX2_firstStep_56 : decode cX2_firstStep 56 = .ok (.iconst 0, 1) := by decide +kernel
theorem dX2_firstStep_57 : decode cX2_firstStep 57 = .ok (.ireturn, 1) := by decide +kernel
theorem dX3_init_0 : decode cX3_init 0 = .ok (.aload_n 0, 1) := by decide +kernel
theorem dX3_init_1 : decode cX3_init 1 = .ok (.invokespecial 3, 3) := by decide +kernel
theorem dX3_init_4 : decode cX3_init 4 = .ok (.aload_n 0, 1) := by decide +kernel
theorem dX3_init_5 : decode cX3_init 5 = .ok (.bipush 10, 2) := by decide +kernel
theorem dX3_init_7 : decode cX3_init 7 = .ok (.newarray .int, 2) := by decide +kernel
theorem dX3_init_9 : decode cX3_init 9 = .ok (.putfield 9, 3) := by decide +kernel
theorem dX3_init_12 : decode cX3_init 12 = .ok (.aload_n 0, 1) := by decide +kernel
theorem dX3_init_13 : decode cX3_init 13 = .ok (.bipush 10, 2) := by decide +kernel
theorem dX3_init_15 : decode cX3_init 15 = .ok (.newarray .int, 2) := by decide +kernel
theorem dX3_init_17 : decode cX3_init 17 = .ok (.putfield 15, 3) := by decide +kernel
theorem dX3_init_20 : decode cX3_init 20 = .ok (.aload_n 0, 1) := by decide +kernel
theorem dX3_init_21 : decode cX3_init 21 = .ok (.bipush 110, 2) := by decide +kernel
theorem dX3_init_23 : decode cX3_init 23 = .ok (.newarray .int, 2) := by decide +kernel
theorem dX3_init_25 : decode cX3_init 25 = .ok (.putfield 18, 3) := by decide +kernel
theorem dX3_init_28 : decode cX3_init 28 = .ok (.aload_n 0, 1) := by decide +kernel
theorem dX3_init_29 : decode cX3_init 29 = .ok (.aload_n 1, 1) := by decide +kernel
theorem dX3_init_30 : decode cX3_init 30 = .ok (.putfield 21, 3) := by decide +kernel
theorem dX3_init_33 : decode cX3_init 33 = .ok (.return_, 1) := by decide +kernel
theorem dX3_canPack_0 : decode cX3_canPack 0 = .ok (.aload_n 0, 1) := by decide +kernel
theorem dX3_canPack_1 : decode cX3_canPack 1 = .ok (.invokevirtual 25, 3) := by decide +kernel
theorem dX3_canPack_4 : decode cX3_canPack 4 = .ok (.aload_n 0, 1) := by decide +kernel
theorem dX3_canPack_5 : decode cX3_canPack 5 = .ok (.iload_n 1, 1) := by decide +kernel
theorem dX3_canPack_6 : decode cX3_canPack 6 = .ok (.invokevirtual 28, 3) := by decide +kernel
theorem dX3_canPack_9 : decode cX3_canPack 9 = .ok (.ireturn, 1) := by decide +kernel
theorem dX3_firstChannel_0 : decode cX3_firstChannel 0 = .ok (.aload_n 0, 1) := by decide +kernel
theorem dX3_firstChannel_1 : decode cX3_firstChannel 1 = .ok (.getfield 21, 3) := by decide +kernel
theorem dX3_firstChannel_4 : decode cX3_firstChannel 4 = .ok (.iload_n 2, 1) := by decide +kernel
theorem dX3_firstChannel_5 : decode cX3_firstChannel 5 = .ok (.invokevirtual 32, 3) := by decide +kernel
theorem dX3_firstChannel_8 : decode cX3_firstChannel 8 = .ok (.ifCond .eq 11, 3) := by decide +kernel
theorem dX3_firstChannel_11 : decode cX3_firstChannel 11 = .ok (.aload_n 0, 1) := by decide +kernel
theorem dX3_firstChannel_12 : decode cX3_firstChannel 12 = .ok (.iload_n 1, 1) := by decide +kernel
theorem dX3_firstChannel_13 : decode cX3_firstChannel 13 = .ok (.invokevirtual 37, 3) := by decide +kernel
theorem dX3_firstChannel_16 : decode cX3_firstChannel 16 = .ok (.ifCond .ne 5, 3) := by decide +kernel
theorem dX3_firstChannel_19 : decode cX3_firstChannel 19 = .ok (.iconst (-1), 1) := by decide +kernel
theorem dX3_firstChannel_20 : decode cX3_firstChannel 20 = .ok (.ireturn, 1) := by decide +kernel
theorem dX3_firstChannel_21 : decode cX3_firstChannel 21 = .ok (.iconst 0, 1) := by decide +kernel
theorem dX3_firstChannel_22 : decode cX3_firstChannel 22 = .ok (.istore_n 3, 1) := by decide +kernel
theorem dX3_firstChannel_23 : decode cX3_firstChannel 23 = .ok (.iload_n 3, 1) := by decide +kernel
theorem dX3_firstChannel_24 : decode cX3_firstChannel 24 = .ok (.iload_n 2, 1) := by decide +kernel
theorem dX3_firstChannel_25 : decode cX3_firstChannel 25 = .ok (.if_icmp .gt 23, 3) := by decide +kernel
theorem dX3_firstChannel_28 : decode cX3_firstChannel 28 = .ok (.iload_n 1, 1) := by decide +kernel
theorem dX3_firstChannel_29 : decode cX3_firstChannel 29 = .ok (.iload_n 3, 1) := by decide +kernel
theorem dX3_firstChannel_30 : decode cX3_firstChannel 30 = .ok (.invokestatic 40, 3) := by decide +kernel
theorem dX3_firstChannel_33 : decode cX3_firstChannel 33 = .ok (.ifCond .eq 9, 3) := by decide +kernel
theorem dX3_firstChannel_36 : decode cX3_firstChannel 36 = .ok (.aload_n 0, 1) := by decide +kernel
theorem dX3_firstChannel_37 : decode cX3_firstChannel 37 = .ok (.iload_n 1, 1) := by decide +kernel
theorem dX3_firstChannel_38 : decode cX3_firstChannel 38 = .ok (.iload_n 3, 1) := by decide +kernel
theorem dX3_firstChannel_39 : decode cX3_firstChannel 39 = .ok (.invokevirtual 44, 3) := by decide +kernel
theorem dX3_firstChannel_42 : decode cX3_firstChannel 42 = .ok (.iinc 3 1, 3) := by decide +kernel
theorem dX3_firstChannel_45 : decode cX3_firstChannel 45 = .ok (.goto (-22), 3) := by decide +kernel
theorem dX3_firstChannel_48 : decode cX3_firstChannel 48 = .ok (.aload_n 0, 1) := by decide +kernel
theorem dX3_firstChannel_49 : decode cX3_firstChannel 49 = .ok (.getfield 9, 3) := by decide +kernel
theorem dX3_firstChannel_52 : decode cX3_firstChannel 52 = .ok (.iload_n 2, 1) := by decide +kernel
theorem dX3_firstChannel_53 : decode cX3_firstChannel 53 = .ok (.iaload, 1) := by decide +kernel
theorem dX3_firstChannel_54 : decode cX3_firstChannel 54 = .ok (.invokestatic 48, 3) := by decide +kernel
theorem dX3_firstChannel_57 : decode cX3_firstChannel 57 = .ok (.ireturn, 1) := by decide +kernel
theorem dX3_leastPartThatFails_0 : decode cX3_leastPartThatFails 0 = .ok (.iconst 1, 1) := by decide +kernel
theorem dX3_leastPartThatFails_1 : decode cX3_leastPartThatFails 1 = .ok (.istore_n 2, 1) := by decide +kernel
theorem dX3_leastPartThatFails_2 : decode cX3_leastPartThatFails 2 = .ok (.iload_n 2, 1) := by decide +kernel
theorem dX3_leastPartThatFails_3 : decode cX3_leastPartThatFails 3 = .ok (.bipush 10, 2) := by decide +kernel
theorem dX3_leastPartThatFails_5 : decode cX3_leastPartThatFails 5 = .ok (.if_icmp .gt 48, 3) := by decide +kernel
theorem dX3_leastPartThatFails_8 : decode cX3_leastPartThatFails 8 = .ok (.iconst 1, 1) := by decide +kernel
theorem dX3_leastPartThatFails_9 : decode cX3_leastPartThatFails 9 = .ok (.istore_n 3, 1) := by decide +kernel
theorem dX3_leastPartThatFails_10 : decode cX3_leastPartThatFails 10 = .ok (.iload_n 3, 1) := by decide +kernel
theorem dX3_leastPartThatFails_11 : decode cX3_leastPartThatFails 11 = .ok (.iload_n 1, 1) := by decide +kernel
theorem dX3_leastPartThatFails_12 : decode cX3_leastPartThatFails 12 = .ok (.if_icmp .gt 35, 3) := by decide +kernel
theorem dX3_leastPartThatFails_15 : decode cX3_leastPartThatFails 15 = .ok (.iload_n 3, 1) := by decide +kernel
theorem dX3_leastPartThatFails_16 : decode cX3_leastPartThatFails 16 = .ok (.iload_n 1, 1) := by decide +kernel
theorem dX3_leastPartThatFails_17 : decode cX3_leastPartThatFails 17 = .ok (.iconst (-1), 1) := by decide +kernel
theorem dX3_leastPartThatFails_18 : decode cX3_leastPartThatFails 18 = .ok (.ixor, 1) := by decide +kernel
theorem dX3_leastPartThatFails_19 : decode cX3_leastPartThatFails 19 = .ok (.iand, 1) := by decide +kernel
theorem dX3_leastPartThatFails_20 : decode cX3_leastPartThatFails 20 = .ok (.ifCond .ne 21, 3) := by decide +kernel
theorem dX3_leastPartThatFails_23 : decode cX3_leastPartThatFails 23 = .ok (.iload_n 3, 1) := by decide +kernel
theorem dX3_leastPartThatFails_24 : decode cX3_leastPartThatFails 24 = .ok (.invokestatic 52, 3) := by decide +kernel
theorem dX3_leastPartThatFails_27 : decode cX3_leastPartThatFails 27 = .ok (.iload_n 2, 1) := by decide +kernel
theorem dX3_leastPartThatFails_28 : decode cX3_leastPartThatFails 28 = .ok (.if_icmp .ne 13, 3) := by decide +kernel
theorem dX3_leastPartThatFails_31 : decode cX3_leastPartThatFails 31 = .ok (.aload_n 0, 1) := by decide +kernel
theorem dX3_leastPartThatFails_32 : decode cX3_leastPartThatFails 32 = .ok (.iload_n 3, 1) := by decide +kernel
theorem dX3_leastPartThatFails_33 : decode cX3_leastPartThatFails 33 = .ok (.invokevirtual 37, 3) := by decide +kernel
theorem dX3_leastPartThatFails_36 : decode cX3_leastPartThatFails 36 = .ok (.ifCond .ne 5, 3) := by decide +kernel
theorem dX3_leastPartThatFails_39 : decode cX3_leastPartThatFails 39 = .ok (.iload_n 3, 1) := by decide +kernel
theorem dX3_leastPartThatFails_40 : decode cX3_leastPartThatFails 40 = .ok (.ireturn, 1) := by decide +kernel
theorem dX3_leastPartThatFails_41 : decode cX3_leastPartThatFails 41 = .ok (.iinc 3 1, 3) := by decide +kernel
theorem dX3_leastPartThatFails_44 : decode cX3_leastPartThatFails 44 = .ok (.goto (-34), 3) := by decide +kernel
theorem dX3_leastPartThatFails_47 : decode cX3_leastPartThatFails 47 = .ok (.iinc 2 1, 3) := by decide +kernel
theorem dX3_leastPartThatFails_50 : decode cX3_leastPartThatFails 50 = .ok (.goto (-48), 3) := by decide +kernel
theorem dX3_leastPartThatFails_53 : decode cX3_leastPartThatFails 53 = .ok (.bipush (-3), 2) := by decide +kernel
theorem dX3_leastPartThatFails_55 : decode cX3_leastPartThatFails 55 = .ok (.ireturn, 1) := by decide +kernel
theorem dX3_couldJoin_0 : decode cX3_couldJoin 0 = .ok (.iconst 0, 1) := by decide +kernel
theorem dX3_couldJoin_1 : decode cX3_couldJoin 1 = .ok (.istore_n 2, 1) := by decide +kernel
theorem dX3_couldJoin_2 : decode cX3_couldJoin 2 = .ok (.iconst 0, 1) := by decide +kernel
theorem dX3_couldJoin_3 : decode cX3_couldJoin 3 = .ok (.istore_n 3, 1) := by decide +kernel
theorem dX3_couldJoin_4 : decode cX3_couldJoin 4 = .ok (.iload_n 3, 1) := by decide +kernel
theorem dX3_couldJoin_5 : decode cX3_couldJoin 5 = .ok (.aload_n 0, 1) := by decide +kernel
theorem dX3_couldJoin_6 : decode cX3_couldJoin 6 = .ok (.getfield 21, 3) := by decide +kernel
theorem dX3_couldJoin_9 : decode cX3_couldJoin 9 = .ok (.getfield 57, 3) := by decide +kernel
theorem dX3_couldJoin_12 : decode cX3_couldJoin 12 = .ok (.if_icmp .ge 35, 3) := by decide +kernel
theorem dX3_couldJoin_15 : decode cX3_couldJoin 15 = .ok (.iload_n 1, 1) := by decide +kernel
theorem dX3_couldJoin_16 : decode cX3_couldJoin 16 = .ok (.iload_n 3, 1) := by decide +kernel
theorem dX3_couldJoin_17 : decode cX3_couldJoin 17 = .ok (.invokestatic 40, 3) := by decide +kernel
theorem dX3_couldJoin_20 : decode cX3_couldJoin 20 = .ok (.ifCond .ne 21, 3) := by decide +kernel
theorem dX3_couldJoin_23 : decode cX3_couldJoin 23 = .ok (.aload_n 0, 1) := by decide +kernel
theorem dX3_couldJoin_24 : decode cX3_couldJoin 24 = .ok (.iload_n 1, 1) := by decide +kernel
theorem dX3_couldJoin_25 : decode cX3_couldJoin 25 = .ok (.iconst 1, 1) := by decide +kernel
theorem dX3_couldJoin_26 : decode cX3_couldJoin 26 = .ok (.iload_n 3, 1) := by decide +kernel
theorem dX3_couldJoin_27 : decode cX3_couldJoin 27 = .ok (.ishl, 1) := by decide +kernel
theorem dX3_couldJoin_28 : decode cX3_couldJoin 28 = .ok (.ior, 1) := by decide +kernel
theorem dX3_couldJoin_29 : decode cX3_couldJoin 29 = .ok (.invokevirtual 37, 3) := by decide +kernel
theorem dX3_couldJoin_32 : decode cX3_couldJoin 32 = .ok (.ifCond .eq 9, 3) := by decide +kernel
theorem dX3_couldJoin_35 : decode cX3_couldJoin 35 = .ok (.iload_n 2, 1) := by decide +kernel
theorem dX3_couldJoin_36 : decode cX3_couldJoin 36 = .ok (.iconst 1, 1) := by decide +kernel
theorem dX3_couldJoin_37 : decode cX3_couldJoin 37 = .ok (.iload_n 3, 1) := by decide +kernel
theorem dX3_couldJoin_38 : decode cX3_couldJoin 38 = .ok (.ishl, 1) := by decide +kernel
theorem dX3_couldJoin_39 : decode cX3_couldJoin 39 = .ok (.ior, 1) := by decide +kernel
theorem dX3_couldJoin_40 : decode cX3_couldJoin 40 = .ok (.istore_n 2, 1) := by decide +kernel
theorem dX3_couldJoin_41 : decode cX3_couldJoin 41 = .ok (.iinc 3 1, 3) := by decide +kernel
theorem dX3_couldJoin_44 : decode cX3_couldJoin 44 = .ok (.goto (-40), 3) := by decide +kernel
theorem dX3_couldJoin_47 : decode cX3_couldJoin 47 = .ok (.iload_n 2, 1) := by decide +kernel
theorem dX3_couldJoin_48 : decode cX3_couldJoin 48 = .ok (.ireturn, 1) := by decide +kernel
theorem dX3_allowAll_0 : decode cX3_allowAll 0 = .ok (.iconst 0, 1) := by decide +kernel
theorem dX3_allowAll_1 : decode cX3_allowAll 1 = .ok (.istore_n 1, 1) := by decide +kernel
theorem dX3_allowAll_2 : decode cX3_allowAll 2 = .ok (.iload_n 1, 1) := by decide +kernel
theorem dX3_allowAll_3 : decode cX3_allowAll 3 = .ok (.aload_n 0, 1) := by decide +kernel
theorem dX3_allowAll_4 : decode cX3_allowAll 4 = .ok (.getfield 21, 3) := by decide +kernel
theorem dX3_allowAll_7 : decode cX3_allowAll 7 = .ok (.getfield 57, 3) := by decide +kernel
theorem dX3_allowAll_10 : decode cX3_allowAll 10 = .ok (.if_icmp .ge 23, 3) := by decide +kernel
theorem dX3_allowAll_13 : decode cX3_allowAll 13 = .ok (.aload_n 0, 1) := by decide +kernel
theorem dX3_allowAll_14 : decode cX3_allowAll 14 = .ok (.getfield 9, 3) := by decide +kernel
theorem dX3_allowAll_17 : decode cX3_allowAll 17 = .ok (.iload_n 1, 1) := by decide +kernel
theorem dX3_allowAll_18 : decode cX3_allowAll 18 = .ok (.aload_n 0, 1) := by decide +kernel
theorem dX3_allowAll_19 : decode cX3_allowAll 19 = .ok (.getfield 21, 3) := by decide +kernel
theorem dX3_allowAll_22 : decode cX3_allowAll 22 = .ok (.iload_n 1, 1) := by decide +kernel
theorem dX3_allowAll_23 : decode cX3_allowAll 23 = .ok (.invokevirtual 61, 3) := by decide +kernel
theorem dX3_allowAll_26 : decode cX3_allowAll 26 = .ok (.iastore, 1) := by decide +kernel
theorem dX3_allowAll_27 : decode cX3_allowAll 27 = .ok (.iinc 1 1, 3) := by decide +kernel
theorem dX3_allowAll_30 : decode cX3_allowAll 30 = .ok (.goto (-28), 3) := by decide +kernel
theorem dX3_allowAll_33 : decode cX3_allowAll 33 = .ok (.return_, 1) := by decide +kernel
theorem dX3_fixFirst_0 : decode cX3_fixFirst 0 = .ok (.aload_n 0, 1) := by decide +kernel
theorem dX3_fixFirst_1 : decode cX3_fixFirst 1 = .ok (.getfield 9, 3) := by decide +kernel
theorem dX3_fixFirst_4 : decode cX3_fixFirst 4 = .ok (.iload_n 2, 1) := by decide +kernel
theorem dX3_fixFirst_5 : decode cX3_fixFirst 5 = .ok (.iaload, 1) := by decide +kernel
theorem dX3_fixFirst_6 : decode cX3_fixFirst 6 = .ok (.istore_n 3, 1) := by decide +kernel
theorem dX3_fixFirst_7 : decode cX3_fixFirst 7 = .ok (.iconst 0, 1) := by decide +kernel
theorem dX3_fixFirst_8 : decode cX3_fixFirst 8 = .ok (.istore 4, 2) := by decide +kernel
theorem dX3_fixFirst_10 : decode cX3_fixFirst 10 = .ok (.iload 4, 2) := by decide +kernel
theorem dX3_fixFirst_12 : decode cX3_fixFirst 12 = .ok (.aload_n 0, 1) := by decide +kernel
theorem dX3_fixFirst_13 : decode cX3_fixFirst 13 = .ok (.getfield 21, 3) := by decide +kernel
theorem dX3_fixFirst_16 : decode cX3_fixFirst 16 = .ok (.getfield 64, 3) := by decide +kernel
theorem dX3_fixFirst_19 : decode cX3_fixFirst 19 = .ok (.if_icmp .ge 37, 3) := by decide +kernel
theorem dX3_fixFirst_22 : decode cX3_fixFirst 22 = .ok (.iload_n 3, 1) := by decide +kernel
theorem dX3_fixFirst_23 : decode cX3_fixFirst 23 = .ok (.iload 4, 2) := by decide +kernel
theorem dX3_fixFirst_25 : decode cX3_fixFirst 25 = .ok (.invokestatic 40, 3) := by decide +kernel
theorem dX3_fixFirst_28 : decode cX3_fixFirst 28 = .ok (.ifCond .eq 22, 3) := by decide +kernel
theorem dX3_fixFirst_31 : decode cX3_fixFirst 31 = .ok (.aload_n 0, 1) := by decide +kernel
theorem dX3_fixFirst_32 : decode cX3_fixFirst 32 = .ok (.getfield 9, 3) := by decide +kernel
theorem dX3_fixFirst_35 : decode cX3_fixFirst 35 = .ok (.iload_n 2, 1) := by decide +kernel
theorem dX3_fixFirst_36 : decode cX3_fixFirst 36 = .ok (.iconst 1, 1) := by decide +kernel
theorem dX3_fixFirst_37 : decode cX3_fixFirst 37 = .ok (.iload 4, 2) := by decide +kernel
theorem dX3_fixFirst_39 : decode cX3_fixFirst 39 = .ok (.ishl, 1) := by decide +kernel
theorem dX3_fixFirst_40 : decode cX3_fixFirst 40 = .ok (.iastore, 1) := by decide +kernel
theorem dX3_fixFirst_41 : decode cX3_fixFirst 41 = .ok (.aload_n 0, 1) := by decide +kernel
theorem dX3_fixFirst_42 : decode cX3_fixFirst 42 = .ok (.iload_n 1, 1) := by decide +kernel
theorem dX3_fixFirst_43 : decode cX3_fixFirst 43 = .ok (.invokevirtual 28, 3) := by decide +kernel
theorem dX3_fixFirst_46 : decode cX3_fixFirst 46 = .ok (.ifCond .eq 4, 3) := by decide +kernel
theorem dX3_fixFirst_49 : decode cX3_fixFirst 49 = .ok (.return_, 1) := by decide +kernel
theorem dX3_fixFirst_50 : decode cX3_fixFirst 50 = .ok (.iinc 4 1, 3) := by decide +kernel
theorem dX3_fixFirst_53 : decode cX3_fixFirst 53 = .ok (.goto (-43), 3) := by decide +kernel
theorem dX3_fixFirst_56 : decode cX3_fixFirst 56 = .ok (.return_, 1) := by decide +kernel
theorem dX3_packs_0 : decode cX3_packs 0 = .ok (.aload_n 0, 1) := by decide +kernel
theorem dX3_packs_1 : decode cX3_packs 1 = .ok (.iload_n 1, 1) := by decide +kernel
theorem dX3_packs_2 : decode cX3_packs 2 = .ok (.invokevirtual 67, 3) := by decide +kernel
theorem dX3_packs_5 : decode cX3_packs 5 = .ok (.istore_n 2, 1) := by decide +kernel
theorem dX3_packs_6 : decode cX3_packs 6 = .ok (.iconst 0, 1) := by decide +kernel
theorem dX3_packs_7 : decode cX3_packs 7 = .ok (.istore_n 3, 1) := by decide +kernel
theorem dX3_packs_8 : decode cX3_packs 8 = .ok (.iload_n 3, 1) := by decide +kernel
theorem dX3_packs_9 : decode cX3_packs 9 = .ok (.aload_n 0, 1) := by decide +kernel
theorem dX3_packs_10 : decode cX3_packs 10 = .ok (.getfield 21, 3) := by decide +kernel
theorem dX3_packs_13 : decode cX3_packs 13 = .ok (.getfield 57, 3) := by decide +kernel
theorem dX3_packs_16 : decode cX3_packs 16 = .ok (.if_icmp .ge 21, 3) := by decide +kernel
theorem dX3_packs_19 : decode cX3_packs 19 = .ok (.aload_n 0, 1) := by decide +kernel
theorem dX3_packs_20 : decode cX3_packs 20 = .ok (.getfield 18, 3) := by decide +kernel
theorem dX3_packs_23 : decode cX3_packs 23 = .ok (.iload_n 3, 1) := by decide +kernel
theorem dX3_packs_24 : decode cX3_packs 24 = .ok (.aload_n 0, 1) := by decide +kernel
theorem dX3_packs_25 : decode cX3_packs 25 = .ok (.getfield 9, 3) := by decide +kernel
theorem dX3_packs_28 : decode cX3_packs 28 = .ok (.iload_n 3, 1) := by decide +kernel
theorem dX3_packs_29 : decode cX3_packs 29 = .ok (.iaload, 1) := by decide +kernel
theorem dX3_packs_30 : decode cX3_packs 30 = .ok (.iastore, 1) := by decide +kernel
theorem dX3_packs_31 : decode cX3_packs 31 = .ok (.iinc 3 1, 3) := by decide +kernel
theorem dX3_packs_34 : decode cX3_packs 34 = .ok (.goto (-26), 3) := by decide +kernel
theorem dX3_packs_37 : decode cX3_packs 37 = .ok (.aload_n 0, 1) := by decide +kernel
theorem dX3_packs_38 : decode cX3_packs 38 = .ok (.iload_n 2, 1) := by decide +kernel
theorem dX3_packs_39 : decode cX3_packs 39 = .ok (.iconst 0, 1) := by decide +kernel
theorem dX3_packs_40 : decode cX3_packs 40 = .ok (.invokevirtual 70, 3) := by decide +kernel
theorem dX3_packs_43 : decode cX3_packs 43 = .ok (.ireturn, 1) := by decide +kernel
theorem dX3_hardPart_0 : decode cX3_hardPart 0 = .ok (.iload_n 1, 1) := by decide +kernel
theorem dX3_hardPart_1 : decode cX3_hardPart 1 = .ok (.istore_n 2, 1) := by decide +kernel
theorem dX3_hardPart_2 : decode cX3_hardPart 2 = .ok (.iconst 0, 1) := by decide +kernel
theorem dX3_hardPart_3 : decode cX3_hardPart 3 = .ok (.istore_n 3, 1) := by decide +kernel
theorem dX3_hardPart_4 : decode cX3_hardPart 4 = .ok (.iload_n 3, 1) := by decide +kernel
theorem dX3_hardPart_5 : decode cX3_hardPart 5 = .ok (.bipush 10, 2) := by decide +kernel
theorem dX3_hardPart_7 : decode cX3_hardPart 7 = .ok (.if_icmp .ge 98, 3) := by decide +kernel
theorem dX3_hardPart_10 : decode cX3_hardPart 10 = .ok (.iload_n 2, 1) := by decide +kernel
theorem dX3_hardPart_11 : decode cX3_hardPart 11 = .ok (.istore 4, 2) := by decide +kernel
theorem dX3_hardPart_13 : decode cX3_hardPart 13 = .ok (.iconst 0, 1) := by decide +kernel
theorem dX3_hardPart_14 : decode cX3_hardPart 14 = .ok (.istore 5, 2) := by decide +kernel
theorem dX3_hardPart_16 : decode cX3_hardPart 16 = .ok (.iload 5, 2) := by decide +kernel
theorem dX3_hardPart_18 : decode cX3_hardPart 18 = .ok (.aload_n 0, 1) := by decide +kernel
theorem dX3_hardPart_19 : decode cX3_hardPart 19 = .ok (.getfield 21, 3) := by decide +kernel
theorem dX3_hardPart_22 : decode cX3_hardPart 22 = .ok (.getfield 57, 3) := by decide +kernel
theorem dX3_hardPart_25 : decode cX3_hardPart 25 = .ok (.if_icmp .ge 65, 3) := by decide +kernel
theorem dX3_hardPart_28 : decode cX3_hardPart 28 = .ok (.iload_n 2, 1) := by decide +kernel
theorem dX3_hardPart_29 : decode cX3_hardPart 29 = .ok (.iload 5, 2) := by decide +kernel
theorem dX3_hardPart_31 : decode cX3_hardPart 31 = .ok (.invokestatic 40, 3) := by decide +kernel
theorem dX3_hardPart_34 : decode cX3_hardPart 34 = .ok (.ifCond .eq 50, 3) := by decide +kernel
theorem dX3_hardPart_37 : decode cX3_hardPart 37 = .ok (.aload_n 0, 1) := by decide +kernel
theorem dX3_hardPart_38 : decode cX3_hardPart 38 = .ok (.getfield 15, 3) := by decide +kernel
theorem dX3_hardPart_41 : decode cX3_hardPart 41 = .ok (.iload 5, 2) := by decide +kernel
theorem dX3_hardPart_43 : decode cX3_hardPart 43 = .ok (.aload_n 0, 1) := by decide +kernel
theorem dX3_hardPart_44 : decode cX3_hardPart 44 = .ok (.iload 5, 2) := by decide +kernel
theorem dX3_hardPart_46 : decode cX3_hardPart 46 = .ok (.iload_n 2, 1) := by decide +kernel
theorem dX3_hardPart_47 : decode cX3_hardPart 47 = .ok (.invokevirtual 73, 3) := by decide +kernel
theorem dX3_hardPart_50 : decode cX3_hardPart 50 = .ok (.iastore, 1) := by decide +kernel
theorem dX3_hardPart_51 : decode cX3_hardPart 51 = .ok (.aload_n 0, 1) := by decide +kernel
theorem dX3_hardPart_52 : decode cX3_hardPart 52 = .ok (.getfield 9, 3) := by decide +kernel
theorem dX3_hardPart_55 : decode cX3_hardPart 55 = .ok (.iload 5, 2) := by decide +kernel
theorem dX3_hardPart_57 : decode cX3_hardPart 57 = .ok (.iaload, 1) := by decide +kernel
theorem dX3_hardPart_58 : decode cX3_hardPart 58 = .ok (.invokestatic 52, 3) := by decide +kernel
theorem dX3_hardPart_61 : decode cX3_hardPart 61 = .ok (.aload_n 0, 1) := by decide +kernel
theorem dX3_hardPart_62 : decode cX3_hardPart 62 = .ok (.getfield 15, 3) := by decide +kernel
theorem dX3_hardPart_65 : decode cX3_hardPart 65 = .ok (.iload 5, 2) := by decide +kernel
theorem dX3_hardPart_67 : decode cX3_hardPart 67 = .ok (.iaload, 1) := by decide +kernel
theorem dX3_hardPart_68 : decode cX3_hardPart 68 = .ok (.if_icmp .le 14, 3) := by decide +kernel
theorem dX3_hardPart_71 : decode cX3_hardPart 71 = .ok (.iload_n 2, 1) := by decide +kernel
theorem dX3_hardPart_72 : decode cX3_hardPart 72 = .ok (.iconst 1, 1) := by decide +kernel
theorem dX3_hardPart_73 : decode cX3_hardPart 73 = .ok (.iload 5, 2) := by decide +kernel
theorem dX3_hardPart_75 : decode cX3_hardPart 75 = .ok (.ishl, 1) := by decide +kernel
theorem dX3_hardPart_76 : decode cX3_hardPart 76 = .ok (.iconst (-1), 1) := by decide +kernel
theorem dX3_hardPart_77 : decode cX3_hardPart 77 = .ok (.ixor, 1) := by decide +kernel
theorem dX3_hardPart_78 : decode cX3_hardPart 78 = .ok (.iand, 1) := by decide +kernel
theorem dX3_hardPart_79 : decode cX3_hardPart 79 = .ok (.goto 4, 3) := by decide +kernel
theorem dX3_hardPart_82 : decode cX3_hardPart 82 = .ok (.iload_n 2, 1) := by decide +kernel
theorem dX3_hardPart_83 : decode cX3_hardPart 83 = .ok (.istore_n 2, 1) := by decide +kernel
theorem dX3_hardPart_84 : decode cX3_hardPart 84 = .ok (.iinc 5 1, 3) := by decide +kernel
theorem dX3_hardPart_87 : decode cX3_hardPart 87 = .ok (.goto (-71), 3) := by decide +kernel
theorem dX3_hardPart_90 : decode cX3_hardPart 90 = .ok (.iload_n 2, 1) := by decide +kernel
theorem dX3_hardPart_91 : decode cX3_hardPart 91 = .ok (.iload 4, 2) := by decide +kernel
theorem dX3_hardPart_93 : decode cX3_hardPart 93 = .ok (.if_icmp .ne 6, 3) := by decide +kernel
theorem dX3_hardPart_96 : decode cX3_hardPart 96 = .ok (.goto 9, 3) := by decide +kernel
theorem dX3_hardPart_99 : decode cX3_hardPart 99 = .ok (.iinc 3 1, 3) := by decide +kernel
theorem dX3_hardPart_102 : decode cX3_hardPart 102 = .ok (.goto (-98), 3) := by decide +kernel
theorem dX3_hardPart_105 : decode cX3_hardPart 105 = .ok (.iload_n 2, 1) := by decide +kernel
theorem dX3_hardPart_106 : decode cX3_hardPart 106 = .ok (.ireturn, 1) := by decide +kernel
theorem dX3_mostShut_0 : decode cX3_mostShut 0 = .ok (.iconst 0, 1) := by decide +kernel
theorem dX3_mostShut_1 : decode cX3_mostShut 1 = .ok (.istore_n 3, 1) := by decide +kernel
theorem dX3_mostShut_2 : decode cX3_mostShut 2 = .ok (.iconst 0, 1) := by decide +kernel
theorem dX3_mostShut_3 : decode cX3_mostShut 3 = .ok (.istore 4, 2) := by decide +kernel
theorem dX3_mostShut_5 : decode cX3_mostShut 5 = .ok (.iload 4, 2) := by decide +kernel
theorem dX3_mostShut_7 : decode cX3_mostShut 7 = .ok (.aload_n 0, 1) := by decide +kernel
theorem dX3_mostShut_8 : decode cX3_mostShut 8 = .ok (.getfield 21, 3) := by decide +kernel
theorem dX3_mostShut_11 : decode cX3_mostShut 11 = .ok (.getfield 57, 3) := by decide +kernel
theorem dX3_mostShut_14 : decode cX3_mostShut 14 = .ok (.if_icmp .ge 45, 3) := by decide +kernel
theorem dX3_mostShut_17 : decode cX3_mostShut 17 = .ok (.iload_n 2, 1) := by decide +kernel
theorem dX3_mostShut_18 : decode cX3_mostShut 18 = .ok (.iload 4, 2) := by decide +kernel
theorem dX3_mostShut_20 : decode cX3_mostShut 20 = .ok (.invokestatic 40, 3) := by decide +kernel
theorem dX3_mostShut_23 : decode cX3_mostShut 23 = .ok (.ifCond .eq 30, 3) := by decide +kernel
theorem dX3_mostShut_26 : decode cX3_mostShut 26 = .ok (.aload_n 0, 1) := by decide +kernel
theorem dX3_mostShut_27 : decode cX3_mostShut 27 = .ok (.getfield 21, 3) := by decide +kernel
theorem dX3_mostShut_30 : decode cX3_mostShut 30 = .ok (.iload_n 1, 1) := by decide +kernel
theorem dX3_mostShut_31 : decode cX3_mostShut 31 = .ok (.iload 4, 2) := by decide +kernel
theorem dX3_mostShut_33 : decode cX3_mostShut 33 = .ok (.invokevirtual 77, 3) := by decide +kernel
theorem dX3_mostShut_36 : decode cX3_mostShut 36 = .ok (.istore 5, 2) := by decide +kernel
theorem dX3_mostShut_38 : decode cX3_mostShut 38 = .ok (.iload_n 3, 1) := by decide +kernel
theorem dX3_mostShut_39 : decode cX3_mostShut 39 = .ok (.iload 5, 2) := by decide +kernel
theorem dX3_mostShut_41 : decode cX3_mostShut 41 = .ok (.iconst 2, 1) := by decide +kernel
theorem dX3_mostShut_42 : decode cX3_mostShut 42 = .ok (.if_icmp .ne 7, 3) := by decide +kernel
theorem dX3_mostShut_45 : decode cX3_mostShut 45 = .ok (.iconst 3, 1) := by decide +kernel
theorem dX3_mostShut_46 : decode cX3_mostShut 46 = .ok (.goto 5, 3) := by decide +kernel
theorem dX3_mostShut_49 : decode cX3_mostShut 49 = .ok (.iload 5, 2) := by decide +kernel
theorem dX3_mostShut_51 : decode cX3_mostShut 51 = .ok (.iadd, 1) := by decide +kernel
theorem dX3_mostShut_52 : decode cX3_mostShut 52 = .ok (.istore_n 3, 1) := by decide +kernel
theorem dX3_mostShut_53 : decode cX3_mostShut 53 = .ok (.iinc 4 1, 3) := by decide +kernel
theorem dX3_mostShut_56 : decode cX3_mostShut 56 = .ok (.goto (-51), 3) := by decide +kernel
theorem dX3_mostShut_59 : decode cX3_mostShut 59 = .ok (.iload_n 3, 1) := by decide +kernel
theorem dX3_mostShut_60 : decode cX3_mostShut 60 = .ok (.ireturn, 1) := by decide +kernel
theorem dX3_packRest_0 : decode cX3_packRest 0 = .ok (.iload_n 1, 1) := by decide +kernel
theorem dX3_packRest_1 : decode cX3_packRest 1 = .ok (.ifCond .ne 5, 3) := by decide +kernel
theorem dX3_packRest_4 : decode cX3_packRest 4 = .ok (.iconst 1, 1) := by decide +kernel
theorem dX3_packRest_5 : decode cX3_packRest 5 = .ok (.ireturn, 1) := by decide +kernel
theorem dX3_packRest_6 : decode cX3_packRest 6 = .ok (.iload_n 2, 1) := by decide +kernel
theorem dX3_packRest_7 : decode cX3_packRest 7 = .ok (.bipush 10, 2) := by decide +kernel
theorem dX3_packRest_9 : decode cX3_packRest 9 = .ok (.if_icmp .lt 5, 3) := by decide +kernel
theorem dX3_packRest_12 : decode cX3_packRest 12 = .ok (.iconst 0, 1) := by decide +kernel
theorem dX3_packRest_13 : decode cX3_packRest 13 = .ok (.ireturn, 1) := by decide +kernel
theorem dX3_packRest_14 : decode cX3_packRest 14 = .ok (.aload_n 0, 1) := by decide +kernel
theorem dX3_packRest_15 : decode cX3_packRest 15 = .ok (.iload_n 1, 1) := by decide +kernel
theorem dX3_packRest_16 : decode cX3_packRest 16 = .ok (.iload_n 2, 1) := by decide +kernel
theorem dX3_packRest_17 : decode cX3_packRest 17 = .ok (.invokevirtual 80, 3) := by decide +kernel
theorem dX3_packRest_20 : decode cX3_packRest 20 = .ok (.istore_n 3, 1) := by decide +kernel
theorem dX3_packRest_21 : decode cX3_packRest 21 = .ok (.iload_n 1, 1) := by decide +kernel
theorem dX3_packRest_22 : decode cX3_packRest 22 = .ok (.iconst 1, 1) := by decide +kernel
theorem dX3_packRest_23 : decode cX3_packRest 23 = .ok (.iload_n 3, 1) := by decide +kernel
theorem dX3_packRest_24 : decode cX3_packRest 24 = .ok (.ishl, 1) := by decide +kernel
theorem dX3_packRest_25 : decode cX3_packRest 25 = .ok (.iconst (-1), 1) := by decide +kernel
theorem dX3_packRest_26 : decode cX3_packRest 26 = .ok (.ixor, 1) := by decide +kernel
theorem dX3_packRest_27 : decode cX3_packRest 27 = .ok (.iand, 1) := by decide +kernel
theorem dX3_packRest_28 : decode cX3_packRest 28 = .ok (.istore 4, 2) := by decide +kernel
theorem dX3_packRest_30 : decode cX3_packRest 30 = .ok (.aload_n 0, 1) := by decide +kernel
theorem dX3_packRest_31 : decode cX3_packRest 31 = .ok (.getfield 18, 3) := by decide +kernel
theorem dX3_packRest_34 : decode cX3_packRest 34 = .ok (.iload_n 2, 1) := by decide +kernel
theorem dX3_packRest_35 : decode cX3_packRest 35 = .ok (.bipush 10, 2) := by decide +kernel
theorem dX3_packRest_37 : decode cX3_packRest 37 = .ok (.imul, 1) := by decide +kernel
theorem dX3_packRest_38 : decode cX3_packRest 38 = .ok (.iload_n 3, 1) := by decide +kernel
theorem dX3_packRest_39 : decode cX3_packRest 39 = .ok (.iadd, 1) := by decide +kernel
theorem dX3_packRest_40 : decode cX3_packRest 40 = .ok (.iaload, 1) := by decide +kernel
theorem dX3_packRest_41 : decode cX3_packRest 41 = .ok (.istore 5, 2) := by decide +kernel
theorem dX3_packRest_43 : decode cX3_packRest 43 = .ok (.iconst 0, 1) := by decide +kernel
theorem dX3_packRest_44 : decode cX3_packRest 44 = .ok (.istore 6, 2) := by decide +kernel
theorem dX3_packRest_46 : decode cX3_packRest 46 = .ok (.iload 6, 2) := by decide +kernel
theorem dX3_packRest_48 : decode cX3_packRest 48 = .ok (.aload_n 0, 1) := by decide +kernel
theorem dX3_packRest_49 : decode cX3_packRest 49 = .ok (.getfield 21, 3) := by decide +kernel
theorem dX3_packRest_52 : decode cX3_packRest 52 = .ok (.getfield 64, 3) := by decide +kernel
theorem dX3_packRest_55 : decode cX3_packRest 55 = .ok (.if_icmp .ge 46, 3) := by decide +kernel
theorem dX3_packRest_58 : decode cX3_packRest 58 = .ok (.iload 5, 2) := by decide +kernel
theorem dX3_packRest_60 : decode cX3_packRest 60 = .ok (.iload 6, 2) := by decide +kernel
theorem dX3_packRest_62 : decode cX3_packRest 62 = .ok (.invokestatic 40, 3) := by decide +kernel
theorem dX3_packRest_65 : decode cX3_packRest 65 = .ok (.ifCond .eq 30, 3) := by decide +kernel
theorem dX3_packRest_68 : decode cX3_packRest 68 = .ok (.aload_n 0, 1) := by decide +kernel
theorem dX3_packRest_69 : decode cX3_packRest 69 = .ok (.iload_n 3, 1) := by decide +kernel
theorem dX3_packRest_70 : decode cX3_packRest 70 = .ok (.iload 6, 2) := by decide +kernel
theorem dX3_packRest_72 : decode cX3_packRest 72 = .ok (.iload 4, 2) := by decide +kernel
theorem dX3_packRest_74 : decode cX3_packRest 74 = .ok (.iload_n 2, 1) := by decide +kernel
theorem dX3_packRest_75 : decode cX3_packRest 75 = .ok (.invokevirtual 83, 3) := by decide +kernel
theorem dX3_packRest_78 : decode cX3_packRest 78 = .ok (.ifCond .eq 17, 3) := by decide +kernel
theorem dX3_packRest_81 : decode cX3_packRest 81 = .ok (.aload_n 0, 1) := by decide +kernel
theorem dX3_packRest_82 : decode cX3_packRest 82 = .ok (.iload 4, 2) := by decide +kernel
theorem dX3_packRest_84 : decode cX3_packRest 84 = .ok (.iload_n 2, 1) := by decide +kernel
theorem dX3_packRest_85 : decode cX3_packRest 85 = .ok (.iconst 1, 1) := by decide +kernel
theorem dX3_packRest_86 : decode cX3_packRest 86 = .ok (.iadd, 1) := by decide +kernel
theorem dX3_packRest_87 : decode cX3_packRest 87 = .ok (.invokevirtual 70, 3) := by decide +kernel
theorem dX3_packRest_90 : decode cX3_packRest 90 = .ok (.ifCond .eq 5, 3) := by decide +kernel
theorem dX3_packRest_93 : decode cX3_packRest 93 = .ok (.iconst 1, 1) := by decide +kernel
theorem dX3_packRest_94 : decode cX3_packRest 94 = .ok (.ireturn, 1) := by decide +kernel
theorem dX3_packRest_95 : decode cX3_packRest 95 = .ok (.iinc 6 1, 3) := by decide +kernel
theorem dX3_packRest_98 : decode cX3_packRest 98 = .ok (.goto (-52), 3) := by decide +kernel
theorem dX3_packRest_101 : decode cX3_packRest 101 = .ok (.iconst 0, 1) := by decide +kernel
theorem dX3_packRest_102 : decode cX3_packRest 102 = .ok (.ireturn, 1) := by decide +kernel
theorem dX3_tightest_0 : decode cX3_tightest 0 = .ok (.iconst 0, 1) := by decide +kernel
theorem dX3_tightest_1 : decode cX3_tightest 1 = .ok (.istore_n 3, 1) := by decide +kernel
theorem dX3_tightest_2 : decode cX3_tightest 2 = .ok (.bipush 7, 2) := by decide +kernel
theorem dX3_tightest_4 : decode cX3_tightest 4 = .ok (.istore 4, 2) := by decide +kernel
theorem dX3_tightest_6 : decode cX3_tightest 6 = .ok (.iconst 0, 1) := by decide +kernel
theorem dX3_tightest_7 : decode cX3_tightest 7 = .ok (.istore 5, 2) := by decide +kernel
theorem dX3_tightest_9 : decode cX3_tightest 9 = .ok (.iload 5, 2) := by decide +kernel
theorem dX3_tightest_11 : decode cX3_tightest 11 = .ok (.aload_n 0, 1) := by decide +kernel
theorem dX3_tightest_12 : decode cX3_tightest 12 = .ok (.getfield 21, 3) := by decide +kernel
theorem dX3_tightest_15 : decode cX3_tightest 15 = .ok (.getfield 57, 3) := by decide +kernel
theorem dX3_tightest_18 : decode cX3_tightest 18 = .ok (.if_icmp .ge 72, 3) := by decide +kernel
theorem dX3_tightest_21 : decode cX3_tightest 21 = .ok (.iload_n 1, 1) := by decide +kernel
theorem dX3_tightest_22 : decode cX3_tightest 22 = .ok (.iload 5, 2) := by decide +kernel
theorem dX3_tightest_24 : decode cX3_tightest 24 = .ok (.invokestatic 40, 3) := by decide +kernel
theorem dX3_tightest_27 : decode cX3_tightest 27 = .ok (.ifCond .eq 57, 3) := by decide +kernel
theorem dX3_tightest_30 : decode cX3_tightest 30 = .ok (.aload_n 0, 1) := by decide +kernel
theorem dX3_tightest_31 : decode cX3_tightest 31 = .ok (.getfield 18, 3) := by decide +kernel
theorem dX3_tightest_34 : decode cX3_tightest 34 = .ok (.iload_n 2, 1) := by decide +kernel
theorem dX3_tightest_35 : decode cX3_tightest 35 = .ok (.bipush 10, 2) := by decide +kernel
theorem dX3_tightest_37 : decode cX3_tightest 37 = .ok (.imul, 1) := by decide +kernel
theorem dX3_tightest_38 : decode cX3_tightest 38 = .ok (.iload 5, 2) := by decide +kernel
theorem dX3_tightest_40 : decode cX3_tightest 40 = .ok (.iadd, 1) := by decide +kernel
theorem dX3_tightest_41 : decode cX3_tightest 41 = .ok (.iaload, 1) := by decide +kernel
theorem dX3_tightest_42 : decode cX3_tightest 42 = .ok (.invokestatic 52, 3) := by decide +kernel
theorem dX3_tightest_45 : decode cX3_tightest 45 = .ok (.istore 6, 2) := by decide +kernel
theorem dX3_tightest_47 : decode cX3_tightest 47 = .ok (.iload 6, 2) := by decide +kernel
theorem dX3_tightest_49 : decode cX3_tightest 49 = .ok (.iload 4, 2) := by decide +kernel
theorem dX3_tightest_51 : decode cX3_tightest 51 = .ok (.if_icmp .lt 26, 3) := by decide +kernel
theorem dX3_tightest_54 : decode cX3_tightest 54 = .ok (.iload 6, 2) := by decide +kernel
theorem dX3_tightest_56 : decode cX3_tightest 56 = .ok (.iload 4, 2) := by decide +kernel
theorem dX3_tightest_58 : decode cX3_tightest 58 = .ok (.if_icmp .ne 26, 3) := by decide +kernel
theorem dX3_tightest_61 : decode cX3_tightest 61 = .ok (.aload_n 0, 1) := by decide +kernel
theorem dX3_tightest_62 : decode cX3_tightest 62 = .ok (.getfield 15, 3) := by decide +kernel
theorem dX3_tightest_65 : decode cX3_tightest 65 = .ok (.iload 5, 2) := by decide +kernel
theorem dX3_tightest_67 : decode cX3_tightest 67 = .ok (.iaload, 1) := by decide +kernel
theorem dX3_tightest_68 : decode cX3_tightest 68 = .ok (.aload_n 0, 1) := by decide +kernel
theorem dX3_tightest_69 : decode cX3_tightest 69 = .ok (.getfield 15, 3) := by decide +kernel
theorem dX3_tightest_72 : decode cX3_tightest 72 = .ok (.iload_n 3, 1) := by decide +kernel
theorem dX3_tightest_73 : decode cX3_tightest 73 = .ok (.iaload, 1) := by decide +kernel
theorem dX3_tightest_74 : decode cX3_tightest 74 = .ok (.if_icmp .le 10, 3) := by decide +kernel
theorem dX3_tightest_77 : decode cX3_tightest 77 = .ok (.iload 5, 2) := by decide +kernel
theorem dX3_tightest_79 : decode cX3_tightest 79 = .ok (.istore_n 3, 1) := by decide +kernel
theorem dX3_tightest_80 : decode cX3_tightest 80 = .ok (.iload 6, 2) := by decide +kernel
theorem dX3_tightest_82 : decode cX3_tightest 82 = .ok (.istore 4, 2) := by decide +kernel
theorem dX3_tightest_84 : decode cX3_tightest 84 = .ok (.iinc 5 1, 3) := by decide +kernel
theorem dX3_tightest_87 : decode cX3_tightest 87 = .ok (.goto (-78), 3) := by decide +kernel
theorem dX3_tightest_90 : decode cX3_tightest 90 = .ok (.iload_n 3, 1) := by decide +kernel
theorem dX3_tightest_91 : decode cX3_tightest 91 = .ok (.ireturn, 1) := by decide +kernel
theorem dX3_narrow_0 : decode cX3_narrow 0 = .ok (.iconst 0, 1) := by decide +kernel
theorem dX3_narrow_1 : decode cX3_narrow 1 = .ok (.istore 5, 2) := by decide +kernel
theorem dX3_narrow_3 : decode cX3_narrow 3 = .ok (.iload 5, 2) := by decide +kernel
theorem dX3_narrow_5 : decode cX3_narrow 5 = .ok (.aload_n 0, 1) := by decide +kernel
theorem dX3_narrow_6 : decode cX3_narrow 6 = .ok (.getfield 21, 3) := by decide +kernel
theorem dX3_narrow_9 : decode cX3_narrow 9 = .ok (.getfield 57, 3) := by decide +kernel
theorem dX3_narrow_12 : decode cX3_narrow 12 = .ok (.if_icmp .ge 71, 3) := by decide +kernel
theorem dX3_narrow_15 : decode cX3_narrow 15 = .ok (.iload_n 3, 1) := by decide +kernel
theorem dX3_narrow_16 : decode cX3_narrow 16 = .ok (.iload 5, 2) := by decide +kernel
theorem dX3_narrow_18 : decode cX3_narrow 18 = .ok (.invokestatic 40, 3) := by decide +kernel
theorem dX3_narrow_21 : decode cX3_narrow 21 = .ok (.ifCond .eq 56, 3) := by decide +kernel
theorem dX3_narrow_24 : decode cX3_narrow 24 = .ok (.aload_n 0, 1) := by decide +kernel
theorem dX3_narrow_25 : decode cX3_narrow 25 = .ok (.getfield 18, 3) := by decide +kernel
theorem dX3_narrow_28 : decode cX3_narrow 28 = .ok (.iload 4, 2) := by decide +kernel
theorem dX3_narrow_30 : decode cX3_narrow 30 = .ok (.bipush 10, 2) := by decide +kernel
theorem dX3_narrow_32 : decode cX3_narrow 32 = .ok (.imul, 1) := by decide +kernel
theorem dX3_narrow_33 : decode cX3_narrow 33 = .ok (.iload 5, 2) := by decide +kernel
theorem dX3_narrow_35 : decode cX3_narrow 35 = .ok (.iadd, 1) := by decide +kernel
theorem dX3_narrow_36 : decode cX3_narrow 36 = .ok (.iaload, 1) := by decide +kernel
theorem dX3_narrow_37 : decode cX3_narrow 37 = .ok (.aload_n 0, 1) := by decide +kernel
theorem dX3_narrow_38 : decode cX3_narrow 38 = .ok (.getfield 21, 3) := by decide +kernel
theorem dX3_narrow_41 : decode cX3_narrow 41 = .ok (.iload 5, 2) := by decide +kernel
theorem dX3_narrow_43 : decode cX3_narrow 43 = .ok (.iload_n 1, 1) := by decide +kernel
theorem dX3_narrow_44 : decode cX3_narrow 44 = .ok (.iload_n 2, 1) := by decide +kernel
theorem dX3_narrow_45 : decode cX3_narrow 45 = .ok (.invokevirtual 87, 3) := by decide +kernel
theorem dX3_narrow_48 : decode cX3_narrow 48 = .ok (.iconst (-1), 1) := by decide +kernel
theorem dX3_narrow_49 : decode cX3_narrow 49 = .ok (.ixor, 1) := by decide +kernel
theorem dX3_narrow_50 : decode cX3_narrow 50 = .ok (.iand, 1) := by decide +kernel
theorem dX3_narrow_51 : decode cX3_narrow 51 = .ok (.istore 6, 2) := by decide +kernel
theorem dX3_narrow_53 : decode cX3_narrow 53 = .ok (.iload 6, 2) := by decide +kernel
theorem dX3_narrow_55 : decode cX3_narrow 55 = .ok (.ifCond .ne 5, 3) := by decide +kernel
theorem dX3_narrow_58 : decode cX3_narrow 58 = .ok (.iconst 0, 1) := by decide +kernel
theorem dX3_narrow_59 : decode cX3_narrow 59 = .ok (.ireturn, 1) := by decide +kernel
theorem dX3_narrow_60 : decode cX3_narrow 60 = .ok (.aload_n 0, 1) := by decide +kernel
theorem dX3_narrow_61 : decode cX3_narrow 61 = .ok (.getfield 18, 3) := by decide +kernel
theorem dX3_narrow_64 : decode cX3_narrow 64 = .ok (.iload 4, 2) := by decide +kernel
theorem dX3_narrow_66 : decode cX3_narrow 66 = .ok (.iconst 1, 1) := by decide +kernel
theorem dX3_narrow_67 : decode cX3_narrow 67 = .ok (.iadd, 1) := by decide +kernel
theorem dX3_narrow_68 : decode cX3_narrow 68 = .ok (.bipush 10, 2) := by decide +kernel
theorem dX3_narrow_70 : decode cX3_narrow 70 = .ok (.imul, 1) := by decide +kernel
theorem dX3_narrow_71 : decode cX3_narrow 71 = .ok (.iload 5, 2) := by decide +kernel
theorem dX3_narrow_73 : decode cX3_narrow 73 = .ok (.iadd, 1) := by decide +kernel
theorem dX3_narrow_74 : decode cX3_narrow 74 = .ok (.iload 6, 2) := by decide +kernel
theorem dX3_narrow_76 : decode cX3_narrow 76 = .ok (.iastore, 1) := by decide +kernel
theorem dX3_narrow_77 : decode cX3_narrow 77 = .ok (.iinc 5 1, 3) := by decide +kernel
theorem dX3_narrow_80 : decode cX3_narrow 80 = .ok (.goto (-77), 3) := by decide +kernel
theorem dX3_narrow_83 : decode cX3_narrow 83 = .ok (.iconst 1, 1) := by decide +kernel
theorem dX3_narrow_84 : decode cX3_narrow 84 = .ok (.ireturn, 1) := by decide +kernel
theorem dX4_init_0 : decode cX4_init 0 = .ok (.aload_n 0, 1) := by decide +kernel
theorem dX4_init_1 : decode cX4_init 1 = .ok (.invokespecial 3, 3) := by decide +kernel
theorem dX4_init_4 : decode cX4_init 4 = .ok (.aload_n 0, 1) := by decide +kernel
theorem dX4_init_5 : decode cX4_init 5 = .ok (.iconst 0, 1) := by decide +kernel
theorem dX4_init_6 : decode cX4_init 6 = .ok (.putfield 9, 3) := by decide +kernel
theorem dX4_init_9 : decode cX4_init 9 = .ok (.aload_n 0, 1) := by decide +kernel
theorem dX4_init_10 : decode cX4_init 10 = .ok (.iconst 0, 1) := by decide +kernel
theorem dX4_init_11 : decode cX4_init 11 = .ok (.putfield 15, 3) := by decide +kernel
theorem dX4_init_14 : decode cX4_init 14 = .ok (.aload_n 0, 1) := by decide +kernel
theorem dX4_init_15 : decode cX4_init 15 = .ok (.bipush 10, 2) := by decide +kernel
theorem dX4_init_17 : decode cX4_init 17 = .ok (.newarray .int, 2) := by decide +kernel
theorem dX4_init_19 : decode cX4_init 19 = .ok (.putfield 18, 3) := by decide +kernel
theorem dX4_init_22 : decode cX4_init 22 = .ok (.aload_n 0, 1) := by decide +kernel
theorem dX4_init_23 : decode cX4_init 23 = .ok (.bipush 10, 2) := by decide +kernel
theorem dX4_init_25 : decode cX4_init 25 = .ok (.newarray .int, 2) := by decide +kernel
theorem dX4_init_27 : decode cX4_init 27 = .ok (.putfield 22, 3) := by decide +kernel
theorem dX4_init_30 : decode cX4_init 30 = .ok (.aload_n 0, 1) := by decide +kernel
theorem dX4_init_31 : decode cX4_init 31 = .ok (.bipush 10, 2) := by decide +kernel
theorem dX4_init_33 : decode cX4_init 33 = .ok (.newarray .int, 2) := by decide +kernel
theorem dX4_init_35 : decode cX4_init 35 = .ok (.putfield 25, 3) := by decide +kernel
theorem dX4_init_38 : decode cX4_init 38 = .ok (.aload_n 0, 1) := by decide +kernel
theorem dX4_init_39 : decode cX4_init 39 = .ok (.sipush 1024, 3) := by decide +kernel
theorem dX4_init_42 : decode cX4_init 42 = .ok (.newarray .int, 2) := by decide +kernel
theorem dX4_init_44 : decode cX4_init 44 = .ok (.putfield 28, 3) := by decide +kernel
theorem dX4_init_47 : decode cX4_init 47 = .ok (.aload_n 0, 1) := by decide +kernel
theorem dX4_init_48 : decode cX4_init 48 = .ok (.aload_n 1, 1) := by decide +kernel
theorem dX4_init_49 : decode cX4_init 49 = .ok (.putfield 31, 3) := by decide +kernel
theorem dX4_init_52 : decode cX4_init 52 = .ok (.return_, 1) := by decide +kernel
theorem dX4_lookFor_0 : decode cX4_lookFor 0 = .ok (.aload_n 0, 1) := by decide +kernel
theorem dX4_lookFor_1 : decode cX4_lookFor 1 = .ok (.iconst 0, 1) := by decide +kernel
theorem dX4_lookFor_2 : decode cX4_lookFor 2 = .ok (.putfield 15, 3) := by decide +kernel
theorem dX4_lookFor_5 : decode cX4_lookFor 5 = .ok (.aload_n 0, 1) := by decide +kernel
theorem dX4_lookFor_6 : decode cX4_lookFor 6 = .ok (.iconst 0, 1) := by decide +kernel
theorem dX4_lookFor_7 : decode cX4_lookFor 7 = .ok (.putfield 9, 3) := by decide +kernel
theorem dX4_lookFor_10 : decode cX4_lookFor 10 = .ok (.iconst 0, 1) := by decide +kernel
theorem dX4_lookFor_11 : decode cX4_lookFor 11 = .ok (.istore_n 2, 1) := by decide +kernel
theorem dX4_lookFor_12 : decode cX4_lookFor 12 = .ok (.iload_n 2, 1) := by decide +kernel
theorem dX4_lookFor_13 : decode cX4_lookFor 13 = .ok (.aload_n 0, 1) := by decide +kernel
theorem dX4_lookFor_14 : decode cX4_lookFor 14 = .ok (.getfield 31, 3) := by decide +kernel
theorem dX4_lookFor_17 : decode cX4_lookFor 17 = .ok (.getfield 35, 3) := by decide +kernel
theorem dX4_lookFor_20 : decode cX4_lookFor 20 = .ok (.if_icmp .ge 54, 3) := by decide +kernel
theorem dX4_lookFor_23 : decode cX4_lookFor 23 = .ok (.iload_n 1, 1) := by decide +kernel
theorem dX4_lookFor_24 : decode cX4_lookFor 24 = .ok (.iload_n 2, 1) := by decide +kernel
theorem dX4_lookFor_25 : decode cX4_lookFor 25 = .ok (.invokestatic 40, 3) := by decide +kernel
theorem dX4_lookFor_28 : decode cX4_lookFor 28 = .ok (.ifCond .eq 40, 3) := by decide +kernel
theorem dX4_lookFor_31 : decode cX4_lookFor 31 = .ok (.aload_n 0, 1) := by decide +kernel
theorem dX4_lookFor_32 : decode cX4_lookFor 32 = .ok (.getfield 18, 3) := by decide +kernel
theorem dX4_lookFor_35 : decode cX4_lookFor 35 = .ok (.aload_n 0, 1) := by decide +kernel
theorem dX4_lookFor_36 : decode cX4_lookFor 36 = .ok (.getfield 15, 3) := by decide +kernel
theorem dX4_lookFor_39 : decode cX4_lookFor 39 = .ok (.iload_n 2, 1) := by decide +kernel
theorem dX4_lookFor_40 : decode cX4_lookFor 40 = .ok (.iastore, 1) := by decide +kernel
theorem dX4_lookFor_41 : decode cX4_lookFor 41 = .ok (.aload_n 0, 1) := by decide +kernel
theorem dX4_lookFor_42 : decode cX4_lookFor 42 = .ok (.getfield 22, 3) := by decide +kernel
theorem dX4_lookFor_45 : decode cX4_lookFor 45 = .ok (.aload_n 0, 1) := by decide +kernel
theorem dX4_lookFor_46 : decode cX4_lookFor 46 = .ok (.getfield 15, 3) := by decide +kernel
theorem dX4_lookFor_49 : decode cX4_lookFor 49 = .ok (.aload_n 0, 1) := by decide +kernel
theorem dX4_lookFor_50 : decode cX4_lookFor 50 = .ok (.getfield 31, 3) := by decide +kernel
theorem dX4_lookFor_53 : decode cX4_lookFor 53 = .ok (.iload_n 2, 1) := by decide +kernel
theorem dX4_lookFor_54 : decode cX4_lookFor 54 = .ok (.invokevirtual 44, 3) := by decide +kernel
theorem dX4_lookFor_57 : decode cX4_lookFor 57 = .ok (.iastore, 1) := by decide +kernel
theorem dX4_lookFor_58 : decode cX4_lookFor 58 = .ok (.aload_n 0, 1) := by decide +kernel
theorem dX4_lookFor_59 : decode cX4_lookFor 59 = .ok (.dup, 1) := by decide +kernel
theorem dX4_lookFor_60 : decode cX4_lookFor 60 = .ok (.getfield 15, 3) := by decide +kernel
theorem dX4_lookFor_63 : decode cX4_lookFor 63 = .ok (.iconst 1, 1) := by decide +kernel
theorem dX4_lookFor_64 : decode cX4_lookFor 64 = .ok (.iadd, 1) := by decide +kernel
theorem dX4_lookFor_65 : decode cX4_lookFor 65 = .ok (.putfield 15, 3) := by decide +kernel
theorem dX4_lookFor_68 : decode cX4_lookFor 68 = .ok (.iinc 2 1, 3) := by decide +kernel
theorem dX4_lookFor_71 : decode cX4_lookFor 71 = .ok (.goto (-59), 3) := by decide +kernel
theorem dX4_lookFor_74 : decode cX4_lookFor 74 = .ok (.aload_n 0, 1) := by decide +kernel
theorem dX4_lookFor_75 : decode cX4_lookFor 75 = .ok (.iconst 0, 1) := by decide +kernel
theorem dX4_lookFor_76 : decode cX4_lookFor 76 = .ok (.invokevirtual 48, 3) := by decide +kernel
theorem dX4_lookFor_79 : decode cX4_lookFor 79 = .ok (.ireturn, 1) := by decide +kernel
theorem dX4_finds_0 : decode cX4_finds 0 = .ok (.aload_n 0, 1) := by decide +kernel
theorem dX4_finds_1 : decode cX4_finds 1 = .ok (.getfield 31, 3) := by decide +kernel
theorem dX4_finds_4 : decode cX4_finds 4 = .ok (.iload_n 1, 1) := by decide +kernel
theorem dX4_finds_5 : decode cX4_finds 5 = .ok (.invokevirtual 51, 3) := by decide +kernel
theorem dX4_finds_8 : decode cX4_finds 8 = .ok (.ifCond .ne 5, 3) := by decide +kernel
theorem dX4_finds_11 : decode cX4_finds 11 = .ok (.iconst 0, 1) := by decide +kernel
theorem dX4_finds_12 : decode cX4_finds 12 = .ok (.ireturn, 1) := by decide +kernel
theorem dX4_finds_13 : decode cX4_finds 13 = .ok (.aload_n 0, 1) := by decide +kernel
theorem dX4_finds_14 : decode cX4_finds 14 = .ok (.getfield 28, 3) := by decide +kernel
theorem dX4_finds_17 : decode cX4_finds 17 = .ok (.iload_n 1, 1) := by decide +kernel
theorem dX4_finds_18 : decode cX4_finds 18 = .ok (.iaload, 1) := by decide +kernel
theorem dX4_finds_19 : decode cX4_finds 19 = .ok (.iconst 1, 1) := by decide +kernel
theorem dX4_finds_20 : decode cX4_finds 20 = .ok (.ishr, 1) := by decide +kernel
theorem dX4_finds_21 : decode cX4_finds 21 = .ok (.aload_n 0, 1) := by decide +kernel
theorem dX4_finds_22 : decode cX4_finds 22 = .ok (.getfield 31, 3) := by decide +kernel
theorem dX4_finds_25 : decode cX4_finds 25 = .ok (.getfield 55, 3) := by decide +kernel
theorem dX4_finds_28 : decode cX4_finds 28 = .ok (.if_icmp .eq 33, 3) := by decide +kernel
theorem dX4_finds_31 : decode cX4_finds 31 = .ok (.aload_n 0, 1) := by decide +kernel
theorem dX4_finds_32 : decode cX4_finds 32 = .ok (.getfield 28, 3) := by decide +kernel
theorem dX4_finds_35 : decode cX4_finds 35 = .ok (.iload_n 1, 1) := by decide +kernel
theorem dX4_finds_36 : decode cX4_finds 36 = .ok (.aload_n 0, 1) := by decide +kernel
theorem dX4_finds_37 : decode cX4_finds 37 = .ok (.getfield 31, 3) := by decide +kernel
theorem dX4_finds_40 : decode cX4_finds 40 = .ok (.getfield 55, 3) := by decide +kernel
theorem dX4_finds_43 : decode cX4_finds 43 = .ok (.iconst 1, 1) := by decide +kernel
theorem dX4_finds_44 : decode cX4_finds 44 = .ok (.ishl, 1) := by decide +kernel
theorem dX4_finds_45 : decode cX4_finds 45 = .ok (.aload_n 0, 1) := by decide +kernel
theorem dX4_finds_46 : decode cX4_finds 46 = .ok (.iload_n 1, 1) := by decide +kernel
theorem dX4_finds_47 : decode cX4_finds 47 = .ok (.invokevirtual 58, 3) := by decide +kernel
theorem dX4_finds_50 : decode cX4_finds 50 = .ok (.iconst 1, 1) := by decide +kernel
theorem dX4_finds_51 : decode cX4_finds 51 = .ok (.if_icmp .ne 7, 3) := by decide +kernel
theorem dX4_finds_54 : decode cX4_finds 54 = .ok (.iconst 1, 1) := by decide +kernel
theorem dX4_finds_55 : decode cX4_finds 55 = .ok (.goto 4, 3) := by decide +kernel
theorem dX4_finds_58 : decode cX4_finds 58 = .ok (.iconst 0, 1) := by decide +kernel
theorem dX4_finds_59 : decode cX4_finds 59 = .ok (.ior, 1) := by decide +kernel
theorem dX4_finds_60 : decode cX4_finds 60 = .ok (.iastore, 1) := by decide +kernel
theorem dX4_finds_61 : decode cX4_finds 61 = .ok (.aload_n 0, 1) := by decide +kernel
theorem dX4_finds_62 : decode cX4_finds 62 = .ok (.getfield 28, 3) := by decide +kernel
theorem dX4_finds_65 : decode cX4_finds 65 = .ok (.iload_n 1, 1) := by decide +kernel
theorem dX4_finds_66 : decode cX4_finds 66 = .ok (.iaload, 1) := by decide +kernel
theorem dX4_finds_67 : decode cX4_finds 67 = .ok (.iconst 1, 1) := by decide +kernel
theorem dX4_finds_68 : decode cX4_finds 68 = .ok (.iand, 1) := by decide +kernel
theorem dX4_finds_69 : decode cX4_finds 69 = .ok (.ifCond .eq 7, 3) := by decide +kernel
theorem dX4_finds_72 : decode cX4_finds 72 = .ok (.iconst 1, 1) := by decide +kernel
theorem dX4_finds_73 : decode cX4_finds 73 = .ok (.goto 4, 3) := by decide +kernel
theorem dX4_finds_76 : decode cX4_finds 76 = .ok (.iconst 0, 1) := by decide +kernel
theorem dX4_finds_77 : decode cX4_finds 77 = .ok (.ireturn, 1) := by decide +kernel
theorem dX4_goOn_0 : decode cX4_goOn 0 = .ok (.iload_n 1, 1) := by decide +kernel
theorem dX4_goOn_1 : decode cX4_goOn 1 = .ok (.aload_n 0, 1) := by decide +kernel
theorem dX4_goOn_2 : decode cX4_goOn 2 = .ok (.getfield 15, 3) := by decide +kernel
theorem dX4_goOn_5 : decode cX4_goOn 5 = .ok (.if_icmp .ge 9, 3) := by decide +kernel
theorem dX4_goOn_8 : decode cX4_goOn 8 = .ok (.iload_n 1, 1) := by decide +kernel
theorem dX4_goOn_9 : decode cX4_goOn 9 = .ok (.bipush 10, 2) := by decide +kernel
theorem dX4_goOn_11 : decode cX4_goOn 11 = .ok (.if_icmp .lt 5, 3) := by decide +kernel
theorem dX4_goOn_14 : decode cX4_goOn 14 = .ok (.iconst 1, 1) := by decide +kernel
theorem dX4_goOn_15 : decode cX4_goOn 15 = .ok (.ireturn, 1) := by decide +kernel
theorem dX4_goOn_16 : decode cX4_goOn 16 = .ok (.aload_n 0, 1) := by decide +kernel
theorem dX4_goOn_17 : decode cX4_goOn 17 = .ok (.getfield 22, 3) := by decide +kernel
theorem dX4_goOn_20 : decode cX4_goOn 20 = .ok (.iload_n 1, 1) := by decide +kernel
theorem dX4_goOn_21 : decode cX4_goOn 21 = .ok (.iaload, 1) := by decide +kernel
theorem dX4_goOn_22 : decode cX4_goOn 22 = .ok (.istore_n 2, 1) := by decide +kernel
theorem dX4_goOn_23 : decode cX4_goOn 23 = .ok (.iconst 0, 1) := by decide +kernel
theorem dX4_goOn_24 : decode cX4_goOn 24 = .ok (.istore_n 3, 1) := by decide +kernel
theorem dX4_goOn_25 : decode cX4_goOn 25 = .ok (.iload_n 3, 1) := by decide +kernel
theorem dX4_goOn_26 : decode cX4_goOn 26 = .ok (.iload_n 1, 1) := by decide +kernel
theorem dX4_goOn_27 : decode cX4_goOn 27 = .ok (.if_icmp .ge 39, 3) := by decide +kernel
theorem dX4_goOn_30 : decode cX4_goOn 30 = .ok (.iload_n 2, 1) := by decide +kernel
theorem dX4_goOn_31 : decode cX4_goOn 31 = .ok (.aload_n 0, 1) := by decide +kernel
theorem dX4_goOn_32 : decode cX4_goOn 32 = .ok (.getfield 31, 3) := by decide +kernel
theorem dX4_goOn_35 : decode cX4_goOn 35 = .ok (.aload_n 0, 1) := by decide +kernel
theorem dX4_goOn_36 : decode cX4_goOn 36 = .ok (.getfield 18, 3) := by decide +kernel
theorem dX4_goOn_39 : decode cX4_goOn 39 = .ok (.iload_n 1, 1) := by decide +kernel
theorem dX4_goOn_40 : decode cX4_goOn 40 = .ok (.iaload, 1) := by decide +kernel
theorem dX4_goOn_41 : decode cX4_goOn 41 = .ok (.aload_n 0, 1) := by decide +kernel
theorem dX4_goOn_42 : decode cX4_goOn 42 = .ok (.getfield 18, 3) := by decide +kernel
theorem dX4_goOn_45 : decode cX4_goOn 45 = .ok (.iload_n 3, 1) := by decide +kernel
theorem dX4_goOn_46 : decode cX4_goOn 46 = .ok (.iaload, 1) := by decide +kernel
theorem dX4_goOn_47 : decode cX4_goOn 47 = .ok (.aload_n 0, 1) := by decide +kernel
theorem dX4_goOn_48 : decode cX4_goOn 48 = .ok (.getfield 25, 3) := by decide +kernel
theorem dX4_goOn_51 : decode cX4_goOn 51 = .ok (.iload_n 3, 1) := by decide +kernel
theorem dX4_goOn_52 : decode cX4_goOn 52 = .ok (.iaload, 1) := by decide +kernel
theorem dX4_goOn_53 : decode cX4_goOn 53 = .ok (.invokevirtual 61, 3) := by decide +kernel
theorem dX4_goOn_56 : decode cX4_goOn 56 = .ok (.iconst (-1), 1) := by decide +kernel
theorem dX4_goOn_57 : decode cX4_goOn 57 = .ok (.ixor, 1) := by decide +kernel
theorem dX4_goOn_58 : decode cX4_goOn 58 = .ok (.iand, 1) := by decide +kernel
theorem dX4_goOn_59 : decode cX4_goOn 59 = .ok (.istore_n 2, 1) := by decide +kernel
theorem dX4_goOn_60 : decode cX4_goOn 60 = .ok (.iinc 3 1, 3) := by decide +kernel
theorem dX4_goOn_63 : decode cX4_goOn 63 = .ok (.goto (-38), 3) := by decide +kernel
theorem dX4_goOn_66 : decode cX4_goOn 66 = .ok (.iconst 0, 1) := by decide +kernel
theorem dX4_goOn_67 : decode cX4_goOn 67 = .ok (.istore_n 3, 1) := by decide +kernel
theorem dX4_goOn_68 : decode cX4_goOn 68 = .ok (.iload_n 3, 1) := by decide +kernel
theorem dX4_goOn_69 : decode cX4_goOn 69 = .ok (.aload_n 0, 1) := by decide +kernel
theorem dX4_goOn_70 : decode cX4_goOn 70 = .ok (.getfield 31, 3) := by decide +kernel
theorem dX4_goOn_73 : decode cX4_goOn 73 = .ok (.getfield 65, 3) := by decide +kernel
theorem dX4_goOn_76 : decode cX4_goOn 76 = .ok (.if_icmp .ge 68, 3) := by decide +kernel
theorem dX4_goOn_79 : decode cX4_goOn 79 = .ok (.aload_n 0, 1) := by decide +kernel
theorem dX4_goOn_80 : decode cX4_goOn 80 = .ok (.getfield 9, 3) := by decide +kernel
theorem dX4_goOn_83 : decode cX4_goOn 83 = .ok (.aload_n 0, 1) := by decide +kernel
theorem dX4_goOn_84 : decode cX4_goOn 84 = .ok (.getfield 31, 3) := by decide +kernel
theorem dX4_goOn_87 : decode cX4_goOn 87 = .ok (.getfield 68, 3) := by decide +kernel
theorem dX4_goOn_90 : decode cX4_goOn 90 = .ok (.if_icmp .lt 6, 3) := by decide +kernel
theorem dX4_goOn_93 : decode cX4_goOn 93 = .ok (.bipush (-5), 2) := by decide +kernel
theorem dX4_goOn_95 : decode cX4_goOn 95 = .ok (.ireturn, 1) := by decide +kernel
theorem dX4_goOn_96 : decode cX4_goOn 96 = .ok (.aload_n 0, 1) := by decide +kernel
theorem dX4_goOn_97 : decode cX4_goOn 97 = .ok (.dup, 1) := by decide +kernel
theorem dX4_goOn_98 : decode cX4_goOn 98 = .ok (.getfield 9, 3) := by decide +kernel
theorem dX4_goOn_101 : decode cX4_goOn 101 = .ok (.iconst 1, 1) := by decide +kernel
theorem dX4_goOn_102 : decode cX4_goOn 102 = .ok (.iadd, 1) := by decide +kernel
theorem dX4_goOn_103 : decode cX4_goOn 103 = .ok (.putfield 9, 3) := by decide +kernel
theorem dX4_goOn_106 : decode cX4_goOn 106 = .ok (.iload_n 2, 1) := by decide +kernel
theorem dX4_goOn_107 : decode cX4_goOn 107 = .ok (.iload_n 3, 1) := by decide +kernel
theorem dX4_goOn_108 : decode cX4_goOn 108 = .ok (.invokestatic 40, 3) := by decide +kernel
theorem dX4_goOn_111 : decode cX4_goOn 111 = .ok (.ifCond .eq 27, 3) := by decide +kernel
theorem dX4_goOn_114 : decode cX4_goOn 114 = .ok (.aload_n 0, 1) := by decide +kernel
theorem dX4_goOn_115 : decode cX4_goOn 115 = .ok (.getfield 25, 3) := by decide +kernel
theorem dX4_goOn_118 : decode cX4_goOn 118 = .ok (.iload_n 1, 1) := by decide +kernel
theorem dX4_goOn_119 : decode cX4_goOn 119 = .ok (.iload_n 3, 1) := by decide +kernel
theorem dX4_goOn_120 : decode cX4_goOn 120 = .ok (.iastore, 1) := by decide +kernel
theorem dX4_goOn_121 : decode cX4_goOn 121 = .ok (.aload_n 0, 1) := by decide +kernel
theorem dX4_goOn_122 : decode cX4_goOn 122 = .ok (.iload_n 1, 1) := by decide +kernel
theorem dX4_goOn_123 : decode cX4_goOn 123 = .ok (.iconst 1, 1) := by decide +kernel
theorem dX4_goOn_124 : decode cX4_goOn 124 = .ok (.iadd, 1) := by decide +kernel
theorem dX4_goOn_125 : decode cX4_goOn 125 = .ok (.invokevirtual 48, 3) := by decide +kernel
theorem dX4_goOn_128 : decode cX4_goOn 128 = .ok (.istore 4, 2) := by decide +kernel
theorem dX4_goOn_130 : decode cX4_goOn 130 = .ok (.iload 4, 2) := by decide +kernel
theorem dX4_goOn_132 : decode cX4_goOn 132 = .ok (.ifCond .eq 6, 3) := by decide +kernel
theorem dX4_goOn_135 : decode cX4_goOn 135 = .ok (.iload 4, 2) := by decide +kernel
theorem dX4_goOn_137 : decode cX4_goOn 137 = .ok (.ireturn, 1) := by decide +kernel
theorem dX4_goOn_138 : decode cX4_goOn 138 = .ok (.iinc 3 1, 3) := by decide +kernel
theorem dX4_goOn_141 : decode cX4_goOn 141 = .ok (.goto (-73), 3) := by decide +kernel
theorem dX4_goOn_144 : decode cX4_goOn 144 = .ok (.iconst 0, 1) := by decide +kernel
theorem dX4_goOn_145 : decode cX4_goOn 145 = .ok (.ireturn, 1) := by decide +kernel
theorem dX5_init_0 : decode cX5_init 0 = .ok (.aload_n 0, 1) := by decide +kernel
theorem dX5_init_1 : decode cX5_init 1 = .ok (.invokespecial 3, 3) := by decide +kernel
theorem dX5_init_4 : decode cX5_init 4 = .ok (.aload_n 0, 1) := by decide +kernel
theorem dX5_init_5 : decode cX5_init 5 = .ok (.iconst 0, 1) := by decide +kernel
theorem dX5_init_6 : decode cX5_init 6 = .ok (.putfield 9, 3) := by decide +kernel
theorem dX5_init_9 : decode cX5_init 9 = .ok (.aload_n 0, 1) := by decide +kernel
theorem dX5_init_10 : decode cX5_init 10 = .ok (.iconst 0, 1) := by decide +kernel
theorem dX5_init_11 : decode cX5_init 11 = .ok (.putfield 15, 3) := by decide +kernel
theorem dX5_init_14 : decode cX5_init 14 = .ok (.aload_n 0, 1) := by decide +kernel
theorem dX5_init_15 : decode cX5_init 15 = .ok (.bipush 24, 2) := by decide +kernel
theorem dX5_init_17 : decode cX5_init 17 = .ok (.newarray .int, 2) := by decide +kernel
theorem dX5_init_19 : decode cX5_init 19 = .ok (.putfield 18, 3) := by decide +kernel
theorem dX5_init_22 : decode cX5_init 22 = .ok (.aload_n 0, 1) := by decide +kernel
theorem dX5_init_23 : decode cX5_init 23 = .ok (.bipush 24, 2) := by decide +kernel
theorem dX5_init_25 : decode cX5_init 25 = .ok (.newarray .int, 2) := by decide +kernel
theorem dX5_init_27 : decode cX5_init 27 = .ok (.putfield 22, 3) := by decide +kernel
theorem dX5_init_30 : decode cX5_init 30 = .ok (.aload_n 0, 1) := by decide +kernel
theorem dX5_init_31 : decode cX5_init 31 = .ok (.bipush 24, 2) := by decide +kernel
theorem dX5_init_33 : decode cX5_init 33 = .ok (.newarray .int, 2) := by decide +kernel
theorem dX5_init_35 : decode cX5_init 35 = .ok (.putfield 25, 3) := by decide +kernel
theorem dX5_init_38 : decode cX5_init 38 = .ok (.aload_n 0, 1) := by decide +kernel
theorem dX5_init_39 : decode cX5_init 39 = .ok (.bipush 6, 2) := by decide +kernel
theorem dX5_init_41 : decode cX5_init 41 = .ok (.newarray .int, 2) := by decide +kernel
theorem dX5_init_43 : decode cX5_init 43 = .ok (.putfield 28, 3) := by decide +kernel
theorem dX5_init_46 : decode cX5_init 46 = .ok (.aload_n 0, 1) := by decide +kernel
theorem dX5_init_47 : decode cX5_init 47 = .ok (.bipush 6, 2) := by decide +kernel
theorem dX5_init_49 : decode cX5_init 49 = .ok (.newarray .int, 2) := by decide +kernel
theorem dX5_init_51 : decode cX5_init 51 = .ok (.putfield 31, 3) := by decide +kernel
theorem dX5_init_54 : decode cX5_init 54 = .ok (.aload_n 0, 1) := by decide +kernel
theorem dX5_init_55 : decode cX5_init 55 = .ok (.sipush 4096, 3) := by decide +kernel
theorem dX5_init_58 : decode cX5_init 58 = .ok (.newarray .int, 2) := by decide +kernel
theorem dX5_init_60 : decode cX5_init 60 = .ok (.putfield 34, 3) := by decide +kernel
theorem dX5_init_63 : decode cX5_init 63 = .ok (.aload_n 0, 1) := by decide +kernel
theorem dX5_init_64 : decode cX5_init 64 = .ok (.iconst 1, 1) := by decide +kernel
theorem dX5_init_65 : decode cX5_init 65 = .ok (.putfield 37, 3) := by decide +kernel
theorem dX5_init_68 : decode cX5_init 68 = .ok (.return_, 1) := by decide +kernel
theorem dX5_isHouse_0 : decode cX5_isHouse 0 = .ok (.iload_n 1, 1) := by decide +kernel
theorem dX5_isHouse_1 : decode cX5_isHouse 1 = .ok (.ifCond .lt 15, 3) := by decide +kernel
theorem dX5_isHouse_4 : decode cX5_isHouse 4 = .ok (.iload_n 1, 1) := by decide +kernel
theorem dX5_isHouse_5 : decode cX5_isHouse 5 = .ok (.aload_n 0, 1) := by decide +kernel
theorem dX5_isHouse_6 : decode cX5_isHouse 6 = .ok (.getfield 9, 3) := by decide +kernel
theorem dX5_isHouse_9 : decode cX5_isHouse 9 = .ok (.if_icmp .ge 7, 3) := by decide +kernel
theorem dX5_isHouse_12 : decode cX5_isHouse 12 = .ok (.iconst 1, 1) := by decide +kernel
theorem dX5_isHouse_13 : decode cX5_isHouse 13 = .ok (.goto 4, 3) := by decide +kernel
theorem dX5_isHouse_16 : decode cX5_isHouse 16 = .ok (.iconst 0, 1) := by decide +kernel
theorem dX5_isHouse_17 : decode cX5_isHouse 17 = .ok (.ireturn, 1) := by decide +kernel
theorem dX5_isGroup_0 : decode cX5_isGroup 0 = .ok (.iload_n 1, 1) := by decide +kernel
theorem dX5_isGroup_1 : decode cX5_isGroup 1 = .ok (.ifCond .lt 15, 3) := by decide +kernel
theorem dX5_isGroup_4 : decode cX5_isGroup 4 = .ok (.iload_n 1, 1) := by decide +kernel
theorem dX5_isGroup_5 : decode cX5_isGroup 5 = .ok (.aload_n 0, 1) := by decide +kernel
theorem dX5_isGroup_6 : decode cX5_isGroup 6 = .ok (.invokevirtual 41, 3) := by decide +kernel
theorem dX5_isGroup_9 : decode cX5_isGroup 9 = .ok (.if_icmp .gt 7, 3) := by decide +kernel
theorem dX5_isGroup_12 : decode cX5_isGroup 12 = .ok (.iconst 1, 1) := by decide +kernel
theorem dX5_isGroup_13 : decode cX5_isGroup 13 = .ok (.goto 4, 3) := by decide +kernel
theorem dX5_isGroup_16 : decode cX5_isGroup 16 = .ok (.iconst 0, 1) := by decide +kernel
theorem dX5_isGroup_17 : decode cX5_isGroup 17 = .ok (.ireturn, 1) := by decide +kernel
theorem dX5_allHouses_0 : decode cX5_allHouses 0 = .ok (.iconst 1, 1) := by decide +kernel
theorem dX5_allHouses_1 : decode cX5_allHouses 1 = .ok (.aload_n 0, 1) := by decide +kernel
theorem dX5_allHouses_2 : decode cX5_allHouses 2 = .ok (.getfield 9, 3) := by decide +kernel
theorem dX5_allHouses_5 : decode cX5_allHouses 5 = .ok (.ishl, 1) := by decide +kernel
theorem dX5_allHouses_6 : decode cX5_allHouses 6 = .ok (.iconst 1, 1) := by decide +kernel
theorem dX5_allHouses_7 : decode cX5_allHouses 7 = .ok (.isub, 1) := by decide +kernel
theorem dX5_allHouses_8 : decode cX5_allHouses 8 = .ok (.ireturn, 1) := by decide +kernel
theorem dX5_addHouse_0 : decode cX5_addHouse 0 = .ok (.aload_n 0, 1) := by decide +kernel
theorem dX5_addHouse_1 : decode cX5_addHouse 1 = .ok (.dup, 1) := by decide +kernel
theorem dX5_addHouse_2 : decode cX5_addHouse 2 = .ok (.getfield 9, 3) := by decide +kernel
theorem dX5_addHouse_5 : decode cX5_addHouse 5 = .ok (.iconst 1, 1) := by decide +kernel
theorem dX5_addHouse_6 : decode cX5_addHouse 6 = .ok (.iadd, 1) := by decide +kernel
theorem dX5_addHouse_7 : decode cX5_addHouse 7 = .ok (.putfield 9, 3) := by decide +kernel
theorem dX5_addHouse_10 : decode cX5_addHouse 10 = .ok (.aload_n 0, 1) := by decide +kernel
theorem dX5_addHouse_11 : decode cX5_addHouse 11 = .ok (.iconst 1, 1) := by decide +kernel
theorem dX5_addHouse_12 : decode cX5_addHouse 12 = .ok (.putfield 37, 3) := by decide +kernel
theorem dX5_addHouse_15 : decode cX5_addHouse 15 = .ok (.aload_n 0, 1) := by decide +kernel
theorem dX5_addHouse_16 : decode cX5_addHouse 16 = .ok (.getfield 9, 3) := by decide +kernel
theorem dX5_addHouse_19 : decode cX5_addHouse 19 = .ok (.iconst 1, 1) := by decide +kernel
theorem dX5_addHouse_20 : decode cX5_addHouse 20 = .ok (.isub, 1) := by decide +kernel
theorem dX5_addHouse_21 : decode cX5_addHouse 21 = .ok (.ireturn, 1) := by decide +kernel
theorem dX5_addSentence_0 : decode cX5_addSentence 0 = .ok (.aload_n 0, 1) := by decide +kernel
theorem dX5_addSentence_1 : decode cX5_addSentence 1 = .ok (.getfield 15, 3) := by decide +kernel
theorem dX5_addSentence_4 : decode cX5_addSentence 4 = .ok (.bipush 24, 2) := by decide +kernel
theorem dX5_addSentence_6 : decode cX5_addSentence 6 = .ok (.if_icmp .lt 6, 3) := by decide +kernel
theorem dX5_addSentence_9 : decode cX5_addSentence 9 = .ok (.bipush (-4), 2) := by decide +kernel
theorem dX5_addSentence_11 : decode cX5_addSentence 11 = .ok (.ireturn, 1) := by decide +kernel
theorem dX5_addSentence_12 : decode cX5_addSentence 12 = .ok (.aload_n 0, 1) := by decide +kernel
theorem dX5_addSentence_13 : decode cX5_addSentence 13 = .ok (.getfield 18, 3) := by decide +kernel
theorem dX5_addSentence_16 : decode cX5_addSentence 16 = .ok (.aload_n 0, 1) := by decide +kernel
theorem dX5_addSentence_17 : decode cX5_addSentence 17 = .ok (.getfield 15, 3) := by decide +kernel
theorem dX5_addSentence_20 : decode cX5_addSentence 20 = .ok (.iload_n 1, 1) := by decide +kernel
theorem dX5_addSentence_21 : decode cX5_addSentence 21 = .ok (.iastore, 1) := by decide +kernel
theorem dX5_addSentence_22 : decode cX5_addSentence 22 = .ok (.aload_n 0, 1) := by decide +kernel
theorem dX5_addSentence_23 : decode cX5_addSentence 23 = .ok (.getfield 22, 3) := by decide +kernel
theorem dX5_addSentence_26 : decode cX5_addSentence 26 = .ok (.aload_n 0, 1) := by decide +kernel
theorem dX5_addSentence_27 : decode cX5_addSentence 27 = .ok (.getfield 15, 3) := by decide +kernel
theorem dX5_addSentence_30 : decode cX5_addSentence 30 = .ok (.iload_n 2, 1) := by decide +kernel
theorem dX5_addSentence_31 : decode cX5_addSentence 31 = .ok (.iastore, 1) := by decide +kernel
theorem dX5_addSentence_32 : decode cX5_addSentence 32 = .ok (.aload_n 0, 1) := by decide +kernel
theorem dX5_addSentence_33 : decode cX5_addSentence 33 = .ok (.getfield 25, 3) := by decide +kernel
theorem dX5_addSentence_36 : decode cX5_addSentence 36 = .ok (.aload_n 0, 1) := by decide +kernel
theorem dX5_addSentence_37 : decode cX5_addSentence 37 = .ok (.getfield 15, 3) := by decide +kernel
theorem dX5_addSentence_40 : decode cX5_addSentence 40 = .ok (.iload_n 3, 1) := by decide +kernel
theorem dX5_addSentence_41 : decode cX5_addSentence 41 = .ok (.iastore, 1) := by decide +kernel
theorem dX5_addSentence_42 : decode cX5_addSentence 42 = .ok (.aload_n 0, 1) := by decide +kernel
theorem dX5_addSentence_43 : decode cX5_addSentence 43 = .ok (.dup, 1) := by decide +kernel
theorem dX5_addSentence_44 : decode cX5_addSentence 44 = .ok (.getfield 15, 3) := by decide +kernel
theorem dX5_addSentence_47 : decode cX5_addSentence 47 = .ok (.iconst 1, 1) := by decide +kernel
theorem dX5_addSentence_48 : decode cX5_addSentence 48 = .ok (.iadd, 1) := by decide +kernel
theorem dX5_addSentence_49 : decode cX5_addSentence 49 = .ok (.putfield 15, 3) := by decide +kernel
theorem dX5_addSentence_52 : decode cX5_addSentence 52 = .ok (.aload_n 0, 1) := by decide +kernel
theorem dX5_addSentence_53 : decode cX5_addSentence 53 = .ok (.iconst 1, 1) := by decide +kernel
theorem dX5_addSentence_54 : decode cX5_addSentence 54 = .ok (.putfield 37, 3) := by decide +kernel
theorem dX5_addSentence_57 : decode cX5_addSentence 57 = .ok (.aload_n 0, 1) := by decide +kernel
theorem dX5_addSentence_58 : decode cX5_addSentence 58 = .ok (.getfield 15, 3) := by decide +kernel
theorem dX5_addSentence_61 : decode cX5_addSentence 61 = .ok (.iconst 1, 1) := by decide +kernel
theorem dX5_addSentence_62 : decode cX5_addSentence 62 = .ok (.isub, 1) := by decide +kernel
theorem dX5_addSentence_63 : decode cX5_addSentence 63 = .ok (.ireturn, 1) := by decide +kernel
theorem dX5_greatest_0 : decode cX5_greatest 0 = .ok (.aload_n 0, 1) := by decide +kernel
theorem dX5_greatest_1 : decode cX5_greatest 1 = .ok (.iload_n 1, 1) := by decide +kernel
theorem dX5_greatest_2 : decode cX5_greatest 2 = .ok (.invokevirtual 45, 3) := by decide +kernel
theorem dX5_greatest_5 : decode cX5_greatest 5 = .ok (.ifCond .ne 5, 3) := by decide +kernel
theorem dX5_greatest_8 : decode cX5_greatest 8 = .ok (.iconst 0, 1) := by decide +kernel
theorem dX5_greatest_9 : decode cX5_greatest 9 = .ok (.ireturn, 1) := by decide +kernel
theorem dX5_greatest_10 : decode cX5_greatest 10 = .ok (.aload_n 0, 1) := by decide +kernel
theorem dX5_greatest_11 : decode cX5_greatest 11 = .ok (.invokevirtual 49, 3) := by decide +kernel
theorem dX5_greatest_14 : decode cX5_greatest 14 = .ok (.aload_n 0, 1) := by decide +kernel
theorem dX5_greatest_15 : decode cX5_greatest 15 = .ok (.getfield 34, 3) := by decide +kernel
theorem dX5_greatest_18 : decode cX5_greatest 18 = .ok (.iload_n 1, 1) := by decide +kernel
theorem dX5_greatest_19 : decode cX5_greatest 19 = .ok (.bipush 64, 2) := by decide +kernel
theorem dX5_greatest_21 : decode cX5_greatest 21 = .ok (.imul, 1) := by decide +kernel
theorem dX5_greatest_22 : decode cX5_greatest 22 = .ok (.bipush 64, 2) := by decide +kernel
theorem dX5_greatest_24 : decode cX5_greatest 24 = .ok (.iadd, 1) := by decide +kernel
theorem dX5_greatest_25 : decode cX5_greatest 25 = .ok (.iconst 1, 1) := by decide +kernel
theorem dX5_greatest_26 : decode cX5_greatest 26 = .ok (.isub, 1) := by decide +kernel
theorem dX5_greatest_27 : decode cX5_greatest 27 = .ok (.iaload, 1) := by decide +kernel
theorem dX5_greatest_28 : decode cX5_greatest 28 = .ok (.ireturn, 1) := by decide +kernel
theorem dX5_share_0 : decode cX5_share 0 = .ok (.aload_n 0, 1) := by decide +kernel
theorem dX5_share_1 : decode cX5_share 1 = .ok (.invokevirtual 49, 3) := by decide +kernel
theorem dX5_share_4 : decode cX5_share 4 = .ok (.iload_n 1, 1) := by decide +kernel
theorem dX5_share_5 : decode cX5_share 5 = .ok (.aload_n 0, 1) := by decide +kernel
theorem dX5_share_6 : decode cX5_share 6 = .ok (.invokevirtual 41, 3) := by decide +kernel
theorem dX5_share_9 : decode cX5_share 9 = .ok (.iand, 1) := by decide +kernel
theorem dX5_share_10 : decode cX5_share 10 = .ok (.istore_n 2, 1) := by decide +kernel
theorem dX5_share_11 : decode cX5_share 11 = .ok (.bipush 63, 2) := by decide +kernel
theorem dX5_share_13 : decode cX5_share 13 = .ok (.istore_n 3, 1) := by decide +kernel
theorem dX5_share_14 : decode cX5_share 14 = .ok (.iconst 0, 1) := by decide +kernel
theorem dX5_share_15 : decode cX5_share 15 = .ok (.istore 4, 2) := by decide +kernel
theorem dX5_share_17 : decode cX5_share 17 = .ok (.iload 4, 2) := by decide +kernel
theorem dX5_share_19 : decode cX5_share 19 = .ok (.aload_n 0, 1) := by decide +kernel
theorem dX5_share_20 : decode cX5_share 20 = .ok (.getfield 9, 3) := by decide +kernel
theorem dX5_share_23 : decode cX5_share 23 = .ok (.if_icmp .ge 98, 3) := by decide +kernel
theorem dX5_share_26 : decode cX5_share 26 = .ok (.aload_n 0, 1) := by decide +kernel
theorem dX5_share_27 : decode cX5_share 27 = .ok (.getfield 31, 3) := by decide +kernel
theorem dX5_share_30 : decode cX5_share 30 = .ok (.iload 4, 2) := by decide +kernel
theorem dX5_share_32 : decode cX5_share 32 = .ok (.iconst (-1), 1) := by decide +kernel
theorem dX5_share_33 : decode cX5_share 33 = .ok (.iastore, 1) := by decide +kernel
theorem dX5_share_34 : decode cX5_share 34 = .ok (.iload_n 2, 1) := by decide +kernel
theorem dX5_share_35 : decode cX5_share 35 = .ok (.iload 4, 2) := by decide +kernel
theorem dX5_share_37 : decode cX5_share 37 = .ok (.invokestatic 52, 3) := by decide +kernel
theorem dX5_share_40 : decode cX5_share 40 = .ok (.ifCond .eq 75, 3) := by decide +kernel
theorem dX5_share_43 : decode cX5_share 43 = .ok (.iload_n 2, 1) := by decide +kernel
theorem dX5_share_44 : decode cX5_share 44 = .ok (.iconst 1, 1) := by decide +kernel
theorem dX5_share_45 : decode cX5_share 45 = .ok (.iload 4, 2) := by decide +kernel
theorem dX5_share_47 : decode cX5_share 47 = .ok (.ishl, 1) := by decide +kernel
theorem dX5_share_48 : decode cX5_share 48 = .ok (.iconst (-1), 1) := by decide +kernel
theorem dX5_share_49 : decode cX5_share 49 = .ok (.ixor, 1) := by decide +kernel
theorem dX5_share_50 : decode cX5_share 50 = .ok (.iand, 1) := by decide +kernel
theorem dX5_share_51 : decode cX5_share 51 = .ok (.istore 5, 2) := by decide +kernel
theorem dX5_share_53 : decode cX5_share 53 = .ok (.aload_n 0, 1) := by decide +kernel
theorem dX5_share_54 : decode cX5_share 54 = .ok (.getfield 31, 3) := by decide +kernel
theorem dX5_share_57 : decode cX5_share 57 = .ok (.iload 4, 2) := by decide +kernel
theorem dX5_share_59 : decode cX5_share 59 = .ok (.aload_n 0, 1) := by decide +kernel
theorem dX5_share_60 : decode cX5_share 60 = .ok (.aload_n 0, 1) := by decide +kernel
theorem dX5_share_61 : decode cX5_share 61 = .ok (.getfield 34, 3) := by decide +kernel
theorem dX5_share_64 : decode cX5_share 64 = .ok (.iload_n 2, 1) := by decide +kernel
theorem dX5_share_65 : decode cX5_share 65 = .ok (.bipush 64, 2) := by decide +kernel
theorem dX5_share_67 : decode cX5_share 67 = .ok (.imul, 1) := by decide +kernel
theorem dX5_share_68 : decode cX5_share 68 = .ok (.iload_n 3, 1) := by decide +kernel
theorem dX5_share_69 : decode cX5_share 69 = .ok (.iadd, 1) := by decide +kernel
theorem dX5_share_70 : decode cX5_share 70 = .ok (.iaload, 1) := by decide +kernel
theorem dX5_share_71 : decode cX5_share 71 = .ok (.iload 4, 2) := by decide +kernel
theorem dX5_share_73 : decode cX5_share 73 = .ok (.iload 5, 2) := by decide +kernel
theorem dX5_share_75 : decode cX5_share 75 = .ok (.iload_n 3, 1) := by decide +kernel
theorem dX5_share_76 : decode cX5_share 76 = .ok (.invokevirtual 56, 3) := by decide +kernel
theorem dX5_share_79 : decode cX5_share 79 = .ok (.iastore, 1) := by decide +kernel
theorem dX5_share_80 : decode cX5_share 80 = .ok (.aload_n 0, 1) := by decide +kernel
theorem dX5_share_81 : decode cX5_share 81 = .ok (.getfield 31, 3) := by decide +kernel
theorem dX5_share_84 : decode cX5_share 84 = .ok (.iload 4, 2) := by decide +kernel
theorem dX5_share_86 : decode cX5_share 86 = .ok (.iaload, 1) := by decide +kernel
theorem dX5_share_87 : decode cX5_share 87 = .ok (.iconst (-1), 1) := by decide +kernel
theorem dX5_share_88 : decode cX5_share 88 = .ok (.if_icmp .ne 7, 3) := by decide +kernel
theorem dX5_share_91 : decode cX5_share 91 = .ok (.iload_n 3, 1) := by decide +kernel
theorem dX5_share_92 : decode cX5_share 92 = .ok (.goto 19, 3) := by decide +kernel
theorem dX5_share_95 : decode cX5_share 95 = .ok (.iload_n 3, 1) := by decide +kernel
theorem dX5_share_96 : decode cX5_share 96 = .ok (.aload_n 0, 1) := by decide +kernel
theorem dX5_share_97 : decode cX5_share 97 = .ok (.getfield 22, 3) := by decide +kernel
theorem dX5_share_100 : decode cX5_share 100 = .ok (.aload_n 0, 1) := by decide +kernel
theorem dX5_share_101 : decode cX5_share 101 = .ok (.getfield 31, 3) := by decide +kernel
theorem dX5_share_104 : decode cX5_share 104 = .ok (.iload 4, 2) := by decide +kernel
theorem dX5_share_106 : decode cX5_share 106 = .ok (.iaload, 1) := by decide +kernel
theorem dX5_share_107 : decode cX5_share 107 = .ok (.iaload, 1) := by decide +kernel
theorem dX5_share_108 : decode cX5_share 108 = .ok (.iconst (-1), 1) := by decide +kernel
theorem dX5_share_109 : decode cX5_share 109 = .ok (.ixor, 1) := by decide +kernel
theorem dX5_share_110 : decode cX5_share 110 = .ok (.iand, 1) := by decide +kernel
theorem dX5_share_111 : decode cX5_share 111 = .ok (.istore_n 3, 1) := by decide +kernel
theorem dX5_share_112 : decode cX5_share 112 = .ok (.iload 5, 2) := by decide +kernel
theorem dX5_share_114 : decode cX5_share 114 = .ok (.istore_n 2, 1) := by decide +kernel
theorem dX5_share_115 : decode cX5_share 115 = .ok (.iinc 4 1, 3) := by decide +kernel
theorem dX5_share_118 : decode cX5_share 118 = .ok (.goto (-101), 3) := by decide +kernel
theorem dX5_share_121 : decode cX5_share 121 = .ok (.return_, 1) := by decide +kernel
theorem dX5_takenBy_0 : decode cX5_takenBy 0 = .ok (.aload_n 0, 1) := by decide +kernel
theorem dX5_takenBy_1 : decode cX5_takenBy 1 = .ok (.invokevirtual 41, 3) := by decide +kernel
theorem dX5_takenBy_4 : decode cX5_takenBy 4 = .ok (.istore_n 2, 1) := by decide +kernel
theorem dX5_takenBy_5 : decode cX5_takenBy 5 = .ok (.aload_n 0, 1) := by decide +kernel
theorem dX5_takenBy_6 : decode cX5_takenBy 6 = .ok (.iload_n 2, 1) := by decide +kernel
theorem dX5_takenBy_7 : decode cX5_takenBy 7 = .ok (.invokevirtual 60, 3) := by decide +kernel
theorem dX5_takenBy_10 : decode cX5_takenBy 10 = .ok (.aload_n 0, 1) := by decide +kernel
theorem dX5_takenBy_11 : decode cX5_takenBy 11 = .ok (.iload_n 2, 1) := by decide +kernel
theorem dX5_takenBy_12 : decode cX5_takenBy 12 = .ok (.invokevirtual 64, 3) := by decide +kernel
theorem dX5_takenBy_15 : decode cX5_takenBy 15 = .ok (.aload_n 0, 1) := by decide +kernel
theorem dX5_takenBy_16 : decode cX5_takenBy 16 = .ok (.iload_n 1, 1) := by decide +kernel
theorem dX5_takenBy_17 : decode cX5_takenBy 17 = .ok (.invokevirtual 68, 3) := by decide +kernel
theorem dX5_takenBy_20 : decode cX5_takenBy 20 = .ok (.isub, 1) := by decide +kernel
theorem dX5_takenBy_21 : decode cX5_takenBy 21 = .ok (.istore_n 3, 1) := by decide +kernel
theorem dX5_takenBy_22 : decode cX5_takenBy 22 = .ok (.aload_n 0, 1) := by decide +kernel
theorem dX5_takenBy_23 : decode cX5_takenBy 23 = .ok (.iload_n 2, 1) := by decide +kernel
theorem dX5_takenBy_24 : decode cX5_takenBy 24 = .ok (.iconst 1, 1) := by decide +kernel
theorem dX5_takenBy_25 : decode cX5_takenBy 25 = .ok (.iload_n 1, 1) := by decide +kernel
theorem dX5_takenBy_26 : decode cX5_takenBy 26 = .ok (.ishl, 1) := by decide +kernel
theorem dX5_takenBy_27 : decode cX5_takenBy 27 = .ok (.iconst (-1), 1) := by decide +kernel
theorem dX5_takenBy_28 : decode cX5_takenBy 28 = .ok (.ixor, 1) := by decide +kernel
theorem dX5_takenBy_29 : decode cX5_takenBy 29 = .ok (.iand, 1) := by decide +kernel
theorem dX5_takenBy_30 : decode cX5_takenBy 30 = .ok (.invokevirtual 64, 3) := by decide +kernel
theorem dX5_takenBy_33 : decode cX5_takenBy 33 = .ok (.iload_n 3, 1) := by decide +kernel
theorem dX5_takenBy_34 : decode cX5_takenBy 34 = .ok (.isub, 1) := by decide +kernel
theorem dX5_takenBy_35 : decode cX5_takenBy 35 = .ok (.ireturn, 1) := by decide +kernel
theorem dX5_wouldLeave_0 : decode cX5_wouldLeave 0 = .ok (.iconst 0, 1) := by decide +kernel
theorem dX5_wouldLeave_1 : decode cX5_wouldLeave 1 = .ok (.istore_n 2, 1) := by decide +kernel
theorem dX5_wouldLeave_2 : decode cX5_wouldLeave 2 = .ok (.iconst 0, 1) := by decide +kernel
theorem dX5_wouldLeave_3 : decode cX5_wouldLeave 3 = .ok (.istore_n 3, 1) := by decide +kernel
theorem dX5_wouldLeave_4 : decode cX5_wouldLeave 4 = .ok (.iload_n 3, 1) := by decide +kernel
theorem dX5_wouldLeave_5 : decode cX5_wouldLeave 5 = .ok (.aload_n 0, 1) := by decide +kernel
theorem dX5_wouldLeave_6 : decode cX5_wouldLeave 6 = .ok (.getfield 9, 3) := by decide +kernel
theorem dX5_wouldLeave_9 : decode cX5_wouldLeave 9 = .ok (.if_icmp .ge 59, 3) := by decide +kernel
theorem dX5_wouldLeave_12 : decode cX5_wouldLeave 12 = .ok (.aload_n 0, 1) := by decide +kernel
theorem dX5_wouldLeave_13 : decode cX5_wouldLeave 13 = .ok (.getfield 31, 3) := by decide +kernel
theorem dX5_wouldLeave_16 : decode cX5_wouldLeave 16 = .ok (.iload_n 3, 1) := by decide +kernel
theorem dX5_wouldLeave_17 : decode cX5_wouldLeave 17 = .ok (.iaload, 1) := by decide +kernel
theorem dX5_wouldLeave_18 : decode cX5_wouldLeave 18 = .ok (.iconst (-1), 1) := by decide +kernel
theorem dX5_wouldLeave_19 : decode cX5_wouldLeave 19 = .ok (.if_icmp .eq 43, 3) := by decide +kernel
theorem dX5_wouldLeave_22 : decode cX5_wouldLeave 22 = .ok (.iload_n 2, 1) := by decide +kernel
theorem dX5_wouldLeave_23 : decode cX5_wouldLeave 23 = .ok (.aload_n 0, 1) := by decide +kernel
theorem dX5_wouldLeave_24 : decode cX5_wouldLeave 24 = .ok (.getfield 28, 3) := by decide +kernel
theorem dX5_wouldLeave_27 : decode cX5_wouldLeave 27 = .ok (.iload_n 3, 1) := by decide +kernel
theorem dX5_wouldLeave_28 : decode cX5_wouldLeave 28 = .ok (.iaload, 1) := by decide +kernel
theorem dX5_wouldLeave_29 : decode cX5_wouldLeave 29 = .ok (.iadd, 1) := by decide +kernel
theorem dX5_wouldLeave_30 : decode cX5_wouldLeave 30 = .ok (.istore_n 2, 1) := by decide +kernel
theorem dX5_wouldLeave_31 : decode cX5_wouldLeave 31 = .ok (.iload_n 2, 1) := by decide +kernel
theorem dX5_wouldLeave_32 : decode cX5_wouldLeave 32 = .ok (.iload_n 1, 1) := by decide +kernel
theorem dX5_wouldLeave_33 : decode cX5_wouldLeave 33 = .ok (.iload_n 3, 1) := by decide +kernel
theorem dX5_wouldLeave_34 : decode cX5_wouldLeave 34 = .ok (.invokestatic 52, 3) := by decide +kernel
theorem dX5_wouldLeave_37 : decode cX5_wouldLeave 37 = .ok (.ifCond .eq 22, 3) := by decide +kernel
theorem dX5_wouldLeave_40 : decode cX5_wouldLeave 40 = .ok (.iconst 0, 1) := by decide +kernel
theorem dX5_wouldLeave_41 : decode cX5_wouldLeave 41 = .ok (.aload_n 0, 1) := by decide +kernel
theorem dX5_wouldLeave_42 : decode cX5_wouldLeave 42 = .ok (.iload_n 3, 1) := by decide +kernel
theorem dX5_wouldLeave_43 : decode cX5_wouldLeave 43 = .ok (.invokevirtual 68, 3) := by decide +kernel
theorem dX5_wouldLeave_46 : decode cX5_wouldLeave 46 = .ok (.aload_n 0, 1) := by decide +kernel
theorem dX5_wouldLeave_47 : decode cX5_wouldLeave 47 = .ok (.getfield 28, 3) := by decide +kernel
theorem dX5_wouldLeave_50 : decode cX5_wouldLeave 50 = .ok (.iload_n 3, 1) := by decide +kernel
theorem dX5_wouldLeave_51 : decode cX5_wouldLeave 51 = .ok (.iaload, 1) := by decide +kernel
theorem dX5_wouldLeave_52 : decode cX5_wouldLeave 52 = .ok (.isub, 1) := by decide +kernel
theorem dX5_wouldLeave_53 : decode cX5_wouldLeave 53 = .ok (.invokestatic 71, 3) := by decide +kernel
theorem dX5_wouldLeave_56 : decode cX5_wouldLeave 56 = .ok (.goto 4, 3) := by decide +kernel
theorem dX5_wouldLeave_59 : decode cX5_wouldLeave 59 = .ok (.iconst 0, 1) := by decide +kernel
theorem dX5_wouldLeave_60 : decode cX5_wouldLeave 60 = .ok (.iadd, 1) := by decide +kernel
theorem dX5_wouldLeave_61 : decode cX5_wouldLeave 61 = .ok (.istore_n 2, 1) := by decide +kernel
theorem dX5_wouldLeave_62 : decode cX5_wouldLeave 62 = .ok (.iinc 3 1, 3) := by decide +kernel
theorem dX5_wouldLeave_65 : decode cX5_wouldLeave 65 = .ok (.goto (-61), 3) := by decide +kernel
theorem dX5_wouldLeave_68 : decode cX5_wouldLeave 68 = .ok (.aload_n 0, 1) := by decide +kernel
theorem dX5_wouldLeave_69 : decode cX5_wouldLeave 69 = .ok (.iload_n 1, 1) := by decide +kernel
theorem dX5_wouldLeave_70 : decode cX5_wouldLeave 70 = .ok (.invokevirtual 64, 3) := by decide +kernel
theorem dX5_wouldLeave_73 : decode cX5_wouldLeave 73 = .ok (.iload_n 2, 1) := by decide +kernel
theorem dX5_wouldLeave_74 : decode cX5_wouldLeave 74 = .ok (.if_icmp .le 7, 3) := by decide +kernel
theorem dX5_wouldLeave_77 : decode cX5_wouldLeave 77 = .ok (.iconst 1, 1) := by decide +kernel
theorem dX5_wouldLeave_78 : decode cX5_wouldLeave 78 = .ok (.goto 4, 3) := by decide +kernel
theorem dX5_wouldLeave_81 : decode cX5_wouldLeave 81 = .ok (.iconst 0, 1) := by decide +kernel
theorem dX5_wouldLeave_82 : decode cX5_wouldLeave 82 = .ok (.ireturn, 1) := by decide +kernel
theorem dX5_firstToLeave_0 : decode cX5_firstToLeave 0 = .ok (.aload_n 0, 1) := by decide +kernel
theorem dX5_firstToLeave_1 : decode cX5_firstToLeave 1 = .ok (.aload_n 0, 1) := by decide +kernel
theorem dX5_firstToLeave_2 : decode cX5_firstToLeave 2 = .ok (.invokevirtual 41, 3) := by decide +kernel
theorem dX5_firstToLeave_5 : decode cX5_firstToLeave 5 = .ok (.invokevirtual 60, 3) := by decide +kernel
theorem dX5_firstToLeave_8 : decode cX5_firstToLeave 8 = .ok (.iconst 1, 1) := by decide +kernel
theorem dX5_firstToLeave_9 : decode cX5_firstToLeave 9 = .ok (.istore_n 1, 1) := by decide +kernel
theorem dX5_firstToLeave_10 : decode cX5_firstToLeave 10 = .ok (.iload_n 1, 1) := by decide +kernel
theorem dX5_firstToLeave_11 : decode cX5_firstToLeave 11 = .ok (.aload_n 0, 1) := by decide +kernel
theorem dX5_firstToLeave_12 : decode cX5_firstToLeave 12 = .ok (.invokevirtual 41, 3) := by decide +kernel
theorem dX5_firstToLeave_15 : decode cX5_firstToLeave 15 = .ok (.if_icmp .gt 19, 3) := by decide +kernel
theorem dX5_firstToLeave_18 : decode cX5_firstToLeave 18 = .ok (.aload_n 0, 1) := by decide +kernel
theorem dX5_firstToLeave_19 : decode cX5_firstToLeave 19 = .ok (.iload_n 1, 1) := by decide +kernel
theorem dX5_firstToLeave_20 : decode cX5_firstToLeave 20 = .ok (.invokevirtual 77, 3) := by decide +kernel
theorem dX5_firstToLeave_23 : decode cX5_firstToLeave 23 = .ok (.ifCond .eq 5, 3) := by decide +kernel
theorem dX5_firstToLeave_26 : decode cX5_firstToLeave 26 = .ok (.iload_n 1, 1) := by decide +kernel
theorem dX5_firstToLeave_27 : decode cX5_firstToLeave 27 = .ok (.ireturn, 1) := by decide +kernel
theorem dX5_firstToLeave_28 : decode cX5_firstToLeave 28 = .ok (.iinc 1 1, 3) := by decide +kernel
theorem dX5_firstToLeave_31 : decode cX5_firstToLeave 31 = .ok (.goto (-21), 3) := by decide +kernel
theorem dX5_firstToLeave_34 : decode cX5_firstToLeave 34 = .ok (.iconst (-1), 1) := by decide +kernel
theorem dX5_firstToLeave_35 : decode cX5_firstToLeave 35 = .ok (.ireturn, 1) := by decide +kernel
theorem dX5_winOf_0 : decode cX5_winOf 0 = .ok (.aload_n 0, 1) := by decide +kernel
theorem dX5_winOf_1 : decode cX5_winOf 1 = .ok (.iload_n 1, 1) := by decide +kernel
theorem dX5_winOf_2 : decode cX5_winOf 2 = .ok (.invokevirtual 80, 3) := by decide +kernel
theorem dX5_winOf_5 : decode cX5_winOf 5 = .ok (.ifCond .eq 25, 3) := by decide +kernel
theorem dX5_winOf_8 : decode cX5_winOf 8 = .ok (.aload_n 0, 1) := by decide +kernel
theorem dX5_winOf_9 : decode cX5_winOf 9 = .ok (.getfield 31, 3) := by decide +kernel
theorem dX5_winOf_12 : decode cX5_winOf 12 = .ok (.iload_n 1, 1) := by decide +kernel
theorem dX5_winOf_13 : decode cX5_winOf 13 = .ok (.iaload, 1) := by decide +kernel
theorem dX5_winOf_14 : decode cX5_winOf 14 = .ok (.ifCond .lt 16, 3) := by decide +kernel
theorem dX5_winOf_17 : decode cX5_winOf 17 = .ok (.aload_n 0, 1) := by decide +kernel
theorem dX5_winOf_18 : decode cX5_winOf 18 = .ok (.getfield 31, 3) := by decide +kernel
theorem dX5_winOf_21 : decode cX5_winOf 21 = .ok (.iload_n 1, 1) := by decide +kernel
theorem dX5_winOf_22 : decode cX5_winOf 22 = .ok (.iaload, 1) := by decide +kernel
theorem dX5_winOf_23 : decode cX5_winOf 23 = .ok (.aload_n 0, 1) := by decide +kernel
theorem dX5_winOf_24 : decode cX5_winOf 24 = .ok (.getfield 15, 3) := by decide +kernel
theorem dX5_winOf_27 : decode cX5_winOf 27 = .ok (.if_icmp .lt 5, 3) := by decide +kernel
theorem dX5_winOf_30 : decode cX5_winOf 30 = .ok (.iconst 0, 1) := by decide +kernel
theorem dX5_winOf_31 : decode cX5_winOf 31 = .ok (.ireturn, 1) := by decide +kernel
theorem dX5_winOf_32 : decode cX5_winOf 32 = .ok (.aload_n 0, 1) := by decide +kernel
theorem dX5_winOf_33 : decode cX5_winOf 33 = .ok (.getfield 25, 3) := by decide +kernel
theorem dX5_winOf_36 : decode cX5_winOf 36 = .ok (.aload_n 0, 1) := by decide +kernel
theorem dX5_winOf_37 : decode cX5_winOf 37 = .ok (.getfield 31, 3) := by decide +kernel
theorem dX5_winOf_40 : decode cX5_winOf 40 = .ok (.iload_n 1, 1) := by decide +kernel
theorem dX5_winOf_41 : decode cX5_winOf 41 = .ok (.iaload, 1) := by decide +kernel
theorem dX5_winOf_42 : decode cX5_winOf 42 = .ok (.iaload, 1) := by decide +kernel
theorem dX5_winOf_43 : decode cX5_winOf 43 = .ok (.ireturn, 1) := by decide +kernel
theorem dX5_firstToReach_0 : decode cX5_firstToReach 0 = .ok (.aload_n 0, 1) := by decide +kernel
theorem dX5_firstToReach_1 : decode cX5_firstToReach 1 = .ok (.getfield 34, 3) := by decide +kernel
theorem dX5_firstToReach_4 : decode cX5_firstToReach 4 = .ok (.iload_n 3, 1) := by decide +kernel
theorem dX5_firstToReach_5 : decode cX5_firstToReach 5 = .ok (.bipush 64, 2) := by decide +kernel
theorem dX5_firstToReach_7 : decode cX5_firstToReach 7 = .ok (.imul, 1) := by decide +kernel
theorem dX5_firstToReach_8 : decode cX5_firstToReach 8 = .ok (.iload 4, 2) := by decide +kernel
theorem dX5_firstToReach_10 : decode cX5_firstToReach 10 = .ok (.iadd, 1) := by decide +kernel
theorem dX5_firstToReach_11 : decode cX5_firstToReach 11 = .ok (.iaload, 1) := by decide +kernel
theorem dX5_firstToReach_12 : decode cX5_firstToReach 12 = .ok (.iload_n 1, 1) := by decide +kernel
theorem dX5_firstToReach_13 : decode cX5_firstToReach 13 = .ok (.if_icmp .ne 5, 3) := by decide +kernel
theorem dX5_firstToReach_16 : decode cX5_firstToReach 16 = .ok (.iconst (-1), 1) := by decide +kernel
theorem dX5_firstToReach_17 : decode cX5_firstToReach 17 = .ok (.ireturn, 1) := by decide +kernel
theorem dX5_firstToReach_18 : decode cX5_firstToReach 18 = .ok (.iconst 0, 1) := by decide +kernel
theorem dX5_firstToReach_19 : decode cX5_firstToReach 19 = .ok (.istore 5, 2) := by decide +kernel
theorem dX5_firstToReach_21 : decode cX5_firstToReach 21 = .ok (.iload 5, 2) := by decide +kernel
theorem dX5_firstToReach_23 : decode cX5_firstToReach 23 = .ok (.aload_n 0, 1) := by decide +kernel
theorem dX5_firstToReach_24 : decode cX5_firstToReach 24 = .ok (.getfield 15, 3) := by decide +kernel
theorem dX5_firstToReach_27 : decode cX5_firstToReach 27 = .ok (.if_icmp .ge 71, 3) := by decide +kernel
theorem dX5_firstToReach_30 : decode cX5_firstToReach 30 = .ok (.aload_n 0, 1) := by decide +kernel
theorem dX5_firstToReach_31 : decode cX5_firstToReach 31 = .ok (.getfield 22, 3) := by decide +kernel
theorem dX5_firstToReach_34 : decode cX5_firstToReach 34 = .ok (.iload 5, 2) := by decide +kernel
theorem dX5_firstToReach_36 : decode cX5_firstToReach 36 = .ok (.iaload, 1) := by decide +kernel
theorem dX5_firstToReach_37 : decode cX5_firstToReach 37 = .ok (.istore 6, 2) := by decide +kernel
theorem dX5_firstToReach_39 : decode cX5_firstToReach 39 = .ok (.aload_n 0, 1) := by decide +kernel
theorem dX5_firstToReach_40 : decode cX5_firstToReach 40 = .ok (.getfield 18, 3) := by decide +kernel
theorem dX5_firstToReach_43 : decode cX5_firstToReach 43 = .ok (.iload 5, 2) := by decide +kernel
theorem dX5_firstToReach_45 : decode cX5_firstToReach 45 = .ok (.iaload, 1) := by decide +kernel
theorem dX5_firstToReach_46 : decode cX5_firstToReach 46 = .ok (.iload_n 2, 1) := by decide +kernel
theorem dX5_firstToReach_47 : decode cX5_firstToReach 47 = .ok (.if_icmp .ne 45, 3) := by decide +kernel
theorem dX5_firstToReach_50 : decode cX5_firstToReach 50 = .ok (.iload 6, 2) := by decide +kernel
theorem dX5_firstToReach_52 : decode cX5_firstToReach 52 = .ok (.iload 4, 2) := by decide +kernel
theorem dX5_firstToReach_54 : decode cX5_firstToReach 54 = .ok (.iconst (-1), 1) := by decide +kernel
theorem dX5_firstToReach_55 : decode cX5_firstToReach 55 = .ok (.ixor, 1) := by decide +kernel
theorem dX5_firstToReach_56 : decode cX5_firstToReach 56 = .ok (.iand, 1) := by decide +kernel
theorem dX5_firstToReach_57 : decode cX5_firstToReach 57 = .ok (.ifCond .ne 35, 3) := by decide +kernel
theorem dX5_firstToReach_60 : decode cX5_firstToReach 60 = .ok (.aload_n 0, 1) := by decide +kernel
theorem dX5_firstToReach_61 : decode cX5_firstToReach 61 = .ok (.getfield 25, 3) := by decide +kernel
theorem dX5_firstToReach_64 : decode cX5_firstToReach 64 = .ok (.iload 5, 2) := by decide +kernel
theorem dX5_firstToReach_66 : decode cX5_firstToReach 66 = .ok (.iaload, 1) := by decide +kernel
theorem dX5_firstToReach_67 : decode cX5_firstToReach 67 = .ok (.aload_n 0, 1) := by decide +kernel
theorem dX5_firstToReach_68 : decode cX5_firstToReach 68 = .ok (.getfield 34, 3) := by decide +kernel
theorem dX5_firstToReach_71 : decode cX5_firstToReach 71 = .ok (.iload_n 3, 1) := by decide +kernel
theorem dX5_firstToReach_72 : decode cX5_firstToReach 72 = .ok (.bipush 64, 2) := by decide +kernel
theorem dX5_firstToReach_74 : decode cX5_firstToReach 74 = .ok (.imul, 1) := by decide +kernel
theorem dX5_firstToReach_75 : decode cX5_firstToReach 75 = .ok (.iload 4, 2) := by decide +kernel
theorem dX5_firstToReach_77 : decode cX5_firstToReach 77 = .ok (.iload 6, 2) := by decide +kernel
theorem dX5_firstToReach_79 : decode cX5_firstToReach 79 = .ok (.iconst (-1), 1) := by decide +kernel
theorem dX5_firstToReach_80 : decode cX5_firstToReach 80 = .ok (.ixor, 1) := by decide +kernel
theorem dX5_firstToReach_81 : decode cX5_firstToReach 81 = .ok (.iand, 1) := by decide +kernel
theorem dX5_firstToReach_82 : decode cX5_firstToReach 82 = .ok (.iadd, 1) := by decide +kernel
theorem dX5_firstToReach_83 : decode cX5_firstToReach 83 = .ok (.iaload, 1) := by decide +kernel
theorem dX5_firstToReach_84 : decode cX5_firstToReach 84 = .ok (.iadd, 1) := by decide +kernel
theorem dX5_firstToReach_85 : decode cX5_firstToReach 85 = .ok (.iload_n 1, 1) := by decide +kernel
theorem dX5_firstToReach_86 : decode cX5_firstToReach 86 = .ok (.if_icmp .ne 6, 3) := by decide +kernel
theorem dX5_firstToReach_89 : decode cX5_firstToReach 89 = .ok (.iload 5, 2) := by decide +kernel
theorem dX5_firstToReach_91 : decode cX5_firstToReach 91 = .ok (.ireturn, 1) := by decide +kernel
theorem dX5_firstToReach_92 : decode cX5_firstToReach 92 = .ok (.iinc 5 1, 3) := by decide +kernel
theorem dX5_firstToReach_95 : decode cX5_firstToReach 95 = .ok (.goto (-74), 3) := by decide +kernel
theorem dX5_firstToReach_98 : decode cX5_firstToReach 98 = .ok (.iconst (-1), 1) := by decide +kernel
theorem dX5_firstToReach_99 : decode cX5_firstToReach 99 = .ok (.ireturn, 1) := by decide +kernel
theorem dX5_weigh_0 : decode cX5_weigh 0 = .ok (.aload_n 0, 1) := by decide +kernel
theorem dX5_weigh_1 : decode cX5_weigh 1 = .ok (.getfield 37, 3) := by decide +kernel
theorem dX5_weigh_4 : decode cX5_weigh 4 = .ok (.ifCond .ne 4, 3) := by decide +kernel
theorem dX5_weigh_7 : decode cX5_weigh 7 = .ok (.return_, 1) := by decide +kernel
theorem dX5_weigh_8 : decode cX5_weigh 8 = .ok (.iconst 1, 1) := by decide +kernel
theorem dX5_weigh_9 : decode cX5_weigh 9 = .ok (.istore_n 1, 1) := by decide +kernel
theorem dX5_weigh_10 : decode cX5_weigh 10 = .ok (.iload_n 1, 1) := by decide +kernel
theorem dX5_weigh_11 : decode cX5_weigh 11 = .ok (.aload_n 0, 1) := by decide +kernel
theorem dX5_weigh_12 : decode cX5_weigh 12 = .ok (.invokevirtual 41, 3) := by decide +kernel
theorem dX5_weigh_15 : decode cX5_weigh 15 = .ok (.if_icmp .gt 94, 3) := by decide +kernel
theorem dX5_weigh_18 : decode cX5_weigh 18 = .ok (.iload_n 1, 1) := by decide +kernel
theorem dX5_weigh_19 : decode cX5_weigh 19 = .ok (.iload_n 1, 1) := by decide +kernel
theorem dX5_weigh_20 : decode cX5_weigh 20 = .ok (.iconst 1, 1) := by decide +kernel
theorem dX5_weigh_21 : decode cX5_weigh 21 = .ok (.isub, 1) := by decide +kernel
theorem dX5_weigh_22 : decode cX5_weigh 22 = .ok (.iand, 1) := by decide +kernel
theorem dX5_weigh_23 : decode cX5_weigh 23 = .ok (.istore_n 2, 1) := by decide +kernel
theorem dX5_weigh_24 : decode cX5_weigh 24 = .ok (.iload_n 1, 1) := by decide +kernel
theorem dX5_weigh_25 : decode cX5_weigh 25 = .ok (.iload_n 2, 1) := by decide +kernel
theorem dX5_weigh_26 : decode cX5_weigh 26 = .ok (.iconst (-1), 1) := by decide +kernel
theorem dX5_weigh_27 : decode cX5_weigh 27 = .ok (.ixor, 1) := by decide +kernel
theorem dX5_weigh_28 : decode cX5_weigh 28 = .ok (.iand, 1) := by decide +kernel
theorem dX5_weigh_29 : decode cX5_weigh 29 = .ok (.invokestatic 83, 3) := by decide +kernel
theorem dX5_weigh_32 : decode cX5_weigh 32 = .ok (.istore_n 3, 1) := by decide +kernel
theorem dX5_weigh_33 : decode cX5_weigh 33 = .ok (.aload_n 0, 1) := by decide +kernel
theorem dX5_weigh_34 : decode cX5_weigh 34 = .ok (.getfield 34, 3) := by decide +kernel
theorem dX5_weigh_37 : decode cX5_weigh 37 = .ok (.iload_n 2, 1) := by decide +kernel
theorem dX5_weigh_38 : decode cX5_weigh 38 = .ok (.bipush 64, 2) := by decide +kernel
theorem dX5_weigh_40 : decode cX5_weigh 40 = .ok (.imul, 1) := by decide +kernel
theorem dX5_weigh_41 : decode cX5_weigh 41 = .ok (.aload_n 0, 1) := by decide +kernel
theorem dX5_weigh_42 : decode cX5_weigh 42 = .ok (.getfield 34, 3) := by decide +kernel
theorem dX5_weigh_45 : decode cX5_weigh 45 = .ok (.iload_n 1, 1) := by decide +kernel
theorem dX5_weigh_46 : decode cX5_weigh 46 = .ok (.bipush 64, 2) := by decide +kernel
theorem dX5_weigh_48 : decode cX5_weigh 48 = .ok (.imul, 1) := by decide +kernel
theorem dX5_weigh_49 : decode cX5_weigh 49 = .ok (.bipush 64, 2) := by decide +kernel
theorem dX5_weigh_51 : decode cX5_weigh 51 = .ok (.invokestatic 86, 3) := by decide +kernel
theorem dX5_weigh_54 : decode cX5_weigh 54 = .ok (.iconst 0, 1) := by decide +kernel
theorem dX5_weigh_55 : decode cX5_weigh 55 = .ok (.istore 4, 2) := by decide +kernel
theorem dX5_weigh_57 : decode cX5_weigh 57 = .ok (.iload 4, 2) := by decide +kernel
theorem dX5_weigh_59 : decode cX5_weigh 59 = .ok (.aload_n 0, 1) := by decide +kernel
theorem dX5_weigh_60 : decode cX5_weigh 60 = .ok (.getfield 15, 3) := by decide +kernel
theorem dX5_weigh_63 : decode cX5_weigh 63 = .ok (.if_icmp .ge 40, 3) := by decide +kernel
theorem dX5_weigh_66 : decode cX5_weigh 66 = .ok (.aload_n 0, 1) := by decide +kernel
theorem dX5_weigh_67 : decode cX5_weigh 67 = .ok (.getfield 18, 3) := by decide +kernel
theorem dX5_weigh_70 : decode cX5_weigh 70 = .ok (.iload 4, 2) := by decide +kernel
theorem dX5_weigh_72 : decode cX5_weigh 72 = .ok (.iaload, 1) := by decide +kernel
theorem dX5_weigh_73 : decode cX5_weigh 73 = .ok (.iload_n 3, 1) := by decide +kernel
theorem dX5_weigh_74 : decode cX5_weigh 74 = .ok (.if_icmp .ne 23, 3) := by decide +kernel
theorem dX5_weigh_77 : decode cX5_weigh 77 = .ok (.aload_n 0, 1) := by decide +kernel
theorem dX5_weigh_78 : decode cX5_weigh 78 = .ok (.iload_n 1, 1) := by decide +kernel
theorem dX5_weigh_79 : decode cX5_weigh 79 = .ok (.iload_n 2, 1) := by decide +kernel
theorem dX5_weigh_80 : decode cX5_weigh 80 = .ok (.aload_n 0, 1) := by decide +kernel
theorem dX5_weigh_81 : decode cX5_weigh 81 = .ok (.getfield 22, 3) := by decide +kernel
theorem dX5_weigh_84 : decode cX5_weigh 84 = .ok (.iload 4, 2) := by decide +kernel
theorem dX5_weigh_86 : decode cX5_weigh 86 = .ok (.iaload, 1) := by decide +kernel
theorem dX5_weigh_87 : decode cX5_weigh 87 = .ok (.aload_n 0, 1) := by decide +kernel
theorem dX5_weigh_88 : decode cX5_weigh 88 = .ok (.getfield 25, 3) := by decide +kernel
theorem dX5_weigh_91 : decode cX5_weigh 91 = .ok (.iload 4, 2) := by decide +kernel
theorem dX5_weigh_93 : decode cX5_weigh 93 = .ok (.iaload, 1) := by decide +kernel
theorem dX5_weigh_94 : decode cX5_weigh 94 = .ok (.invokevirtual 92, 3) := by decide +kernel
theorem dX5_weigh_97 : decode cX5_weigh 97 = .ok (.iinc 4 1, 3) := by decide +kernel
theorem dX5_weigh_100 : decode cX5_weigh 100 = .ok (.goto (-43), 3) := by decide +kernel
theorem dX5_weigh_103 : decode cX5_weigh 103 = .ok (.iinc 1 1, 3) := by decide +kernel
theorem dX5_weigh_106 : decode cX5_weigh 106 = .ok (.goto (-96), 3) := by decide +kernel
theorem dX5_weigh_109 : decode cX5_weigh 109 = .ok (.aload_n 0, 1) := by decide +kernel
theorem dX5_weigh_110 : decode cX5_weigh 110 = .ok (.iconst 0, 1) := by decide +kernel
theorem dX5_weigh_111 : decode cX5_weigh 111 = .ok (.putfield 37, 3) := by decide +kernel
theorem dX5_weigh_114 : decode cX5_weigh 114 = .ok (.return_, 1) := by decide +kernel
theorem dX5_raise_0 : decode cX5_raise 0 = .ok (.iload_n 3, 1) := by decide +kernel
theorem dX5_raise_1 : decode cX5_raise 1 = .ok (.istore 5, 2) := by decide +kernel
theorem dX5_raise_3 : decode cX5_raise 3 = .ok (.iload 5, 2) := by decide +kernel
theorem dX5_raise_5 : decode cX5_raise 5 = .ok (.bipush 64, 2) := by decide +kernel
theorem dX5_raise_7 : decode cX5_raise 7 = .ok (.if_icmp .ge 67, 3) := by decide +kernel
theorem dX5_raise_10 : decode cX5_raise 10 = .ok (.iload_n 3, 1) := by decide +kernel
theorem dX5_raise_11 : decode cX5_raise 11 = .ok (.iload 5, 2) := by decide +kernel
theorem dX5_raise_13 : decode cX5_raise 13 = .ok (.iconst (-1), 1) := by decide +kernel
theorem dX5_raise_14 : decode cX5_raise 14 = .ok (.ixor, 1) := by decide +kernel
theorem dX5_raise_15 : decode cX5_raise 15 = .ok (.iand, 1) := by decide +kernel
theorem dX5_raise_16 : decode cX5_raise 16 = .ok (.ifCond .ne 52, 3) := by decide +kernel
theorem dX5_raise_19 : decode cX5_raise 19 = .ok (.iload 4, 2) := by decide +kernel
theorem dX5_raise_21 : decode cX5_raise 21 = .ok (.aload_n 0, 1) := by decide +kernel
theorem dX5_raise_22 : decode cX5_raise 22 = .ok (.getfield 34, 3) := by decide +kernel
theorem dX5_raise_25 : decode cX5_raise 25 = .ok (.iload_n 2, 1) := by decide +kernel
theorem dX5_raise_26 : decode cX5_raise 26 = .ok (.bipush 64, 2) := by decide +kernel
theorem dX5_raise_28 : decode cX5_raise 28 = .ok (.imul, 1) := by decide +kernel
theorem dX5_raise_29 : decode cX5_raise 29 = .ok (.iload 5, 2) := by decide +kernel
theorem dX5_raise_31 : decode cX5_raise 31 = .ok (.iload_n 3, 1) := by decide +kernel
theorem dX5_raise_32 : decode cX5_raise 32 = .ok (.iconst (-1), 1) := by decide +kernel
theorem dX5_raise_33 : decode cX5_raise 33 = .ok (.ixor, 1) := by decide +kernel
theorem dX5_raise_34 : decode cX5_raise 34 = .ok (.iand, 1) := by decide +kernel
theorem dX5_raise_35 : decode cX5_raise 35 = .ok (.iadd, 1) := by decide +kernel
theorem dX5_raise_36 : decode cX5_raise 36 = .ok (.iaload, 1) := by decide +kernel
theorem dX5_raise_37 : decode cX5_raise 37 = .ok (.iadd, 1) := by decide +kernel
theorem dX5_raise_38 : decode cX5_raise 38 = .ok (.istore 6, 2) := by decide +kernel
theorem dX5_raise_40 : decode cX5_raise 40 = .ok (.iload_n 1, 1) := by decide +kernel
theorem dX5_raise_41 : decode cX5_raise 41 = .ok (.bipush 64, 2) := by decide +kernel
theorem dX5_raise_43 : decode cX5_raise 43 = .ok (.imul, 1) := by decide +kernel
theorem dX5_raise_44 : decode cX5_raise 44 = .ok (.iload 5, 2) := by decide +kernel
theorem dX5_raise_46 : decode cX5_raise 46 = .ok (.iadd, 1) := by decide +kernel
theorem dX5_raise_47 : decode cX5_raise 47 = .ok (.istore 7, 2) := by decide +kernel
theorem dX5_raise_49 : decode cX5_raise 49 = .ok (.aload_n 0, 1) := by decide +kernel
theorem dX5_raise_50 : decode cX5_raise 50 = .ok (.getfield 34, 3) := by decide +kernel
theorem dX5_raise_53 : decode cX5_raise 53 = .ok (.iload 7, 2) := by decide +kernel
theorem dX5_raise_55 : decode cX5_raise 55 = .ok (.aload_n 0, 1) := by decide +kernel
theorem dX5_raise_56 : decode cX5_raise 56 = .ok (.getfield 34, 3) := by decide +kernel
theorem dX5_raise_59 : decode cX5_raise 59 = .ok (.iload 7, 2) := by decide +kernel
theorem dX5_raise_61 : decode cX5_raise 61 = .ok (.iaload, 1) := by decide +kernel
theorem dX5_raise_62 : decode cX5_raise 62 = .ok (.iload 6, 2) := by decide +kernel
theorem dX5_raise_64 : decode cX5_raise 64 = .ok (.invokestatic 71, 3) := by decide +kernel
theorem dX5_raise_67 : decode cX5_raise 67 = .ok (.iastore, 1) := by decide +kernel
theorem dX5_raise_68 : decode cX5_raise 68 = .ok (.iinc 5 1, 3) := by decide +kernel
theorem dX5_raise_71 : decode cX5_raise 71 = .ok (.goto (-68), 3) := by decide +kernel
theorem dX5_raise_74 : decode cX5_raise 74 = .ok (.return_, 1) := by decide +kernel
theorem dX6_init_0 : decode cX6_init 0 = .ok (.aload_n 0, 1) := by decide +kernel
theorem dX6_init_1 : decode cX6_init 1 = .ok (.invokespecial 3, 3) := by decide +kernel
theorem dX6_init_4 : decode cX6_init 4 = .ok (.aload_n 0, 1) := by decide +kernel
theorem dX6_init_5 : decode cX6_init 5 = .ok (.new 9, 3) := by decide +kernel
theorem dX6_init_8 : decode cX6_init 8 = .ok (.dup, 1) := by decide +kernel
theorem dX6_init_9 : decode cX6_init 9 = .ok (.invokespecial 11, 3) := by decide +kernel
theorem dX6_init_12 : decode cX6_init 12 = .ok (.putfield 12, 3) := by decide +kernel
theorem dX6_init_15 : decode cX6_init 15 = .ok (.aload_n 0, 1) := by decide +kernel
theorem dX6_init_16 : decode cX6_init 16 = .ok (.new 16, 3) := by decide +kernel
theorem dX6_init_19 : decode cX6_init 19 = .ok (.dup, 1) := by decide +kernel
theorem dX6_init_20 : decode cX6_init 20 = .ok (.aload_n 0, 1) := by decide +kernel
theorem dX6_init_21 : decode cX6_init 21 = .ok (.getfield 12, 3) := by decide +kernel
theorem dX6_init_24 : decode cX6_init 24 = .ok (.invokespecial 18, 3) := by decide +kernel
theorem dX6_init_27 : decode cX6_init 27 = .ok (.putfield 21, 3) := by decide +kernel
theorem dX6_init_30 : decode cX6_init 30 = .ok (.aload_n 0, 1) := by decide +kernel
theorem dX6_init_31 : decode cX6_init 31 = .ok (.new 25, 3) := by decide +kernel
theorem dX6_init_34 : decode cX6_init 34 = .ok (.dup, 1) := by decide +kernel
theorem dX6_init_35 : decode cX6_init 35 = .ok (.aload_n 0, 1) := by decide +kernel
theorem dX6_init_36 : decode cX6_init 36 = .ok (.getfield 12, 3) := by decide +kernel
theorem dX6_init_39 : decode cX6_init 39 = .ok (.invokespecial 27, 3) := by decide +kernel
theorem dX6_init_42 : decode cX6_init 42 = .ok (.putfield 28, 3) := by decide +kernel
theorem dX6_init_45 : decode cX6_init 45 = .ok (.aload_n 0, 1) := by decide +kernel
theorem dX6_init_46 : decode cX6_init 46 = .ok (.new 32, 3) := by decide +kernel
theorem dX6_init_49 : decode cX6_init 49 = .ok (.dup, 1) := by decide +kernel
theorem dX6_init_50 : decode cX6_init 50 = .ok (.aload_n 0, 1) := by decide +kernel
theorem dX6_init_51 : decode cX6_init 51 = .ok (.getfield 12, 3) := by decide +kernel
theorem dX6_init_54 : decode cX6_init 54 = .ok (.aload_n 0, 1) := by decide +kernel
theorem dX6_init_55 : decode cX6_init 55 = .ok (.getfield 21, 3) := by decide +kernel
theorem dX6_init_58 : decode cX6_init 58 = .ok (.invokespecial 34, 3) := by decide +kernel
theorem dX6_init_61 : decode cX6_init 61 = .ok (.putfield 37, 3) := by decide +kernel
theorem dX6_init_64 : decode cX6_init 64 = .ok (.aload_n 0, 1) := by decide +kernel
theorem dX6_init_65 : decode cX6_init 65 = .ok (.new 41, 3) := by decide +kernel
theorem dX6_init_68 : decode cX6_init 68 = .ok (.dup, 1) := by decide +kernel
theorem dX6_init_69 : decode cX6_init 69 = .ok (.invokespecial 43, 3) := by decide +kernel
theorem dX6_init_72 : decode cX6_init 72 = .ok (.putfield 44, 3) := by decide +kernel
theorem dX6_init_75 : decode cX6_init 75 = .ok (.aload_n 0, 1) := by decide +kernel
theorem dX6_init_76 : decode cX6_init 76 = .ok (.new 48, 3) := by decide +kernel
theorem dX6_init_79 : decode cX6_init 79 = .ok (.dup, 1) := by decide +kernel
theorem dX6_init_80 : decode cX6_init 80 = .ok (.aload_n 0, 1) := by decide +kernel
theorem dX6_init_81 : decode cX6_init 81 = .ok (.getfield 12, 3) := by decide +kernel
theorem dX6_init_84 : decode cX6_init 84 = .ok (.invokespecial 50, 3) := by decide +kernel
theorem dX6_init_87 : decode cX6_init 87 = .ok (.putfield 51, 3) := by decide +kernel
theorem dX6_init_90 : decode cX6_init 90 = .ok (.aload_n 0, 1) := by decide +kernel
theorem dX6_init_91 : decode cX6_init 91 = .ok (.bipush 16, 2) := by decide +kernel
theorem dX6_init_93 : decode cX6_init 93 = .ok (.newarray .int, 2) := by decide +kernel
theorem dX6_init_95 : decode cX6_init 95 = .ok (.putfield 55, 3) := by decide +kernel
theorem dX6_init_98 : decode cX6_init 98 = .ok (.return_, 1) := by decide +kernel
theorem dX6_mast_0 : decode cX6_mast 0 = .ok (.aload_n 0, 1) := by decide +kernel
theorem dX6_mast_1 : decode cX6_mast 1 = .ok (.getfield 12, 3) := by decide +kernel
theorem dX6_mast_4 : decode cX6_mast 4 = .ok (.getfield 59, 3) := by decide +kernel
theorem dX6_mast_7 : decode cX6_mast 7 = .ok (.bipush 10, 2) := by decide +kernel
theorem dX6_mast_9 : decode cX6_mast 9 = .ok (.if_icmp .lt 6, 3) := by decide +kernel
theorem dX6_mast_12 : decode cX6_mast 12 = .ok (.bipush (-4), 2) := by decide +kernel
theorem dX6_mast_14 : decode cX6_mast 14 = .ok (.ireturn, 1) := by decide +kernel
theorem dX6_mast_15 : decode cX6_mast 15 = .ok (.aload_n 0, 1) := by decide +kernel
theorem dX6_mast_16 : decode cX6_mast 16 = .ok (.getfield 12, 3) := by decide +kernel
theorem dX6_mast_19 : decode cX6_mast 19 = .ok (.dup, 1) := by decide +kernel
theorem dX6_mast_20 : decode cX6_mast 20 = .ok (.getfield 63, 3) := by decide +kernel
theorem dX6_mast_23 : decode cX6_mast 23 = .ok (.iconst 1, 1) := by decide +kernel
theorem dX6_mast_24 : decode cX6_mast 24 = .ok (.iadd, 1) := by decide +kernel
theorem dX6_mast_25 : decode cX6_mast 25 = .ok (.putfield 63, 3) := by decide +kernel
theorem dX6_mast_28 : decode cX6_mast 28 = .ok (.aload_n 0, 1) := by decide +kernel
theorem dX6_mast_29 : decode cX6_mast 29 = .ok (.getfield 12, 3) := by decide +kernel
theorem dX6_mast_32 : decode cX6_mast 32 = .ok (.dup, 1) := by decide +kernel
theorem dX6_mast_33 : decode cX6_mast 33 = .ok (.getfield 59, 3) := by decide +kernel
theorem dX6_mast_36 : decode cX6_mast 36 = .ok (.iconst 1, 1) := by decide +kernel
theorem dX6_mast_37 : decode cX6_mast 37 = .ok (.iadd, 1) := by decide +kernel
theorem dX6_mast_38 : decode cX6_mast 38 = .ok (.putfield 59, 3) := by decide +kernel
theorem dX6_mast_41 : decode cX6_mast 41 = .ok (.aload_n 0, 1) := by decide +kernel
theorem dX6_mast_42 : decode cX6_mast 42 = .ok (.getfield 12, 3) := by decide +kernel
theorem dX6_mast_45 : decode cX6_mast 45 = .ok (.getfield 59, 3) := by decide +kernel
theorem dX6_mast_48 : decode cX6_mast 48 = .ok (.iconst 1, 1) := by decide +kernel
theorem dX6_mast_49 : decode cX6_mast 49 = .ok (.isub, 1) := by decide +kernel
theorem dX6_mast_50 : decode cX6_mast 50 = .ok (.ireturn, 1) := by decide +kernel
theorem dX6_channels_0 : decode cX6_channels 0 = .ok (.iload_n 1, 1) := by decide +kernel
theorem dX6_channels_1 : decode cX6_channels 1 = .ok (.iconst 1, 1) := by decide +kernel
theorem dX6_channels_2 : decode cX6_channels 2 = .ok (.bipush 6, 2) := by decide +kernel
theorem dX6_channels_4 : decode cX6_channels 4 = .ok (.invokestatic 66, 3) := by decide +kernel
theorem dX6_channels_7 : decode cX6_channels 7 = .ok (.ifCond .ne 6, 3) := by decide +kernel
theorem dX6_channels_10 : decode cX6_channels 10 = .ok (.bipush (-2), 2) := by decide +kernel
theorem dX6_channels_12 : decode cX6_channels 12 = .ok (.ireturn, 1) := by decide +kernel
theorem dX6_channels_13 : decode cX6_channels 13 = .ok (.aload_n 0, 1) := by decide +kernel
theorem dX6_channels_14 : decode cX6_channels 14 = .ok (.getfield 12, 3) := by decide +kernel
theorem dX6_channels_17 : decode cX6_channels 17 = .ok (.getfield 70, 3) := by decide +kernel
theorem dX6_channels_20 : decode cX6_channels 20 = .ok (.istore_n 2, 1) := by decide +kernel
theorem dX6_channels_21 : decode cX6_channels 21 = .ok (.aload_n 0, 1) := by decide +kernel
theorem dX6_channels_22 : decode cX6_channels 22 = .ok (.getfield 12, 3) := by decide +kernel
theorem dX6_channels_25 : decode cX6_channels 25 = .ok (.iload_n 1, 1) := by decide +kernel
theorem dX6_channels_26 : decode cX6_channels 26 = .ok (.putfield 70, 3) := by decide +kernel
theorem dX6_channels_29 : decode cX6_channels 29 = .ok (.aload_n 0, 1) := by decide +kernel
theorem dX6_channels_30 : decode cX6_channels 30 = .ok (.getfield 12, 3) := by decide +kernel
theorem dX6_channels_33 : decode cX6_channels 33 = .ok (.dup, 1) := by decide +kernel
theorem dX6_channels_34 : decode cX6_channels 34 = .ok (.getfield 63, 3) := by decide +kernel
theorem dX6_channels_37 : decode cX6_channels 37 = .ok (.iconst 1, 1) := by decide +kernel
theorem dX6_channels_38 : decode cX6_channels 38 = .ok (.iadd, 1) := by decide +kernel
theorem dX6_channels_39 : decode cX6_channels 39 = .ok (.putfield 63, 3) := by decide +kernel
theorem dX6_channels_42 : decode cX6_channels 42 = .ok (.iload_n 2, 1) := by decide +kernel
theorem dX6_channels_43 : decode cX6_channels 43 = .ok (.ireturn, 1) := by decide +kernel
theorem dX6_pair_0 : decode cX6_pair 0 = .ok (.aload_n 0, 1) := by decide +kernel
theorem dX6_pair_1 : decode cX6_pair 1 = .ok (.getfield 12, 3) := by decide +kernel
theorem dX6_pair_4 : decode cX6_pair 4 = .ok (.iload_n 1, 1) := by decide +kernel
theorem dX6_pair_5 : decode cX6_pair 5 = .ok (.invokevirtual 73, 3) := by decide +kernel
theorem dX6_pair_8 : decode cX6_pair 8 = .ok (.ifCond .eq 28, 3) := by decide +kernel
theorem dX6_pair_11 : decode cX6_pair 11 = .ok (.aload_n 0, 1) := by decide +kernel
theorem dX6_pair_12 : decode cX6_pair 12 = .ok (.getfield 12, 3) := by decide +kernel
theorem dX6_pair_15 : decode cX6_pair 15 = .ok (.iload_n 2, 1) := by decide +kernel
theorem dX6_pair_16 : decode cX6_pair 16 = .ok (.invokevirtual 73, 3) := by decide +kernel
theorem dX6_pair_19 : decode cX6_pair 19 = .ok (.ifCond .eq 17, 3) := by decide +kernel
theorem dX6_pair_22 : decode cX6_pair 22 = .ok (.iload_n 1, 1) := by decide +kernel
theorem dX6_pair_23 : decode cX6_pair 23 = .ok (.iload_n 2, 1) := by decide +kernel
theorem dX6_pair_24 : decode cX6_pair 24 = .ok (.if_icmp .eq 12, 3) := by decide +kernel
theorem dX6_pair_27 : decode cX6_pair 27 = .ok (.iload_n 3, 1) := by decide +kernel
theorem dX6_pair_28 : decode cX6_pair 28 = .ok (.iconst 0, 1) := by decide +kernel
theorem dX6_pair_29 : decode cX6_pair 29 = .ok (.iconst 2, 1) := by decide +kernel
theorem dX6_pair_30 : decode cX6_pair 30 = .ok (.invokestatic 66, 3) := by decide +kernel
theorem dX6_pair_33 : decode cX6_pair 33 = .ok (.ifCond .ne 6, 3) := by decide +kernel
theorem dX6_pair_36 : decode cX6_pair 36 = .ok (.bipush (-2), 2) := by decide +kernel
theorem dX6_pair_38 : decode cX6_pair 38 = .ok (.ireturn, 1) := by decide +kernel
theorem dX6_pair_39 : decode cX6_pair 39 = .ok (.aload_n 0, 1) := by decide +kernel
theorem dX6_pair_40 : decode cX6_pair 40 = .ok (.getfield 12, 3) := by decide +kernel
theorem dX6_pair_43 : decode cX6_pair 43 = .ok (.iload_n 1, 1) := by decide +kernel
theorem dX6_pair_44 : decode cX6_pair 44 = .ok (.iload_n 2, 1) := by decide +kernel
theorem dX6_pair_45 : decode cX6_pair 45 = .ok (.invokevirtual 77, 3) := by decide +kernel
theorem dX6_pair_48 : decode cX6_pair 48 = .ok (.istore 4, 2) := by decide +kernel
theorem dX6_pair_50 : decode cX6_pair 50 = .ok (.aload_n 0, 1) := by decide +kernel
theorem dX6_pair_51 : decode cX6_pair 51 = .ok (.getfield 12, 3) := by decide +kernel
theorem dX6_pair_54 : decode cX6_pair 54 = .ok (.iload_n 1, 1) := by decide +kernel
theorem dX6_pair_55 : decode cX6_pair 55 = .ok (.iload_n 2, 1) := by decide +kernel
theorem dX6_pair_56 : decode cX6_pair 56 = .ok (.iload_n 3, 1) := by decide +kernel
theorem dX6_pair_57 : decode cX6_pair 57 = .ok (.invokevirtual 81, 3) := by decide +kernel
theorem dX6_pair_60 : decode cX6_pair 60 = .ok (.aload_n 0, 1) := by decide +kernel
theorem dX6_pair_61 : decode cX6_pair 61 = .ok (.getfield 12, 3) := by decide +kernel
theorem dX6_pair_64 : decode cX6_pair 64 = .ok (.dup, 1) := by decide +kernel
theorem dX6_pair_65 : decode cX6_pair 65 = .ok (.getfield 63, 3) := by decide +kernel
theorem dX6_pair_68 : decode cX6_pair 68 = .ok (.iconst 1, 1) := by decide +kernel
theorem dX6_pair_69 : decode cX6_pair 69 = .ok (.iadd, 1) := by decide +kernel
theorem dX6_pair_70 : decode cX6_pair 70 = .ok (.putfield 63, 3) := by decide +kernel
theorem dX6_pair_73 : decode cX6_pair 73 = .ok (.iload 4, 2) := by decide +kernel
theorem dX6_pair_75 : decode cX6_pair 75 = .ok (.ireturn, 1) := by decide +kernel
theorem dX6_bar_0 : decode cX6_bar 0 = .ok (.aload_n 0, 1) := by decide +kernel
theorem dX6_bar_1 : decode cX6_bar 1 = .ok (.getfield 12, 3) := by decide +kernel
theorem dX6_bar_4 : decode cX6_bar 4 = .ok (.iload_n 1, 1) := by decide +kernel
theorem dX6_bar_5 : decode cX6_bar 5 = .ok (.invokevirtual 73, 3) := by decide +kernel
theorem dX6_bar_8 : decode cX6_bar 8 = .ok (.ifCond .eq 18, 3) := by decide +kernel
theorem dX6_bar_11 : decode cX6_bar 11 = .ok (.iload_n 2, 1) := by decide +kernel
theorem dX6_bar_12 : decode cX6_bar 12 = .ok (.iconst 0, 1) := by decide +kernel
theorem dX6_bar_13 : decode cX6_bar 13 = .ok (.aload_n 0, 1) := by decide +kernel
theorem dX6_bar_14 : decode cX6_bar 14 = .ok (.getfield 12, 3) := by decide +kernel
theorem dX6_bar_17 : decode cX6_bar 17 = .ok (.invokevirtual 85, 3) := by decide +kernel
theorem dX6_bar_20 : decode cX6_bar 20 = .ok (.invokestatic 66, 3) := by decide +kernel
theorem dX6_bar_23 : decode cX6_bar 23 = .ok (.ifCond .ne 6, 3) := by decide +kernel
theorem dX6_bar_26 : decode cX6_bar 26 = .ok (.bipush (-2), 2) := by decide +kernel
theorem dX6_bar_28 : decode cX6_bar 28 = .ok (.ireturn, 1) := by decide +kernel
theorem dX6_bar_29 : decode cX6_bar 29 = .ok (.aload_n 0, 1) := by decide +kernel
theorem dX6_bar_30 : decode cX6_bar 30 = .ok (.getfield 12, 3) := by decide +kernel
theorem dX6_bar_33 : decode cX6_bar 33 = .ok (.getfield 89, 3) := by decide +kernel
theorem dX6_bar_36 : decode cX6_bar 36 = .ok (.iload_n 1, 1) := by decide +kernel
theorem dX6_bar_37 : decode cX6_bar 37 = .ok (.iaload, 1) := by decide +kernel
theorem dX6_bar_38 : decode cX6_bar 38 = .ok (.istore_n 3, 1) := by decide +kernel
theorem dX6_bar_39 : decode cX6_bar 39 = .ok (.aload_n 0, 1) := by decide +kernel
theorem dX6_bar_40 : decode cX6_bar 40 = .ok (.getfield 12, 3) := by decide +kernel
theorem dX6_bar_43 : decode cX6_bar 43 = .ok (.getfield 89, 3) := by decide +kernel
theorem dX6_bar_46 : decode cX6_bar 46 = .ok (.iload_n 1, 1) := by decide +kernel
theorem dX6_bar_47 : decode cX6_bar 47 = .ok (.iload_n 2, 1) := by decide +kernel
theorem dX6_bar_48 : decode cX6_bar 48 = .ok (.iastore, 1) := by decide +kernel
theorem dX6_bar_49 : decode cX6_bar 49 = .ok (.aload_n 0, 1) := by decide +kernel
theorem dX6_bar_50 : decode cX6_bar 50 = .ok (.getfield 12, 3) := by decide +kernel
theorem dX6_bar_53 : decode cX6_bar 53 = .ok (.dup, 1) := by decide +kernel
theorem dX6_bar_54 : decode cX6_bar 54 = .ok (.getfield 63, 3) := by decide +kernel
theorem dX6_bar_57 : decode cX6_bar 57 = .ok (.iconst 1, 1) := by decide +kernel
theorem dX6_bar_58 : decode cX6_bar 58 = .ok (.iadd, 1) := by decide +kernel
theorem dX6_bar_59 : decode cX6_bar 59 = .ok (.putfield 63, 3) := by decide +kernel
theorem dX6_bar_62 : decode cX6_bar 62 = .ok (.iload_n 3, 1) := by decide +kernel
theorem dX6_bar_63 : decode cX6_bar 63 = .ok (.ireturn, 1) := by decide +kernel
theorem dX6_limit_0 : decode cX6_limit 0 = .ok (.iload_n 1, 1) := by decide +kernel
theorem dX6_limit_1 : decode cX6_limit 1 = .ok (.iconst 1, 1) := by decide +kernel
theorem dX6_limit_2 : decode cX6_limit 2 = .ok (.sipush 2000, 3) := by decide +kernel
theorem dX6_limit_5 : decode cX6_limit 5 = .ok (.invokestatic 66, 3) := by decide +kernel
theorem dX6_limit_8 : decode cX6_limit 8 = .ok (.ifCond .ne 6, 3) := by decide +kernel
theorem dX6_limit_11 : decode cX6_limit 11 = .ok (.bipush (-2), 2) := by decide +kernel
theorem dX6_limit_13 : decode cX6_limit 13 = .ok (.ireturn, 1) := by decide +kernel
theorem dX6_limit_14 : decode cX6_limit 14 = .ok (.aload_n 0, 1) := by decide +kernel
theorem dX6_limit_15 : decode cX6_limit 15 = .ok (.getfield 12, 3) := by decide +kernel
theorem dX6_limit_18 : decode cX6_limit 18 = .ok (.getfield 92, 3) := by decide +kernel
theorem dX6_limit_21 : decode cX6_limit 21 = .ok (.istore_n 2, 1) := by decide +kernel
theorem dX6_limit_22 : decode cX6_limit 22 = .ok (.aload_n 0, 1) := by decide +kernel
theorem dX6_limit_23 : decode cX6_limit 23 = .ok (.getfield 12, 3) := by decide +kernel
theorem dX6_limit_26 : decode cX6_limit 26 = .ok (.iload_n 1, 1) := by decide +kernel
theorem dX6_limit_27 : decode cX6_limit 27 = .ok (.putfield 92, 3) := by decide +kernel
theorem dX6_limit_30 : decode cX6_limit 30 = .ok (.aload_n 0, 1) := by decide +kernel
theorem dX6_limit_31 : decode cX6_limit 31 = .ok (.getfield 12, 3) := by decide +kernel
theorem dX6_limit_34 : decode cX6_limit 34 = .ok (.dup, 1) := by decide +kernel
theorem dX6_limit_35 : decode cX6_limit 35 = .ok (.getfield 63, 3) := by decide +kernel
theorem dX6_limit_38 : decode cX6_limit 38 = .ok (.iconst 1, 1) := by decide +kernel
theorem dX6_limit_39 : decode cX6_limit 39 = .ok (.iadd, 1) := by decide +kernel
theorem dX6_limit_40 : decode cX6_limit 40 = .ok (.putfield 63, 3) := by decide +kernel
theorem dX6_limit_43 : decode cX6_limit 43 = .ok (.iload_n 2, 1) := by decide +kernel
theorem dX6_limit_44 : decode cX6_limit 44 = .ok (.ireturn, 1) := by decide +kernel
theorem dX6_fits_0 : decode cX6_fits 0 = .ok (.aload_n 0, 1) := by decide +kernel
theorem dX6_fits_1 : decode cX6_fits 1 = .ok (.getfield 12, 3) := by decide +kernel
theorem dX6_fits_4 : decode cX6_fits 4 = .ok (.iload_n 1, 1) := by decide +kernel
theorem dX6_fits_5 : decode cX6_fits 5 = .ok (.invokevirtual 95, 3) := by decide +kernel
theorem dX6_fits_8 : decode cX6_fits 8 = .ok (.ifCond .eq 14, 3) := by decide +kernel
theorem dX6_fits_11 : decode cX6_fits 11 = .ok (.aload_n 0, 1) := by decide +kernel
theorem dX6_fits_12 : decode cX6_fits 12 = .ok (.getfield 21, 3) := by decide +kernel
theorem dX6_fits_15 : decode cX6_fits 15 = .ok (.iload_n 1, 1) := by decide +kernel
theorem dX6_fits_16 : decode cX6_fits 16 = .ok (.invokevirtual 98, 3) := by decide +kernel
theorem dX6_fits_19 : decode cX6_fits 19 = .ok (.goto 5, 3) := by decide +kernel
theorem dX6_fits_22 : decode cX6_fits 22 = .ok (.bipush (-2), 2) := by decide +kernel
theorem dX6_fits_24 : decode cX6_fits 24 = .ok (.ireturn, 1) := by decide +kernel
theorem dX6_tries_0 : decode cX6_tries 0 = .ok (.aload_n 0, 1) := by decide +kernel
theorem dX6_tries_1 : decode cX6_tries 1 = .ok (.getfield 12, 3) := by decide +kernel
theorem dX6_tries_4 : decode cX6_tries 4 = .ok (.iload_n 1, 1) := by decide +kernel
theorem dX6_tries_5 : decode cX6_tries 5 = .ok (.invokevirtual 95, 3) := by decide +kernel
theorem dX6_tries_8 : decode cX6_tries 8 = .ok (.ifCond .ne 6, 3) := by decide +kernel
theorem dX6_tries_11 : decode cX6_tries 11 = .ok (.bipush (-2), 2) := by decide +kernel
theorem dX6_tries_13 : decode cX6_tries 13 = .ok (.ireturn, 1) := by decide +kernel
theorem dX6_tries_14 : decode cX6_tries 14 = .ok (.aload_n 0, 1) := by decide +kernel
theorem dX6_tries_15 : decode cX6_tries 15 = .ok (.getfield 21, 3) := by decide +kernel
theorem dX6_tries_18 : decode cX6_tries 18 = .ok (.iload_n 1, 1) := by decide +kernel
theorem dX6_tries_19 : decode cX6_tries 19 = .ok (.invokevirtual 98, 3) := by decide +kernel
theorem dX6_tries_22 : decode cX6_tries 22 = .ok (.pop, 1) := by decide +kernel
theorem dX6_tries_23 : decode cX6_tries 23 = .ok (.aload_n 0, 1) := by decide +kernel
theorem dX6_tries_24 : decode cX6_tries 24 = .ok (.getfield 21, 3) := by decide +kernel
theorem dX6_tries_27 : decode cX6_tries 27 = .ok (.getfield 102, 3) := by decide +kernel
theorem dX6_tries_30 : decode cX6_tries 30 = .ok (.ireturn, 1) := by decide +kernel
theorem dX6_packing_0 : decode cX6_packing 0 = .ok (.aload_n 0, 1) := by decide +kernel
theorem dX6_packing_1 : decode cX6_packing 1 = .ok (.getfield 12, 3) := by decide +kernel
theorem dX6_packing_4 : decode cX6_packing 4 = .ok (.iload_n 1, 1) := by decide +kernel
theorem dX6_packing_5 : decode cX6_packing 5 = .ok (.invokevirtual 95, 3) := by decide +kernel
theorem dX6_packing_8 : decode cX6_packing 8 = .ok (.ifCond .eq 22, 3) := by decide +kernel
theorem dX6_packing_11 : decode cX6_packing 11 = .ok (.aload_n 0, 1) := by decide +kernel
theorem dX6_packing_12 : decode cX6_packing 12 = .ok (.getfield 12, 3) := by decide +kernel
theorem dX6_packing_15 : decode cX6_packing 15 = .ok (.iload_n 2, 1) := by decide +kernel
theorem dX6_packing_16 : decode cX6_packing 16 = .ok (.invokevirtual 73, 3) := by decide +kernel
theorem dX6_packing_19 : decode cX6_packing 19 = .ok (.ifCond .eq 11, 3) := by decide +kernel
theorem dX6_packing_22 : decode cX6_packing 22 = .ok (.iload_n 1, 1) := by decide +kernel
theorem dX6_packing_23 : decode cX6_packing 23 = .ok (.iload_n 2, 1) := by decide +kernel
theorem dX6_packing_24 : decode cX6_packing 24 = .ok (.invokestatic 105, 3) := by decide +kernel
theorem dX6_packing_27 : decode cX6_packing 27 = .ok (.ifCond .ne 6, 3) := by decide +kernel
theorem dX6_packing_30 : decode cX6_packing 30 = .ok (.bipush (-2), 2) := by decide +kernel
theorem dX6_packing_32 : decode cX6_packing 32 = .ok (.ireturn, 1) := by decide +kernel
theorem dX6_packing_33 : decode cX6_packing 33 = .ok (.aload_n 0, 1) := by decide +kernel
theorem dX6_packing_34 : decode cX6_packing 34 = .ok (.getfield 28, 3) := by decide +kernel
theorem dX6_packing_37 : decode cX6_packing 37 = .ok (.iload_n 1, 1) := by decide +kernel
theorem dX6_packing_38 : decode cX6_packing 38 = .ok (.iload_n 2, 1) := by decide +kernel
theorem dX6_packing_39 : decode cX6_packing 39 = .ok (.invokevirtual 109, 3) := by decide +kernel
theorem dX6_packing_42 : decode cX6_packing 42 = .ok (.ireturn, 1) := by decide +kernel
theorem dX6_reason_0 : decode cX6_reason 0 = .ok (.aload_n 0, 1) := by decide +kernel
theorem dX6_reason_1 : decode cX6_reason 1 = .ok (.getfield 12, 3) := by decide +kernel
theorem dX6_reason_4 : decode cX6_reason 4 = .ok (.iload_n 1, 1) := by decide +kernel
theorem dX6_reason_5 : decode cX6_reason 5 = .ok (.invokevirtual 95, 3) := by decide +kernel
theorem dX6_reason_8 : decode cX6_reason 8 = .ok (.ifCond .ne 6, 3) := by decide +kernel
theorem dX6_reason_11 : decode cX6_reason 11 = .ok (.bipush (-2), 2) := by decide +kernel
theorem dX6_reason_13 : decode cX6_reason 13 = .ok (.ireturn, 1) := by decide +kernel
theorem dX6_reason_14 : decode cX6_reason 14 = .ok (.aload_n 0, 1) := by decide +kernel
theorem dX6_reason_15 : decode cX6_reason 15 = .ok (.getfield 28, 3) := by decide +kernel
theorem dX6_reason_18 : decode cX6_reason 18 = .ok (.iload_n 1, 1) := by decide +kernel
theorem dX6_reason_19 : decode cX6_reason 19 = .ok (.invokevirtual 112, 3) := by decide +kernel
theorem dX6_reason_22 : decode cX6_reason 22 = .ok (.ifCond .eq 8, 3) := by decide +kernel
theorem dX6_reason_25 : decode cX6_reason 25 = .ok (.bipush (-3), 2) := by decide +kernel
theorem dX6_reason_27 : decode cX6_reason 27 = .ok (.goto 11, 3) := by decide +kernel
theorem dX6_reason_30 : decode cX6_reason 30 = .ok (.aload_n 0, 1) := by decide +kernel
theorem dX6_reason_31 : decode cX6_reason 31 = .ok (.getfield 28, 3) := by decide +kernel
theorem dX6_reason_34 : decode cX6_reason 34 = .ok (.iload_n 1, 1) := by decide +kernel
theorem dX6_reason_35 : decode cX6_reason 35 = .ok (.invokevirtual 115, 3) := by decide +kernel
theorem dX6_reason_38 : decode cX6_reason 38 = .ok (.ireturn, 1) := by decide +kernel
theorem dX6_spare_0 : decode cX6_spare 0 = .ok (.aload_n 0, 1) := by decide +kernel
theorem dX6_spare_1 : decode cX6_spare 1 = .ok (.getfield 12, 3) := by decide +kernel
theorem dX6_spare_4 : decode cX6_spare 4 = .ok (.iload_n 1, 1) := by decide +kernel
theorem dX6_spare_5 : decode cX6_spare 5 = .ok (.invokevirtual 95, 3) := by decide +kernel
theorem dX6_spare_8 : decode cX6_spare 8 = .ok (.ifCond .ne 6, 3) := by decide +kernel
theorem dX6_spare_11 : decode cX6_spare 11 = .ok (.bipush (-2), 2) := by decide +kernel
theorem dX6_spare_13 : decode cX6_spare 13 = .ok (.ireturn, 1) := by decide +kernel
theorem dX6_spare_14 : decode cX6_spare 14 = .ok (.aload_n 0, 1) := by decide +kernel
theorem dX6_spare_15 : decode cX6_spare 15 = .ok (.getfield 28, 3) := by decide +kernel
theorem dX6_spare_18 : decode cX6_spare 18 = .ok (.iload_n 1, 1) := by decide +kernel
theorem dX6_spare_19 : decode cX6_spare 19 = .ok (.invokevirtual 112, 3) := by decide +kernel
theorem dX6_spare_22 : decode cX6_spare 22 = .ok (.ifCond .eq 14, 3) := by decide +kernel
theorem dX6_spare_25 : decode cX6_spare 25 = .ok (.aload_n 0, 1) := by decide +kernel
theorem dX6_spare_26 : decode cX6_spare 26 = .ok (.getfield 28, 3) := by decide +kernel
theorem dX6_spare_29 : decode cX6_spare 29 = .ok (.iload_n 1, 1) := by decide +kernel
theorem dX6_spare_30 : decode cX6_spare 30 = .ok (.invokevirtual 118, 3) := by decide +kernel
theorem dX6_spare_33 : decode cX6_spare 33 = .ok (.goto 5, 3) := by decide +kernel
theorem dX6_spare_36 : decode cX6_spare 36 = .ok (.bipush (-3), 2) := by decide +kernel
theorem dX6_spare_38 : decode cX6_spare 38 = .ok (.ireturn, 1) := by decide +kernel
theorem dX6_old_0 : decode cX6_old 0 = .ok (.aload_n 0, 1) := by decide +kernel
theorem dX6_old_1 : decode cX6_old 1 = .ok (.getfield 12, 3) := by decide +kernel
theorem dX6_old_4 : decode cX6_old 4 = .ok (.iload_n 1, 1) := by decide +kernel
theorem dX6_old_5 : decode cX6_old 5 = .ok (.invokevirtual 73, 3) := by decide +kernel
theorem dX6_old_8 : decode cX6_old 8 = .ok (.ifCond .eq 24, 3) := by decide +kernel
theorem dX6_old_11 : decode cX6_old 11 = .ok (.iload_n 2, 1) := by decide +kernel
theorem dX6_old_12 : decode cX6_old 12 = .ok (.iconst 0, 1) := by decide +kernel
theorem dX6_old_13 : decode cX6_old 13 = .ok (.sipush 1000, 3) := by decide +kernel
theorem dX6_old_16 : decode cX6_old 16 = .ok (.invokestatic 66, 3) := by decide +kernel
theorem dX6_old_19 : decode cX6_old 19 = .ok (.ifCond .eq 13, 3) := by decide +kernel
theorem dX6_old_22 : decode cX6_old 22 = .ok (.iload_n 3, 1) := by decide +kernel
theorem dX6_old_23 : decode cX6_old 23 = .ok (.iconst 1, 1) := by decide +kernel
theorem dX6_old_24 : decode cX6_old 24 = .ok (.bipush 10, 2) := by decide +kernel
theorem dX6_old_26 : decode cX6_old 26 = .ok (.invokestatic 66, 3) := by decide +kernel
theorem dX6_old_29 : decode cX6_old 29 = .ok (.ifCond .ne 6, 3) := by decide +kernel
theorem dX6_old_32 : decode cX6_old 32 = .ok (.bipush (-2), 2) := by decide +kernel
theorem dX6_old_34 : decode cX6_old 34 = .ok (.ireturn, 1) := by decide +kernel
theorem dX6_old_35 : decode cX6_old 35 = .ok (.aload_n 0, 1) := by decide +kernel
theorem dX6_old_36 : decode cX6_old 36 = .ok (.getfield 37, 3) := by decide +kernel
theorem dX6_old_39 : decode cX6_old 39 = .ok (.getfield 121, 3) := by decide +kernel
theorem dX6_old_42 : decode cX6_old 42 = .ok (.iload_n 1, 1) := by decide +kernel
theorem dX6_old_43 : decode cX6_old 43 = .ok (.invokestatic 105, 3) := by decide +kernel
theorem dX6_old_46 : decode cX6_old 46 = .ok (.ifCond .eq 6, 3) := by decide +kernel
theorem dX6_old_49 : decode cX6_old 49 = .ok (.bipush (-3), 2) := by decide +kernel
theorem dX6_old_51 : decode cX6_old 51 = .ok (.ireturn, 1) := by decide +kernel
theorem dX6_old_52 : decode cX6_old 52 = .ok (.aload_n 0, 1) := by decide +kernel
theorem dX6_old_53 : decode cX6_old 53 = .ok (.getfield 37, 3) := by decide +kernel
theorem dX6_old_56 : decode cX6_old 56 = .ok (.iload_n 1, 1) := by decide +kernel
theorem dX6_old_57 : decode cX6_old 57 = .ok (.iload_n 2, 1) := by decide +kernel
theorem dX6_old_58 : decode cX6_old 58 = .ok (.iload_n 3, 1) := by decide +kernel
theorem dX6_old_59 : decode cX6_old 59 = .ok (.invokevirtual 124, 3) := by decide +kernel
theorem dX6_old_62 : decode cX6_old 62 = .ok (.iconst 1, 1) := by decide +kernel
theorem dX6_old_63 : decode cX6_old 63 = .ok (.ireturn, 1) := by decide +kernel
theorem dX6_clock_0 : decode cX6_clock 0 = .ok (.iload_n 1, 1) := by decide +kernel
theorem dX6_clock_1 : decode cX6_clock 1 = .ok (.iconst 1, 1) := by decide +kernel
theorem dX6_clock_2 : decode cX6_clock 2 = .ok (.sipush 1000, 3) := by decide +kernel
theorem dX6_clock_5 : decode cX6_clock 5 = .ok (.invokestatic 66, 3) := by decide +kernel
theorem dX6_clock_8 : decode cX6_clock 8 = .ok (.ifCond .eq 21, 3) := by decide +kernel
theorem dX6_clock_11 : decode cX6_clock 11 = .ok (.iload_n 2, 1) := by decide +kernel
theorem dX6_clock_12 : decode cX6_clock 12 = .ok (.iconst 1, 1) := by decide +kernel
theorem dX6_clock_13 : decode cX6_clock 13 = .ok (.bipush 100, 2) := by decide +kernel
theorem dX6_clock_15 : decode cX6_clock 15 = .ok (.invokestatic 66, 3) := by decide +kernel
theorem dX6_clock_18 : decode cX6_clock 18 = .ok (.ifCond .eq 11, 3) := by decide +kernel
theorem dX6_clock_21 : decode cX6_clock 21 = .ok (.iload_n 1, 1) := by decide +kernel
theorem dX6_clock_22 : decode cX6_clock 22 = .ok (.bipush 50, 2) := by decide +kernel
theorem dX6_clock_24 : decode cX6_clock 24 = .ok (.iload_n 2, 1) := by decide +kernel
theorem dX6_clock_25 : decode cX6_clock 25 = .ok (.imul, 1) := by decide +kernel
theorem dX6_clock_26 : decode cX6_clock 26 = .ok (.if_icmp .le 6, 3) := by decide +kernel
theorem dX6_clock_29 : decode cX6_clock 29 = .ok (.bipush (-2), 2) := by decide +kernel
theorem dX6_clock_31 : decode cX6_clock 31 = .ok (.ireturn, 1) := by decide +kernel
theorem dX6_clock_32 : decode cX6_clock 32 = .ok (.aload_n 0, 1) := by decide +kernel
theorem dX6_clock_33 : decode cX6_clock 33 = .ok (.getfield 37, 3) := by decide +kernel
theorem dX6_clock_36 : decode cX6_clock 36 = .ok (.iload_n 1, 1) := by decide +kernel
theorem dX6_clock_37 : decode cX6_clock 37 = .ok (.putfield 127, 3) := by decide +kernel
theorem dX6_clock_40 : decode cX6_clock 40 = .ok (.aload_n 0, 1) := by decide +kernel
theorem dX6_clock_41 : decode cX6_clock 41 = .ok (.getfield 37, 3) := by decide +kernel
theorem dX6_clock_44 : decode cX6_clock 44 = .ok (.iload_n 2, 1) := by decide +kernel
theorem dX6_clock_45 : decode cX6_clock 45 = .ok (.putfield 130, 3) := by decide +kernel
theorem dX6_clock_48 : decode cX6_clock 48 = .ok (.iconst 1, 1) := by decide +kernel
theorem dX6_clock_49 : decode cX6_clock 49 = .ok (.ireturn, 1) := by decide +kernel
theorem dX6_run_0 : decode cX6_run 0 = .ok (.iload_n 1, 1) := by decide +kernel
theorem dX6_run_1 : decode cX6_run 1 = .ok (.iconst 0, 1) := by decide +kernel
theorem dX6_run_2 : decode cX6_run 2 = .ok (.iconst 3, 1) := by decide +kernel
theorem dX6_run_3 : decode cX6_run 3 = .ok (.invokestatic 66, 3) := by decide +kernel
theorem dX6_run_6 : decode cX6_run 6 = .ok (.ifCond .ne 6, 3) := by decide +kernel
theorem dX6_run_9 : decode cX6_run 9 = .ok (.bipush (-2), 2) := by decide +kernel
theorem dX6_run_11 : decode cX6_run 11 = .ok (.ireturn, 1) := by decide +kernel
theorem dX6_run_12 : decode cX6_run 12 = .ok (.aload_n 0, 1) := by decide +kernel
theorem dX6_run_13 : decode cX6_run 13 = .ok (.getfield 37, 3) := by decide +kernel
theorem dX6_run_16 : decode cX6_run 16 = .ok (.iconst (-1), 1) := by decide +kernel
theorem dX6_run_17 : decode cX6_run 17 = .ok (.iconst 0, 1) := by decide +kernel
theorem dX6_run_18 : decode cX6_run 18 = .ok (.invokevirtual 133, 3) := by decide +kernel
theorem dX6_run_21 : decode cX6_run 21 = .ok (.aload_n 0, 1) := by decide +kernel
theorem dX6_run_22 : decode cX6_run 22 = .ok (.getfield 37, 3) := by decide +kernel
theorem dX6_run_25 : decode cX6_run 25 = .ok (.iload_n 1, 1) := by decide +kernel
theorem dX6_run_26 : decode cX6_run 26 = .ok (.invokevirtual 137, 3) := by decide +kernel
theorem dX6_run_29 : decode cX6_run 29 = .ok (.ireturn, 1) := by decide +kernel
theorem dX6_paid_0 : decode cX6_paid 0 = .ok (.aload_n 0, 1) := by decide +kernel
theorem dX6_paid_1 : decode cX6_paid 1 = .ok (.getfield 37, 3) := by decide +kernel
theorem dX6_paid_4 : decode cX6_paid 4 = .ok (.iload_n 1, 1) := by decide +kernel
theorem dX6_paid_5 : decode cX6_paid 5 = .ok (.invokevirtual 140, 3) := by decide +kernel
theorem dX6_paid_8 : decode cX6_paid 8 = .ok (.ifCond .ne 6, 3) := by decide +kernel
theorem dX6_paid_11 : decode cX6_paid 11 = .ok (.bipush (-2), 2) := by decide +kernel
theorem dX6_paid_13 : decode cX6_paid 13 = .ok (.ireturn, 1) := by decide +kernel
theorem dX6_paid_14 : decode cX6_paid 14 = .ok (.aload_n 0, 1) := by decide +kernel
theorem dX6_paid_15 : decode cX6_paid 15 = .ok (.getfield 37, 3) := by decide +kernel
theorem dX6_paid_18 : decode cX6_paid 18 = .ok (.iconst (-1), 1) := by decide +kernel
theorem dX6_paid_19 : decode cX6_paid 19 = .ok (.iconst 0, 1) := by decide +kernel
theorem dX6_paid_20 : decode cX6_paid 20 = .ok (.invokevirtual 133, 3) := by decide +kernel
theorem dX6_paid_23 : decode cX6_paid 23 = .ok (.aload_n 0, 1) := by decide +kernel
theorem dX6_paid_24 : decode cX6_paid 24 = .ok (.getfield 37, 3) := by decide +kernel
theorem dX6_paid_27 : decode cX6_paid 27 = .ok (.getfield 143, 3) := by decide +kernel
theorem dX6_paid_30 : decode cX6_paid 30 = .ok (.iload_n 1, 1) := by decide +kernel
theorem dX6_paid_31 : decode cX6_paid 31 = .ok (.iaload, 1) := by decide +kernel
theorem dX6_paid_32 : decode cX6_paid 32 = .ok (.ireturn, 1) := by decide +kernel
theorem dX6_round_0 : decode cX6_round 0 = .ok (.aload_n 0, 1) := by decide +kernel
theorem dX6_round_1 : decode cX6_round 1 = .ok (.getfield 37, 3) := by decide +kernel
theorem dX6_round_4 : decode cX6_round 4 = .ok (.iload_n 1, 1) := by decide +kernel
theorem dX6_round_5 : decode cX6_round 5 = .ok (.invokevirtual 140, 3) := by decide +kernel
theorem dX6_round_8 : decode cX6_round 8 = .ok (.ifCond .ne 6, 3) := by decide +kernel
theorem dX6_round_11 : decode cX6_round 11 = .ok (.bipush (-2), 2) := by decide +kernel
theorem dX6_round_13 : decode cX6_round 13 = .ok (.ireturn, 1) := by decide +kernel
theorem dX6_round_14 : decode cX6_round 14 = .ok (.aload_n 0, 1) := by decide +kernel
theorem dX6_round_15 : decode cX6_round 15 = .ok (.getfield 37, 3) := by decide +kernel
theorem dX6_round_18 : decode cX6_round 18 = .ok (.iconst (-1), 1) := by decide +kernel
theorem dX6_round_19 : decode cX6_round 19 = .ok (.iconst 0, 1) := by decide +kernel
theorem dX6_round_20 : decode cX6_round 20 = .ok (.invokevirtual 133, 3) := by decide +kernel
theorem dX6_round_23 : decode cX6_round 23 = .ok (.aload_n 0, 1) := by decide +kernel
theorem dX6_round_24 : decode cX6_round 24 = .ok (.getfield 37, 3) := by decide +kernel
theorem dX6_round_27 : decode cX6_round 27 = .ok (.getfield 146, 3) := by decide +kernel
theorem dX6_round_30 : decode cX6_round 30 = .ok (.iload_n 1, 1) := by decide +kernel
theorem dX6_round_31 : decode cX6_round 31 = .ok (.iaload, 1) := by decide +kernel
theorem dX6_round_32 : decode cX6_round 32 = .ok (.ireturn, 1) := by decide +kernel
theorem dX6_gain_0 : decode cX6_gain 0 = .ok (.aload_n 0, 1) := by decide +kernel
theorem dX6_gain_1 : decode cX6_gain 1 = .ok (.getfield 37, 3) := by decide +kernel
theorem dX6_gain_4 : decode cX6_gain 4 = .ok (.iload_n 1, 1) := by decide +kernel
theorem dX6_gain_5 : decode cX6_gain 5 = .ok (.invokevirtual 140, 3) := by decide +kernel
theorem dX6_gain_8 : decode cX6_gain 8 = .ok (.ifCond .eq 14, 3) := by decide +kernel
theorem dX6_gain_11 : decode cX6_gain 11 = .ok (.iload_n 2, 1) := by decide +kernel
theorem dX6_gain_12 : decode cX6_gain 12 = .ok (.iconst 0, 1) := by decide +kernel
theorem dX6_gain_13 : decode cX6_gain 13 = .ok (.sipush 1000, 3) := by decide +kernel
theorem dX6_gain_16 : decode cX6_gain 16 = .ok (.invokestatic 66, 3) := by decide +kernel
theorem dX6_gain_19 : decode cX6_gain 19 = .ok (.ifCond .ne 6, 3) := by decide +kernel
theorem dX6_gain_22 : decode cX6_gain 22 = .ok (.ldc 149, 2) := by decide +kernel
theorem dX6_gain_24 : decode cX6_gain 24 = .ok (.ireturn, 1) := by decide +kernel
theorem dX6_gain_25 : decode cX6_gain 25 = .ok (.aload_n 0, 1) := by decide +kernel
theorem dX6_gain_26 : decode cX6_gain 26 = .ok (.getfield 37, 3) := by decide +kernel
theorem dX6_gain_29 : decode cX6_gain 29 = .ok (.iload_n 1, 1) := by decide +kernel
theorem dX6_gain_30 : decode cX6_gain 30 = .ok (.iload_n 2, 1) := by decide +kernel
theorem dX6_gain_31 : decode cX6_gain 31 = .ok (.invokevirtual 150, 3) := by decide +kernel
theorem dX6_gain_34 : decode cX6_gain 34 = .ok (.aload_n 0, 1) := by decide +kernel
theorem dX6_gain_35 : decode cX6_gain 35 = .ok (.getfield 37, 3) := by decide +kernel
theorem dX6_gain_38 : decode cX6_gain 38 = .ok (.iload_n 1, 1) := by decide +kernel
theorem dX6_gain_39 : decode cX6_gain 39 = .ok (.aload_n 0, 1) := by decide +kernel
theorem dX6_gain_40 : decode cX6_gain 40 = .ok (.getfield 37, 3) := by decide +kernel
theorem dX6_gain_43 : decode cX6_gain 43 = .ok (.getfield 153, 3) := by decide +kernel
theorem dX6_gain_46 : decode cX6_gain 46 = .ok (.iload_n 1, 1) := by decide +kernel
theorem dX6_gain_47 : decode cX6_gain 47 = .ok (.iaload, 1) := by decide +kernel
theorem dX6_gain_48 : decode cX6_gain 48 = .ok (.invokevirtual 150, 3) := by decide +kernel
theorem dX6_gain_51 : decode cX6_gain 51 = .ok (.isub, 1) := by decide +kernel
theorem dX6_gain_52 : decode cX6_gain 52 = .ok (.ireturn, 1) := by decide +kernel
theorem dX6_most_0 : decode cX6_most 0 = .ok (.aload_n 0, 1) := by decide +kernel
theorem dX6_most_1 : decode cX6_most 1 = .ok (.getfield 37, 3) := by decide +kernel
theorem dX6_most_4 : decode cX6_most 4 = .ok (.iload_n 1, 1) := by decide +kernel
theorem dX6_most_5 : decode cX6_most 5 = .ok (.invokevirtual 140, 3) := by decide +kernel
theorem dX6_most_8 : decode cX6_most 8 = .ok (.ifCond .eq 35, 3) := by decide +kernel
theorem dX6_most_11 : decode cX6_most 11 = .ok (.iload_n 2, 1) := by decide +kernel
theorem dX6_most_12 : decode cX6_most 12 = .ok (.iconst 0, 1) := by decide +kernel
theorem dX6_most_13 : decode cX6_most 13 = .ok (.sipush 1000, 3) := by decide +kernel
theorem dX6_most_16 : decode cX6_most 16 = .ok (.invokestatic 66, 3) := by decide +kernel
theorem dX6_most_19 : decode cX6_most 19 = .ok (.ifCond .eq 24, 3) := by decide +kernel
theorem dX6_most_22 : decode cX6_most 22 = .ok (.iload_n 3, 1) := by decide +kernel
theorem dX6_most_23 : decode cX6_most 23 = .ok (.iconst 1, 1) := by decide +kernel
theorem dX6_most_24 : decode cX6_most 24 = .ok (.sipush 1000, 3) := by decide +kernel
theorem dX6_most_27 : decode cX6_most 27 = .ok (.invokestatic 66, 3) := by decide +kernel
theorem dX6_most_30 : decode cX6_most 30 = .ok (.ifCond .eq 13, 3) := by decide +kernel
theorem dX6_most_33 : decode cX6_most 33 = .ok (.iload 4, 2) := by decide +kernel
theorem dX6_most_35 : decode cX6_most 35 = .ok (.iconst 0, 1) := by decide +kernel
theorem dX6_most_36 : decode cX6_most 36 = .ok (.iconst 1, 1) := by decide +kernel
theorem dX6_most_37 : decode cX6_most 37 = .ok (.invokestatic 66, 3) := by decide +kernel
theorem dX6_most_40 : decode cX6_most 40 = .ok (.ifCond .ne 6, 3) := by decide +kernel
theorem dX6_most_43 : decode cX6_most 43 = .ok (.ldc 149, 2) := by decide +kernel
theorem dX6_most_45 : decode cX6_most 45 = .ok (.ireturn, 1) := by decide +kernel
theorem dX6_most_46 : decode cX6_most 46 = .ok (.iload_n 2, 1) := by decide +kernel
theorem dX6_most_47 : decode cX6_most 47 = .ok (.iload_n 3, 1) := by decide +kernel
theorem dX6_most_48 : decode cX6_most 48 = .ok (.idiv, 1) := by decide +kernel
theorem dX6_most_49 : decode cX6_most 49 = .ok (.bipush 20, 2) := by decide +kernel
theorem dX6_most_51 : decode cX6_most 51 = .ok (.if_icmp .le 6, 3) := by decide +kernel
theorem dX6_most_54 : decode cX6_most 54 = .ok (.ldc 149, 2) := by decide +kernel
theorem dX6_most_56 : decode cX6_most 56 = .ok (.ireturn, 1) := by decide +kernel
theorem dX6_most_57 : decode cX6_most 57 = .ok (.aload_n 0, 1) := by decide +kernel
theorem dX6_most_58 : decode cX6_most 58 = .ok (.getfield 37, 3) := by decide +kernel
theorem dX6_most_61 : decode cX6_most 61 = .ok (.iload_n 1, 1) := by decide +kernel
theorem dX6_most_62 : decode cX6_most 62 = .ok (.aload_n 0, 1) := by decide +kernel
theorem dX6_most_63 : decode cX6_most 63 = .ok (.getfield 37, 3) := by decide +kernel
theorem dX6_most_66 : decode cX6_most 66 = .ok (.getfield 153, 3) := by decide +kernel
theorem dX6_most_69 : decode cX6_most 69 = .ok (.iload_n 1, 1) := by decide +kernel
theorem dX6_most_70 : decode cX6_most 70 = .ok (.iaload, 1) := by decide +kernel
theorem dX6_most_71 : decode cX6_most 71 = .ok (.invokevirtual 150, 3) := by decide +kernel
theorem dX6_most_74 : decode cX6_most 74 = .ok (.istore 5, 2) := by decide +kernel
theorem dX6_most_76 : decode cX6_most 76 = .ok (.aload_n 0, 1) := by decide +kernel
theorem dX6_most_77 : decode cX6_most 77 = .ok (.getfield 37, 3) := by decide +kernel
theorem dX6_most_80 : decode cX6_most 80 = .ok (.iload_n 1, 1) := by decide +kernel
theorem dX6_most_81 : decode cX6_most 81 = .ok (.iconst 0, 1) := by decide +kernel
theorem dX6_most_82 : decode cX6_most 82 = .ok (.invokevirtual 150, 3) := by decide +kernel
theorem dX6_most_85 : decode cX6_most 85 = .ok (.iload 5, 2) := by decide +kernel
theorem dX6_most_87 : decode cX6_most 87 = .ok (.isub, 1) := by decide +kernel
theorem dX6_most_88 : decode cX6_most 88 = .ok (.istore 6, 2) := by decide +kernel
theorem dX6_most_90 : decode cX6_most 90 = .ok (.iconst 0, 1) := by decide +kernel
theorem dX6_most_91 : decode cX6_most 91 = .ok (.istore 7, 2) := by decide +kernel
theorem dX6_most_93 : decode cX6_most 93 = .ok (.iload_n 3, 1) := by decide +kernel
theorem dX6_most_94 : decode cX6_most 94 = .ok (.istore 8, 2) := by decide +kernel
theorem dX6_most_96 : decode cX6_most 96 = .ok (.iload 8, 2) := by decide +kernel
theorem dX6_most_98 : decode cX6_most 98 = .ok (.iload_n 2, 1) := by decide +kernel
theorem dX6_most_99 : decode cX6_most 99 = .ok (.if_icmp .gt 42, 3) := by decide +kernel
theorem dX6_most_102 : decode cX6_most 102 = .ok (.aload_n 0, 1) := by decide +kernel
theorem dX6_most_103 : decode cX6_most 103 = .ok (.getfield 37, 3) := by decide +kernel
theorem dX6_most_106 : decode cX6_most 106 = .ok (.iload_n 1, 1) := by decide +kernel
theorem dX6_most_107 : decode cX6_most 107 = .ok (.iload 8, 2) := by decide +kernel
theorem dX6_most_109 : decode cX6_most 109 = .ok (.invokevirtual 150, 3) := by decide +kernel
theorem dX6_most_112 : decode cX6_most 112 = .ok (.iload 5, 2) := by decide +kernel
theorem dX6_most_114 : decode cX6_most 114 = .ok (.isub, 1) := by decide +kernel
theorem dX6_most_115 : decode cX6_most 115 = .ok (.istore 9, 2) := by decide +kernel
theorem dX6_most_117 : decode cX6_most 117 = .ok (.iload 9, 2) := by decide +kernel
theorem dX6_most_119 : decode cX6_most 119 = .ok (.iload 6, 2) := by decide +kernel
theorem dX6_most_121 : decode cX6_most 121 = .ok (.if_icmp .le 11, 3) := by decide +kernel
theorem dX6_most_124 : decode cX6_most 124 = .ok (.iload 9, 2) := by decide +kernel
theorem dX6_most_126 : decode cX6_most 126 = .ok (.istore 6, 2) := by decide +kernel
theorem dX6_most_128 : decode cX6_most 128 = .ok (.iload 8, 2) := by decide +kernel
theorem dX6_most_130 : decode cX6_most 130 = .ok (.istore 7, 2) := by decide +kernel
theorem dX6_most_132 : decode cX6_most 132 = .ok (.iload 8, 2) := by decide +kernel
theorem dX6_most_134 : decode cX6_most 134 = .ok (.iload_n 3, 1) := by decide +kernel
theorem dX6_most_135 : decode cX6_most 135 = .ok (.iadd, 1) := by decide +kernel
theorem dX6_most_136 : decode cX6_most 136 = .ok (.istore 8, 2) := by decide +kernel
theorem dX6_most_138 : decode cX6_most 138 = .ok (.goto (-42), 3) := by decide +kernel
theorem dX6_most_141 : decode cX6_most 141 = .ok (.iload 4, 2) := by decide +kernel
theorem dX6_most_143 : decode cX6_most 143 = .ok (.ifCond .ne 8, 3) := by decide +kernel
theorem dX6_most_146 : decode cX6_most 146 = .ok (.iload 6, 2) := by decide +kernel
theorem dX6_most_148 : decode cX6_most 148 = .ok (.goto 5, 3) := by decide +kernel
theorem dX6_most_151 : decode cX6_most 151 = .ok (.iload 7, 2) := by decide +kernel
theorem dX6_most_153 : decode cX6_most 153 = .ok (.ireturn, 1) := by decide +kernel
theorem dX6_house_0 : decode cX6_house 0 = .ok (.aload_n 0, 1) := by decide +kernel
theorem dX6_house_1 : decode cX6_house 1 = .ok (.getfield 44, 3) := by decide +kernel
theorem dX6_house_4 : decode cX6_house 4 = .ok (.getfield 156, 3) := by decide +kernel
theorem dX6_house_7 : decode cX6_house 7 = .ok (.bipush 6, 2) := by decide +kernel
theorem dX6_house_9 : decode cX6_house 9 = .ok (.if_icmp .lt 8, 3) := by decide +kernel
theorem dX6_house_12 : decode cX6_house 12 = .ok (.bipush (-4), 2) := by decide +kernel
theorem dX6_house_14 : decode cX6_house 14 = .ok (.goto 10, 3) := by decide +kernel
theorem dX6_house_17 : decode cX6_house 17 = .ok (.aload_n 0, 1) := by decide +kernel
theorem dX6_house_18 : decode cX6_house 18 = .ok (.getfield 44, 3) := by decide +kernel
theorem dX6_house_21 : decode cX6_house 21 = .ok (.invokevirtual 159, 3) := by decide +kernel
theorem dX6_house_24 : decode cX6_house 24 = .ok (.ireturn, 1) := by decide +kernel
theorem dX6_ask_0 : decode cX6_ask 0 = .ok (.aload_n 0, 1) := by decide +kernel
theorem dX6_ask_1 : decode cX6_ask 1 = .ok (.getfield 44, 3) := by decide +kernel
theorem dX6_ask_4 : decode cX6_ask 4 = .ok (.iload_n 1, 1) := by decide +kernel
theorem dX6_ask_5 : decode cX6_ask 5 = .ok (.invokevirtual 162, 3) := by decide +kernel
theorem dX6_ask_8 : decode cX6_ask 8 = .ok (.ifCond .eq 23, 3) := by decide +kernel
theorem dX6_ask_11 : decode cX6_ask 11 = .ok (.iload_n 2, 1) := by decide +kernel
theorem dX6_ask_12 : decode cX6_ask 12 = .ok (.iconst 1, 1) := by decide +kernel
theorem dX6_ask_13 : decode cX6_ask 13 = .ok (.bipush 63, 2) := by decide +kernel
theorem dX6_ask_15 : decode cX6_ask 15 = .ok (.invokestatic 66, 3) := by decide +kernel
theorem dX6_ask_18 : decode cX6_ask 18 = .ok (.ifCond .eq 13, 3) := by decide +kernel
theorem dX6_ask_21 : decode cX6_ask 21 = .ok (.iload_n 3, 1) := by decide +kernel
theorem dX6_ask_22 : decode cX6_ask 22 = .ok (.iconst 1, 1) := by decide +kernel
theorem dX6_ask_23 : decode cX6_ask 23 = .ok (.ldc 165, 2) := by decide +kernel
theorem dX6_ask_25 : decode cX6_ask 25 = .ok (.invokestatic 66, 3) := by decide +kernel
theorem dX6_ask_28 : decode cX6_ask 28 = .ok (.ifCond .ne 6, 3) := by decide +kernel
theorem dX6_ask_31 : decode cX6_ask 31 = .ok (.bipush (-2), 2) := by decide +kernel
theorem dX6_ask_33 : decode cX6_ask 33 = .ok (.ireturn, 1) := by decide +kernel
theorem dX6_ask_34 : decode cX6_ask 34 = .ok (.aload_n 0, 1) := by decide +kernel
theorem dX6_ask_35 : decode cX6_ask 35 = .ok (.getfield 44, 3) := by decide +kernel
theorem dX6_ask_38 : decode cX6_ask 38 = .ok (.getfield 166, 3) := by decide +kernel
theorem dX6_ask_41 : decode cX6_ask 41 = .ok (.bipush 24, 2) := by decide +kernel
theorem dX6_ask_43 : decode cX6_ask 43 = .ok (.if_icmp .lt 8, 3) := by decide +kernel
theorem dX6_ask_46 : decode cX6_ask 46 = .ok (.bipush (-4), 2) := by decide +kernel
theorem dX6_ask_48 : decode cX6_ask 48 = .ok (.goto 13, 3) := by decide +kernel
theorem dX6_ask_51 : decode cX6_ask 51 = .ok (.aload_n 0, 1) := by decide +kernel
theorem dX6_ask_52 : decode cX6_ask 52 = .ok (.getfield 44, 3) := by decide +kernel
theorem dX6_ask_55 : decode cX6_ask 55 = .ok (.iload_n 1, 1) := by decide +kernel
theorem dX6_ask_56 : decode cX6_ask 56 = .ok (.iload_n 2, 1) := by decide +kernel
theorem dX6_ask_57 : decode cX6_ask 57 = .ok (.iload_n 3, 1) := by decide +kernel
theorem dX6_ask_58 : decode cX6_ask 58 = .ok (.invokevirtual 169, 3) := by decide +kernel
theorem dX6_ask_61 : decode cX6_ask 61 = .ok (.ireturn, 1) := by decide +kernel
theorem dX6_best_0 : decode cX6_best 0 = .ok (.aload_n 0, 1) := by decide +kernel
theorem dX6_best_1 : decode cX6_best 1 = .ok (.getfield 44, 3) := by decide +kernel
theorem dX6_best_4 : decode cX6_best 4 = .ok (.iload_n 1, 1) := by decide +kernel
theorem dX6_best_5 : decode cX6_best 5 = .ok (.invokevirtual 173, 3) := by decide +kernel
theorem dX6_best_8 : decode cX6_best 8 = .ok (.ifCond .ne 6, 3) := by decide +kernel
theorem dX6_best_11 : decode cX6_best 11 = .ok (.bipush (-10), 2) := by decide +kernel
theorem dX6_best_13 : decode cX6_best 13 = .ok (.ireturn, 1) := by decide +kernel
theorem dX6_best_14 : decode cX6_best 14 = .ok (.iload_n 2, 1) := by decide +kernel
theorem dX6_best_15 : decode cX6_best 15 = .ok (.iconst (-1), 1) := by decide +kernel
theorem dX6_best_16 : decode cX6_best 16 = .ok (.if_icmp .ne 12, 3) := by decide +kernel
theorem dX6_best_19 : decode cX6_best 19 = .ok (.aload_n 0, 1) := by decide +kernel
theorem dX6_best_20 : decode cX6_best 20 = .ok (.getfield 44, 3) := by decide +kernel
theorem dX6_best_23 : decode cX6_best 23 = .ok (.iload_n 1, 1) := by decide +kernel
theorem dX6_best_24 : decode cX6_best 24 = .ok (.invokevirtual 176, 3) := by decide +kernel
theorem dX6_best_27 : decode cX6_best 27 = .ok (.ireturn, 1) := by decide +kernel
theorem dX6_best_28 : decode cX6_best 28 = .ok (.aload_n 0, 1) := by decide +kernel
theorem dX6_best_29 : decode cX6_best 29 = .ok (.getfield 44, 3) := by decide +kernel
theorem dX6_best_32 : decode cX6_best 32 = .ok (.iload_n 2, 1) := by decide +kernel
theorem dX6_best_33 : decode cX6_best 33 = .ok (.invokevirtual 162, 3) := by decide +kernel
theorem dX6_best_36 : decode cX6_best 36 = .ok (.ifCond .eq 11, 3) := by decide +kernel
theorem dX6_best_39 : decode cX6_best 39 = .ok (.iload_n 1, 1) := by decide +kernel
theorem dX6_best_40 : decode cX6_best 40 = .ok (.iload_n 2, 1) := by decide +kernel
theorem dX6_best_41 : decode cX6_best 41 = .ok (.invokestatic 105, 3) := by decide +kernel
theorem dX6_best_44 : decode cX6_best 44 = .ok (.ifCond .ne 6, 3) := by decide +kernel
theorem dX6_best_47 : decode cX6_best 47 = .ok (.bipush (-10), 2) := by decide +kernel
theorem dX6_best_49 : decode cX6_best 49 = .ok (.ireturn, 1) := by decide +kernel
theorem dX6_best_50 : decode cX6_best 50 = .ok (.aload_n 0, 1) := by decide +kernel
theorem dX6_best_51 : decode cX6_best 51 = .ok (.getfield 44, 3) := by decide +kernel
theorem dX6_best_54 : decode cX6_best 54 = .ok (.iload_n 1, 1) := by decide +kernel
theorem dX6_best_55 : decode cX6_best 55 = .ok (.invokevirtual 179, 3) := by decide +kernel
theorem dX6_best_58 : decode cX6_best 58 = .ok (.aload_n 0, 1) := by decide +kernel
theorem dX6_best_59 : decode cX6_best 59 = .ok (.getfield 44, 3) := by decide +kernel
theorem dX6_best_62 : decode cX6_best 62 = .ok (.getfield 183, 3) := by decide +kernel
theorem dX6_best_65 : decode cX6_best 65 = .ok (.iload_n 2, 1) := by decide +kernel
theorem dX6_best_66 : decode cX6_best 66 = .ok (.iaload, 1) := by decide +kernel
theorem dX6_best_67 : decode cX6_best 67 = .ok (.ireturn, 1) := by decide +kernel
theorem dX6_takes_0 : decode cX6_takes 0 = .ok (.aload_n 0, 1) := by decide +kernel
theorem dX6_takes_1 : decode cX6_takes 1 = .ok (.getfield 44, 3) := by decide +kernel
theorem dX6_takes_4 : decode cX6_takes 4 = .ok (.iload_n 1, 1) := by decide +kernel
theorem dX6_takes_5 : decode cX6_takes 5 = .ok (.invokevirtual 162, 3) := by decide +kernel
theorem dX6_takes_8 : decode cX6_takes 8 = .ok (.ifCond .eq 14, 3) := by decide +kernel
theorem dX6_takes_11 : decode cX6_takes 11 = .ok (.aload_n 0, 1) := by decide +kernel
theorem dX6_takes_12 : decode cX6_takes 12 = .ok (.getfield 44, 3) := by decide +kernel
theorem dX6_takes_15 : decode cX6_takes 15 = .ok (.iload_n 1, 1) := by decide +kernel
theorem dX6_takes_16 : decode cX6_takes 16 = .ok (.invokevirtual 186, 3) := by decide +kernel
theorem dX6_takes_19 : decode cX6_takes 19 = .ok (.goto 5, 3) := by decide +kernel
theorem dX6_takes_22 : decode cX6_takes 22 = .ok (.bipush (-2), 2) := by decide +kernel
theorem dX6_takes_24 : decode cX6_takes 24 = .ok (.ireturn, 1) := by decide +kernel
theorem dX6_price_0 : decode cX6_price 0 = .ok (.aload_n 0, 1) := by decide +kernel
theorem dX6_price_1 : decode cX6_price 1 = .ok (.getfield 44, 3) := by decide +kernel
theorem dX6_price_4 : decode cX6_price 4 = .ok (.iload_n 1, 1) := by decide +kernel
theorem dX6_price_5 : decode cX6_price 5 = .ok (.invokevirtual 162, 3) := by decide +kernel
theorem dX6_price_8 : decode cX6_price 8 = .ok (.ifCond .eq 13, 3) := by decide +kernel
theorem dX6_price_11 : decode cX6_price 11 = .ok (.iload_n 2, 1) := by decide +kernel
theorem dX6_price_12 : decode cX6_price 12 = .ok (.iconst 0, 1) := by decide +kernel
theorem dX6_price_13 : decode cX6_price 13 = .ok (.ldc 165, 2) := by decide +kernel
theorem dX6_price_15 : decode cX6_price 15 = .ok (.invokestatic 66, 3) := by decide +kernel
theorem dX6_price_18 : decode cX6_price 18 = .ok (.ifCond .ne 6, 3) := by decide +kernel
theorem dX6_price_21 : decode cX6_price 21 = .ok (.bipush (-2), 2) := by decide +kernel
theorem dX6_price_23 : decode cX6_price 23 = .ok (.ireturn, 1) := by decide +kernel
theorem dX6_price_24 : decode cX6_price 24 = .ok (.aload_n 0, 1) := by decide +kernel
theorem dX6_price_25 : decode cX6_price 25 = .ok (.getfield 44, 3) := by decide +kernel
theorem dX6_price_28 : decode cX6_price 28 = .ok (.getfield 189, 3) := by decide +kernel
theorem dX6_price_31 : decode cX6_price 31 = .ok (.iload_n 1, 1) := by decide +kernel
theorem dX6_price_32 : decode cX6_price 32 = .ok (.iaload, 1) := by decide +kernel
theorem dX6_price_33 : decode cX6_price 33 = .ok (.istore_n 3, 1) := by decide +kernel
theorem dX6_price_34 : decode cX6_price 34 = .ok (.aload_n 0, 1) := by decide +kernel
theorem dX6_price_35 : decode cX6_price 35 = .ok (.getfield 44, 3) := by decide +kernel
theorem dX6_price_38 : decode cX6_price 38 = .ok (.getfield 189, 3) := by decide +kernel
theorem dX6_price_41 : decode cX6_price 41 = .ok (.iload_n 1, 1) := by decide +kernel
theorem dX6_price_42 : decode cX6_price 42 = .ok (.iload_n 2, 1) := by decide +kernel
theorem dX6_price_43 : decode cX6_price 43 = .ok (.iastore, 1) := by decide +kernel
theorem dX6_price_44 : decode cX6_price 44 = .ok (.iload_n 3, 1) := by decide +kernel
theorem dX6_price_45 : decode cX6_price 45 = .ok (.ireturn, 1) := by decide +kernel
theorem dX6_blocks_0 : decode cX6_blocks 0 = .ok (.aload_n 0, 1) := by decide +kernel
theorem dX6_blocks_1 : decode cX6_blocks 1 = .ok (.getfield 44, 3) := by decide +kernel
theorem dX6_blocks_4 : decode cX6_blocks 4 = .ok (.iload_n 1, 1) := by decide +kernel
theorem dX6_blocks_5 : decode cX6_blocks 5 = .ok (.invokevirtual 173, 3) := by decide +kernel
theorem dX6_blocks_8 : decode cX6_blocks 8 = .ok (.ifCond .ne 6, 3) := by decide +kernel
theorem dX6_blocks_11 : decode cX6_blocks 11 = .ok (.bipush (-2), 2) := by decide +kernel
theorem dX6_blocks_13 : decode cX6_blocks 13 = .ok (.ireturn, 1) := by decide +kernel
theorem dX6_blocks_14 : decode cX6_blocks 14 = .ok (.aload_n 0, 1) := by decide +kernel
theorem dX6_blocks_15 : decode cX6_blocks 15 = .ok (.getfield 44, 3) := by decide +kernel
theorem dX6_blocks_18 : decode cX6_blocks 18 = .ok (.aload_n 0, 1) := by decide +kernel
theorem dX6_blocks_19 : decode cX6_blocks 19 = .ok (.getfield 44, 3) := by decide +kernel
theorem dX6_blocks_22 : decode cX6_blocks 22 = .ok (.invokevirtual 192, 3) := by decide +kernel
theorem dX6_blocks_25 : decode cX6_blocks 25 = .ok (.invokevirtual 179, 3) := by decide +kernel
theorem dX6_blocks_28 : decode cX6_blocks 28 = .ok (.aload_n 0, 1) := by decide +kernel
theorem dX6_blocks_29 : decode cX6_blocks 29 = .ok (.getfield 44, 3) := by decide +kernel
theorem dX6_blocks_32 : decode cX6_blocks 32 = .ok (.iload_n 1, 1) := by decide +kernel
theorem dX6_blocks_33 : decode cX6_blocks 33 = .ok (.invokevirtual 195, 3) := by decide +kernel
theorem dX6_blocks_36 : decode cX6_blocks 36 = .ok (.ifCond .eq 7, 3) := by decide +kernel
theorem dX6_blocks_39 : decode cX6_blocks 39 = .ok (.iconst 1, 1) := by decide +kernel
theorem dX6_blocks_40 : decode cX6_blocks 40 = .ok (.goto 4, 3) := by decide +kernel
theorem dX6_blocks_43 : decode cX6_blocks 43 = .ok (.iconst 0, 1) := by decide +kernel
theorem dX6_blocks_44 : decode cX6_blocks 44 = .ok (.ireturn, 1) := by decide +kernel
theorem dX6_alone_0 : decode cX6_alone 0 = .ok (.aload_n 0, 1) := by decide +kernel
theorem dX6_alone_1 : decode cX6_alone 1 = .ok (.getfield 44, 3) := by decide +kernel
theorem dX6_alone_4 : decode cX6_alone 4 = .ok (.invokevirtual 198, 3) := by decide +kernel
theorem dX6_alone_7 : decode cX6_alone 7 = .ok (.ireturn, 1) := by decide +kernel
theorem dX6_tell_0 : decode cX6_tell 0 = .ok (.aload_n 0, 1) := by decide +kernel
theorem dX6_tell_1 : decode cX6_tell 1 = .ok (.getfield 12, 3) := by decide +kernel
theorem dX6_tell_4 : decode cX6_tell 4 = .ok (.iload_n 1, 1) := by decide +kernel
theorem dX6_tell_5 : decode cX6_tell 5 = .ok (.invokevirtual 73, 3) := by decide +kernel
theorem dX6_tell_8 : decode cX6_tell 8 = .ok (.ifCond .eq 21, 3) := by decide +kernel
theorem dX6_tell_11 : decode cX6_tell 11 = .ok (.iload_n 2, 1) := by decide +kernel
theorem dX6_tell_12 : decode cX6_tell 12 = .ok (.iconst 0, 1) := by decide +kernel
theorem dX6_tell_13 : decode cX6_tell 13 = .ok (.iconst 1, 1) := by decide +kernel
theorem dX6_tell_14 : decode cX6_tell 14 = .ok (.invokestatic 66, 3) := by decide +kernel
theorem dX6_tell_17 : decode cX6_tell 17 = .ok (.ifCond .eq 12, 3) := by decide +kernel
theorem dX6_tell_20 : decode cX6_tell 20 = .ok (.iload_n 3, 1) := by decide +kernel
theorem dX6_tell_21 : decode cX6_tell 21 = .ok (.iconst (-1), 1) := by decide +kernel
theorem dX6_tell_22 : decode cX6_tell 22 = .ok (.iconst 5, 1) := by decide +kernel
theorem dX6_tell_23 : decode cX6_tell 23 = .ok (.invokestatic 66, 3) := by decide +kernel
theorem dX6_tell_26 : decode cX6_tell 26 = .ok (.ifCond .ne 6, 3) := by decide +kernel
theorem dX6_tell_29 : decode cX6_tell 29 = .ok (.bipush (-10), 2) := by decide +kernel
theorem dX6_tell_31 : decode cX6_tell 31 = .ok (.ireturn, 1) := by decide +kernel
theorem dX6_tell_32 : decode cX6_tell 32 = .ok (.iload_n 2, 1) := by decide +kernel
theorem dX6_tell_33 : decode cX6_tell 33 = .ok (.ifCond .ne 13, 3) := by decide +kernel
theorem dX6_tell_36 : decode cX6_tell 36 = .ok (.aload_n 0, 1) := by decide +kernel
theorem dX6_tell_37 : decode cX6_tell 37 = .ok (.getfield 51, 3) := by decide +kernel
theorem dX6_tell_40 : decode cX6_tell 40 = .ok (.getfield 201, 3) := by decide +kernel
theorem dX6_tell_43 : decode cX6_tell 43 = .ok (.goto 10, 3) := by decide +kernel
theorem dX6_tell_46 : decode cX6_tell 46 = .ok (.aload_n 0, 1) := by decide +kernel
theorem dX6_tell_47 : decode cX6_tell 47 = .ok (.getfield 51, 3) := by decide +kernel
theorem dX6_tell_50 : decode cX6_tell 50 = .ok (.getfield 204, 3) := by decide +kernel
theorem dX6_tell_53 : decode cX6_tell 53 = .ok (.astore 4, 2) := by decide +kernel
theorem dX6_tell_55 : decode cX6_tell 55 = .ok (.aload 4, 2) := by decide +kernel
theorem dX6_tell_57 : decode cX6_tell 57 = .ok (.iload_n 1, 1) := by decide +kernel
theorem dX6_tell_58 : decode cX6_tell 58 = .ok (.iaload, 1) := by decide +kernel
theorem dX6_tell_59 : decode cX6_tell 59 = .ok (.istore 5, 2) := by decide +kernel
theorem dX6_tell_61 : decode cX6_tell 61 = .ok (.aload 4, 2) := by decide +kernel
theorem dX6_tell_63 : decode cX6_tell 63 = .ok (.iload_n 1, 1) := by decide +kernel
theorem dX6_tell_64 : decode cX6_tell 64 = .ok (.iload_n 3, 1) := by decide +kernel
theorem dX6_tell_65 : decode cX6_tell 65 = .ok (.iastore, 1) := by decide +kernel
theorem dX6_tell_66 : decode cX6_tell 66 = .ok (.iload 5, 2) := by decide +kernel
theorem dX6_tell_68 : decode cX6_tell 68 = .ok (.ireturn, 1) := by decide +kernel
theorem dX6_weeks_0 : decode cX6_weeks 0 = .ok (.iload_n 1, 1) := by decide +kernel
theorem dX6_weeks_1 : decode cX6_weeks 1 = .ok (.iconst 1, 1) := by decide +kernel
theorem dX6_weeks_2 : decode cX6_weeks 2 = .ok (.bipush 10, 2) := by decide +kernel
theorem dX6_weeks_4 : decode cX6_weeks 4 = .ok (.invokestatic 66, 3) := by decide +kernel
theorem dX6_weeks_7 : decode cX6_weeks 7 = .ok (.ifCond .eq 8, 3) := by decide +kernel
theorem dX6_weeks_10 : decode cX6_weeks 10 = .ok (.iload_n 2, 1) := by decide +kernel
theorem dX6_weeks_11 : decode cX6_weeks 11 = .ok (.iconst (-1), 1) := by decide +kernel
theorem dX6_weeks_12 : decode cX6_weeks 12 = .ok (.if_icmp .ge 6, 3) := by decide +kernel
theorem dX6_weeks_15 : decode cX6_weeks 15 = .ok (.bipush (-10), 2) := by decide +kernel
theorem dX6_weeks_17 : decode cX6_weeks 17 = .ok (.ireturn, 1) := by decide +kernel
theorem dX6_weeks_18 : decode cX6_weeks 18 = .ok (.aload_n 0, 1) := by decide +kernel
theorem dX6_weeks_19 : decode cX6_weeks 19 = .ok (.getfield 51, 3) := by decide +kernel
theorem dX6_weeks_22 : decode cX6_weeks 22 = .ok (.iload_n 1, 1) := by decide +kernel
theorem dX6_weeks_23 : decode cX6_weeks 23 = .ok (.invokevirtual 207, 3) := by decide +kernel
theorem dX6_weeks_26 : decode cX6_weeks 26 = .ok (.istore_n 3, 1) := by decide +kernel
theorem dX6_weeks_27 : decode cX6_weeks 27 = .ok (.iload_n 3, 1) := by decide +kernel
theorem dX6_weeks_28 : decode cX6_weeks 28 = .ok (.sipush 1000, 3) := by decide +kernel
theorem dX6_weeks_31 : decode cX6_weeks 31 = .ok (.if_icmp .ne 6, 3) := by decide +kernel
theorem dX6_weeks_34 : decode cX6_weeks 34 = .ok (.bipush (-5), 2) := by decide +kernel
theorem dX6_weeks_36 : decode cX6_weeks 36 = .ok (.ireturn, 1) := by decide +kernel
theorem dX6_weeks_37 : decode cX6_weeks 37 = .ok (.iload_n 2, 1) := by decide +kernel
theorem dX6_weeks_38 : decode cX6_weeks 38 = .ok (.iconst (-1), 1) := by decide +kernel
theorem dX6_weeks_39 : decode cX6_weeks 39 = .ok (.if_icmp .ne 5, 3) := by decide +kernel
theorem dX6_weeks_42 : decode cX6_weeks 42 = .ok (.iload_n 3, 1) := by decide +kernel
theorem dX6_weeks_43 : decode cX6_weeks 43 = .ok (.ireturn, 1) := by decide +kernel
theorem dX6_weeks_44 : decode cX6_weeks 44 = .ok (.iload_n 2, 1) := by decide +kernel
theorem dX6_weeks_45 : decode cX6_weeks 45 = .ok (.iload_n 3, 1) := by decide +kernel
theorem dX6_weeks_46 : decode cX6_weeks 46 = .ok (.if_icmp .ge 15, 3) := by decide +kernel
theorem dX6_weeks_49 : decode cX6_weeks 49 = .ok (.aload_n 0, 1) := by decide +kernel
theorem dX6_weeks_50 : decode cX6_weeks 50 = .ok (.getfield 51, 3) := by decide +kernel
theorem dX6_weeks_53 : decode cX6_weeks 53 = .ok (.iload_n 2, 1) := by decide +kernel
theorem dX6_weeks_54 : decode cX6_weeks 54 = .ok (.iload_n 1, 1) := by decide +kernel
theorem dX6_weeks_55 : decode cX6_weeks 55 = .ok (.invokevirtual 210, 3) := by decide +kernel
theorem dX6_weeks_58 : decode cX6_weeks 58 = .ok (.goto 4, 3) := by decide +kernel
theorem dX6_weeks_61 : decode cX6_weeks 61 = .ok (.iconst (-1), 1) := by decide +kernel
theorem dX6_weeks_62 : decode cX6_weeks 62 = .ok (.ireturn, 1) := by decide +kernel
theorem dX6_tower_0 : decode cX6_tower 0 = .ok (.aload_n 0, 1) := by decide +kernel
theorem dX6_tower_1 : decode cX6_tower 1 = .ok (.getfield 12, 3) := by decide +kernel
theorem dX6_tower_4 : decode cX6_tower 4 = .ok (.iload_n 1, 1) := by decide +kernel
theorem dX6_tower_5 : decode cX6_tower 5 = .ok (.invokevirtual 73, 3) := by decide +kernel
theorem dX6_tower_8 : decode cX6_tower 8 = .ok (.ifCond .eq 20, 3) := by decide +kernel
theorem dX6_tower_11 : decode cX6_tower 11 = .ok (.iload_n 2, 1) := by decide +kernel
theorem dX6_tower_12 : decode cX6_tower 12 = .ok (.iconst 0, 1) := by decide +kernel
theorem dX6_tower_13 : decode cX6_tower 13 = .ok (.aload_n 0, 1) := by decide +kernel
theorem dX6_tower_14 : decode cX6_tower 14 = .ok (.getfield 12, 3) := by decide +kernel
theorem dX6_tower_17 : decode cX6_tower 17 = .ok (.getfield 70, 3) := by decide +kernel
theorem dX6_tower_20 : decode cX6_tower 20 = .ok (.iconst 1, 1) := by decide +kernel
theorem dX6_tower_21 : decode cX6_tower 21 = .ok (.isub, 1) := by decide +kernel
theorem dX6_tower_22 : decode cX6_tower 22 = .ok (.invokestatic 66, 3) := by decide +kernel
theorem dX6_tower_25 : decode cX6_tower 25 = .ok (.ifCond .ne 6, 3) := by decide +kernel
theorem dX6_tower_28 : decode cX6_tower 28 = .ok (.bipush (-2), 2) := by decide +kernel
theorem dX6_tower_30 : decode cX6_tower 30 = .ok (.ireturn, 1) := by decide +kernel
theorem dX6_tower_31 : decode cX6_tower 31 = .ok (.aload_n 0, 1) := by decide +kernel
theorem dX6_tower_32 : decode cX6_tower 32 = .ok (.getfield 51, 3) := by decide +kernel
theorem dX6_tower_35 : decode cX6_tower 35 = .ok (.iload_n 1, 1) := by decide +kernel
theorem dX6_tower_36 : decode cX6_tower 36 = .ok (.iload_n 2, 1) := by decide +kernel
theorem dX6_tower_37 : decode cX6_tower 37 = .ok (.invokevirtual 213, 3) := by decide +kernel
theorem dX6_tower_40 : decode cX6_tower 40 = .ok (.ireturn, 1) := by decide +kernel
theorem dX6_free_0 : decode cX6_free 0 = .ok (.aload_n 0, 1) := by decide +kernel
theorem dX6_free_1 : decode cX6_free 1 = .ok (.getfield 12, 3) := by decide +kernel
theorem dX6_free_4 : decode cX6_free 4 = .ok (.iload_n 1, 1) := by decide +kernel
theorem dX6_free_5 : decode cX6_free 5 = .ok (.invokevirtual 73, 3) := by decide +kernel
theorem dX6_free_8 : decode cX6_free 8 = .ok (.ifCond .eq 14, 3) := by decide +kernel
theorem dX6_free_11 : decode cX6_free 11 = .ok (.aload_n 0, 1) := by decide +kernel
theorem dX6_free_12 : decode cX6_free 12 = .ok (.getfield 51, 3) := by decide +kernel
theorem dX6_free_15 : decode cX6_free 15 = .ok (.iload_n 1, 1) := by decide +kernel
theorem dX6_free_16 : decode cX6_free 16 = .ok (.invokevirtual 216, 3) := by decide +kernel
theorem dX6_free_19 : decode cX6_free 19 = .ok (.goto 5, 3) := by decide +kernel
theorem dX6_free_22 : decode cX6_free 22 = .ok (.bipush (-2), 2) := by decide +kernel
theorem dX6_free_24 : decode cX6_free 24 = .ok (.ireturn, 1) := by decide +kernel
theorem dX6_heard_0 : decode cX6_heard 0 = .ok (.iload_n 1, 1) := by decide +kernel
theorem dX6_heard_1 : decode cX6_heard 1 = .ok (.iconst 0, 1) := by decide +kernel
theorem dX6_heard_2 : decode cX6_heard 2 = .ok (.bipush 15, 2) := by decide +kernel
theorem dX6_heard_4 : decode cX6_heard 4 = .ok (.invokestatic 66, 3) := by decide +kernel
theorem dX6_heard_7 : decode cX6_heard 7 = .ok (.ifCond .eq 14, 3) := by decide +kernel
theorem dX6_heard_10 : decode cX6_heard 10 = .ok (.aload_n 0, 1) := by decide +kernel
theorem dX6_heard_11 : decode cX6_heard 11 = .ok (.getfield 12, 3) := by decide +kernel
theorem dX6_heard_14 : decode cX6_heard 14 = .ok (.iload_n 2, 1) := by decide +kernel
theorem dX6_heard_15 : decode cX6_heard 15 = .ok (.invokevirtual 95, 3) := by decide +kernel
theorem dX6_heard_18 : decode cX6_heard 18 = .ok (.ifCond .ne 6, 3) := by decide +kernel
theorem dX6_heard_21 : decode cX6_heard 21 = .ok (.bipush (-2), 2) := by decide +kernel
theorem dX6_heard_23 : decode cX6_heard 23 = .ok (.ireturn, 1) := by decide +kernel
theorem dX6_heard_24 : decode cX6_heard 24 = .ok (.aload_n 0, 1) := by decide +kernel
theorem dX6_heard_25 : decode cX6_heard 25 = .ok (.getfield 55, 3) := by decide +kernel
theorem dX6_heard_28 : decode cX6_heard 28 = .ok (.iload_n 1, 1) := by decide +kernel
theorem dX6_heard_29 : decode cX6_heard 29 = .ok (.iaload, 1) := by decide +kernel
theorem dX6_heard_30 : decode cX6_heard 30 = .ok (.istore_n 3, 1) := by decide +kernel
theorem dX6_heard_31 : decode cX6_heard 31 = .ok (.aload_n 0, 1) := by decide +kernel
theorem dX6_heard_32 : decode cX6_heard 32 = .ok (.getfield 55, 3) := by decide +kernel
theorem dX6_heard_35 : decode cX6_heard 35 = .ok (.iload_n 1, 1) := by decide +kernel
theorem dX6_heard_36 : decode cX6_heard 36 = .ok (.iload_n 2, 1) := by decide +kernel
theorem dX6_heard_37 : decode cX6_heard 37 = .ok (.iastore, 1) := by decide +kernel
theorem dX6_heard_38 : decode cX6_heard 38 = .ok (.iload_n 3, 1) := by decide +kernel
theorem dX6_heard_39 : decode cX6_heard 39 = .ok (.ireturn, 1) := by decide +kernel
theorem dX6_could_0 : decode cX6_could 0 = .ok (.aload_n 0, 1) := by decide +kernel
theorem dX6_could_1 : decode cX6_could 1 = .ok (.getfield 12, 3) := by decide +kernel
theorem dX6_could_4 : decode cX6_could 4 = .ok (.iload_n 1, 1) := by decide +kernel
theorem dX6_could_5 : decode cX6_could 5 = .ok (.invokevirtual 95, 3) := by decide +kernel
theorem dX6_could_8 : decode cX6_could 8 = .ok (.ifCond .eq 22, 3) := by decide +kernel
theorem dX6_could_11 : decode cX6_could 11 = .ok (.aload_n 0, 1) := by decide +kernel
theorem dX6_could_12 : decode cX6_could 12 = .ok (.getfield 12, 3) := by decide +kernel
theorem dX6_could_15 : decode cX6_could 15 = .ok (.iload_n 2, 1) := by decide +kernel
theorem dX6_could_16 : decode cX6_could 16 = .ok (.invokevirtual 95, 3) := by decide +kernel
theorem dX6_could_19 : decode cX6_could 19 = .ok (.ifCond .eq 11, 3) := by decide +kernel
theorem dX6_could_22 : decode cX6_could 22 = .ok (.iload_n 2, 1) := by decide +kernel
theorem dX6_could_23 : decode cX6_could 23 = .ok (.iload_n 1, 1) := by decide +kernel
theorem dX6_could_24 : decode cX6_could 24 = .ok (.iconst (-1), 1) := by decide +kernel
theorem dX6_could_25 : decode cX6_could 25 = .ok (.ixor, 1) := by decide +kernel
theorem dX6_could_26 : decode cX6_could 26 = .ok (.iand, 1) := by decide +kernel
theorem dX6_could_27 : decode cX6_could 27 = .ok (.ifCond .eq 6, 3) := by decide +kernel
theorem dX6_could_30 : decode cX6_could 30 = .ok (.bipush (-2), 2) := by decide +kernel
theorem dX6_could_32 : decode cX6_could 32 = .ok (.ireturn, 1) := by decide +kernel
theorem dX6_could_33 : decode cX6_could 33 = .ok (.iconst 0, 1) := by decide +kernel
theorem dX6_could_34 : decode cX6_could 34 = .ok (.istore_n 3, 1) := by decide +kernel
theorem dX6_could_35 : decode cX6_could 35 = .ok (.iconst 0, 1) := by decide +kernel
theorem dX6_could_36 : decode cX6_could 36 = .ok (.istore 4, 2) := by decide +kernel
theorem dX6_could_38 : decode cX6_could 38 = .ok (.iload 4, 2) := by decide +kernel
theorem dX6_could_40 : decode cX6_could 40 = .ok (.bipush 16, 2) := by decide +kernel
theorem dX6_could_42 : decode cX6_could 42 = .ok (.if_icmp .ge 29, 3) := by decide +kernel
theorem dX6_could_45 : decode cX6_could 45 = .ok (.aload_n 0, 1) := by decide +kernel
theorem dX6_could_46 : decode cX6_could 46 = .ok (.getfield 55, 3) := by decide +kernel
theorem dX6_could_49 : decode cX6_could 49 = .ok (.iload 4, 2) := by decide +kernel
theorem dX6_could_51 : decode cX6_could 51 = .ok (.iaload, 1) := by decide +kernel
theorem dX6_could_52 : decode cX6_could 52 = .ok (.iload_n 1, 1) := by decide +kernel
theorem dX6_could_53 : decode cX6_could 53 = .ok (.iand, 1) := by decide +kernel
theorem dX6_could_54 : decode cX6_could 54 = .ok (.iload_n 2, 1) := by decide +kernel
theorem dX6_could_55 : decode cX6_could 55 = .ok (.if_icmp .ne 10, 3) := by decide +kernel
theorem dX6_could_58 : decode cX6_could 58 = .ok (.iload_n 3, 1) := by decide +kernel
theorem dX6_could_59 : decode cX6_could 59 = .ok (.iconst 1, 1) := by decide +kernel
theorem dX6_could_60 : decode cX6_could 60 = .ok (.iload 4, 2) := by decide +kernel
theorem dX6_could_62 : decode cX6_could 62 = .ok (.ishl, 1) := by decide +kernel
theorem dX6_could_63 : decode cX6_could 63 = .ok (.ior, 1) := by decide +kernel
theorem dX6_could_64 : decode cX6_could 64 = .ok (.istore_n 3, 1) := by decide +kernel
theorem dX6_could_65 : decode cX6_could 65 = .ok (.iinc 4 1, 3) := by decide +kernel
theorem dX6_could_68 : decode cX6_could 68 = .ok (.goto (-30), 3) := by decide +kernel
theorem dX6_could_71 : decode cX6_could 71 = .ok (.iload_n 3, 1) := by decide +kernel
theorem dX6_could_72 : decode cX6_could 72 = .ok (.ireturn, 1) := by decide +kernel
theorem dX6_count_0 : decode cX6_count 0 = .ok (.iload_n 1, 1) := by decide +kernel
theorem dX6_count_1 : decode cX6_count 1 = .ok (.tableswitch 66 0 3 #[31, 39, 50, 58], 31) := by decide +kernel
theorem dX6_count_32 : decode cX6_count 32 = .ok (.aload_n 0, 1) := by decide +kernel
theorem dX6_count_33 : decode cX6_count 33 = .ok (.getfield 12, 3) := by decide +kernel
theorem dX6_count_36 : decode cX6_count 36 = .ok (.getfield 59, 3) := by decide +kernel
theorem dX6_count_39 : decode cX6_count 39 = .ok (.ireturn, 1) := by decide +kernel
theorem dX6_count_40 : decode cX6_count 40 = .ok (.aload_n 0, 1) := by decide +kernel
theorem dX6_count_41 : decode cX6_count 41 = .ok (.getfield 37, 3) := by decide +kernel
theorem dX6_count_44 : decode cX6_count 44 = .ok (.getfield 121, 3) := by decide +kernel
theorem dX6_count_47 : decode cX6_count 47 = .ok (.invokestatic 219, 3) := by decide +kernel
theorem dX6_count_50 : decode cX6_count 50 = .ok (.ireturn, 1) := by decide +kernel
theorem dX6_count_51 : decode cX6_count 51 = .ok (.aload_n 0, 1) := by decide +kernel
theorem dX6_count_52 : decode cX6_count 52 = .ok (.getfield 44, 3) := by decide +kernel
theorem dX6_count_55 : decode cX6_count 55 = .ok (.getfield 156, 3) := by decide +kernel
theorem dX6_count_58 : decode cX6_count 58 = .ok (.ireturn, 1) := by decide +kernel
theorem dX6_count_59 : decode cX6_count 59 = .ok (.aload_n 0, 1) := by decide +kernel
theorem dX6_count_60 : decode cX6_count 60 = .ok (.getfield 44, 3) := by decide +kernel
theorem dX6_count_63 : decode cX6_count 63 = .ok (.getfield 166, 3) := by decide +kernel
theorem dX6_count_66 : decode cX6_count 66 = .ok (.ireturn, 1) := by decide +kernel
theorem dX6_count_67 : decode cX6_count 67 = .ok (.bipush (-2), 2) := by decide +kernel
theorem dX6_count_69 : decode cX6_count 69 = .ok (.ireturn, 1) := by decide +kernel
theorem dX6_digest_0 : decode cX6_digest 0 = .ok (.ldc2_w 224, 3) := by decide +kernel
theorem dX6_digest_3 : decode cX6_digest 3 = .ok (.lstore_n 1, 1) := by decide +kernel
theorem dX6_digest_4 : decode cX6_digest 4 = .ok (.iconst 0, 1) := by decide +kernel
theorem dX6_digest_5 : decode cX6_digest 5 = .ok (.istore_n 3, 1) := by decide +kernel
theorem dX6_digest_6 : decode cX6_digest 6 = .ok (.iload_n 3, 1) := by decide +kernel
theorem dX6_digest_7 : decode cX6_digest 7 = .ok (.iconst 3, 1) := by decide +kernel
theorem dX6_digest_8 : decode cX6_digest 8 = .ok (.if_icmp .gt 19, 3) := by decide +kernel
theorem dX6_digest_11 : decode cX6_digest 11 = .ok (.lload_n 1, 1) := by decide +kernel
theorem dX6_digest_12 : decode cX6_digest 12 = .ok (.aload_n 0, 1) := by decide +kernel
theorem dX6_digest_13 : decode cX6_digest 13 = .ok (.iload_n 3, 1) := by decide +kernel
theorem dX6_digest_14 : decode cX6_digest 14 = .ok (.invokevirtual 226, 3) := by decide +kernel
theorem dX6_digest_17 : decode cX6_digest 17 = .ok (.invokestatic 229, 3) := by decide +kernel
theorem dX6_digest_20 : decode cX6_digest 20 = .ok (.lstore_n 1, 1) := by decide +kernel
theorem dX6_digest_21 : decode cX6_digest 21 = .ok (.iinc 3 1, 3) := by decide +kernel
theorem dX6_digest_24 : decode cX6_digest 24 = .ok (.goto (-18), 3) := by decide +kernel
theorem dX6_digest_27 : decode cX6_digest 27 = .ok (.lload_n 1, 1) := by decide +kernel
theorem dX6_digest_28 : decode cX6_digest 28 = .ok (.aload_n 0, 1) := by decide +kernel
theorem dX6_digest_29 : decode cX6_digest 29 = .ok (.getfield 12, 3) := by decide +kernel
theorem dX6_digest_32 : decode cX6_digest 32 = .ok (.getfield 70, 3) := by decide +kernel
theorem dX6_digest_35 : decode cX6_digest 35 = .ok (.invokestatic 229, 3) := by decide +kernel
theorem dX6_digest_38 : decode cX6_digest 38 = .ok (.aload_n 0, 1) := by decide +kernel
theorem dX6_digest_39 : decode cX6_digest 39 = .ok (.getfield 12, 3) := by decide +kernel
theorem dX6_digest_42 : decode cX6_digest 42 = .ok (.getfield 92, 3) := by decide +kernel
theorem dX6_digest_45 : decode cX6_digest 45 = .ok (.invokestatic 229, 3) := by decide +kernel
theorem dX6_digest_48 : decode cX6_digest 48 = .ok (.lstore_n 1, 1) := by decide +kernel
theorem dX6_digest_49 : decode cX6_digest 49 = .ok (.lload_n 1, 1) := by decide +kernel
theorem dX6_digest_50 : decode cX6_digest 50 = .ok (.aload_n 0, 1) := by decide +kernel
theorem dX6_digest_51 : decode cX6_digest 51 = .ok (.getfield 37, 3) := by decide +kernel
theorem dX6_digest_54 : decode cX6_digest 54 = .ok (.getfield 127, 3) := by decide +kernel
theorem dX6_digest_57 : decode cX6_digest 57 = .ok (.invokestatic 229, 3) := by decide +kernel
theorem dX6_digest_60 : decode cX6_digest 60 = .ok (.aload_n 0, 1) := by decide +kernel
theorem dX6_digest_61 : decode cX6_digest 61 = .ok (.getfield 37, 3) := by decide +kernel
theorem dX6_digest_64 : decode cX6_digest 64 = .ok (.getfield 130, 3) := by decide +kernel
theorem dX6_digest_67 : decode cX6_digest 67 = .ok (.invokestatic 229, 3) := by decide +kernel
theorem dX6_digest_70 : decode cX6_digest 70 = .ok (.lstore_n 1, 1) := by decide +kernel
theorem dX6_digest_71 : decode cX6_digest 71 = .ok (.iconst 0, 1) := by decide +kernel
theorem dX6_digest_72 : decode cX6_digest 72 = .ok (.istore_n 3, 1) := by decide +kernel
theorem dX6_digest_73 : decode cX6_digest 73 = .ok (.iload_n 3, 1) := by decide +kernel
theorem dX6_digest_74 : decode cX6_digest 74 = .ok (.aload_n 0, 1) := by decide +kernel
theorem dX6_digest_75 : decode cX6_digest 75 = .ok (.getfield 12, 3) := by decide +kernel
theorem dX6_digest_78 : decode cX6_digest 78 = .ok (.getfield 59, 3) := by decide +kernel
theorem dX6_digest_81 : decode cX6_digest 81 = .ok (.if_icmp .ge 16, 3) := by decide +kernel
theorem dX6_digest_84 : decode cX6_digest 84 = .ok (.aload_n 0, 1) := by decide +kernel
theorem dX6_digest_85 : decode cX6_digest 85 = .ok (.lload_n 1, 1) := by decide +kernel
theorem dX6_digest_86 : decode cX6_digest 86 = .ok (.iload_n 3, 1) := by decide +kernel
theorem dX6_digest_87 : decode cX6_digest 87 = .ok (.invokevirtual 233, 3) := by decide +kernel
theorem dX6_digest_90 : decode cX6_digest 90 = .ok (.lstore_n 1, 1) := by decide +kernel
theorem dX6_digest_91 : decode cX6_digest 91 = .ok (.iinc 3 1, 3) := by decide +kernel
theorem dX6_digest_94 : decode cX6_digest 94 = .ok (.goto (-21), 3) := by decide +kernel
theorem dX6_digest_97 : decode cX6_digest 97 = .ok (.iconst 0, 1) := by decide +kernel
theorem dX6_digest_98 : decode cX6_digest 98 = .ok (.istore_n 3, 1) := by decide +kernel
theorem dX6_digest_99 : decode cX6_digest 99 = .ok (.iload_n 3, 1) := by decide +kernel
theorem dX6_digest_100 : decode cX6_digest 100 = .ok (.aload_n 0, 1) := by decide +kernel
theorem dX6_digest_101 : decode cX6_digest 101 = .ok (.getfield 44, 3) := by decide +kernel
theorem dX6_digest_104 : decode cX6_digest 104 = .ok (.getfield 166, 3) := by decide +kernel
theorem dX6_digest_107 : decode cX6_digest 107 = .ok (.if_icmp .ge 51, 3) := by decide +kernel
theorem dX6_digest_110 : decode cX6_digest 110 = .ok (.lload_n 1, 1) := by decide +kernel
theorem dX6_digest_111 : decode cX6_digest 111 = .ok (.aload_n 0, 1) := by decide +kernel
theorem dX6_digest_112 : decode cX6_digest 112 = .ok (.getfield 44, 3) := by decide +kernel
theorem dX6_digest_115 : decode cX6_digest 115 = .ok (.getfield 236, 3) := by decide +kernel
theorem dX6_digest_118 : decode cX6_digest 118 = .ok (.iload_n 3, 1) := by decide +kernel
theorem dX6_digest_119 : decode cX6_digest 119 = .ok (.iaload, 1) := by decide +kernel
theorem dX6_digest_120 : decode cX6_digest 120 = .ok (.invokestatic 229, 3) := by decide +kernel
theorem dX6_digest_123 : decode cX6_digest 123 = .ok (.lstore_n 1, 1) := by decide +kernel
theorem dX6_digest_124 : decode cX6_digest 124 = .ok (.lload_n 1, 1) := by decide +kernel
theorem dX6_digest_125 : decode cX6_digest 125 = .ok (.aload_n 0, 1) := by decide +kernel
theorem dX6_digest_126 : decode cX6_digest 126 = .ok (.getfield 44, 3) := by decide +kernel
theorem dX6_digest_129 : decode cX6_digest 129 = .ok (.getfield 239, 3) := by decide +kernel
theorem dX6_digest_132 : decode cX6_digest 132 = .ok (.iload_n 3, 1) := by decide +kernel
theorem dX6_digest_133 : decode cX6_digest 133 = .ok (.iaload, 1) := by decide +kernel
theorem dX6_digest_134 : decode cX6_digest 134 = .ok (.invokestatic 229, 3) := by decide +kernel
theorem dX6_digest_137 : decode cX6_digest 137 = .ok (.lstore_n 1, 1) := by decide +kernel
theorem dX6_digest_138 : decode cX6_digest 138 = .ok (.lload_n 1, 1) := by decide +kernel
theorem dX6_digest_139 : decode cX6_digest 139 = .ok (.aload_n 0, 1) := by decide +kernel
theorem dX6_digest_140 : decode cX6_digest 140 = .ok (.getfield 44, 3) := by decide +kernel
theorem dX6_digest_143 : decode cX6_digest 143 = .ok (.getfield 242, 3) := by decide +kernel
theorem dX6_digest_146 : decode cX6_digest 146 = .ok (.iload_n 3, 1) := by decide +kernel
theorem dX6_digest_147 : decode cX6_digest 147 = .ok (.iaload, 1) := by decide +kernel
theorem dX6_digest_148 : decode cX6_digest 148 = .ok (.invokestatic 229, 3) := by decide +kernel
theorem dX6_digest_151 : decode cX6_digest 151 = .ok (.lstore_n 1, 1) := by decide +kernel
theorem dX6_digest_152 : decode cX6_digest 152 = .ok (.iinc 3 1, 3) := by decide +kernel
theorem dX6_digest_155 : decode cX6_digest 155 = .ok (.goto (-56), 3) := by decide +kernel
theorem dX6_digest_158 : decode cX6_digest 158 = .ok (.iconst 0, 1) := by decide +kernel
theorem dX6_digest_159 : decode cX6_digest 159 = .ok (.istore_n 3, 1) := by decide +kernel
theorem dX6_digest_160 : decode cX6_digest 160 = .ok (.iload_n 3, 1) := by decide +kernel
theorem dX6_digest_161 : decode cX6_digest 161 = .ok (.aload_n 0, 1) := by decide +kernel
theorem dX6_digest_162 : decode cX6_digest 162 = .ok (.getfield 44, 3) := by decide +kernel
theorem dX6_digest_165 : decode cX6_digest 165 = .ok (.getfield 156, 3) := by decide +kernel
theorem dX6_digest_168 : decode cX6_digest 168 = .ok (.if_icmp .ge 23, 3) := by decide +kernel
theorem dX6_digest_171 : decode cX6_digest 171 = .ok (.lload_n 1, 1) := by decide +kernel
theorem dX6_digest_172 : decode cX6_digest 172 = .ok (.aload_n 0, 1) := by decide +kernel
theorem dX6_digest_173 : decode cX6_digest 173 = .ok (.getfield 44, 3) := by decide +kernel
theorem dX6_digest_176 : decode cX6_digest 176 = .ok (.getfield 189, 3) := by decide +kernel
theorem dX6_digest_179 : decode cX6_digest 179 = .ok (.iload_n 3, 1) := by decide +kernel
theorem dX6_digest_180 : decode cX6_digest 180 = .ok (.iaload, 1) := by decide +kernel
theorem dX6_digest_181 : decode cX6_digest 181 = .ok (.invokestatic 229, 3) := by decide +kernel
theorem dX6_digest_184 : decode cX6_digest 184 = .ok (.lstore_n 1, 1) := by decide +kernel
theorem dX6_digest_185 : decode cX6_digest 185 = .ok (.iinc 3 1, 3) := by decide +kernel
theorem dX6_digest_188 : decode cX6_digest 188 = .ok (.goto (-28), 3) := by decide +kernel
theorem dX6_digest_191 : decode cX6_digest 191 = .ok (.iconst 0, 1) := by decide +kernel
theorem dX6_digest_192 : decode cX6_digest 192 = .ok (.istore_n 3, 1) := by decide +kernel
theorem dX6_digest_193 : decode cX6_digest 193 = .ok (.iload_n 3, 1) := by decide +kernel
theorem dX6_digest_194 : decode cX6_digest 194 = .ok (.bipush 16, 2) := by decide +kernel
theorem dX6_digest_196 : decode cX6_digest 196 = .ok (.if_icmp .ge 20, 3) := by decide +kernel
theorem dX6_digest_199 : decode cX6_digest 199 = .ok (.lload_n 1, 1) := by decide +kernel
theorem dX6_digest_200 : decode cX6_digest 200 = .ok (.aload_n 0, 1) := by decide +kernel
theorem dX6_digest_201 : decode cX6_digest 201 = .ok (.getfield 55, 3) := by decide +kernel
theorem dX6_digest_204 : decode cX6_digest 204 = .ok (.iload_n 3, 1) := by decide +kernel
theorem dX6_digest_205 : decode cX6_digest 205 = .ok (.iaload, 1) := by decide +kernel
theorem dX6_digest_206 : decode cX6_digest 206 = .ok (.invokestatic 229, 3) := by decide +kernel
theorem dX6_digest_209 : decode cX6_digest 209 = .ok (.lstore_n 1, 1) := by decide +kernel
theorem dX6_digest_210 : decode cX6_digest 210 = .ok (.iinc 3 1, 3) := by decide +kernel
theorem dX6_digest_213 : decode cX6_digest 213 = .ok (.goto (-20), 3) := by decide +kernel
theorem dX6_digest_216 : decode cX6_digest 216 = .ok (.aload_n 0, 1) := by decide +kernel
theorem dX6_digest_217 : decode cX6_digest 217 = .ok (.getfield 37, 3) := by decide +kernel
theorem dX6_digest_220 : decode cX6_digest 220 = .ok (.iconst (-1), 1) := by decide +kernel
theorem dX6_digest_221 : decode cX6_digest 221 = .ok (.iconst 0, 1) := by decide +kernel
theorem dX6_digest_222 : decode cX6_digest 222 = .ok (.invokevirtual 133, 3) := by decide +kernel
theorem dX6_digest_225 : decode cX6_digest 225 = .ok (.iconst 0, 1) := by decide +kernel
theorem dX6_digest_226 : decode cX6_digest 226 = .ok (.istore_n 3, 1) := by decide +kernel
theorem dX6_digest_227 : decode cX6_digest 227 = .ok (.iload_n 3, 1) := by decide +kernel
theorem dX6_digest_228 : decode cX6_digest 228 = .ok (.iconst 3, 1) := by decide +kernel
theorem dX6_digest_229 : decode cX6_digest 229 = .ok (.if_icmp .gt 22, 3) := by decide +kernel
theorem dX6_digest_232 : decode cX6_digest 232 = .ok (.lload_n 1, 1) := by decide +kernel
theorem dX6_digest_233 : decode cX6_digest 233 = .ok (.aload_n 0, 1) := by decide +kernel
theorem dX6_digest_234 : decode cX6_digest 234 = .ok (.getfield 37, 3) := by decide +kernel
theorem dX6_digest_237 : decode cX6_digest 237 = .ok (.iload_n 3, 1) := by decide +kernel
theorem dX6_digest_238 : decode cX6_digest 238 = .ok (.invokevirtual 137, 3) := by decide +kernel
theorem dX6_digest_241 : decode cX6_digest 241 = .ok (.invokestatic 229, 3) := by decide +kernel
theorem dX6_digest_244 : decode cX6_digest 244 = .ok (.lstore_n 1, 1) := by decide +kernel
theorem dX6_digest_245 : decode cX6_digest 245 = .ok (.iinc 3 1, 3) := by decide +kernel
theorem dX6_digest_248 : decode cX6_digest 248 = .ok (.goto (-21), 3) := by decide +kernel
theorem dX6_digest_251 : decode cX6_digest 251 = .ok (.lload_n 1, 1) := by decide +kernel
theorem dX6_digest_252 : decode cX6_digest 252 = .ok (.lreturn, 1) := by decide +kernel
theorem dX6_mixMast_0 : decode cX6_mixMast 0 = .ok (.lload_n 1, 1) := by decide +kernel
theorem dX6_mixMast_1 : decode cX6_mixMast 1 = .ok (.aload_n 0, 1) := by decide +kernel
theorem dX6_mixMast_2 : decode cX6_mixMast 2 = .ok (.getfield 12, 3) := by decide +kernel
theorem dX6_mixMast_5 : decode cX6_mixMast 5 = .ok (.getfield 89, 3) := by decide +kernel
theorem dX6_mixMast_8 : decode cX6_mixMast 8 = .ok (.iload_n 3, 1) := by decide +kernel
theorem dX6_mixMast_9 : decode cX6_mixMast 9 = .ok (.iaload, 1) := by decide +kernel
theorem dX6_mixMast_10 : decode cX6_mixMast 10 = .ok (.invokestatic 229, 3) := by decide +kernel
theorem dX6_mixMast_13 : decode cX6_mixMast 13 = .ok (.lstore 4, 2) := by decide +kernel
theorem dX6_mixMast_15 : decode cX6_mixMast 15 = .ok (.iconst 0, 1) := by decide +kernel
theorem dX6_mixMast_16 : decode cX6_mixMast 16 = .ok (.istore 6, 2) := by decide +kernel
theorem dX6_mixMast_18 : decode cX6_mixMast 18 = .ok (.iload 6, 2) := by decide +kernel
theorem dX6_mixMast_20 : decode cX6_mixMast 20 = .ok (.aload_n 0, 1) := by decide +kernel
theorem dX6_mixMast_21 : decode cX6_mixMast 21 = .ok (.getfield 12, 3) := by decide +kernel
theorem dX6_mixMast_24 : decode cX6_mixMast 24 = .ok (.getfield 59, 3) := by decide +kernel
theorem dX6_mixMast_27 : decode cX6_mixMast 27 = .ok (.if_icmp .ge 32, 3) := by decide +kernel
theorem dX6_mixMast_30 : decode cX6_mixMast 30 = .ok (.iload 6, 2) := by decide +kernel
theorem dX6_mixMast_32 : decode cX6_mixMast 32 = .ok (.iload_n 3, 1) := by decide +kernel
theorem dX6_mixMast_33 : decode cX6_mixMast 33 = .ok (.if_icmp .eq 20, 3) := by decide +kernel
theorem dX6_mixMast_36 : decode cX6_mixMast 36 = .ok (.lload 4, 2) := by decide +kernel
theorem dX6_mixMast_38 : decode cX6_mixMast 38 = .ok (.aload_n 0, 1) := by decide +kernel
theorem dX6_mixMast_39 : decode cX6_mixMast 39 = .ok (.getfield 12, 3) := by decide +kernel
theorem dX6_mixMast_42 : decode cX6_mixMast 42 = .ok (.iload_n 3, 1) := by decide +kernel
theorem dX6_mixMast_43 : decode cX6_mixMast 43 = .ok (.iload 6, 2) := by decide +kernel
theorem dX6_mixMast_45 : decode cX6_mixMast 45 = .ok (.invokevirtual 77, 3) := by decide +kernel
theorem dX6_mixMast_48 : decode cX6_mixMast 48 = .ok (.invokestatic 229, 3) := by decide +kernel
theorem dX6_mixMast_51 : decode cX6_mixMast 51 = .ok (.lstore 4, 2) := by decide +kernel
theorem dX6_mixMast_53 : decode cX6_mixMast 53 = .ok (.iinc 6 1, 3) := by decide +kernel
theorem dX6_mixMast_56 : decode cX6_mixMast 56 = .ok (.goto (-38), 3) := by decide +kernel
theorem dX6_mixMast_59 : decode cX6_mixMast 59 = .ok (.lload 4, 2) := by decide +kernel
theorem dX6_mixMast_61 : decode cX6_mixMast 61 = .ok (.aload_n 0, 1) := by decide +kernel
theorem dX6_mixMast_62 : decode cX6_mixMast 62 = .ok (.getfield 37, 3) := by decide +kernel
theorem dX6_mixMast_65 : decode cX6_mixMast 65 = .ok (.getfield 153, 3) := by decide +kernel
theorem dX6_mixMast_68 : decode cX6_mixMast 68 = .ok (.iload_n 3, 1) := by decide +kernel
theorem dX6_mixMast_69 : decode cX6_mixMast 69 = .ok (.iaload, 1) := by decide +kernel
theorem dX6_mixMast_70 : decode cX6_mixMast 70 = .ok (.invokestatic 229, 3) := by decide +kernel
theorem dX6_mixMast_73 : decode cX6_mixMast 73 = .ok (.aload_n 0, 1) := by decide +kernel
theorem dX6_mixMast_74 : decode cX6_mixMast 74 = .ok (.getfield 37, 3) := by decide +kernel
theorem dX6_mixMast_77 : decode cX6_mixMast 77 = .ok (.getfield 245, 3) := by decide +kernel
theorem dX6_mixMast_80 : decode cX6_mixMast 80 = .ok (.iload_n 3, 1) := by decide +kernel
theorem dX6_mixMast_81 : decode cX6_mixMast 81 = .ok (.iaload, 1) := by decide +kernel
theorem dX6_mixMast_82 : decode cX6_mixMast 82 = .ok (.invokestatic 229, 3) := by decide +kernel
theorem dX6_mixMast_85 : decode cX6_mixMast 85 = .ok (.lstore 4, 2) := by decide +kernel
theorem dX6_mixMast_87 : decode cX6_mixMast 87 = .ok (.lload 4, 2) := by decide +kernel
theorem dX6_mixMast_89 : decode cX6_mixMast 89 = .ok (.aload_n 0, 1) := by decide +kernel
theorem dX6_mixMast_90 : decode cX6_mixMast 90 = .ok (.getfield 51, 3) := by decide +kernel
theorem dX6_mixMast_93 : decode cX6_mixMast 93 = .ok (.getfield 201, 3) := by decide +kernel
theorem dX6_mixMast_96 : decode cX6_mixMast 96 = .ok (.iload_n 3, 1) := by decide +kernel
theorem dX6_mixMast_97 : decode cX6_mixMast 97 = .ok (.iaload, 1) := by decide +kernel
theorem dX6_mixMast_98 : decode cX6_mixMast 98 = .ok (.invokestatic 229, 3) := by decide +kernel
theorem dX6_mixMast_101 : decode cX6_mixMast 101 = .ok (.aload_n 0, 1) := by decide +kernel
theorem dX6_mixMast_102 : decode cX6_mixMast 102 = .ok (.getfield 51, 3) := by decide +kernel
theorem dX6_mixMast_105 : decode cX6_mixMast 105 = .ok (.getfield 204, 3) := by decide +kernel
theorem dX6_mixMast_108 : decode cX6_mixMast 108 = .ok (.iload_n 3, 1) := by decide +kernel
theorem dX6_mixMast_109 : decode cX6_mixMast 109 = .ok (.iaload, 1) := by decide +kernel
theorem dX6_mixMast_110 : decode cX6_mixMast 110 = .ok (.invokestatic 229, 3) := by decide +kernel
theorem dX6_mixMast_113 : decode cX6_mixMast 113 = .ok (.lreturn, 1) := by decide +kernel
theorem dX6_mix_0 : decode cX6_mix 0 = .ok (.ldc2_w 248, 3) := by decide +kernel
theorem dX6_mix_3 : decode cX6_mix 3 = .ok (.lload_n 0, 1) := by decide +kernel
theorem dX6_mix_4 : decode cX6_mix 4 = .ok (.lmul, 1) := by decide +kernel
theorem dX6_mix_5 : decode cX6_mix 5 = .ok (.iload_n 2, 1) := by decide +kernel
theorem dX6_mix_6 : decode cX6_mix 6 = .ok (.i2l, 1) := by decide +kernel
theorem dX6_mix_7 : decode cX6_mix 7 = .ok (.ladd, 1) := by decide +kernel
theorem dX6_mix_8 : decode cX6_mix 8 = .ok (.lreturn, 1) := by decide +kernel
theorem dX6_within_0 : decode cX6_within 0 = .ok (.iload_n 0, 1) := by decide +kernel
theorem dX6_within_1 : decode cX6_within 1 = .ok (.iload_n 1, 1) := by decide +kernel
theorem dX6_within_2 : decode cX6_within 2 = .ok (.if_icmp .lt 12, 3) := by decide +kernel
theorem dX6_within_5 : decode cX6_within 5 = .ok (.iload_n 0, 1) := by decide +kernel
theorem dX6_within_6 : decode cX6_within 6 = .ok (.iload_n 2, 1) := by decide +kernel
theorem dX6_within_7 : decode cX6_within 7 = .ok (.if_icmp .gt 7, 3) := by decide +kernel
theorem dX6_within_10 : decode cX6_within 10 = .ok (.iconst 1, 1) := by decide +kernel
theorem dX6_within_11 : decode cX6_within 11 = .ok (.goto 4, 3) := by decide +kernel
theorem dX6_within_14 : decode cX6_within 14 = .ok (.iconst 0, 1) := by decide +kernel
theorem dX6_within_15 : decode cX6_within 15 = .ok (.ireturn, 1) := by decide +kernel
theorem dX6_has_0 : decode cX6_has 0 = .ok (.iload_n 0, 1) := by decide +kernel
theorem dX6_has_1 : decode cX6_has 1 = .ok (.iload_n 1, 1) := by decide +kernel
theorem dX6_has_2 : decode cX6_has 2 = .ok (.ishr, 1) := by decide +kernel
theorem dX6_has_3 : decode cX6_has 3 = .ok (.iconst 1, 1) := by decide +kernel
theorem dX6_has_4 : decode cX6_has 4 = .ok (.iand, 1) := by decide +kernel
theorem dX6_has_5 : decode cX6_has 5 = .ok (.ifCond .eq 7, 3) := by decide +kernel
theorem dX6_has_8 : decode cX6_has 8 = .ok (.iconst 1, 1) := by decide +kernel
theorem dX6_has_9 : decode cX6_has 9 = .ok (.goto 4, 3) := by decide +kernel
theorem dX6_has_12 : decode cX6_has 12 = .ok (.iconst 0, 1) := by decide +kernel
theorem dX6_has_13 : decode cX6_has 13 = .ok (.ireturn, 1) := by decide +kernel
theorem dX6_placeOf_0 : decode cX6_placeOf 0 = .ok (.iload_n 0, 1) := by decide +kernel
theorem dX6_placeOf_1 : decode cX6_placeOf 1 = .ok (.iconst 1, 1) := by decide +kernel
theorem dX6_placeOf_2 : decode cX6_placeOf 2 = .ok (.isub, 1) := by decide +kernel
theorem dX6_placeOf_3 : decode cX6_placeOf 3 = .ok (.invokestatic 219, 3) := by decide +kernel
theorem dX6_placeOf_6 : decode cX6_placeOf 6 = .ok (.ireturn, 1) := by decide +kernel
theorem dJ6_bitCount_0f7a4_0 : decode cJ6_bitCount_0f7a4 0 = .ok (.iload_n 0, 1) := by decide +kernel
theorem dJ6_bitCount_0f7a4_1 : decode cJ6_bitCount_0f7a4 1 = .ok (.iload_n 0, 1) := by decide +kernel
theorem dJ6_bitCount_0f7a4_2 : decode cJ6_bitCount_0f7a4 2 = .ok (.iconst 1, 1) := by decide +kernel
theorem dJ6_bitCount_0f7a4_3 : decode cJ6_bitCount_0f7a4 3 = .ok (.iushr, 1) := by decide +kernel
theorem dJ6_bitCount_0f7a4_4 : decode cJ6_bitCount_0f7a4 4 = .ok (.ldc_w 265, 3) := by decide +kernel
theorem dJ6_bitCount_0f7a4_7 : decode cJ6_bitCount_0f7a4 7 = .ok (.iand, 1) := by decide +kernel
theorem dJ6_bitCount_0f7a4_8 : decode cJ6_bitCount_0f7a4 8 = .ok (.isub, 1) := by decide +kernel
theorem dJ6_bitCount_0f7a4_9 : decode cJ6_bitCount_0f7a4 9 = .ok (.istore_n 0, 1) := by decide +kernel
theorem dJ6_bitCount_0f7a4_10 : decode cJ6_bitCount_0f7a4 10 = .ok (.iload_n 0, 1) := by decide +kernel
theorem dJ6_bitCount_0f7a4_11 : decode cJ6_bitCount_0f7a4 11 = .ok (.ldc_w 266, 3) := by decide +kernel
theorem dJ6_bitCount_0f7a4_14 : decode cJ6_bitCount_0f7a4 14 = .ok (.iand, 1) := by decide +kernel
theorem dJ6_bitCount_0f7a4_15 : decode cJ6_bitCount_0f7a4 15 = .ok (.iload_n 0, 1) := by decide +kernel
theorem dJ6_bitCount_0f7a4_16 : decode cJ6_bitCount_0f7a4 16 = .ok (.iconst 2, 1) := by decide +kernel
theorem dJ6_bitCount_0f7a4_17 : decode cJ6_bitCount_0f7a4 17 = .ok (.iushr, 1) := by decide +kernel
theorem dJ6_bitCount_0f7a4_18 : decode cJ6_bitCount_0f7a4 18 = .ok (.ldc_w 266, 3) := by decide +kernel
theorem dJ6_bitCount_0f7a4_21 : decode cJ6_bitCount_0f7a4 21 = .ok (.iand, 1) := by decide +kernel
theorem dJ6_bitCount_0f7a4_22 : decode cJ6_bitCount_0f7a4 22 = .ok (.iadd, 1) := by decide +kernel
theorem dJ6_bitCount_0f7a4_23 : decode cJ6_bitCount_0f7a4 23 = .ok (.istore_n 0, 1) := by decide +kernel
theorem dJ6_bitCount_0f7a4_24 : decode cJ6_bitCount_0f7a4 24 = .ok (.iload_n 0, 1) := by decide +kernel
theorem dJ6_bitCount_0f7a4_25 : decode cJ6_bitCount_0f7a4 25 = .ok (.iload_n 0, 1) := by decide +kernel
theorem dJ6_bitCount_0f7a4_26 : decode cJ6_bitCount_0f7a4 26 = .ok (.iconst 4, 1) := by decide +kernel
theorem dJ6_bitCount_0f7a4_27 : decode cJ6_bitCount_0f7a4 27 = .ok (.iushr, 1) := by decide +kernel
theorem dJ6_bitCount_0f7a4_28 : decode cJ6_bitCount_0f7a4 28 = .ok (.iadd, 1) := by decide +kernel
theorem dJ6_bitCount_0f7a4_29 : decode cJ6_bitCount_0f7a4 29 = .ok (.ldc_w 267, 3) := by decide +kernel
theorem dJ6_bitCount_0f7a4_32 : decode cJ6_bitCount_0f7a4 32 = .ok (.iand, 1) := by decide +kernel
theorem dJ6_bitCount_0f7a4_33 : decode cJ6_bitCount_0f7a4 33 = .ok (.istore_n 0, 1) := by decide +kernel
theorem dJ6_bitCount_0f7a4_34 : decode cJ6_bitCount_0f7a4 34 = .ok (.iload_n 0, 1) := by decide +kernel
theorem dJ6_bitCount_0f7a4_35 : decode cJ6_bitCount_0f7a4 35 = .ok (.iload_n 0, 1) := by decide +kernel
theorem dJ6_bitCount_0f7a4_36 : decode cJ6_bitCount_0f7a4 36 = .ok (.bipush 8, 2) := by decide +kernel
theorem dJ6_bitCount_0f7a4_38 : decode cJ6_bitCount_0f7a4 38 = .ok (.iushr, 1) := by decide +kernel
theorem dJ6_bitCount_0f7a4_39 : decode cJ6_bitCount_0f7a4 39 = .ok (.iadd, 1) := by decide +kernel
theorem dJ6_bitCount_0f7a4_40 : decode cJ6_bitCount_0f7a4 40 = .ok (.istore_n 0, 1) := by decide +kernel
theorem dJ6_bitCount_0f7a4_41 : decode cJ6_bitCount_0f7a4 41 = .ok (.iload_n 0, 1) := by decide +kernel
theorem dJ6_bitCount_0f7a4_42 : decode cJ6_bitCount_0f7a4 42 = .ok (.iload_n 0, 1) := by decide +kernel
theorem dJ6_bitCount_0f7a4_43 : decode cJ6_bitCount_0f7a4 43 = .ok (.bipush 16, 2) := by decide +kernel
theorem dJ6_bitCount_0f7a4_45 : decode cJ6_bitCount_0f7a4 45 = .ok (.iushr, 1) := by decide +kernel
theorem dJ6_bitCount_0f7a4_46 : decode cJ6_bitCount_0f7a4 46 = .ok (.iadd, 1) := by decide +kernel
theorem dJ6_bitCount_0f7a4_47 : decode cJ6_bitCount_0f7a4 47 = .ok (.istore_n 0, 1) := by decide +kernel
theorem dJ6_bitCount_0f7a4_48 : decode cJ6_bitCount_0f7a4 48 = .ok (.iload_n 0, 1) := by decide +kernel
theorem dJ6_bitCount_0f7a4_49 : decode cJ6_bitCount_0f7a4 49 = .ok (.bipush 63, 2) := by decide +kernel
theorem dJ6_bitCount_0f7a4_51 : decode cJ6_bitCount_0f7a4 51 = .ok (.iand, 1) := by decide +kernel
theorem dJ6_bitCount_0f7a4_52 : decode cJ6_bitCount_0f7a4 52 = .ok (.ireturn, 1) := by decide +kernel
theorem dJ9_max_7cf53_0 : decode cJ9_max_7cf53 0 = .ok (.iload_n 0, 1) := by decide +kernel
theorem dJ9_max_7cf53_1 : decode cJ9_max_7cf53 1 = .ok (.iload_n 1, 1) := by decide +kernel
theorem dJ9_max_7cf53_2 : decode cJ9_max_7cf53 2 = .ok (.if_icmp .lt 7, 3) := by decide +kernel
theorem dJ9_max_7cf53_5 : decode cJ9_max_7cf53 5 = .ok (.iload_n 0, 1) := by decide +kernel
theorem dJ9_max_7cf53_6 : decode cJ9_max_7cf53 6 = .ok (.goto 4, 3) := by decide +kernel
theorem dJ9_max_7cf53_9 : decode cJ9_max_7cf53 9 = .ok (.iload_n 1, 1) := by decide +kernel
theorem dJ9_max_7cf53_10 : decode cJ9_max_7cf53 10 = .ok (.ireturn, 1) := by decide +kernel
theorem dJ9_min_7cf53_0 : decode cJ9_min_7cf53 0 = .ok (.iload_n 0, 1) := by decide +kernel
theorem dJ9_min_7cf53_1 : decode cJ9_min_7cf53 1 = .ok (.iload_n 1, 1) := by decide +kernel
theorem dJ9_min_7cf53_2 : decode cJ9_min_7cf53 2 = .ok (.if_icmp .gt 7, 3) := by decide +kernel
theorem dJ9_min_7cf53_5 : decode cJ9_min_7cf53 5 = .ok (.iload_n 0, 1) := by decide +kernel
theorem dJ9_min_7cf53_6 : decode cJ9_min_7cf53 6 = .ok (.goto 4, 3) := by decide +kernel
theorem dJ9_min_7cf53_9 : decode cJ9_min_7cf53 9 = .ok (.iload_n 1, 1) := by decide +kernel
theorem dJ9_min_7cf53_10 : decode cJ9_min_7cf53 10 = .ok (.ireturn, 1) := by decide +kernel
end
section
theorem dX7_init_0 : decode cX7_init 0 = .ok (.aload_n 0, 1) := by decide +kernel
theorem dX7_init_1 : decode cX7_init 1 = .ok (.invokespecial 1, 3) := by decide +kernel
theorem dX7_init_4 : decode cX7_init 4 = .ok (.aload_n 0, 1) := by decide +kernel
theorem dX7_init_5 : decode cX7_init 5 = .ok (.iconst 3, 1) := by decide +kernel
theorem dX7_init_6 : decode cX7_init 6 = .ok (.putfield 7, 3) := by decide +kernel
theorem dX7_init_9 : decode cX7_init 9 = .ok (.aload_n 0, 1) := by decide +kernel
theorem dX7_init_10 : decode cX7_init 10 = .ok (.sipush 2000, 3) := by decide +kernel
theorem dX7_init_13 : decode cX7_init 13 = .ok (.putfield 13, 3) := by decide +kernel
theorem dX7_init_16 : decode cX7_init 16 = .ok (.aload_n 0, 1) := by decide +kernel
theorem dX7_init_17 : decode cX7_init 17 = .ok (.bipush 100, 2) := by decide +kernel
theorem dX7_init_19 : decode cX7_init 19 = .ok (.newarray .int, 2) := by decide +kernel
theorem dX7_init_21 : decode cX7_init 21 = .ok (.putfield 16, 3) := by decide +kernel
theorem dX7_init_24 : decode cX7_init 24 = .ok (.aload_n 0, 1) := by decide +kernel
theorem dX7_init_25 : decode cX7_init 25 = .ok (.bipush 10, 2) := by decide +kernel
theorem dX7_init_27 : decode cX7_init 27 = .ok (.newarray .int, 2) := by decide +kernel
theorem dX7_init_29 : decode cX7_init 29 = .ok (.putfield 20, 3) := by decide +kernel
theorem dX7_init_32 : decode cX7_init 32 = .ok (.aload_n 0, 1) := by decide +kernel
theorem dX7_init_33 : decode cX7_init 33 = .ok (.bipush 10, 2) := by decide +kernel
theorem dX7_init_35 : decode cX7_init 35 = .ok (.newarray .int, 2) := by decide +kernel
theorem dX7_init_37 : decode cX7_init 37 = .ok (.putfield 23, 3) := by decide +kernel
theorem dX7_init_40 : decode cX7_init 40 = .ok (.aload_n 0, 1) := by decide +kernel
theorem dX7_init_41 : decode cX7_init 41 = .ok (.bipush 10, 2) := by decide +kernel
theorem dX7_init_43 : decode cX7_init 43 = .ok (.newarray .int, 2) := by decide +kernel
theorem dX7_init_45 : decode cX7_init 45 = .ok (.putfield 26, 3) := by decide +kernel
theorem dX7_init_48 : decode cX7_init 48 = .ok (.aload_n 0, 1) := by decide +kernel
theorem dX7_init_49 : decode cX7_init 49 = .ok (.sipush 1024, 3) := by decide +kernel
theorem dX7_init_52 : decode cX7_init 52 = .ok (.newarray .boolean, 2) := by decide +kernel
theorem dX7_init_54 : decode cX7_init 54 = .ok (.putfield 29, 3) := by decide +kernel
theorem dX7_init_57 : decode cX7_init 57 = .ok (.aload_n 0, 1) := by decide +kernel
theorem dX7_init_58 : decode cX7_init 58 = .ok (.bipush 10, 2) := by decide +kernel
theorem dX7_init_60 : decode cX7_init 60 = .ok (.newarray .boolean, 2) := by decide +kernel
theorem dX7_init_62 : decode cX7_init 62 = .ok (.putfield 33, 3) := by decide +kernel
theorem dX7_init_65 : decode cX7_init 65 = .ok (.aload_n 0, 1) := by decide +kernel
theorem dX7_init_66 : decode cX7_init 66 = .ok (.bipush 10, 2) := by decide +kernel
theorem dX7_init_68 : decode cX7_init 68 = .ok (.newarray .int, 2) := by decide +kernel
theorem dX7_init_70 : decode cX7_init 70 = .ok (.putfield 36, 3) := by decide +kernel
theorem dX7_init_73 : decode cX7_init 73 = .ok (.aload_n 0, 1) := by decide +kernel
theorem dX7_init_74 : decode cX7_init 74 = .ok (.bipush 10, 2) := by decide +kernel
theorem dX7_init_76 : decode cX7_init 76 = .ok (.newarray .int, 2) := by decide +kernel
theorem dX7_init_78 : decode cX7_init 78 = .ok (.putfield 39, 3) := by decide +kernel
theorem dX7_init_81 : decode cX7_init 81 = .ok (.aload_n 0, 1) := by decide +kernel
theorem dX7_init_82 : decode cX7_init 82 = .ok (.bipush 100, 2) := by decide +kernel
theorem dX7_init_84 : decode cX7_init 84 = .ok (.putfield 42, 3) := by decide +kernel
theorem dX7_init_87 : decode cX7_init 87 = .ok (.aload_n 0, 1) := by decide +kernel
theorem dX7_init_88 : decode cX7_init 88 = .ok (.bipush 10, 2) := by decide +kernel
theorem dX7_init_90 : decode cX7_init 90 = .ok (.putfield 45, 3) := by decide +kernel
theorem dX7_init_93 : decode cX7_init 93 = .ok (.aload_n 0, 1) := by decide +kernel
theorem dX7_init_94 : decode cX7_init 94 = .ok (.bipush 10, 2) := by decide +kernel
theorem dX7_init_96 : decode cX7_init 96 = .ok (.newarray .int, 2) := by decide +kernel
theorem dX7_init_98 : decode cX7_init 98 = .ok (.putfield 48, 3) := by decide +kernel
theorem dX7_init_101 : decode cX7_init 101 = .ok (.aload_n 0, 1) := by decide +kernel
theorem dX7_init_102 : decode cX7_init 102 = .ok (.bipush 10, 2) := by decide +kernel
theorem dX7_init_104 : decode cX7_init 104 = .ok (.newarray .int, 2) := by decide +kernel
theorem dX7_init_106 : decode cX7_init 106 = .ok (.putfield 51, 3) := by decide +kernel
theorem dX7_init_109 : decode cX7_init 109 = .ok (.aload_n 0, 1) := by decide +kernel
theorem dX7_init_110 : decode cX7_init 110 = .ok (.bipush 6, 2) := by decide +kernel
theorem dX7_init_112 : decode cX7_init 112 = .ok (.newarray .int, 2) := by decide +kernel
theorem dX7_init_114 : decode cX7_init 114 = .ok (.putfield 54, 3) := by decide +kernel
theorem dX7_init_117 : decode cX7_init 117 = .ok (.aload_n 0, 1) := by decide +kernel
theorem dX7_init_118 : decode cX7_init 118 = .ok (.bipush 24, 2) := by decide +kernel
theorem dX7_init_120 : decode cX7_init 120 = .ok (.newarray .int, 2) := by decide +kernel
theorem dX7_init_122 : decode cX7_init 122 = .ok (.putfield 57, 3) := by decide +kernel
theorem dX7_init_125 : decode cX7_init 125 = .ok (.aload_n 0, 1) := by decide +kernel
theorem dX7_init_126 : decode cX7_init 126 = .ok (.bipush 24, 2) := by decide +kernel
theorem dX7_init_128 : decode cX7_init 128 = .ok (.newarray .int, 2) := by decide +kernel
theorem dX7_init_130 : decode cX7_init 130 = .ok (.putfield 60, 3) := by decide +kernel
theorem dX7_init_133 : decode cX7_init 133 = .ok (.aload_n 0, 1) := by decide +kernel
theorem dX7_init_134 : decode cX7_init 134 = .ok (.bipush 24, 2) := by decide +kernel
theorem dX7_init_136 : decode cX7_init 136 = .ok (.newarray .int, 2) := by decide +kernel
theorem dX7_init_138 : decode cX7_init 138 = .ok (.putfield 63, 3) := by decide +kernel
theorem dX7_init_141 : decode cX7_init 141 = .ok (.aload_n 0, 1) := by decide +kernel
theorem dX7_init_142 : decode cX7_init 142 = .ok (.bipush 6, 2) := by decide +kernel
theorem dX7_init_144 : decode cX7_init 144 = .ok (.newarray .int, 2) := by decide +kernel
theorem dX7_init_146 : decode cX7_init 146 = .ok (.putfield 66, 3) := by decide +kernel
theorem dX7_init_149 : decode cX7_init 149 = .ok (.aload_n 0, 1) := by decide +kernel
theorem dX7_init_150 : decode cX7_init 150 = .ok (.bipush 6, 2) := by decide +kernel
theorem dX7_init_152 : decode cX7_init 152 = .ok (.newarray .int, 2) := by decide +kernel
theorem dX7_init_154 : decode cX7_init 154 = .ok (.putfield 69, 3) := by decide +kernel
theorem dX7_init_157 : decode cX7_init 157 = .ok (.aload_n 0, 1) := by decide +kernel
theorem dX7_init_158 : decode cX7_init 158 = .ok (.sipush 448, 3) := by decide +kernel
theorem dX7_init_161 : decode cX7_init 161 = .ok (.newarray .int, 2) := by decide +kernel
theorem dX7_init_163 : decode cX7_init 163 = .ok (.putfield 72, 3) := by decide +kernel
theorem dX7_init_166 : decode cX7_init 166 = .ok (.aload_n 0, 1) := by decide +kernel
theorem dX7_init_167 : decode cX7_init 167 = .ok (.bipush 10, 2) := by decide +kernel
theorem dX7_init_169 : decode cX7_init 169 = .ok (.newarray .int, 2) := by decide +kernel
theorem dX7_init_171 : decode cX7_init 171 = .ok (.putfield 75, 3) := by decide +kernel
theorem dX7_init_174 : decode cX7_init 174 = .ok (.aload_n 0, 1) := by decide +kernel
theorem dX7_init_175 : decode cX7_init 175 = .ok (.bipush 10, 2) := by decide +kernel
theorem dX7_init_177 : decode cX7_init 177 = .ok (.newarray .int, 2) := by decide +kernel
theorem dX7_init_179 : decode cX7_init 179 = .ok (.putfield 78, 3) := by decide +kernel
theorem dX7_init_182 : decode cX7_init 182 = .ok (.aload_n 0, 1) := by decide +kernel
theorem dX7_init_183 : decode cX7_init 183 = .ok (.sipush 1024, 3) := by decide +kernel
theorem dX7_init_186 : decode cX7_init 186 = .ok (.newarray .int, 2) := by decide +kernel
theorem dX7_init_188 : decode cX7_init 188 = .ok (.putfield 81, 3) := by decide +kernel
theorem dX7_init_191 : decode cX7_init 191 = .ok (.aload_n 0, 1) := by decide +kernel
theorem dX7_init_192 : decode cX7_init 192 = .ok (.bipush 16, 2) := by decide +kernel
theorem dX7_init_194 : decode cX7_init 194 = .ok (.newarray .int, 2) := by decide +kernel
theorem dX7_init_196 : decode cX7_init 196 = .ok (.putfield 84, 3) := by decide +kernel
theorem dX7_init_199 : decode cX7_init 199 = .ok (.iconst 0, 1) := by decide +kernel
theorem dX7_init_200 : decode cX7_init 200 = .ok (.istore_n 1, 1) := by decide +kernel
theorem dX7_init_201 : decode cX7_init 201 = .ok (.iload_n 1, 1) := by decide +kernel
theorem dX7_init_202 : decode cX7_init 202 = .ok (.bipush 10, 2) := by decide +kernel
theorem dX7_init_204 : decode cX7_init 204 = .ok (.if_icmp .ge 23, 3) := by decide +kernel
theorem dX7_init_207 : decode cX7_init 207 = .ok (.aload_n 0, 1) := by decide +kernel
theorem dX7_init_208 : decode cX7_init 208 = .ok (.getfield 75, 3) := by decide +kernel
theorem dX7_init_211 : decode cX7_init 211 = .ok (.iload_n 1, 1) := by decide +kernel
theorem dX7_init_212 : decode cX7_init 212 = .ok (.iconst (-1), 1) := by decide +kernel
theorem dX7_init_213 : decode cX7_init 213 = .ok (.iastore, 1) := by decide +kernel
theorem dX7_init_214 : decode cX7_init 214 = .ok (.aload_n 0, 1) := by decide +kernel
theorem dX7_init_215 : decode cX7_init 215 = .ok (.getfield 78, 3) := by decide +kernel
theorem dX7_init_218 : decode cX7_init 218 = .ok (.iload_n 1, 1) := by decide +kernel
theorem dX7_init_219 : decode cX7_init 219 = .ok (.iconst (-1), 1) := by decide +kernel
theorem dX7_init_220 : decode cX7_init 220 = .ok (.iastore, 1) := by decide +kernel
theorem dX7_init_221 : decode cX7_init 221 = .ok (.iinc 1 1, 3) := by decide +kernel
theorem dX7_init_224 : decode cX7_init 224 = .ok (.goto (-23), 3) := by decide +kernel
theorem dX7_init_227 : decode cX7_init 227 = .ok (.return_, 1) := by decide +kernel
theorem dX7_in_0 : decode cX7_in 0 = .ok (.lload_n 0, 1) := by decide +kernel
theorem dX7_in_1 : decode cX7_in 1 = .ok (.lload_n 2, 1) := by decide +kernel
theorem dX7_in_2 : decode cX7_in 2 = .ok (.lcmp, 1) := by decide +kernel
theorem dX7_in_3 : decode cX7_in 3 = .ok (.ifCond .lt 14, 3) := by decide +kernel
theorem dX7_in_6 : decode cX7_in 6 = .ok (.lload_n 0, 1) := by decide +kernel
theorem dX7_in_7 : decode cX7_in 7 = .ok (.lload 4, 2) := by decide +kernel
theorem dX7_in_9 : decode cX7_in 9 = .ok (.lcmp, 1) := by decide +kernel
theorem dX7_in_10 : decode cX7_in 10 = .ok (.ifCond .gt 7, 3) := by decide +kernel
theorem dX7_in_13 : decode cX7_in 13 = .ok (.iconst 1, 1) := by decide +kernel
theorem dX7_in_14 : decode cX7_in 14 = .ok (.goto 4, 3) := by decide +kernel
theorem dX7_in_17 : decode cX7_in 17 = .ok (.iconst 0, 1) := by decide +kernel
theorem dX7_in_18 : decode cX7_in 18 = .ok (.ireturn, 1) := by decide +kernel
theorem dX7_one_0 : decode cX7_one 0 = .ok (.iload_n 0, 1) := by decide +kernel
theorem dX7_one_1 : decode cX7_one 1 = .ok (.ifCond .eq 7, 3) := by decide +kernel
theorem dX7_one_4 : decode cX7_one 4 = .ok (.iconst 1, 1) := by decide +kernel
theorem dX7_one_5 : decode cX7_one 5 = .ok (.goto 4, 3) := by decide +kernel
theorem dX7_one_8 : decode cX7_one 8 = .ok (.iconst 0, 1) := by decide +kernel
theorem dX7_one_9 : decode cX7_one 9 = .ok (.ireturn, 1) := by decide +kernel
theorem dX7_noMast_0 : decode cX7_noMast 0 = .ok (.iload_n 1, 1) := by decide +kernel
theorem dX7_noMast_1 : decode cX7_noMast 1 = .ok (.i2l, 1) := by decide +kernel
theorem dX7_noMast_2 : decode cX7_noMast 2 = .ok (.lconst 0, 1) := by decide +kernel
theorem dX7_noMast_3 : decode cX7_noMast 3 = .ok (.aload_n 0, 1) := by decide +kernel
theorem dX7_noMast_4 : decode cX7_noMast 4 = .ok (.getfield 87, 3) := by decide +kernel
theorem dX7_noMast_7 : decode cX7_noMast 7 = .ok (.iconst 1, 1) := by decide +kernel
theorem dX7_noMast_8 : decode cX7_noMast 8 = .ok (.isub, 1) := by decide +kernel
theorem dX7_noMast_9 : decode cX7_noMast 9 = .ok (.i2l, 1) := by decide +kernel
theorem dX7_noMast_10 : decode cX7_noMast 10 = .ok (.invokestatic 90, 3) := by decide +kernel
theorem dX7_noMast_13 : decode cX7_noMast 13 = .ok (.ifCond .ne 7, 3) := by decide +kernel
theorem dX7_noMast_16 : decode cX7_noMast 16 = .ok (.iconst 1, 1) := by decide +kernel
theorem dX7_noMast_17 : decode cX7_noMast 17 = .ok (.goto 4, 3) := by decide +kernel
theorem dX7_noMast_20 : decode cX7_noMast 20 = .ok (.iconst 0, 1) := by decide +kernel
theorem dX7_noMast_21 : decode cX7_noMast 21 = .ok (.ireturn, 1) := by decide +kernel
theorem dX7_noSet_0 : decode cX7_noSet 0 = .ok (.iload_n 1, 1) := by decide +kernel
theorem dX7_noSet_1 : decode cX7_noSet 1 = .ok (.ifCond .lt 12, 3) := by decide +kernel
theorem dX7_noSet_4 : decode cX7_noSet 4 = .ok (.iload_n 1, 1) := by decide +kernel
theorem dX7_noSet_5 : decode cX7_noSet 5 = .ok (.aload_n 0, 1) := by decide +kernel
theorem dX7_noSet_6 : decode cX7_noSet 6 = .ok (.getfield 87, 3) := by decide +kernel
theorem dX7_noSet_9 : decode cX7_noSet 9 = .ok (.ishr, 1) := by decide +kernel
theorem dX7_noSet_10 : decode cX7_noSet 10 = .ok (.ifCond .eq 7, 3) := by decide +kernel
theorem dX7_noSet_13 : decode cX7_noSet 13 = .ok (.iconst 1, 1) := by decide +kernel
theorem dX7_noSet_14 : decode cX7_noSet 14 = .ok (.goto 4, 3) := by decide +kernel
theorem dX7_noSet_17 : decode cX7_noSet 17 = .ok (.iconst 0, 1) := by decide +kernel
theorem dX7_noSet_18 : decode cX7_noSet 18 = .ok (.ireturn, 1) := by decide +kernel
theorem dX7_mast_0 : decode cX7_mast 0 = .ok (.aload_n 0, 1) := by decide +kernel
theorem dX7_mast_1 : decode cX7_mast 1 = .ok (.getfield 87, 3) := by decide +kernel
theorem dX7_mast_4 : decode cX7_mast 4 = .ok (.bipush 10, 2) := by decide +kernel
theorem dX7_mast_6 : decode cX7_mast 6 = .ok (.if_icmp .ne 6, 3) := by decide +kernel
theorem dX7_mast_9 : decode cX7_mast 9 = .ok (.bipush (-4), 2) := by decide +kernel
theorem dX7_mast_11 : decode cX7_mast 11 = .ok (.ireturn, 1) := by decide +kernel
theorem dX7_mast_12 : decode cX7_mast 12 = .ok (.aload_n 0, 1) := by decide +kernel
theorem dX7_mast_13 : decode cX7_mast 13 = .ok (.dup, 1) := by decide +kernel
theorem dX7_mast_14 : decode cX7_mast 14 = .ok (.getfield 87, 3) := by decide +kernel
theorem dX7_mast_17 : decode cX7_mast 17 = .ok (.iconst 1, 1) := by decide +kernel
theorem dX7_mast_18 : decode cX7_mast 18 = .ok (.iadd, 1) := by decide +kernel
theorem dX7_mast_19 : decode cX7_mast 19 = .ok (.putfield 87, 3) := by decide +kernel
theorem dX7_mast_22 : decode cX7_mast 22 = .ok (.aload_n 0, 1) := by decide +kernel
theorem dX7_mast_23 : decode cX7_mast 23 = .ok (.getfield 87, 3) := by decide +kernel
theorem dX7_mast_26 : decode cX7_mast 26 = .ok (.iconst 1, 1) := by decide +kernel
theorem dX7_mast_27 : decode cX7_mast 27 = .ok (.isub, 1) := by decide +kernel
theorem dX7_mast_28 : decode cX7_mast 28 = .ok (.ireturn, 1) := by decide +kernel
theorem dX7_channels_0 : decode cX7_channels 0 = .ok (.iload_n 1, 1) := by decide +kernel
theorem dX7_channels_1 : decode cX7_channels 1 = .ok (.i2l, 1) := by decide +kernel
theorem dX7_channels_2 : decode cX7_channels 2 = .ok (.lconst 1, 1) := by decide +kernel
theorem dX7_channels_3 : decode cX7_channels 3 = .ok (.ldc2_w 94, 3) := by decide +kernel
theorem dX7_channels_6 : decode cX7_channels 6 = .ok (.invokestatic 90, 3) := by decide +kernel
theorem dX7_channels_9 : decode cX7_channels 9 = .ok (.ifCond .ne 6, 3) := by decide +kernel
theorem dX7_channels_12 : decode cX7_channels 12 = .ok (.bipush (-2), 2) := by decide +kernel
theorem dX7_channels_14 : decode cX7_channels 14 = .ok (.ireturn, 1) := by decide +kernel
theorem dX7_channels_15 : decode cX7_channels 15 = .ok (.aload_n 0, 1) := by decide +kernel
theorem dX7_channels_16 : decode cX7_channels 16 = .ok (.getfield 7, 3) := by decide +kernel
theorem dX7_channels_19 : decode cX7_channels 19 = .ok (.istore_n 2, 1) := by decide +kernel
theorem dX7_channels_20 : decode cX7_channels 20 = .ok (.aload_n 0, 1) := by decide +kernel
theorem dX7_channels_21 : decode cX7_channels 21 = .ok (.iload_n 1, 1) := by decide +kernel
theorem dX7_channels_22 : decode cX7_channels 22 = .ok (.putfield 7, 3) := by decide +kernel
theorem dX7_channels_25 : decode cX7_channels 25 = .ok (.iload_n 2, 1) := by decide +kernel
theorem dX7_channels_26 : decode cX7_channels 26 = .ok (.ireturn, 1) := by decide +kernel
theorem dX7_pair_0 : decode cX7_pair 0 = .ok (.aload_n 0, 1) := by decide +kernel
theorem dX7_pair_1 : decode cX7_pair 1 = .ok (.iload_n 1, 1) := by decide +kernel
theorem dX7_pair_2 : decode cX7_pair 2 = .ok (.invokevirtual 96, 3) := by decide +kernel
theorem dX7_pair_5 : decode cX7_pair 5 = .ok (.ifCond .ne 28, 3) := by decide +kernel
theorem dX7_pair_8 : decode cX7_pair 8 = .ok (.aload_n 0, 1) := by decide +kernel
theorem dX7_pair_9 : decode cX7_pair 9 = .ok (.iload_n 2, 1) := by decide +kernel
theorem dX7_pair_10 : decode cX7_pair 10 = .ok (.invokevirtual 96, 3) := by decide +kernel
theorem dX7_pair_13 : decode cX7_pair 13 = .ok (.ifCond .ne 20, 3) := by decide +kernel
theorem dX7_pair_16 : decode cX7_pair 16 = .ok (.iload_n 1, 1) := by decide +kernel
theorem dX7_pair_17 : decode cX7_pair 17 = .ok (.iload_n 2, 1) := by decide +kernel
theorem dX7_pair_18 : decode cX7_pair 18 = .ok (.if_icmp .eq 15, 3) := by decide +kernel
theorem dX7_pair_21 : decode cX7_pair 21 = .ok (.iload_n 3, 1) := by decide +kernel
theorem dX7_pair_22 : decode cX7_pair 22 = .ok (.i2l, 1) := by decide +kernel
theorem dX7_pair_23 : decode cX7_pair 23 = .ok (.lconst 0, 1) := by decide +kernel
theorem dX7_pair_24 : decode cX7_pair 24 = .ok (.ldc2_w 100, 3) := by decide +kernel
theorem dX7_pair_27 : decode cX7_pair 27 = .ok (.invokestatic 90, 3) := by decide +kernel
theorem dX7_pair_30 : decode cX7_pair 30 = .ok (.ifCond .ne 6, 3) := by decide +kernel
theorem dX7_pair_33 : decode cX7_pair 33 = .ok (.bipush (-2), 2) := by decide +kernel
theorem dX7_pair_35 : decode cX7_pair 35 = .ok (.ireturn, 1) := by decide +kernel
theorem dX7_pair_36 : decode cX7_pair 36 = .ok (.aload_n 0, 1) := by decide +kernel
theorem dX7_pair_37 : decode cX7_pair 37 = .ok (.getfield 16, 3) := by decide +kernel
theorem dX7_pair_40 : decode cX7_pair 40 = .ok (.bipush 10, 2) := by decide +kernel
theorem dX7_pair_42 : decode cX7_pair 42 = .ok (.iload_n 1, 1) := by decide +kernel
theorem dX7_pair_43 : decode cX7_pair 43 = .ok (.imul, 1) := by decide +kernel
theorem dX7_pair_44 : decode cX7_pair 44 = .ok (.iload_n 2, 1) := by decide +kernel
theorem dX7_pair_45 : decode cX7_pair 45 = .ok (.iadd, 1) := by decide +kernel
theorem dX7_pair_46 : decode cX7_pair 46 = .ok (.iaload, 1) := by decide +kernel
theorem dX7_pair_47 : decode cX7_pair 47 = .ok (.istore 4, 2) := by decide +kernel
theorem dX7_pair_49 : decode cX7_pair 49 = .ok (.aload_n 0, 1) := by decide +kernel
theorem dX7_pair_50 : decode cX7_pair 50 = .ok (.getfield 16, 3) := by decide +kernel
theorem dX7_pair_53 : decode cX7_pair 53 = .ok (.bipush 10, 2) := by decide +kernel
theorem dX7_pair_55 : decode cX7_pair 55 = .ok (.iload_n 1, 1) := by decide +kernel
theorem dX7_pair_56 : decode cX7_pair 56 = .ok (.imul, 1) := by decide +kernel
theorem dX7_pair_57 : decode cX7_pair 57 = .ok (.iload_n 2, 1) := by decide +kernel
theorem dX7_pair_58 : decode cX7_pair 58 = .ok (.iadd, 1) := by decide +kernel
theorem dX7_pair_59 : decode cX7_pair 59 = .ok (.iload_n 3, 1) := by decide +kernel
theorem dX7_pair_60 : decode cX7_pair 60 = .ok (.iastore, 1) := by decide +kernel
theorem dX7_pair_61 : decode cX7_pair 61 = .ok (.aload_n 0, 1) := by decide +kernel
theorem dX7_pair_62 : decode cX7_pair 62 = .ok (.getfield 16, 3) := by decide +kernel
theorem dX7_pair_65 : decode cX7_pair 65 = .ok (.bipush 10, 2) := by decide +kernel
theorem dX7_pair_67 : decode cX7_pair 67 = .ok (.iload_n 2, 1) := by decide +kernel
theorem dX7_pair_68 : decode cX7_pair 68 = .ok (.imul, 1) := by decide +kernel
theorem dX7_pair_69 : decode cX7_pair 69 = .ok (.iload_n 1, 1) := by decide +kernel
theorem dX7_pair_70 : decode cX7_pair 70 = .ok (.iadd, 1) := by decide +kernel
theorem dX7_pair_71 : decode cX7_pair 71 = .ok (.iload_n 3, 1) := by decide +kernel
theorem dX7_pair_72 : decode cX7_pair 72 = .ok (.iastore, 1) := by decide +kernel
theorem dX7_pair_73 : decode cX7_pair 73 = .ok (.iload 4, 2) := by decide +kernel
theorem dX7_pair_75 : decode cX7_pair 75 = .ok (.ireturn, 1) := by decide +kernel
theorem dX7_bar_0 : decode cX7_bar 0 = .ok (.aload_n 0, 1) := by decide +kernel
theorem dX7_bar_1 : decode cX7_bar 1 = .ok (.iload_n 1, 1) := by decide +kernel
theorem dX7_bar_2 : decode cX7_bar 2 = .ok (.invokevirtual 96, 3) := by decide +kernel
theorem dX7_bar_5 : decode cX7_bar 5 = .ok (.ifCond .ne 15, 3) := by decide +kernel
theorem dX7_bar_8 : decode cX7_bar 8 = .ok (.iload_n 2, 1) := by decide +kernel
theorem dX7_bar_9 : decode cX7_bar 9 = .ok (.i2l, 1) := by decide +kernel
theorem dX7_bar_10 : decode cX7_bar 10 = .ok (.lconst 0, 1) := by decide +kernel
theorem dX7_bar_11 : decode cX7_bar 11 = .ok (.ldc2_w 102, 3) := by decide +kernel
theorem dX7_bar_14 : decode cX7_bar 14 = .ok (.invokestatic 90, 3) := by decide +kernel
theorem dX7_bar_17 : decode cX7_bar 17 = .ok (.ifCond .ne 6, 3) := by decide +kernel
theorem dX7_bar_20 : decode cX7_bar 20 = .ok (.bipush (-2), 2) := by decide +kernel
theorem dX7_bar_22 : decode cX7_bar 22 = .ok (.ireturn, 1) := by decide +kernel
theorem dX7_bar_23 : decode cX7_bar 23 = .ok (.aload_n 0, 1) := by decide +kernel
theorem dX7_bar_24 : decode cX7_bar 24 = .ok (.getfield 20, 3) := by decide +kernel
theorem dX7_bar_27 : decode cX7_bar 27 = .ok (.iload_n 1, 1) := by decide +kernel
theorem dX7_bar_28 : decode cX7_bar 28 = .ok (.iaload, 1) := by decide +kernel
theorem dX7_bar_29 : decode cX7_bar 29 = .ok (.istore_n 3, 1) := by decide +kernel
theorem dX7_bar_30 : decode cX7_bar 30 = .ok (.aload_n 0, 1) := by decide +kernel
theorem dX7_bar_31 : decode cX7_bar 31 = .ok (.getfield 20, 3) := by decide +kernel
theorem dX7_bar_34 : decode cX7_bar 34 = .ok (.iload_n 1, 1) := by decide +kernel
theorem dX7_bar_35 : decode cX7_bar 35 = .ok (.iload_n 2, 1) := by decide +kernel
theorem dX7_bar_36 : decode cX7_bar 36 = .ok (.iastore, 1) := by decide +kernel
theorem dX7_bar_37 : decode cX7_bar 37 = .ok (.iload_n 3, 1) := by decide +kernel
theorem dX7_bar_38 : decode cX7_bar 38 = .ok (.ireturn, 1) := by decide +kernel
theorem dX7_limit_0 : decode cX7_limit 0 = .ok (.iload_n 1, 1) := by decide +kernel
theorem dX7_limit_1 : decode cX7_limit 1 = .ok (.i2l, 1) := by decide +kernel
theorem dX7_limit_2 : decode cX7_limit 2 = .ok (.lconst 1, 1) := by decide +kernel
theorem dX7_limit_3 : decode cX7_limit 3 = .ok (.ldc2_w 104, 3) := by decide +kernel
theorem dX7_limit_6 : decode cX7_limit 6 = .ok (.invokestatic 90, 3) := by decide +kernel
theorem dX7_limit_9 : decode cX7_limit 9 = .ok (.ifCond .ne 6, 3) := by decide +kernel
theorem dX7_limit_12 : decode cX7_limit 12 = .ok (.bipush (-2), 2) := by decide +kernel
theorem dX7_limit_14 : decode cX7_limit 14 = .ok (.ireturn, 1) := by decide +kernel
theorem dX7_limit_15 : decode cX7_limit 15 = .ok (.aload_n 0, 1) := by decide +kernel
theorem dX7_limit_16 : decode cX7_limit 16 = .ok (.getfield 13, 3) := by decide +kernel
theorem dX7_limit_19 : decode cX7_limit 19 = .ok (.istore_n 2, 1) := by decide +kernel
theorem dX7_limit_20 : decode cX7_limit 20 = .ok (.aload_n 0, 1) := by decide +kernel
theorem dX7_limit_21 : decode cX7_limit 21 = .ok (.iload_n 1, 1) := by decide +kernel
theorem dX7_limit_22 : decode cX7_limit 22 = .ok (.putfield 13, 3) := by decide +kernel
theorem dX7_limit_25 : decode cX7_limit 25 = .ok (.iload_n 2, 1) := by decide +kernel
theorem dX7_limit_26 : decode cX7_limit 26 = .ok (.ireturn, 1) := by decide +kernel
theorem dX7_breaks_0 : decode cX7_breaks 0 = .ok (.iload_n 3, 1) := by decide +kernel
theorem dX7_breaks_1 : decode cX7_breaks 1 = .ok (.iload 4, 2) := by decide +kernel
theorem dX7_breaks_3 : decode cX7_breaks 3 = .ok (.if_icmp .le 10, 3) := by decide +kernel
theorem dX7_breaks_6 : decode cX7_breaks 6 = .ok (.iload_n 3, 1) := by decide +kernel
theorem dX7_breaks_7 : decode cX7_breaks 7 = .ok (.iload 4, 2) := by decide +kernel
theorem dX7_breaks_9 : decode cX7_breaks 9 = .ok (.isub, 1) := by decide +kernel
theorem dX7_breaks_10 : decode cX7_breaks 10 = .ok (.goto 7, 3) := by decide +kernel
theorem dX7_breaks_13 : decode cX7_breaks 13 = .ok (.iload 4, 2) := by decide +kernel
theorem dX7_breaks_15 : decode cX7_breaks 15 = .ok (.iload_n 3, 1) := by decide +kernel
theorem dX7_breaks_16 : decode cX7_breaks 16 = .ok (.isub, 1) := by decide +kernel
theorem dX7_breaks_17 : decode cX7_breaks 17 = .ok (.istore 5, 2) := by decide +kernel
theorem dX7_breaks_19 : decode cX7_breaks 19 = .ok (.iload 5, 2) := by decide +kernel
theorem dX7_breaks_21 : decode cX7_breaks 21 = .ok (.aload_n 0, 1) := by decide +kernel
theorem dX7_breaks_22 : decode cX7_breaks 22 = .ok (.getfield 16, 3) := by decide +kernel
theorem dX7_breaks_25 : decode cX7_breaks 25 = .ok (.bipush 10, 2) := by decide +kernel
theorem dX7_breaks_27 : decode cX7_breaks 27 = .ok (.iload_n 1, 1) := by decide +kernel
theorem dX7_breaks_28 : decode cX7_breaks 28 = .ok (.imul, 1) := by decide +kernel
theorem dX7_breaks_29 : decode cX7_breaks 29 = .ok (.iload_n 2, 1) := by decide +kernel
theorem dX7_breaks_30 : decode cX7_breaks 30 = .ok (.iadd, 1) := by decide +kernel
theorem dX7_breaks_31 : decode cX7_breaks 31 = .ok (.iaload, 1) := by decide +kernel
theorem dX7_breaks_32 : decode cX7_breaks 32 = .ok (.if_icmp .ge 7, 3) := by decide +kernel
theorem dX7_breaks_35 : decode cX7_breaks 35 = .ok (.iconst 1, 1) := by decide +kernel
theorem dX7_breaks_36 : decode cX7_breaks 36 = .ok (.goto 4, 3) := by decide +kernel
theorem dX7_breaks_39 : decode cX7_breaks 39 = .ok (.iconst 0, 1) := by decide +kernel
theorem dX7_breaks_40 : decode cX7_breaks 40 = .ok (.ireturn, 1) := by decide +kernel
theorem dX7_layRow_0 : decode cX7_layRow 0 = .ok (.aload_n 0, 1) := by decide +kernel
theorem dX7_layRow_1 : decode cX7_layRow 1 = .ok (.iconst 0, 1) := by decide +kernel
theorem dX7_layRow_2 : decode cX7_layRow 2 = .ok (.putfield 106, 3) := by decide +kernel
theorem dX7_layRow_5 : decode cX7_layRow 5 = .ok (.iconst 0, 1) := by decide +kernel
theorem dX7_layRow_6 : decode cX7_layRow 6 = .ok (.istore_n 2, 1) := by decide +kernel
theorem dX7_layRow_7 : decode cX7_layRow 7 = .ok (.iload_n 2, 1) := by decide +kernel
theorem dX7_layRow_8 : decode cX7_layRow 8 = .ok (.aload_n 0, 1) := by decide +kernel
theorem dX7_layRow_9 : decode cX7_layRow 9 = .ok (.getfield 87, 3) := by decide +kernel
theorem dX7_layRow_12 : decode cX7_layRow 12 = .ok (.if_icmp .ge 38, 3) := by decide +kernel
theorem dX7_layRow_15 : decode cX7_layRow 15 = .ok (.iload_n 1, 1) := by decide +kernel
theorem dX7_layRow_16 : decode cX7_layRow 16 = .ok (.iload_n 2, 1) := by decide +kernel
theorem dX7_layRow_17 : decode cX7_layRow 17 = .ok (.ishr, 1) := by decide +kernel
theorem dX7_layRow_18 : decode cX7_layRow 18 = .ok (.iconst 1, 1) := by decide +kernel
theorem dX7_layRow_19 : decode cX7_layRow 19 = .ok (.iand, 1) := by decide +kernel
theorem dX7_layRow_20 : decode cX7_layRow 20 = .ok (.iconst 1, 1) := by decide +kernel
theorem dX7_layRow_21 : decode cX7_layRow 21 = .ok (.if_icmp .ne 23, 3) := by decide +kernel
theorem dX7_layRow_24 : decode cX7_layRow 24 = .ok (.aload_n 0, 1) := by decide +kernel
theorem dX7_layRow_25 : decode cX7_layRow 25 = .ok (.getfield 23, 3) := by decide +kernel
theorem dX7_layRow_28 : decode cX7_layRow 28 = .ok (.aload_n 0, 1) := by decide +kernel
theorem dX7_layRow_29 : decode cX7_layRow 29 = .ok (.getfield 106, 3) := by decide +kernel
theorem dX7_layRow_32 : decode cX7_layRow 32 = .ok (.iload_n 2, 1) := by decide +kernel
theorem dX7_layRow_33 : decode cX7_layRow 33 = .ok (.iastore, 1) := by decide +kernel
theorem dX7_layRow_34 : decode cX7_layRow 34 = .ok (.aload_n 0, 1) := by decide +kernel
theorem dX7_layRow_35 : decode cX7_layRow 35 = .ok (.dup, 1) := by decide +kernel
theorem dX7_layRow_36 : decode cX7_layRow 36 = .ok (.getfield 106, 3) := by decide +kernel
theorem dX7_layRow_39 : decode cX7_layRow 39 = .ok (.iconst 1, 1) := by decide +kernel
theorem dX7_layRow_40 : decode cX7_layRow 40 = .ok (.iadd, 1) := by decide +kernel
theorem dX7_layRow_41 : decode cX7_layRow 41 = .ok (.putfield 106, 3) := by decide +kernel
theorem dX7_layRow_44 : decode cX7_layRow 44 = .ok (.iinc 2 1, 3) := by decide +kernel
theorem dX7_layRow_47 : decode cX7_layRow 47 = .ok (.goto (-40), 3) := by decide +kernel
theorem dX7_layRow_50 : decode cX7_layRow 50 = .ok (.return_, 1) := by decide +kernel
theorem dX7_mayHave_0 : decode cX7_mayHave 0 = .ok (.aload_n 0, 1) := by decide +kernel
theorem dX7_mayHave_1 : decode cX7_mayHave 1 = .ok (.getfield 20, 3) := by decide +kernel
theorem dX7_mayHave_4 : decode cX7_mayHave 4 = .ok (.aload_n 0, 1) := by decide +kernel
theorem dX7_mayHave_5 : decode cX7_mayHave 5 = .ok (.getfield 23, 3) := by decide +kernel
theorem dX7_mayHave_8 : decode cX7_mayHave 8 = .ok (.iload_n 1, 1) := by decide +kernel
theorem dX7_mayHave_9 : decode cX7_mayHave 9 = .ok (.iaload, 1) := by decide +kernel
theorem dX7_mayHave_10 : decode cX7_mayHave 10 = .ok (.iaload, 1) := by decide +kernel
theorem dX7_mayHave_11 : decode cX7_mayHave 11 = .ok (.iload_n 2, 1) := by decide +kernel
theorem dX7_mayHave_12 : decode cX7_mayHave 12 = .ok (.ishr, 1) := by decide +kernel
theorem dX7_mayHave_13 : decode cX7_mayHave 13 = .ok (.iconst 1, 1) := by decide +kernel
theorem dX7_mayHave_14 : decode cX7_mayHave 14 = .ok (.iand, 1) := by decide +kernel
theorem dX7_mayHave_15 : decode cX7_mayHave 15 = .ok (.ifCond .ne 7, 3) := by decide +kernel
theorem dX7_mayHave_18 : decode cX7_mayHave 18 = .ok (.iconst 1, 1) := by decide +kernel
theorem dX7_mayHave_19 : decode cX7_mayHave 19 = .ok (.goto 4, 3) := by decide +kernel
theorem dX7_mayHave_22 : decode cX7_mayHave 22 = .ok (.iconst 0, 1) := by decide +kernel
theorem dX7_mayHave_23 : decode cX7_mayHave 23 = .ok (.istore_n 3, 1) := by decide +kernel
theorem dX7_mayHave_24 : decode cX7_mayHave 24 = .ok (.iconst 0, 1) := by decide +kernel
theorem dX7_mayHave_25 : decode cX7_mayHave 25 = .ok (.istore 4, 2) := by decide +kernel
theorem dX7_mayHave_27 : decode cX7_mayHave 27 = .ok (.iload 4, 2) := by decide +kernel
theorem dX7_mayHave_29 : decode cX7_mayHave 29 = .ok (.iload_n 1, 1) := by decide +kernel
theorem dX7_mayHave_30 : decode cX7_mayHave 30 = .ok (.if_icmp .ge 47, 3) := by decide +kernel
theorem dX7_mayHave_33 : decode cX7_mayHave 33 = .ok (.iload_n 3, 1) := by decide +kernel
theorem dX7_mayHave_34 : decode cX7_mayHave 34 = .ok (.ifCond .eq 43, 3) := by decide +kernel
theorem dX7_mayHave_37 : decode cX7_mayHave 37 = .ok (.aload_n 0, 1) := by decide +kernel
theorem dX7_mayHave_38 : decode cX7_mayHave 38 = .ok (.aload_n 0, 1) := by decide +kernel
theorem dX7_mayHave_39 : decode cX7_mayHave 39 = .ok (.getfield 23, 3) := by decide +kernel
theorem dX7_mayHave_42 : decode cX7_mayHave 42 = .ok (.iload_n 1, 1) := by decide +kernel
theorem dX7_mayHave_43 : decode cX7_mayHave 43 = .ok (.iaload, 1) := by decide +kernel
theorem dX7_mayHave_44 : decode cX7_mayHave 44 = .ok (.aload_n 0, 1) := by decide +kernel
theorem dX7_mayHave_45 : decode cX7_mayHave 45 = .ok (.getfield 23, 3) := by decide +kernel
theorem dX7_mayHave_48 : decode cX7_mayHave 48 = .ok (.iload 4, 2) := by decide +kernel
theorem dX7_mayHave_50 : decode cX7_mayHave 50 = .ok (.iaload, 1) := by decide +kernel
theorem dX7_mayHave_51 : decode cX7_mayHave 51 = .ok (.iload_n 2, 1) := by decide +kernel
theorem dX7_mayHave_52 : decode cX7_mayHave 52 = .ok (.aload_n 0, 1) := by decide +kernel
theorem dX7_mayHave_53 : decode cX7_mayHave 53 = .ok (.getfield 26, 3) := by decide +kernel
theorem dX7_mayHave_56 : decode cX7_mayHave 56 = .ok (.iload 4, 2) := by decide +kernel
theorem dX7_mayHave_58 : decode cX7_mayHave 58 = .ok (.iaload, 1) := by decide +kernel
theorem dX7_mayHave_59 : decode cX7_mayHave 59 = .ok (.invokevirtual 109, 3) := by decide +kernel
theorem dX7_mayHave_62 : decode cX7_mayHave 62 = .ok (.ifCond .ne 7, 3) := by decide +kernel
theorem dX7_mayHave_65 : decode cX7_mayHave 65 = .ok (.iconst 1, 1) := by decide +kernel
theorem dX7_mayHave_66 : decode cX7_mayHave 66 = .ok (.goto 4, 3) := by decide +kernel
theorem dX7_mayHave_69 : decode cX7_mayHave 69 = .ok (.iconst 0, 1) := by decide +kernel
theorem dX7_mayHave_70 : decode cX7_mayHave 70 = .ok (.istore_n 3, 1) := by decide +kernel
theorem dX7_mayHave_71 : decode cX7_mayHave 71 = .ok (.iinc 4 1, 3) := by decide +kernel
theorem dX7_mayHave_74 : decode cX7_mayHave 74 = .ok (.goto (-47), 3) := by decide +kernel
theorem dX7_mayHave_77 : decode cX7_mayHave 77 = .ok (.iload_n 3, 1) := by decide +kernel
theorem dX7_mayHave_78 : decode cX7_mayHave 78 = .ok (.ireturn, 1) := by decide +kernel
theorem dX7_search_0 : decode cX7_search 0 = .ok (.aload_n 0, 1) := by decide +kernel
theorem dX7_search_1 : decode cX7_search 1 = .ok (.iload_n 1, 1) := by decide +kernel
theorem dX7_search_2 : decode cX7_search 2 = .ok (.invokevirtual 113, 3) := by decide +kernel
theorem dX7_search_5 : decode cX7_search 5 = .ok (.aload_n 0, 1) := by decide +kernel
theorem dX7_search_6 : decode cX7_search 6 = .ok (.iconst 0, 1) := by decide +kernel
theorem dX7_search_7 : decode cX7_search 7 = .ok (.putfield 117, 3) := by decide +kernel
theorem dX7_search_10 : decode cX7_search 10 = .ok (.iconst 0, 1) := by decide +kernel
theorem dX7_search_11 : decode cX7_search 11 = .ok (.istore_n 2, 1) := by decide +kernel
theorem dX7_search_12 : decode cX7_search 12 = .ok (.aload_n 0, 1) := by decide +kernel
theorem dX7_search_13 : decode cX7_search 13 = .ok (.getfield 106, 3) := by decide +kernel
theorem dX7_search_16 : decode cX7_search 16 = .ok (.ifCond .le 10, 3) := by decide +kernel
theorem dX7_search_19 : decode cX7_search 19 = .ok (.aload_n 0, 1) := by decide +kernel
theorem dX7_search_20 : decode cX7_search 20 = .ok (.getfield 26, 3) := by decide +kernel
theorem dX7_search_23 : decode cX7_search 23 = .ok (.iconst 0, 1) := by decide +kernel
theorem dX7_search_24 : decode cX7_search 24 = .ok (.iconst (-1), 1) := by decide +kernel
theorem dX7_search_25 : decode cX7_search 25 = .ok (.iastore, 1) := by decide +kernel
theorem dX7_search_26 : decode cX7_search 26 = .ok (.iload_n 2, 1) := by decide +kernel
theorem dX7_search_27 : decode cX7_search 27 = .ok (.ifCond .lt 99, 3) := by decide +kernel
theorem dX7_search_30 : decode cX7_search 30 = .ok (.iload_n 2, 1) := by decide +kernel
theorem dX7_search_31 : decode cX7_search 31 = .ok (.aload_n 0, 1) := by decide +kernel
theorem dX7_search_32 : decode cX7_search 32 = .ok (.getfield 106, 3) := by decide +kernel
theorem dX7_search_35 : decode cX7_search 35 = .ok (.if_icmp .ge 91, 3) := by decide +kernel
theorem dX7_search_38 : decode cX7_search 38 = .ok (.aload_n 0, 1) := by decide +kernel
theorem dX7_search_39 : decode cX7_search 39 = .ok (.getfield 26, 3) := by decide +kernel
theorem dX7_search_42 : decode cX7_search 42 = .ok (.iload_n 2, 1) := by decide +kernel
theorem dX7_search_43 : decode cX7_search 43 = .ok (.dup2, 1) := by decide +kernel
theorem dX7_search_44 : decode cX7_search 44 = .ok (.iaload, 1) := by decide +kernel
theorem dX7_search_45 : decode cX7_search 45 = .ok (.iconst 1, 1) := by decide +kernel
theorem dX7_search_46 : decode cX7_search 46 = .ok (.iadd, 1) := by decide +kernel
theorem dX7_search_47 : decode cX7_search 47 = .ok (.iastore, 1) := by decide +kernel
theorem dX7_search_48 : decode cX7_search 48 = .ok (.aload_n 0, 1) := by decide +kernel
theorem dX7_search_49 : decode cX7_search 49 = .ok (.getfield 26, 3) := by decide +kernel
theorem dX7_search_52 : decode cX7_search 52 = .ok (.iload_n 2, 1) := by decide +kernel
theorem dX7_search_53 : decode cX7_search 53 = .ok (.iaload, 1) := by decide +kernel
theorem dX7_search_54 : decode cX7_search 54 = .ok (.aload_n 0, 1) := by decide +kernel
theorem dX7_search_55 : decode cX7_search 55 = .ok (.getfield 7, 3) := by decide +kernel
theorem dX7_search_58 : decode cX7_search 58 = .ok (.if_icmp .ne 9, 3) := by decide +kernel
theorem dX7_search_61 : decode cX7_search 61 = .ok (.iinc 2 (-1), 3) := by decide +kernel
theorem dX7_search_64 : decode cX7_search 64 = .ok (.goto (-38), 3) := by decide +kernel
theorem dX7_search_67 : decode cX7_search 67 = .ok (.aload_n 0, 1) := by decide +kernel
theorem dX7_search_68 : decode cX7_search 68 = .ok (.getfield 117, 3) := by decide +kernel
theorem dX7_search_71 : decode cX7_search 71 = .ok (.aload_n 0, 1) := by decide +kernel
theorem dX7_search_72 : decode cX7_search 72 = .ok (.getfield 13, 3) := by decide +kernel
theorem dX7_search_75 : decode cX7_search 75 = .ok (.if_icmp .ne 6, 3) := by decide +kernel
theorem dX7_search_78 : decode cX7_search 78 = .ok (.bipush (-5), 2) := by decide +kernel
theorem dX7_search_80 : decode cX7_search 80 = .ok (.ireturn, 1) := by decide +kernel
theorem dX7_search_81 : decode cX7_search 81 = .ok (.aload_n 0, 1) := by decide +kernel
theorem dX7_search_82 : decode cX7_search 82 = .ok (.dup, 1) := by decide +kernel
theorem dX7_search_83 : decode cX7_search 83 = .ok (.getfield 117, 3) := by decide +kernel
theorem dX7_search_86 : decode cX7_search 86 = .ok (.iconst 1, 1) := by decide +kernel
theorem dX7_search_87 : decode cX7_search 87 = .ok (.iadd, 1) := by decide +kernel
theorem dX7_search_88 : decode cX7_search 88 = .ok (.putfield 117, 3) := by decide +kernel
theorem dX7_search_91 : decode cX7_search 91 = .ok (.aload_n 0, 1) := by decide +kernel
theorem dX7_search_92 : decode cX7_search 92 = .ok (.iload_n 2, 1) := by decide +kernel
theorem dX7_search_93 : decode cX7_search 93 = .ok (.aload_n 0, 1) := by decide +kernel
theorem dX7_search_94 : decode cX7_search 94 = .ok (.getfield 26, 3) := by decide +kernel
theorem dX7_search_97 : decode cX7_search 97 = .ok (.iload_n 2, 1) := by decide +kernel
theorem dX7_search_98 : decode cX7_search 98 = .ok (.iaload, 1) := by decide +kernel
theorem dX7_search_99 : decode cX7_search 99 = .ok (.invokevirtual 120, 3) := by decide +kernel
theorem dX7_search_102 : decode cX7_search 102 = .ok (.ifCond .eq (-76), 3) := by decide +kernel
theorem dX7_search_105 : decode cX7_search 105 = .ok (.iinc 2 1, 3) := by decide +kernel
theorem dX7_search_108 : decode cX7_search 108 = .ok (.iload_n 2, 1) := by decide +kernel
theorem dX7_search_109 : decode cX7_search 109 = .ok (.aload_n 0, 1) := by decide +kernel
theorem dX7_search_110 : decode cX7_search 110 = .ok (.getfield 106, 3) := by decide +kernel
theorem dX7_search_113 : decode cX7_search 113 = .ok (.if_icmp .ge (-87), 3) := by decide +kernel
theorem dX7_search_116 : decode cX7_search 116 = .ok (.aload_n 0, 1) := by decide +kernel
theorem dX7_search_117 : decode cX7_search 117 = .ok (.getfield 26, 3) := by decide +kernel
theorem dX7_search_120 : decode cX7_search 120 = .ok (.iload_n 2, 1) := by decide +kernel
theorem dX7_search_121 : decode cX7_search 121 = .ok (.iconst (-1), 1) := by decide +kernel
theorem dX7_search_122 : decode cX7_search 122 = .ok (.iastore, 1) := by decide +kernel
theorem dX7_search_123 : decode cX7_search 123 = .ok (.goto (-97), 3) := by decide +kernel
theorem dX7_search_126 : decode cX7_search 126 = .ok (.iload_n 2, 1) := by decide +kernel
theorem dX7_search_127 : decode cX7_search 127 = .ok (.aload_n 0, 1) := by decide +kernel
theorem dX7_search_128 : decode cX7_search 128 = .ok (.getfield 106, 3) := by decide +kernel
theorem dX7_search_131 : decode cX7_search 131 = .ok (.if_icmp .ne 7, 3) := by decide +kernel
theorem dX7_search_134 : decode cX7_search 134 = .ok (.iconst 1, 1) := by decide +kernel
theorem dX7_search_135 : decode cX7_search 135 = .ok (.goto 4, 3) := by decide +kernel
theorem dX7_search_138 : decode cX7_search 138 = .ok (.iconst 0, 1) := by decide +kernel
theorem dX7_search_139 : decode cX7_search 139 = .ok (.invokestatic 124, 3) := by decide +kernel
theorem dX7_search_142 : decode cX7_search 142 = .ok (.ireturn, 1) := by decide +kernel
theorem dX7_looksGood_0 : decode cX7_looksGood 0 = .ok (.iload_n 1, 1) := by decide +kernel
theorem dX7_looksGood_1 : decode cX7_looksGood 1 = .ok (.iconst 1, 1) := by decide +kernel
theorem dX7_looksGood_2 : decode cX7_looksGood 2 = .ok (.iadd, 1) := by decide +kernel
theorem dX7_looksGood_3 : decode cX7_looksGood 3 = .ok (.istore_n 2, 1) := by decide +kernel
theorem dX7_looksGood_4 : decode cX7_looksGood 4 = .ok (.iload_n 2, 1) := by decide +kernel
theorem dX7_looksGood_5 : decode cX7_looksGood 5 = .ok (.aload_n 0, 1) := by decide +kernel
theorem dX7_looksGood_6 : decode cX7_looksGood 6 = .ok (.getfield 106, 3) := by decide +kernel
theorem dX7_looksGood_9 : decode cX7_looksGood 9 = .ok (.if_icmp .ge 124, 3) := by decide +kernel
theorem dX7_looksGood_12 : decode cX7_looksGood 12 = .ok (.iconst 0, 1) := by decide +kernel
theorem dX7_looksGood_13 : decode cX7_looksGood 13 = .ok (.istore_n 3, 1) := by decide +kernel
theorem dX7_looksGood_14 : decode cX7_looksGood 14 = .ok (.iconst 0, 1) := by decide +kernel
theorem dX7_looksGood_15 : decode cX7_looksGood 15 = .ok (.istore 4, 2) := by decide +kernel
theorem dX7_looksGood_17 : decode cX7_looksGood 17 = .ok (.iload 4, 2) := by decide +kernel
theorem dX7_looksGood_19 : decode cX7_looksGood 19 = .ok (.aload_n 0, 1) := by decide +kernel
theorem dX7_looksGood_20 : decode cX7_looksGood 20 = .ok (.getfield 7, 3) := by decide +kernel
theorem dX7_looksGood_23 : decode cX7_looksGood 23 = .ok (.if_icmp .ge 98, 3) := by decide +kernel
theorem dX7_looksGood_26 : decode cX7_looksGood 26 = .ok (.iload_n 3, 1) := by decide +kernel
theorem dX7_looksGood_27 : decode cX7_looksGood 27 = .ok (.ifCond .ne 94, 3) := by decide +kernel
theorem dX7_looksGood_30 : decode cX7_looksGood 30 = .ok (.aload_n 0, 1) := by decide +kernel
theorem dX7_looksGood_31 : decode cX7_looksGood 31 = .ok (.getfield 20, 3) := by decide +kernel
theorem dX7_looksGood_34 : decode cX7_looksGood 34 = .ok (.aload_n 0, 1) := by decide +kernel
theorem dX7_looksGood_35 : decode cX7_looksGood 35 = .ok (.getfield 23, 3) := by decide +kernel
theorem dX7_looksGood_38 : decode cX7_looksGood 38 = .ok (.iload_n 2, 1) := by decide +kernel
theorem dX7_looksGood_39 : decode cX7_looksGood 39 = .ok (.iaload, 1) := by decide +kernel
theorem dX7_looksGood_40 : decode cX7_looksGood 40 = .ok (.iaload, 1) := by decide +kernel
theorem dX7_looksGood_41 : decode cX7_looksGood 41 = .ok (.iload 4, 2) := by decide +kernel
theorem dX7_looksGood_43 : decode cX7_looksGood 43 = .ok (.ishr, 1) := by decide +kernel
theorem dX7_looksGood_44 : decode cX7_looksGood 44 = .ok (.iconst 1, 1) := by decide +kernel
theorem dX7_looksGood_45 : decode cX7_looksGood 45 = .ok (.iand, 1) := by decide +kernel
theorem dX7_looksGood_46 : decode cX7_looksGood 46 = .ok (.ifCond .ne 7, 3) := by decide +kernel
theorem dX7_looksGood_49 : decode cX7_looksGood 49 = .ok (.iconst 1, 1) := by decide +kernel
theorem dX7_looksGood_50 : decode cX7_looksGood 50 = .ok (.goto 4, 3) := by decide +kernel
theorem dX7_looksGood_53 : decode cX7_looksGood 53 = .ok (.iconst 0, 1) := by decide +kernel
theorem dX7_looksGood_54 : decode cX7_looksGood 54 = .ok (.istore 5, 2) := by decide +kernel
theorem dX7_looksGood_56 : decode cX7_looksGood 56 = .ok (.iconst 0, 1) := by decide +kernel
theorem dX7_looksGood_57 : decode cX7_looksGood 57 = .ok (.istore 6, 2) := by decide +kernel
theorem dX7_looksGood_59 : decode cX7_looksGood 59 = .ok (.iload 6, 2) := by decide +kernel
theorem dX7_looksGood_61 : decode cX7_looksGood 61 = .ok (.iload_n 1, 1) := by decide +kernel
theorem dX7_looksGood_62 : decode cX7_looksGood 62 = .ok (.if_icmp .gt 50, 3) := by decide +kernel
theorem dX7_looksGood_65 : decode cX7_looksGood 65 = .ok (.iload 5, 2) := by decide +kernel
theorem dX7_looksGood_67 : decode cX7_looksGood 67 = .ok (.ifCond .eq 45, 3) := by decide +kernel
theorem dX7_looksGood_70 : decode cX7_looksGood 70 = .ok (.aload_n 0, 1) := by decide +kernel
theorem dX7_looksGood_71 : decode cX7_looksGood 71 = .ok (.aload_n 0, 1) := by decide +kernel
theorem dX7_looksGood_72 : decode cX7_looksGood 72 = .ok (.getfield 23, 3) := by decide +kernel
theorem dX7_looksGood_75 : decode cX7_looksGood 75 = .ok (.iload_n 2, 1) := by decide +kernel
theorem dX7_looksGood_76 : decode cX7_looksGood 76 = .ok (.iaload, 1) := by decide +kernel
theorem dX7_looksGood_77 : decode cX7_looksGood 77 = .ok (.aload_n 0, 1) := by decide +kernel
theorem dX7_looksGood_78 : decode cX7_looksGood 78 = .ok (.getfield 23, 3) := by decide +kernel
theorem dX7_looksGood_81 : decode cX7_looksGood 81 = .ok (.iload 6, 2) := by decide +kernel
theorem dX7_looksGood_83 : decode cX7_looksGood 83 = .ok (.iaload, 1) := by decide +kernel
theorem dX7_looksGood_84 : decode cX7_looksGood 84 = .ok (.iload 4, 2) := by decide +kernel
theorem dX7_looksGood_86 : decode cX7_looksGood 86 = .ok (.aload_n 0, 1) := by decide +kernel
theorem dX7_looksGood_87 : decode cX7_looksGood 87 = .ok (.getfield 26, 3) := by decide +kernel
theorem dX7_looksGood_90 : decode cX7_looksGood 90 = .ok (.iload 6, 2) := by decide +kernel
theorem dX7_looksGood_92 : decode cX7_looksGood 92 = .ok (.iaload, 1) := by decide +kernel
theorem dX7_looksGood_93 : decode cX7_looksGood 93 = .ok (.invokevirtual 109, 3) := by decide +kernel
theorem dX7_looksGood_96 : decode cX7_looksGood 96 = .ok (.ifCond .ne 7, 3) := by decide +kernel
theorem dX7_looksGood_99 : decode cX7_looksGood 99 = .ok (.iconst 1, 1) := by decide +kernel
theorem dX7_looksGood_100 : decode cX7_looksGood 100 = .ok (.goto 4, 3) := by decide +kernel
theorem dX7_looksGood_103 : decode cX7_looksGood 103 = .ok (.iconst 0, 1) := by decide +kernel
theorem dX7_looksGood_104 : decode cX7_looksGood 104 = .ok (.istore 5, 2) := by decide +kernel
theorem dX7_looksGood_106 : decode cX7_looksGood 106 = .ok (.iinc 6 1, 3) := by decide +kernel
theorem dX7_looksGood_109 : decode cX7_looksGood 109 = .ok (.goto (-50), 3) := by decide +kernel
theorem dX7_looksGood_112 : decode cX7_looksGood 112 = .ok (.iload 5, 2) := by decide +kernel
theorem dX7_looksGood_114 : decode cX7_looksGood 114 = .ok (.istore_n 3, 1) := by decide +kernel
theorem dX7_looksGood_115 : decode cX7_looksGood 115 = .ok (.iinc 4 1, 3) := by decide +kernel
theorem dX7_looksGood_118 : decode cX7_looksGood 118 = .ok (.goto (-101), 3) := by decide +kernel
theorem dX7_looksGood_121 : decode cX7_looksGood 121 = .ok (.iload_n 3, 1) := by decide +kernel
theorem dX7_looksGood_122 : decode cX7_looksGood 122 = .ok (.ifCond .ne 5, 3) := by decide +kernel
theorem dX7_looksGood_125 : decode cX7_looksGood 125 = .ok (.iconst 0, 1) := by decide +kernel
theorem dX7_looksGood_126 : decode cX7_looksGood 126 = .ok (.ireturn, 1) := by decide +kernel
theorem dX7_looksGood_127 : decode cX7_looksGood 127 = .ok (.iinc 2 1, 3) := by decide +kernel
theorem dX7_looksGood_130 : decode cX7_looksGood 130 = .ok (.goto (-126), 3) := by decide +kernel
theorem dX7_looksGood_133 : decode cX7_looksGood 133 = .ok (.iconst 1, 1) := by decide +kernel
theorem dX7_looksGood_134 : decode cX7_looksGood 134 = .ok (.ireturn, 1) := by decide +kernel
theorem dX7_packs_0 : decode cX7_packs 0 = .ok (.aload_n 0, 1) := by decide +kernel
theorem dX7_packs_1 : decode cX7_packs 1 = .ok (.iload_n 1, 1) := by decide +kernel
theorem dX7_packs_2 : decode cX7_packs 2 = .ok (.invokevirtual 113, 3) := by decide +kernel
theorem dX7_packs_5 : decode cX7_packs 5 = .ok (.iconst 0, 1) := by decide +kernel
theorem dX7_packs_6 : decode cX7_packs 6 = .ok (.istore_n 2, 1) := by decide +kernel
theorem dX7_packs_7 : decode cX7_packs 7 = .ok (.aload_n 0, 1) := by decide +kernel
theorem dX7_packs_8 : decode cX7_packs 8 = .ok (.getfield 106, 3) := by decide +kernel
theorem dX7_packs_11 : decode cX7_packs 11 = .ok (.ifCond .le 10, 3) := by decide +kernel
theorem dX7_packs_14 : decode cX7_packs 14 = .ok (.aload_n 0, 1) := by decide +kernel
theorem dX7_packs_15 : decode cX7_packs 15 = .ok (.getfield 26, 3) := by decide +kernel
theorem dX7_packs_18 : decode cX7_packs 18 = .ok (.iconst 0, 1) := by decide +kernel
theorem dX7_packs_19 : decode cX7_packs 19 = .ok (.iconst (-1), 1) := by decide +kernel
theorem dX7_packs_20 : decode cX7_packs 20 = .ok (.iastore, 1) := by decide +kernel
theorem dX7_packs_21 : decode cX7_packs 21 = .ok (.iload_n 2, 1) := by decide +kernel
theorem dX7_packs_22 : decode cX7_packs 22 = .ok (.ifCond .lt 83, 3) := by decide +kernel
theorem dX7_packs_25 : decode cX7_packs 25 = .ok (.iload_n 2, 1) := by decide +kernel
theorem dX7_packs_26 : decode cX7_packs 26 = .ok (.aload_n 0, 1) := by decide +kernel
theorem dX7_packs_27 : decode cX7_packs 27 = .ok (.getfield 106, 3) := by decide +kernel
theorem dX7_packs_30 : decode cX7_packs 30 = .ok (.if_icmp .ge 75, 3) := by decide +kernel
theorem dX7_packs_33 : decode cX7_packs 33 = .ok (.aload_n 0, 1) := by decide +kernel
theorem dX7_packs_34 : decode cX7_packs 34 = .ok (.getfield 26, 3) := by decide +kernel
theorem dX7_packs_37 : decode cX7_packs 37 = .ok (.iload_n 2, 1) := by decide +kernel
theorem dX7_packs_38 : decode cX7_packs 38 = .ok (.dup2, 1) := by decide +kernel
theorem dX7_packs_39 : decode cX7_packs 39 = .ok (.iaload, 1) := by decide +kernel
theorem dX7_packs_40 : decode cX7_packs 40 = .ok (.iconst 1, 1) := by decide +kernel
theorem dX7_packs_41 : decode cX7_packs 41 = .ok (.iadd, 1) := by decide +kernel
theorem dX7_packs_42 : decode cX7_packs 42 = .ok (.iastore, 1) := by decide +kernel
theorem dX7_packs_43 : decode cX7_packs 43 = .ok (.aload_n 0, 1) := by decide +kernel
theorem dX7_packs_44 : decode cX7_packs 44 = .ok (.getfield 26, 3) := by decide +kernel
theorem dX7_packs_47 : decode cX7_packs 47 = .ok (.iload_n 2, 1) := by decide +kernel
theorem dX7_packs_48 : decode cX7_packs 48 = .ok (.iaload, 1) := by decide +kernel
theorem dX7_packs_49 : decode cX7_packs 49 = .ok (.aload_n 0, 1) := by decide +kernel
theorem dX7_packs_50 : decode cX7_packs 50 = .ok (.getfield 7, 3) := by decide +kernel
theorem dX7_packs_53 : decode cX7_packs 53 = .ok (.if_icmp .ne 9, 3) := by decide +kernel
theorem dX7_packs_56 : decode cX7_packs 56 = .ok (.iinc 2 (-1), 3) := by decide +kernel
theorem dX7_packs_59 : decode cX7_packs 59 = .ok (.goto (-38), 3) := by decide +kernel
theorem dX7_packs_62 : decode cX7_packs 62 = .ok (.aload_n 0, 1) := by decide +kernel
theorem dX7_packs_63 : decode cX7_packs 63 = .ok (.iload_n 2, 1) := by decide +kernel
theorem dX7_packs_64 : decode cX7_packs 64 = .ok (.aload_n 0, 1) := by decide +kernel
theorem dX7_packs_65 : decode cX7_packs 65 = .ok (.getfield 26, 3) := by decide +kernel
theorem dX7_packs_68 : decode cX7_packs 68 = .ok (.iload_n 2, 1) := by decide +kernel
theorem dX7_packs_69 : decode cX7_packs 69 = .ok (.iaload, 1) := by decide +kernel
theorem dX7_packs_70 : decode cX7_packs 70 = .ok (.invokevirtual 120, 3) := by decide +kernel
theorem dX7_packs_73 : decode cX7_packs 73 = .ok (.ifCond .eq (-52), 3) := by decide +kernel
theorem dX7_packs_76 : decode cX7_packs 76 = .ok (.aload_n 0, 1) := by decide +kernel
theorem dX7_packs_77 : decode cX7_packs 77 = .ok (.iload_n 2, 1) := by decide +kernel
theorem dX7_packs_78 : decode cX7_packs 78 = .ok (.invokevirtual 128, 3) := by decide +kernel
theorem dX7_packs_81 : decode cX7_packs 81 = .ok (.ifCond .eq (-60), 3) := by decide +kernel
theorem dX7_packs_84 : decode cX7_packs 84 = .ok (.iinc 2 1, 3) := by decide +kernel
theorem dX7_packs_87 : decode cX7_packs 87 = .ok (.iload_n 2, 1) := by decide +kernel
theorem dX7_packs_88 : decode cX7_packs 88 = .ok (.aload_n 0, 1) := by decide +kernel
theorem dX7_packs_89 : decode cX7_packs 89 = .ok (.getfield 106, 3) := by decide +kernel
theorem dX7_packs_92 : decode cX7_packs 92 = .ok (.if_icmp .ge (-71), 3) := by decide +kernel
theorem dX7_packs_95 : decode cX7_packs 95 = .ok (.aload_n 0, 1) := by decide +kernel
theorem dX7_packs_96 : decode cX7_packs 96 = .ok (.getfield 26, 3) := by decide +kernel
theorem dX7_packs_99 : decode cX7_packs 99 = .ok (.iload_n 2, 1) := by decide +kernel
theorem dX7_packs_100 : decode cX7_packs 100 = .ok (.iconst (-1), 1) := by decide +kernel
theorem dX7_packs_101 : decode cX7_packs 101 = .ok (.iastore, 1) := by decide +kernel
theorem dX7_packs_102 : decode cX7_packs 102 = .ok (.goto (-81), 3) := by decide +kernel
theorem dX7_packs_105 : decode cX7_packs 105 = .ok (.iload_n 2, 1) := by decide +kernel
theorem dX7_packs_106 : decode cX7_packs 106 = .ok (.aload_n 0, 1) := by decide +kernel
theorem dX7_packs_107 : decode cX7_packs 107 = .ok (.getfield 106, 3) := by decide +kernel
theorem dX7_packs_110 : decode cX7_packs 110 = .ok (.if_icmp .ne 7, 3) := by decide +kernel
theorem dX7_packs_113 : decode cX7_packs 113 = .ok (.iconst 1, 1) := by decide +kernel
theorem dX7_packs_114 : decode cX7_packs 114 = .ok (.goto 4, 3) := by decide +kernel
theorem dX7_packs_117 : decode cX7_packs 117 = .ok (.iconst 0, 1) := by decide +kernel
theorem dX7_packs_118 : decode cX7_packs 118 = .ok (.ireturn, 1) := by decide +kernel
theorem dX7_fits_0 : decode cX7_fits 0 = .ok (.aload_n 0, 1) := by decide +kernel
theorem dX7_fits_1 : decode cX7_fits 1 = .ok (.iload_n 1, 1) := by decide +kernel
theorem dX7_fits_2 : decode cX7_fits 2 = .ok (.invokevirtual 131, 3) := by decide +kernel
theorem dX7_fits_5 : decode cX7_fits 5 = .ok (.ifCond .eq 8, 3) := by decide +kernel
theorem dX7_fits_8 : decode cX7_fits 8 = .ok (.bipush (-2), 2) := by decide +kernel
theorem dX7_fits_10 : decode cX7_fits 10 = .ok (.goto 8, 3) := by decide +kernel
theorem dX7_fits_13 : decode cX7_fits 13 = .ok (.aload_n 0, 1) := by decide +kernel
theorem dX7_fits_14 : decode cX7_fits 14 = .ok (.iload_n 1, 1) := by decide +kernel
theorem dX7_fits_15 : decode cX7_fits 15 = .ok (.invokevirtual 134, 3) := by decide +kernel
theorem dX7_fits_18 : decode cX7_fits 18 = .ok (.ireturn, 1) := by decide +kernel
theorem dX7_tries_0 : decode cX7_tries 0 = .ok (.aload_n 0, 1) := by decide +kernel
theorem dX7_tries_1 : decode cX7_tries 1 = .ok (.iload_n 1, 1) := by decide +kernel
theorem dX7_tries_2 : decode cX7_tries 2 = .ok (.invokevirtual 131, 3) := by decide +kernel
theorem dX7_tries_5 : decode cX7_tries 5 = .ok (.ifCond .eq 6, 3) := by decide +kernel
theorem dX7_tries_8 : decode cX7_tries 8 = .ok (.bipush (-2), 2) := by decide +kernel
theorem dX7_tries_10 : decode cX7_tries 10 = .ok (.ireturn, 1) := by decide +kernel
theorem dX7_tries_11 : decode cX7_tries 11 = .ok (.aload_n 0, 1) := by decide +kernel
theorem dX7_tries_12 : decode cX7_tries 12 = .ok (.iload_n 1, 1) := by decide +kernel
theorem dX7_tries_13 : decode cX7_tries 13 = .ok (.invokevirtual 134, 3) := by decide +kernel
theorem dX7_tries_16 : decode cX7_tries 16 = .ok (.istore_n 2, 1) := by decide +kernel
theorem dX7_tries_17 : decode cX7_tries 17 = .ok (.aload_n 0, 1) := by decide +kernel
theorem dX7_tries_18 : decode cX7_tries 18 = .ok (.getfield 117, 3) := by decide +kernel
theorem dX7_tries_21 : decode cX7_tries 21 = .ok (.ireturn, 1) := by decide +kernel
theorem dX7_packing_0 : decode cX7_packing 0 = .ok (.aload_n 0, 1) := by decide +kernel
theorem dX7_packing_1 : decode cX7_packing 1 = .ok (.iload_n 1, 1) := by decide +kernel
theorem dX7_packing_2 : decode cX7_packing 2 = .ok (.invokevirtual 131, 3) := by decide +kernel
theorem dX7_packing_5 : decode cX7_packing 5 = .ok (.ifCond .ne 19, 3) := by decide +kernel
theorem dX7_packing_8 : decode cX7_packing 8 = .ok (.aload_n 0, 1) := by decide +kernel
theorem dX7_packing_9 : decode cX7_packing 9 = .ok (.iload_n 2, 1) := by decide +kernel
theorem dX7_packing_10 : decode cX7_packing 10 = .ok (.invokevirtual 96, 3) := by decide +kernel
theorem dX7_packing_13 : decode cX7_packing 13 = .ok (.ifCond .ne 11, 3) := by decide +kernel
theorem dX7_packing_16 : decode cX7_packing 16 = .ok (.iload_n 1, 1) := by decide +kernel
theorem dX7_packing_17 : decode cX7_packing 17 = .ok (.iload_n 2, 1) := by decide +kernel
theorem dX7_packing_18 : decode cX7_packing 18 = .ok (.ishr, 1) := by decide +kernel
theorem dX7_packing_19 : decode cX7_packing 19 = .ok (.iconst 1, 1) := by decide +kernel
theorem dX7_packing_20 : decode cX7_packing 20 = .ok (.iand, 1) := by decide +kernel
theorem dX7_packing_21 : decode cX7_packing 21 = .ok (.ifCond .ne 6, 3) := by decide +kernel
theorem dX7_packing_24 : decode cX7_packing 24 = .ok (.bipush (-2), 2) := by decide +kernel
theorem dX7_packing_26 : decode cX7_packing 26 = .ok (.ireturn, 1) := by decide +kernel
theorem dX7_packing_27 : decode cX7_packing 27 = .ok (.aload_n 0, 1) := by decide +kernel
theorem dX7_packing_28 : decode cX7_packing 28 = .ok (.iload_n 1, 1) := by decide +kernel
theorem dX7_packing_29 : decode cX7_packing 29 = .ok (.invokevirtual 138, 3) := by decide +kernel
theorem dX7_packing_32 : decode cX7_packing 32 = .ok (.ifCond .ne 5, 3) := by decide +kernel
theorem dX7_packing_35 : decode cX7_packing 35 = .ok (.iconst (-1), 1) := by decide +kernel
theorem dX7_packing_36 : decode cX7_packing 36 = .ok (.ireturn, 1) := by decide +kernel
theorem dX7_packing_37 : decode cX7_packing 37 = .ok (.iconst (-1), 1) := by decide +kernel
theorem dX7_packing_38 : decode cX7_packing 38 = .ok (.istore_n 3, 1) := by decide +kernel
theorem dX7_packing_39 : decode cX7_packing 39 = .ok (.iconst 0, 1) := by decide +kernel
theorem dX7_packing_40 : decode cX7_packing 40 = .ok (.istore 4, 2) := by decide +kernel
theorem dX7_packing_42 : decode cX7_packing 42 = .ok (.iload 4, 2) := by decide +kernel
theorem dX7_packing_44 : decode cX7_packing 44 = .ok (.aload_n 0, 1) := by decide +kernel
theorem dX7_packing_45 : decode cX7_packing 45 = .ok (.getfield 106, 3) := by decide +kernel
theorem dX7_packing_48 : decode cX7_packing 48 = .ok (.if_icmp .ge 32, 3) := by decide +kernel
theorem dX7_packing_51 : decode cX7_packing 51 = .ok (.aload_n 0, 1) := by decide +kernel
theorem dX7_packing_52 : decode cX7_packing 52 = .ok (.getfield 23, 3) := by decide +kernel
theorem dX7_packing_55 : decode cX7_packing 55 = .ok (.iload 4, 2) := by decide +kernel
theorem dX7_packing_57 : decode cX7_packing 57 = .ok (.iaload, 1) := by decide +kernel
theorem dX7_packing_58 : decode cX7_packing 58 = .ok (.iload_n 2, 1) := by decide +kernel
theorem dX7_packing_59 : decode cX7_packing 59 = .ok (.if_icmp .ne 13, 3) := by decide +kernel
theorem dX7_packing_62 : decode cX7_packing 62 = .ok (.aload_n 0, 1) := by decide +kernel
theorem dX7_packing_63 : decode cX7_packing 63 = .ok (.getfield 26, 3) := by decide +kernel
theorem dX7_packing_66 : decode cX7_packing 66 = .ok (.iload 4, 2) := by decide +kernel
theorem dX7_packing_68 : decode cX7_packing 68 = .ok (.iaload, 1) := by decide +kernel
theorem dX7_packing_69 : decode cX7_packing 69 = .ok (.goto 4, 3) := by decide +kernel
theorem dX7_packing_72 : decode cX7_packing 72 = .ok (.iload_n 3, 1) := by decide +kernel
theorem dX7_packing_73 : decode cX7_packing 73 = .ok (.istore_n 3, 1) := by decide +kernel
theorem dX7_packing_74 : decode cX7_packing 74 = .ok (.iinc 4 1, 3) := by decide +kernel
theorem dX7_packing_77 : decode cX7_packing 77 = .ok (.goto (-35), 3) := by decide +kernel
theorem dX7_packing_80 : decode cX7_packing 80 = .ok (.iload_n 3, 1) := by decide +kernel
theorem dX7_packing_81 : decode cX7_packing 81 = .ok (.ireturn, 1) := by decide +kernel
theorem dX7_ones_0 : decode cX7_ones 0 = .ok (.iconst 0, 1) := by decide +kernel
theorem dX7_ones_1 : decode cX7_ones 1 = .ok (.istore_n 1, 1) := by decide +kernel
theorem dX7_ones_2 : decode cX7_ones 2 = .ok (.iconst 0, 1) := by decide +kernel
theorem dX7_ones_3 : decode cX7_ones 3 = .ok (.istore_n 2, 1) := by decide +kernel
theorem dX7_ones_4 : decode cX7_ones 4 = .ok (.iload_n 2, 1) := by decide +kernel
theorem dX7_ones_5 : decode cX7_ones 5 = .ok (.bipush 16, 2) := by decide +kernel
theorem dX7_ones_7 : decode cX7_ones 7 = .ok (.if_icmp .ge 17, 3) := by decide +kernel
theorem dX7_ones_10 : decode cX7_ones 10 = .ok (.iload_n 1, 1) := by decide +kernel
theorem dX7_ones_11 : decode cX7_ones 11 = .ok (.iload_n 0, 1) := by decide +kernel
theorem dX7_ones_12 : decode cX7_ones 12 = .ok (.iload_n 2, 1) := by decide +kernel
theorem dX7_ones_13 : decode cX7_ones 13 = .ok (.ishr, 1) := by decide +kernel
theorem dX7_ones_14 : decode cX7_ones 14 = .ok (.iconst 1, 1) := by decide +kernel
theorem dX7_ones_15 : decode cX7_ones 15 = .ok (.iand, 1) := by decide +kernel
theorem dX7_ones_16 : decode cX7_ones 16 = .ok (.iadd, 1) := by decide +kernel
theorem dX7_ones_17 : decode cX7_ones 17 = .ok (.istore_n 1, 1) := by decide +kernel
theorem dX7_ones_18 : decode cX7_ones 18 = .ok (.iinc 2 1, 3) := by decide +kernel
theorem dX7_ones_21 : decode cX7_ones 21 = .ok (.goto (-17), 3) := by decide +kernel
theorem dX7_ones_24 : decode cX7_ones 24 = .ok (.iload_n 1, 1) := by decide +kernel
theorem dX7_ones_25 : decode cX7_ones 25 = .ok (.ireturn, 1) := by decide +kernel
theorem dX7_findGood_0 : decode cX7_findGood 0 = .ok (.iconst 0, 1) := by decide +kernel
theorem dX7_findGood_1 : decode cX7_findGood 1 = .ok (.istore_n 2, 1) := by decide +kernel
theorem dX7_findGood_2 : decode cX7_findGood 2 = .ok (.iload_n 2, 1) := by decide +kernel
theorem dX7_findGood_3 : decode cX7_findGood 3 = .ok (.iload_n 1, 1) := by decide +kernel
theorem dX7_findGood_4 : decode cX7_findGood 4 = .ok (.if_icmp .gt 95, 3) := by decide +kernel
theorem dX7_findGood_7 : decode cX7_findGood 7 = .ok (.iload_n 2, 1) := by decide +kernel
theorem dX7_findGood_8 : decode cX7_findGood 8 = .ok (.iload_n 1, 1) := by decide +kernel
theorem dX7_findGood_9 : decode cX7_findGood 9 = .ok (.iconst (-1), 1) := by decide +kernel
theorem dX7_findGood_10 : decode cX7_findGood 10 = .ok (.ixor, 1) := by decide +kernel
theorem dX7_findGood_11 : decode cX7_findGood 11 = .ok (.iand, 1) := by decide +kernel
theorem dX7_findGood_12 : decode cX7_findGood 12 = .ok (.ifCond .ne 81, 3) := by decide +kernel
theorem dX7_findGood_15 : decode cX7_findGood 15 = .ok (.iconst 1, 1) := by decide +kernel
theorem dX7_findGood_16 : decode cX7_findGood 16 = .ok (.istore_n 3, 1) := by decide +kernel
theorem dX7_findGood_17 : decode cX7_findGood 17 = .ok (.iconst 0, 1) := by decide +kernel
theorem dX7_findGood_18 : decode cX7_findGood 18 = .ok (.istore 4, 2) := by decide +kernel
theorem dX7_findGood_20 : decode cX7_findGood 20 = .ok (.iload 4, 2) := by decide +kernel
theorem dX7_findGood_22 : decode cX7_findGood 22 = .ok (.aload_n 0, 1) := by decide +kernel
theorem dX7_findGood_23 : decode cX7_findGood 23 = .ok (.getfield 87, 3) := by decide +kernel
theorem dX7_findGood_26 : decode cX7_findGood 26 = .ok (.if_icmp .ge 44, 3) := by decide +kernel
theorem dX7_findGood_29 : decode cX7_findGood 29 = .ok (.iload_n 3, 1) := by decide +kernel
theorem dX7_findGood_30 : decode cX7_findGood 30 = .ok (.ifCond .eq 40, 3) := by decide +kernel
theorem dX7_findGood_33 : decode cX7_findGood 33 = .ok (.iload_n 2, 1) := by decide +kernel
theorem dX7_findGood_34 : decode cX7_findGood 34 = .ok (.iload 4, 2) := by decide +kernel
theorem dX7_findGood_36 : decode cX7_findGood 36 = .ok (.ishr, 1) := by decide +kernel
theorem dX7_findGood_37 : decode cX7_findGood 37 = .ok (.iconst 1, 1) := by decide +kernel
theorem dX7_findGood_38 : decode cX7_findGood 38 = .ok (.iand, 1) := by decide +kernel
theorem dX7_findGood_39 : decode cX7_findGood 39 = .ok (.ifCond .eq 19, 3) := by decide +kernel
theorem dX7_findGood_42 : decode cX7_findGood 42 = .ok (.aload_n 0, 1) := by decide +kernel
theorem dX7_findGood_43 : decode cX7_findGood 43 = .ok (.getfield 29, 3) := by decide +kernel
theorem dX7_findGood_46 : decode cX7_findGood 46 = .ok (.iload_n 2, 1) := by decide +kernel
theorem dX7_findGood_47 : decode cX7_findGood 47 = .ok (.iconst 1, 1) := by decide +kernel
theorem dX7_findGood_48 : decode cX7_findGood 48 = .ok (.iload 4, 2) := by decide +kernel
theorem dX7_findGood_50 : decode cX7_findGood 50 = .ok (.ishl, 1) := by decide +kernel
theorem dX7_findGood_51 : decode cX7_findGood 51 = .ok (.iconst (-1), 1) := by decide +kernel
theorem dX7_findGood_52 : decode cX7_findGood 52 = .ok (.ixor, 1) := by decide +kernel
theorem dX7_findGood_53 : decode cX7_findGood 53 = .ok (.iand, 1) := by decide +kernel
theorem dX7_findGood_54 : decode cX7_findGood 54 = .ok (.baload, 1) := by decide +kernel
theorem dX7_findGood_55 : decode cX7_findGood 55 = .ok (.ifCond .eq 7, 3) := by decide +kernel
theorem dX7_findGood_58 : decode cX7_findGood 58 = .ok (.iconst 1, 1) := by decide +kernel
theorem dX7_findGood_59 : decode cX7_findGood 59 = .ok (.goto 4, 3) := by decide +kernel
theorem dX7_findGood_62 : decode cX7_findGood 62 = .ok (.iconst 0, 1) := by decide +kernel
theorem dX7_findGood_63 : decode cX7_findGood 63 = .ok (.istore_n 3, 1) := by decide +kernel
theorem dX7_findGood_64 : decode cX7_findGood 64 = .ok (.iinc 4 1, 3) := by decide +kernel
theorem dX7_findGood_67 : decode cX7_findGood 67 = .ok (.goto (-47), 3) := by decide +kernel
theorem dX7_findGood_70 : decode cX7_findGood 70 = .ok (.aload_n 0, 1) := by decide +kernel
theorem dX7_findGood_71 : decode cX7_findGood 71 = .ok (.getfield 29, 3) := by decide +kernel
theorem dX7_findGood_74 : decode cX7_findGood 74 = .ok (.iload_n 2, 1) := by decide +kernel
theorem dX7_findGood_75 : decode cX7_findGood 75 = .ok (.iload_n 3, 1) := by decide +kernel
theorem dX7_findGood_76 : decode cX7_findGood 76 = .ok (.ifCond .eq 15, 3) := by decide +kernel
theorem dX7_findGood_79 : decode cX7_findGood 79 = .ok (.aload_n 0, 1) := by decide +kernel
theorem dX7_findGood_80 : decode cX7_findGood 80 = .ok (.iload_n 2, 1) := by decide +kernel
theorem dX7_findGood_81 : decode cX7_findGood 81 = .ok (.invokevirtual 138, 3) := by decide +kernel
theorem dX7_findGood_84 : decode cX7_findGood 84 = .ok (.ifCond .eq 7, 3) := by decide +kernel
theorem dX7_findGood_87 : decode cX7_findGood 87 = .ok (.iconst 1, 1) := by decide +kernel
theorem dX7_findGood_88 : decode cX7_findGood 88 = .ok (.goto 4, 3) := by decide +kernel
theorem dX7_findGood_91 : decode cX7_findGood 91 = .ok (.iconst 0, 1) := by decide +kernel
theorem dX7_findGood_92 : decode cX7_findGood 92 = .ok (.bastore, 1) := by decide +kernel
theorem dX7_findGood_93 : decode cX7_findGood 93 = .ok (.iinc 2 1, 3) := by decide +kernel
theorem dX7_findGood_96 : decode cX7_findGood 96 = .ok (.goto (-94), 3) := by decide +kernel
theorem dX7_findGood_99 : decode cX7_findGood 99 = .ok (.return_, 1) := by decide +kernel
theorem dX7_reason_0 : decode cX7_reason 0 = .ok (.aload_n 0, 1) := by decide +kernel
theorem dX7_reason_1 : decode cX7_reason 1 = .ok (.iload_n 1, 1) := by decide +kernel
theorem dX7_reason_2 : decode cX7_reason 2 = .ok (.invokevirtual 131, 3) := by decide +kernel
theorem dX7_reason_5 : decode cX7_reason 5 = .ok (.ifCond .eq 6, 3) := by decide +kernel
theorem dX7_reason_8 : decode cX7_reason 8 = .ok (.bipush (-2), 2) := by decide +kernel
theorem dX7_reason_10 : decode cX7_reason 10 = .ok (.ireturn, 1) := by decide +kernel
theorem dX7_reason_11 : decode cX7_reason 11 = .ok (.aload_n 0, 1) := by decide +kernel
theorem dX7_reason_12 : decode cX7_reason 12 = .ok (.iload_n 1, 1) := by decide +kernel
theorem dX7_reason_13 : decode cX7_reason 13 = .ok (.invokevirtual 138, 3) := by decide +kernel
theorem dX7_reason_16 : decode cX7_reason 16 = .ok (.ifCond .eq 6, 3) := by decide +kernel
theorem dX7_reason_19 : decode cX7_reason 19 = .ok (.bipush (-3), 2) := by decide +kernel
theorem dX7_reason_21 : decode cX7_reason 21 = .ok (.ireturn, 1) := by decide +kernel
theorem dX7_reason_22 : decode cX7_reason 22 = .ok (.aload_n 0, 1) := by decide +kernel
theorem dX7_reason_23 : decode cX7_reason 23 = .ok (.iload_n 1, 1) := by decide +kernel
theorem dX7_reason_24 : decode cX7_reason 24 = .ok (.invokevirtual 141, 3) := by decide +kernel
theorem dX7_reason_27 : decode cX7_reason 27 = .ok (.iload_n 1, 1) := by decide +kernel
theorem dX7_reason_28 : decode cX7_reason 28 = .ok (.istore_n 2, 1) := by decide +kernel
theorem dX7_reason_29 : decode cX7_reason 29 = .ok (.iconst 0, 1) := by decide +kernel
theorem dX7_reason_30 : decode cX7_reason 30 = .ok (.istore_n 3, 1) := by decide +kernel
theorem dX7_reason_31 : decode cX7_reason 31 = .ok (.iload_n 3, 1) := by decide +kernel
theorem dX7_reason_32 : decode cX7_reason 32 = .ok (.iload_n 1, 1) := by decide +kernel
theorem dX7_reason_33 : decode cX7_reason 33 = .ok (.if_icmp .gt 71, 3) := by decide +kernel
theorem dX7_reason_36 : decode cX7_reason 36 = .ok (.iload_n 3, 1) := by decide +kernel
theorem dX7_reason_37 : decode cX7_reason 37 = .ok (.iload_n 1, 1) := by decide +kernel
theorem dX7_reason_38 : decode cX7_reason 38 = .ok (.iconst (-1), 1) := by decide +kernel
theorem dX7_reason_39 : decode cX7_reason 39 = .ok (.ixor, 1) := by decide +kernel
theorem dX7_reason_40 : decode cX7_reason 40 = .ok (.iand, 1) := by decide +kernel
theorem dX7_reason_41 : decode cX7_reason 41 = .ok (.ifCond .ne 16, 3) := by decide +kernel
theorem dX7_reason_44 : decode cX7_reason 44 = .ok (.aload_n 0, 1) := by decide +kernel
theorem dX7_reason_45 : decode cX7_reason 45 = .ok (.getfield 29, 3) := by decide +kernel
theorem dX7_reason_48 : decode cX7_reason 48 = .ok (.iload_n 3, 1) := by decide +kernel
theorem dX7_reason_49 : decode cX7_reason 49 = .ok (.baload, 1) := by decide +kernel
theorem dX7_reason_50 : decode cX7_reason 50 = .ok (.ifCond .ne 7, 3) := by decide +kernel
theorem dX7_reason_53 : decode cX7_reason 53 = .ok (.iconst 1, 1) := by decide +kernel
theorem dX7_reason_54 : decode cX7_reason 54 = .ok (.goto 4, 3) := by decide +kernel
theorem dX7_reason_57 : decode cX7_reason 57 = .ok (.iconst 0, 1) := by decide +kernel
theorem dX7_reason_58 : decode cX7_reason 58 = .ok (.istore 4, 2) := by decide +kernel
theorem dX7_reason_60 : decode cX7_reason 60 = .ok (.iload 4, 2) := by decide +kernel
theorem dX7_reason_62 : decode cX7_reason 62 = .ok (.ifCond .eq 34, 3) := by decide +kernel
theorem dX7_reason_65 : decode cX7_reason 65 = .ok (.iload_n 3, 1) := by decide +kernel
theorem dX7_reason_66 : decode cX7_reason 66 = .ok (.invokestatic 144, 3) := by decide +kernel
theorem dX7_reason_69 : decode cX7_reason 69 = .ok (.iload_n 2, 1) := by decide +kernel
theorem dX7_reason_70 : decode cX7_reason 70 = .ok (.invokestatic 144, 3) := by decide +kernel
theorem dX7_reason_73 : decode cX7_reason 73 = .ok (.if_icmp .lt 19, 3) := by decide +kernel
theorem dX7_reason_76 : decode cX7_reason 76 = .ok (.iload_n 3, 1) := by decide +kernel
theorem dX7_reason_77 : decode cX7_reason 77 = .ok (.invokestatic 144, 3) := by decide +kernel
theorem dX7_reason_80 : decode cX7_reason 80 = .ok (.iload_n 2, 1) := by decide +kernel
theorem dX7_reason_81 : decode cX7_reason 81 = .ok (.invokestatic 144, 3) := by decide +kernel
theorem dX7_reason_84 : decode cX7_reason 84 = .ok (.if_icmp .ne 12, 3) := by decide +kernel
theorem dX7_reason_87 : decode cX7_reason 87 = .ok (.iload_n 3, 1) := by decide +kernel
theorem dX7_reason_88 : decode cX7_reason 88 = .ok (.iload_n 2, 1) := by decide +kernel
theorem dX7_reason_89 : decode cX7_reason 89 = .ok (.if_icmp .ge 7, 3) := by decide +kernel
theorem dX7_reason_92 : decode cX7_reason 92 = .ok (.iload_n 3, 1) := by decide +kernel
theorem dX7_reason_93 : decode cX7_reason 93 = .ok (.goto 4, 3) := by decide +kernel
theorem dX7_reason_96 : decode cX7_reason 96 = .ok (.iload_n 2, 1) := by decide +kernel
theorem dX7_reason_97 : decode cX7_reason 97 = .ok (.istore_n 2, 1) := by decide +kernel
theorem dX7_reason_98 : decode cX7_reason 98 = .ok (.iinc 3 1, 3) := by decide +kernel
theorem dX7_reason_101 : decode cX7_reason 101 = .ok (.goto (-70), 3) := by decide +kernel
theorem dX7_reason_104 : decode cX7_reason 104 = .ok (.iload_n 2, 1) := by decide +kernel
theorem dX7_reason_105 : decode cX7_reason 105 = .ok (.ireturn, 1) := by decide +kernel
theorem dX7_spare_0 : decode cX7_spare 0 = .ok (.aload_n 0, 1) := by decide +kernel
theorem dX7_spare_1 : decode cX7_spare 1 = .ok (.iload_n 1, 1) := by decide +kernel
theorem dX7_spare_2 : decode cX7_spare 2 = .ok (.invokevirtual 131, 3) := by decide +kernel
theorem dX7_spare_5 : decode cX7_spare 5 = .ok (.ifCond .eq 6, 3) := by decide +kernel
theorem dX7_spare_8 : decode cX7_spare 8 = .ok (.bipush (-2), 2) := by decide +kernel
theorem dX7_spare_10 : decode cX7_spare 10 = .ok (.ireturn, 1) := by decide +kernel
theorem dX7_spare_11 : decode cX7_spare 11 = .ok (.aload_n 0, 1) := by decide +kernel
theorem dX7_spare_12 : decode cX7_spare 12 = .ok (.iload_n 1, 1) := by decide +kernel
theorem dX7_spare_13 : decode cX7_spare 13 = .ok (.invokevirtual 138, 3) := by decide +kernel
theorem dX7_spare_16 : decode cX7_spare 16 = .ok (.ifCond .ne 6, 3) := by decide +kernel
theorem dX7_spare_19 : decode cX7_spare 19 = .ok (.bipush (-3), 2) := by decide +kernel
theorem dX7_spare_21 : decode cX7_spare 21 = .ok (.ireturn, 1) := by decide +kernel
theorem dX7_spare_22 : decode cX7_spare 22 = .ok (.iconst 0, 1) := by decide +kernel
theorem dX7_spare_23 : decode cX7_spare 23 = .ok (.istore_n 2, 1) := by decide +kernel
theorem dX7_spare_24 : decode cX7_spare 24 = .ok (.iconst 0, 1) := by decide +kernel
theorem dX7_spare_25 : decode cX7_spare 25 = .ok (.istore_n 3, 1) := by decide +kernel
theorem dX7_spare_26 : decode cX7_spare 26 = .ok (.iload_n 3, 1) := by decide +kernel
theorem dX7_spare_27 : decode cX7_spare 27 = .ok (.aload_n 0, 1) := by decide +kernel
theorem dX7_spare_28 : decode cX7_spare 28 = .ok (.getfield 87, 3) := by decide +kernel
theorem dX7_spare_31 : decode cX7_spare 31 = .ok (.if_icmp .ge 39, 3) := by decide +kernel
theorem dX7_spare_34 : decode cX7_spare 34 = .ok (.iload_n 2, 1) := by decide +kernel
theorem dX7_spare_35 : decode cX7_spare 35 = .ok (.iload_n 1, 1) := by decide +kernel
theorem dX7_spare_36 : decode cX7_spare 36 = .ok (.iload_n 3, 1) := by decide +kernel
theorem dX7_spare_37 : decode cX7_spare 37 = .ok (.ishr, 1) := by decide +kernel
theorem dX7_spare_38 : decode cX7_spare 38 = .ok (.iconst 1, 1) := by decide +kernel
theorem dX7_spare_39 : decode cX7_spare 39 = .ok (.iand, 1) := by decide +kernel
theorem dX7_spare_40 : decode cX7_spare 40 = .ok (.ifCond .ne 21, 3) := by decide +kernel
theorem dX7_spare_43 : decode cX7_spare 43 = .ok (.aload_n 0, 1) := by decide +kernel
theorem dX7_spare_44 : decode cX7_spare 44 = .ok (.iload_n 1, 1) := by decide +kernel
theorem dX7_spare_45 : decode cX7_spare 45 = .ok (.iconst 1, 1) := by decide +kernel
theorem dX7_spare_46 : decode cX7_spare 46 = .ok (.iload_n 3, 1) := by decide +kernel
theorem dX7_spare_47 : decode cX7_spare 47 = .ok (.ishl, 1) := by decide +kernel
theorem dX7_spare_48 : decode cX7_spare 48 = .ok (.ior, 1) := by decide +kernel
theorem dX7_spare_49 : decode cX7_spare 49 = .ok (.invokevirtual 138, 3) := by decide +kernel
theorem dX7_spare_52 : decode cX7_spare 52 = .ok (.ifCond .eq 9, 3) := by decide +kernel
theorem dX7_spare_55 : decode cX7_spare 55 = .ok (.iconst 1, 1) := by decide +kernel
theorem dX7_spare_56 : decode cX7_spare 56 = .ok (.iload_n 3, 1) := by decide +kernel
theorem dX7_spare_57 : decode cX7_spare 57 = .ok (.ishl, 1) := by decide +kernel
theorem dX7_spare_58 : decode cX7_spare 58 = .ok (.goto 4, 3) := by decide +kernel
theorem dX7_spare_61 : decode cX7_spare 61 = .ok (.iconst 0, 1) := by decide +kernel
theorem dX7_spare_62 : decode cX7_spare 62 = .ok (.ior, 1) := by decide +kernel
theorem dX7_spare_63 : decode cX7_spare 63 = .ok (.istore_n 2, 1) := by decide +kernel
theorem dX7_spare_64 : decode cX7_spare 64 = .ok (.iinc 3 1, 3) := by decide +kernel
theorem dX7_spare_67 : decode cX7_spare 67 = .ok (.goto (-41), 3) := by decide +kernel
theorem dX7_spare_70 : decode cX7_spare 70 = .ok (.iload_n 2, 1) := by decide +kernel
theorem dX7_spare_71 : decode cX7_spare 71 = .ok (.ireturn, 1) := by decide +kernel
theorem dX7_old_0 : decode cX7_old 0 = .ok (.aload_n 0, 1) := by decide +kernel
theorem dX7_old_1 : decode cX7_old 1 = .ok (.iload_n 1, 1) := by decide +kernel
theorem dX7_old_2 : decode cX7_old 2 = .ok (.invokevirtual 96, 3) := by decide +kernel
theorem dX7_old_5 : decode cX7_old 5 = .ok (.ifCond .ne 27, 3) := by decide +kernel
theorem dX7_old_8 : decode cX7_old 8 = .ok (.iload_n 2, 1) := by decide +kernel
theorem dX7_old_9 : decode cX7_old 9 = .ok (.i2l, 1) := by decide +kernel
theorem dX7_old_10 : decode cX7_old 10 = .ok (.lconst 0, 1) := by decide +kernel
theorem dX7_old_11 : decode cX7_old 11 = .ok (.ldc2_w 147, 3) := by decide +kernel
theorem dX7_old_14 : decode cX7_old 14 = .ok (.invokestatic 90, 3) := by decide +kernel
theorem dX7_old_17 : decode cX7_old 17 = .ok (.ifCond .eq 15, 3) := by decide +kernel
theorem dX7_old_20 : decode cX7_old 20 = .ok (.iload_n 3, 1) := by decide +kernel
theorem dX7_old_21 : decode cX7_old 21 = .ok (.i2l, 1) := by decide +kernel
theorem dX7_old_22 : decode cX7_old 22 = .ok (.lconst 1, 1) := by decide +kernel
theorem dX7_old_23 : decode cX7_old 23 = .ok (.ldc2_w 149, 3) := by decide +kernel
theorem dX7_old_26 : decode cX7_old 26 = .ok (.invokestatic 90, 3) := by decide +kernel
theorem dX7_old_29 : decode cX7_old 29 = .ok (.ifCond .ne 6, 3) := by decide +kernel
theorem dX7_old_32 : decode cX7_old 32 = .ok (.bipush (-2), 2) := by decide +kernel
theorem dX7_old_34 : decode cX7_old 34 = .ok (.ireturn, 1) := by decide +kernel
theorem dX7_old_35 : decode cX7_old 35 = .ok (.aload_n 0, 1) := by decide +kernel
theorem dX7_old_36 : decode cX7_old 36 = .ok (.getfield 33, 3) := by decide +kernel
theorem dX7_old_39 : decode cX7_old 39 = .ok (.iload_n 1, 1) := by decide +kernel
theorem dX7_old_40 : decode cX7_old 40 = .ok (.baload, 1) := by decide +kernel
theorem dX7_old_41 : decode cX7_old 41 = .ok (.ifCond .eq 6, 3) := by decide +kernel
theorem dX7_old_44 : decode cX7_old 44 = .ok (.bipush (-3), 2) := by decide +kernel
theorem dX7_old_46 : decode cX7_old 46 = .ok (.ireturn, 1) := by decide +kernel
theorem dX7_old_47 : decode cX7_old 47 = .ok (.aload_n 0, 1) := by decide +kernel
theorem dX7_old_48 : decode cX7_old 48 = .ok (.getfield 33, 3) := by decide +kernel
theorem dX7_old_51 : decode cX7_old 51 = .ok (.iload_n 1, 1) := by decide +kernel
theorem dX7_old_52 : decode cX7_old 52 = .ok (.iconst 1, 1) := by decide +kernel
theorem dX7_old_53 : decode cX7_old 53 = .ok (.bastore, 1) := by decide +kernel
theorem dX7_old_54 : decode cX7_old 54 = .ok (.aload_n 0, 1) := by decide +kernel
theorem dX7_old_55 : decode cX7_old 55 = .ok (.getfield 36, 3) := by decide +kernel
theorem dX7_old_58 : decode cX7_old 58 = .ok (.iload_n 1, 1) := by decide +kernel
theorem dX7_old_59 : decode cX7_old 59 = .ok (.iload_n 2, 1) := by decide +kernel
theorem dX7_old_60 : decode cX7_old 60 = .ok (.iastore, 1) := by decide +kernel
theorem dX7_old_61 : decode cX7_old 61 = .ok (.aload_n 0, 1) := by decide +kernel
theorem dX7_old_62 : decode cX7_old 62 = .ok (.getfield 39, 3) := by decide +kernel
theorem dX7_old_65 : decode cX7_old 65 = .ok (.iload_n 1, 1) := by decide +kernel
theorem dX7_old_66 : decode cX7_old 66 = .ok (.iload_n 3, 1) := by decide +kernel
theorem dX7_old_67 : decode cX7_old 67 = .ok (.iastore, 1) := by decide +kernel
theorem dX7_old_68 : decode cX7_old 68 = .ok (.iconst 1, 1) := by decide +kernel
theorem dX7_old_69 : decode cX7_old 69 = .ok (.ireturn, 1) := by decide +kernel
theorem dX7_clock_0 : decode cX7_clock 0 = .ok (.iload_n 1, 1) := by decide +kernel
theorem dX7_clock_1 : decode cX7_clock 1 = .ok (.i2l, 1) := by decide +kernel
theorem dX7_clock_2 : decode cX7_clock 2 = .ok (.lconst 1, 1) := by decide +kernel
theorem dX7_clock_3 : decode cX7_clock 3 = .ok (.ldc2_w 147, 3) := by decide +kernel
theorem dX7_clock_6 : decode cX7_clock 6 = .ok (.invokestatic 90, 3) := by decide +kernel
theorem dX7_clock_9 : decode cX7_clock 9 = .ok (.ifCond .eq 23, 3) := by decide +kernel
theorem dX7_clock_12 : decode cX7_clock 12 = .ok (.iload_n 2, 1) := by decide +kernel
theorem dX7_clock_13 : decode cX7_clock 13 = .ok (.i2l, 1) := by decide +kernel
theorem dX7_clock_14 : decode cX7_clock 14 = .ok (.lconst 1, 1) := by decide +kernel
theorem dX7_clock_15 : decode cX7_clock 15 = .ok (.ldc2_w 151, 3) := by decide +kernel
theorem dX7_clock_18 : decode cX7_clock 18 = .ok (.invokestatic 90, 3) := by decide +kernel
theorem dX7_clock_21 : decode cX7_clock 21 = .ok (.ifCond .eq 11, 3) := by decide +kernel
theorem dX7_clock_24 : decode cX7_clock 24 = .ok (.iload_n 1, 1) := by decide +kernel
theorem dX7_clock_25 : decode cX7_clock 25 = .ok (.bipush 50, 2) := by decide +kernel
theorem dX7_clock_27 : decode cX7_clock 27 = .ok (.iload_n 2, 1) := by decide +kernel
theorem dX7_clock_28 : decode cX7_clock 28 = .ok (.imul, 1) := by decide +kernel
theorem dX7_clock_29 : decode cX7_clock 29 = .ok (.if_icmp .le 6, 3) := by decide +kernel
theorem dX7_clock_32 : decode cX7_clock 32 = .ok (.bipush (-2), 2) := by decide +kernel
theorem dX7_clock_34 : decode cX7_clock 34 = .ok (.ireturn, 1) := by decide +kernel
theorem dX7_clock_35 : decode cX7_clock 35 = .ok (.aload_n 0, 1) := by decide +kernel
theorem dX7_clock_36 : decode cX7_clock 36 = .ok (.iload_n 1, 1) := by decide +kernel
theorem dX7_clock_37 : decode cX7_clock 37 = .ok (.putfield 42, 3) := by decide +kernel
theorem dX7_clock_40 : decode cX7_clock 40 = .ok (.aload_n 0, 1) := by decide +kernel
theorem dX7_clock_41 : decode cX7_clock 41 = .ok (.iload_n 2, 1) := by decide +kernel
theorem dX7_clock_42 : decode cX7_clock 42 = .ok (.putfield 45, 3) := by decide +kernel
theorem dX7_clock_45 : decode cX7_clock 45 = .ok (.iconst 1, 1) := by decide +kernel
theorem dX7_clock_46 : decode cX7_clock 46 = .ok (.ireturn, 1) := by decide +kernel
theorem dX7_olds_0 : decode cX7_olds 0 = .ok (.iconst 0, 1) := by decide +kernel
theorem dX7_olds_1 : decode cX7_olds 1 = .ok (.istore_n 1, 1) := by decide +kernel
theorem dX7_olds_2 : decode cX7_olds 2 = .ok (.iconst 0, 1) := by decide +kernel
theorem dX7_olds_3 : decode cX7_olds 3 = .ok (.istore_n 2, 1) := by decide +kernel
theorem dX7_olds_4 : decode cX7_olds 4 = .ok (.iload_n 2, 1) := by decide +kernel
theorem dX7_olds_5 : decode cX7_olds 5 = .ok (.aload_n 0, 1) := by decide +kernel
theorem dX7_olds_6 : decode cX7_olds 6 = .ok (.getfield 87, 3) := by decide +kernel
theorem dX7_olds_9 : decode cX7_olds 9 = .ok (.if_icmp .ge 23, 3) := by decide +kernel
theorem dX7_olds_12 : decode cX7_olds 12 = .ok (.iload_n 1, 1) := by decide +kernel
theorem dX7_olds_13 : decode cX7_olds 13 = .ok (.aload_n 0, 1) := by decide +kernel
theorem dX7_olds_14 : decode cX7_olds 14 = .ok (.getfield 33, 3) := by decide +kernel
theorem dX7_olds_17 : decode cX7_olds 17 = .ok (.iload_n 2, 1) := by decide +kernel
theorem dX7_olds_18 : decode cX7_olds 18 = .ok (.baload, 1) := by decide +kernel
theorem dX7_olds_19 : decode cX7_olds 19 = .ok (.invokestatic 124, 3) := by decide +kernel
theorem dX7_olds_22 : decode cX7_olds 22 = .ok (.iload_n 2, 1) := by decide +kernel
theorem dX7_olds_23 : decode cX7_olds 23 = .ok (.ishl, 1) := by decide +kernel
theorem dX7_olds_24 : decode cX7_olds 24 = .ok (.ior, 1) := by decide +kernel
theorem dX7_olds_25 : decode cX7_olds 25 = .ok (.istore_n 1, 1) := by decide +kernel
theorem dX7_olds_26 : decode cX7_olds 26 = .ok (.iinc 2 1, 3) := by decide +kernel
theorem dX7_olds_29 : decode cX7_olds 29 = .ok (.goto (-25), 3) := by decide +kernel
theorem dX7_olds_32 : decode cX7_olds 32 = .ok (.iload_n 1, 1) := by decide +kernel
theorem dX7_olds_33 : decode cX7_olds 33 = .ok (.ireturn, 1) := by decide +kernel
theorem dX7_goDown_0 : decode cX7_goDown 0 = .ok (.aload_n 0, 1) := by decide +kernel
theorem dX7_goDown_1 : decode cX7_goDown 1 = .ok (.invokevirtual 153, 3) := by decide +kernel
theorem dX7_goDown_4 : decode cX7_goDown 4 = .ok (.istore_n 3, 1) := by decide +kernel
theorem dX7_goDown_5 : decode cX7_goDown 5 = .ok (.aload_n 0, 1) := by decide +kernel
theorem dX7_goDown_6 : decode cX7_goDown 6 = .ok (.iconst 0, 1) := by decide +kernel
theorem dX7_goDown_7 : decode cX7_goDown 7 = .ok (.putfield 157, 3) := by decide +kernel
theorem dX7_goDown_10 : decode cX7_goDown 10 = .ok (.aload_n 0, 1) := by decide +kernel
theorem dX7_goDown_11 : decode cX7_goDown 11 = .ok (.iconst 0, 1) := by decide +kernel
theorem dX7_goDown_12 : decode cX7_goDown 12 = .ok (.putfield 160, 3) := by decide +kernel
theorem dX7_goDown_15 : decode cX7_goDown 15 = .ok (.aload_n 0, 1) := by decide +kernel
theorem dX7_goDown_16 : decode cX7_goDown 16 = .ok (.iconst 0, 1) := by decide +kernel
theorem dX7_goDown_17 : decode cX7_goDown 17 = .ok (.putfield 163, 3) := by decide +kernel
theorem dX7_goDown_20 : decode cX7_goDown 20 = .ok (.aload_n 0, 1) := by decide +kernel
theorem dX7_goDown_21 : decode cX7_goDown 21 = .ok (.getfield 42, 3) := by decide +kernel
theorem dX7_goDown_24 : decode cX7_goDown 24 = .ok (.istore 4, 2) := by decide +kernel
theorem dX7_goDown_26 : decode cX7_goDown 26 = .ok (.aload_n 0, 1) := by decide +kernel
theorem dX7_goDown_27 : decode cX7_goDown 27 = .ok (.getfield 42, 3) := by decide +kernel
theorem dX7_goDown_30 : decode cX7_goDown 30 = .ok (.istore 5, 2) := by decide +kernel
theorem dX7_goDown_32 : decode cX7_goDown 32 = .ok (.aload_n 0, 1) := by decide +kernel
theorem dX7_goDown_33 : decode cX7_goDown 33 = .ok (.getfield 157, 3) := by decide +kernel
theorem dX7_goDown_36 : decode cX7_goDown 36 = .ok (.aload_n 0, 1) := by decide +kernel
theorem dX7_goDown_37 : decode cX7_goDown 37 = .ok (.getfield 160, 3) := by decide +kernel
theorem dX7_goDown_40 : decode cX7_goDown 40 = .ok (.ior, 1) := by decide +kernel
theorem dX7_goDown_41 : decode cX7_goDown 41 = .ok (.iload_n 3, 1) := by decide +kernel
theorem dX7_goDown_42 : decode cX7_goDown 42 = .ok (.if_icmp .eq 242, 3) := by decide +kernel
theorem dX7_goDown_45 : decode cX7_goDown 45 = .ok (.iconst 0, 1) := by decide +kernel
theorem dX7_goDown_46 : decode cX7_goDown 46 = .ok (.istore 6, 2) := by decide +kernel
theorem dX7_goDown_48 : decode cX7_goDown 48 = .ok (.iload 6, 2) := by decide +kernel
theorem dX7_goDown_50 : decode cX7_goDown 50 = .ok (.aload_n 0, 1) := by decide +kernel
theorem dX7_goDown_51 : decode cX7_goDown 51 = .ok (.getfield 87, 3) := by decide +kernel
theorem dX7_goDown_54 : decode cX7_goDown 54 = .ok (.if_icmp .ge 191, 3) := by decide +kernel
theorem dX7_goDown_57 : decode cX7_goDown 57 = .ok (.aload_n 0, 1) := by decide +kernel
theorem dX7_goDown_58 : decode cX7_goDown 58 = .ok (.getfield 48, 3) := by decide +kernel
theorem dX7_goDown_61 : decode cX7_goDown 61 = .ok (.iload 6, 2) := by decide +kernel
theorem dX7_goDown_63 : decode cX7_goDown 63 = .ok (.aload_n 0, 1) := by decide +kernel
theorem dX7_goDown_64 : decode cX7_goDown 64 = .ok (.getfield 160, 3) := by decide +kernel
theorem dX7_goDown_67 : decode cX7_goDown 67 = .ok (.iload 6, 2) := by decide +kernel
theorem dX7_goDown_69 : decode cX7_goDown 69 = .ok (.ishr, 1) := by decide +kernel
theorem dX7_goDown_70 : decode cX7_goDown 70 = .ok (.iconst 1, 1) := by decide +kernel
theorem dX7_goDown_71 : decode cX7_goDown 71 = .ok (.iand, 1) := by decide +kernel
theorem dX7_goDown_72 : decode cX7_goDown 72 = .ok (.iconst 1, 1) := by decide +kernel
theorem dX7_goDown_73 : decode cX7_goDown 73 = .ok (.if_icmp .ne 13, 3) := by decide +kernel
theorem dX7_goDown_76 : decode cX7_goDown 76 = .ok (.aload_n 0, 1) := by decide +kernel
theorem dX7_goDown_77 : decode cX7_goDown 77 = .ok (.getfield 48, 3) := by decide +kernel
theorem dX7_goDown_80 : decode cX7_goDown 80 = .ok (.iload 6, 2) := by decide +kernel
theorem dX7_goDown_82 : decode cX7_goDown 82 = .ok (.iaload, 1) := by decide +kernel
theorem dX7_goDown_83 : decode cX7_goDown 83 = .ok (.goto 4, 3) := by decide +kernel
theorem dX7_goDown_86 : decode cX7_goDown 86 = .ok (.iconst 0, 1) := by decide +kernel
theorem dX7_goDown_87 : decode cX7_goDown 87 = .ok (.iastore, 1) := by decide +kernel
theorem dX7_goDown_88 : decode cX7_goDown 88 = .ok (.iload_n 3, 1) := by decide +kernel
theorem dX7_goDown_89 : decode cX7_goDown 89 = .ok (.iload 6, 2) := by decide +kernel
theorem dX7_goDown_91 : decode cX7_goDown 91 = .ok (.ishr, 1) := by decide +kernel
theorem dX7_goDown_92 : decode cX7_goDown 92 = .ok (.iconst 1, 1) := by decide +kernel
theorem dX7_goDown_93 : decode cX7_goDown 93 = .ok (.iand, 1) := by decide +kernel
theorem dX7_goDown_94 : decode cX7_goDown 94 = .ok (.iconst 1, 1) := by decide +kernel
theorem dX7_goDown_95 : decode cX7_goDown 95 = .ok (.if_icmp .ne 144, 3) := by decide +kernel
theorem dX7_goDown_98 : decode cX7_goDown 98 = .ok (.aload_n 0, 1) := by decide +kernel
theorem dX7_goDown_99 : decode cX7_goDown 99 = .ok (.getfield 157, 3) := by decide +kernel
theorem dX7_goDown_102 : decode cX7_goDown 102 = .ok (.aload_n 0, 1) := by decide +kernel
theorem dX7_goDown_103 : decode cX7_goDown 103 = .ok (.getfield 160, 3) := by decide +kernel
theorem dX7_goDown_106 : decode cX7_goDown 106 = .ok (.ior, 1) := by decide +kernel
theorem dX7_goDown_107 : decode cX7_goDown 107 = .ok (.iload 6, 2) := by decide +kernel
theorem dX7_goDown_109 : decode cX7_goDown 109 = .ok (.ishr, 1) := by decide +kernel
theorem dX7_goDown_110 : decode cX7_goDown 110 = .ok (.iconst 1, 1) := by decide +kernel
theorem dX7_goDown_111 : decode cX7_goDown 111 = .ok (.iand, 1) := by decide +kernel
theorem dX7_goDown_112 : decode cX7_goDown 112 = .ok (.ifCond .ne 127, 3) := by decide +kernel
theorem dX7_goDown_115 : decode cX7_goDown 115 = .ok (.iload 6, 2) := by decide +kernel
theorem dX7_goDown_117 : decode cX7_goDown 117 = .ok (.iload_n 1, 1) := by decide +kernel
theorem dX7_goDown_118 : decode cX7_goDown 118 = .ok (.if_icmp .ne 7, 3) := by decide +kernel
theorem dX7_goDown_121 : decode cX7_goDown 121 = .ok (.iload_n 2, 1) := by decide +kernel
theorem dX7_goDown_122 : decode cX7_goDown 122 = .ok (.goto 10, 3) := by decide +kernel
theorem dX7_goDown_125 : decode cX7_goDown 125 = .ok (.aload_n 0, 1) := by decide +kernel
theorem dX7_goDown_126 : decode cX7_goDown 126 = .ok (.getfield 36, 3) := by decide +kernel
theorem dX7_goDown_129 : decode cX7_goDown 129 = .ok (.iload 6, 2) := by decide +kernel
theorem dX7_goDown_131 : decode cX7_goDown 131 = .ok (.iaload, 1) := by decide +kernel
theorem dX7_goDown_132 : decode cX7_goDown 132 = .ok (.istore 7, 2) := by decide +kernel
theorem dX7_goDown_134 : decode cX7_goDown 134 = .ok (.aload_n 0, 1) := by decide +kernel
theorem dX7_goDown_135 : decode cX7_goDown 135 = .ok (.aload_n 0, 1) := by decide +kernel
theorem dX7_goDown_136 : decode cX7_goDown 136 = .ok (.getfield 157, 3) := by decide +kernel
theorem dX7_goDown_139 : decode cX7_goDown 139 = .ok (.iconst 1, 1) := by decide +kernel
theorem dX7_goDown_140 : decode cX7_goDown 140 = .ok (.iload 6, 2) := by decide +kernel
theorem dX7_goDown_142 : decode cX7_goDown 142 = .ok (.ishl, 1) := by decide +kernel
theorem dX7_goDown_143 : decode cX7_goDown 143 = .ok (.ior, 1) := by decide +kernel
theorem dX7_goDown_144 : decode cX7_goDown 144 = .ok (.invokevirtual 134, 3) := by decide +kernel
theorem dX7_goDown_147 : decode cX7_goDown 147 = .ok (.iconst 1, 1) := by decide +kernel
theorem dX7_goDown_148 : decode cX7_goDown 148 = .ok (.if_icmp .eq 47, 3) := by decide +kernel
theorem dX7_goDown_151 : decode cX7_goDown 151 = .ok (.aload_n 0, 1) := by decide +kernel
theorem dX7_goDown_152 : decode cX7_goDown 152 = .ok (.dup, 1) := by decide +kernel
theorem dX7_goDown_153 : decode cX7_goDown 153 = .ok (.getfield 160, 3) := by decide +kernel
theorem dX7_goDown_156 : decode cX7_goDown 156 = .ok (.iconst 1, 1) := by decide +kernel
theorem dX7_goDown_157 : decode cX7_goDown 157 = .ok (.iload 6, 2) := by decide +kernel
theorem dX7_goDown_159 : decode cX7_goDown 159 = .ok (.ishl, 1) := by decide +kernel
theorem dX7_goDown_160 : decode cX7_goDown 160 = .ok (.ior, 1) := by decide +kernel
theorem dX7_goDown_161 : decode cX7_goDown 161 = .ok (.putfield 160, 3) := by decide +kernel
theorem dX7_goDown_164 : decode cX7_goDown 164 = .ok (.aload_n 0, 1) := by decide +kernel
theorem dX7_goDown_165 : decode cX7_goDown 165 = .ok (.getfield 48, 3) := by decide +kernel
theorem dX7_goDown_168 : decode cX7_goDown 168 = .ok (.iload 6, 2) := by decide +kernel
theorem dX7_goDown_170 : decode cX7_goDown 170 = .ok (.iload 5, 2) := by decide +kernel
theorem dX7_goDown_172 : decode cX7_goDown 172 = .ok (.aload_n 0, 1) := by decide +kernel
theorem dX7_goDown_173 : decode cX7_goDown 173 = .ok (.getfield 39, 3) := by decide +kernel
theorem dX7_goDown_176 : decode cX7_goDown 176 = .ok (.iload 6, 2) := by decide +kernel
theorem dX7_goDown_178 : decode cX7_goDown 178 = .ok (.iaload, 1) := by decide +kernel
theorem dX7_goDown_179 : decode cX7_goDown 179 = .ok (.imul, 1) := by decide +kernel
theorem dX7_goDown_180 : decode cX7_goDown 180 = .ok (.iastore, 1) := by decide +kernel
theorem dX7_goDown_181 : decode cX7_goDown 181 = .ok (.aload_n 0, 1) := by decide +kernel
theorem dX7_goDown_182 : decode cX7_goDown 182 = .ok (.getfield 51, 3) := by decide +kernel
theorem dX7_goDown_185 : decode cX7_goDown 185 = .ok (.iload 6, 2) := by decide +kernel
theorem dX7_goDown_187 : decode cX7_goDown 187 = .ok (.aload_n 0, 1) := by decide +kernel
theorem dX7_goDown_188 : decode cX7_goDown 188 = .ok (.getfield 163, 3) := by decide +kernel
theorem dX7_goDown_191 : decode cX7_goDown 191 = .ok (.iastore, 1) := by decide +kernel
theorem dX7_goDown_192 : decode cX7_goDown 192 = .ok (.goto 47, 3) := by decide +kernel
theorem dX7_goDown_195 : decode cX7_goDown 195 = .ok (.iload 4, 2) := by decide +kernel
theorem dX7_goDown_197 : decode cX7_goDown 197 = .ok (.aload_n 0, 1) := by decide +kernel
theorem dX7_goDown_198 : decode cX7_goDown 198 = .ok (.getfield 39, 3) := by decide +kernel
theorem dX7_goDown_201 : decode cX7_goDown 201 = .ok (.iload 6, 2) := by decide +kernel
theorem dX7_goDown_203 : decode cX7_goDown 203 = .ok (.iaload, 1) := by decide +kernel
theorem dX7_goDown_204 : decode cX7_goDown 204 = .ok (.imul, 1) := by decide +kernel
theorem dX7_goDown_205 : decode cX7_goDown 205 = .ok (.iload 7, 2) := by decide +kernel
theorem dX7_goDown_207 : decode cX7_goDown 207 = .ok (.if_icmp .lt 8, 3) := by decide +kernel
theorem dX7_goDown_210 : decode cX7_goDown 210 = .ok (.iload 4, 2) := by decide +kernel
theorem dX7_goDown_212 : decode cX7_goDown 212 = .ok (.ifCond .ne 27, 3) := by decide +kernel
theorem dX7_goDown_215 : decode cX7_goDown 215 = .ok (.aload_n 0, 1) := by decide +kernel
theorem dX7_goDown_216 : decode cX7_goDown 216 = .ok (.dup, 1) := by decide +kernel
theorem dX7_goDown_217 : decode cX7_goDown 217 = .ok (.getfield 157, 3) := by decide +kernel
theorem dX7_goDown_220 : decode cX7_goDown 220 = .ok (.iconst 1, 1) := by decide +kernel
theorem dX7_goDown_221 : decode cX7_goDown 221 = .ok (.iload 6, 2) := by decide +kernel
theorem dX7_goDown_223 : decode cX7_goDown 223 = .ok (.ishl, 1) := by decide +kernel
theorem dX7_goDown_224 : decode cX7_goDown 224 = .ok (.ior, 1) := by decide +kernel
theorem dX7_goDown_225 : decode cX7_goDown 225 = .ok (.putfield 157, 3) := by decide +kernel
theorem dX7_goDown_228 : decode cX7_goDown 228 = .ok (.aload_n 0, 1) := by decide +kernel
theorem dX7_goDown_229 : decode cX7_goDown 229 = .ok (.getfield 51, 3) := by decide +kernel
theorem dX7_goDown_232 : decode cX7_goDown 232 = .ok (.iload 6, 2) := by decide +kernel
theorem dX7_goDown_234 : decode cX7_goDown 234 = .ok (.aload_n 0, 1) := by decide +kernel
theorem dX7_goDown_235 : decode cX7_goDown 235 = .ok (.getfield 163, 3) := by decide +kernel
theorem dX7_goDown_238 : decode cX7_goDown 238 = .ok (.iastore, 1) := by decide +kernel
theorem dX7_goDown_239 : decode cX7_goDown 239 = .ok (.iinc 6 1, 3) := by decide +kernel
theorem dX7_goDown_242 : decode cX7_goDown 242 = .ok (.goto (-194), 3) := by decide +kernel
theorem dX7_goDown_245 : decode cX7_goDown 245 = .ok (.aload_n 0, 1) := by decide +kernel
theorem dX7_goDown_246 : decode cX7_goDown 246 = .ok (.dup, 1) := by decide +kernel
theorem dX7_goDown_247 : decode cX7_goDown 247 = .ok (.getfield 163, 3) := by decide +kernel
theorem dX7_goDown_250 : decode cX7_goDown 250 = .ok (.iconst 1, 1) := by decide +kernel
theorem dX7_goDown_251 : decode cX7_goDown 251 = .ok (.iadd, 1) := by decide +kernel
theorem dX7_goDown_252 : decode cX7_goDown 252 = .ok (.putfield 163, 3) := by decide +kernel
theorem dX7_goDown_255 : decode cX7_goDown 255 = .ok (.iload 4, 2) := by decide +kernel
theorem dX7_goDown_257 : decode cX7_goDown 257 = .ok (.istore 5, 2) := by decide +kernel
theorem dX7_goDown_259 : decode cX7_goDown 259 = .ok (.iload 4, 2) := by decide +kernel
theorem dX7_goDown_261 : decode cX7_goDown 261 = .ok (.aload_n 0, 1) := by decide +kernel
theorem dX7_goDown_262 : decode cX7_goDown 262 = .ok (.getfield 45, 3) := by decide +kernel
theorem dX7_goDown_265 : decode cX7_goDown 265 = .ok (.if_icmp .le 13, 3) := by decide +kernel
theorem dX7_goDown_268 : decode cX7_goDown 268 = .ok (.iload 4, 2) := by decide +kernel
theorem dX7_goDown_270 : decode cX7_goDown 270 = .ok (.aload_n 0, 1) := by decide +kernel
theorem dX7_goDown_271 : decode cX7_goDown 271 = .ok (.getfield 45, 3) := by decide +kernel
theorem dX7_goDown_274 : decode cX7_goDown 274 = .ok (.isub, 1) := by decide +kernel
theorem dX7_goDown_275 : decode cX7_goDown 275 = .ok (.goto 4, 3) := by decide +kernel
theorem dX7_goDown_278 : decode cX7_goDown 278 = .ok (.iconst 0, 1) := by decide +kernel
theorem dX7_goDown_279 : decode cX7_goDown 279 = .ok (.istore 4, 2) := by decide +kernel
theorem dX7_goDown_281 : decode cX7_goDown 281 = .ok (.goto (-249), 3) := by decide +kernel
theorem dX7_goDown_284 : decode cX7_goDown 284 = .ok (.return_, 1) := by decide +kernel
theorem dX7_paidAll_0 : decode cX7_paidAll 0 = .ok (.iconst 0, 1) := by decide +kernel
theorem dX7_paidAll_1 : decode cX7_paidAll 1 = .ok (.istore_n 1, 1) := by decide +kernel
theorem dX7_paidAll_2 : decode cX7_paidAll 2 = .ok (.iconst 0, 1) := by decide +kernel
theorem dX7_paidAll_3 : decode cX7_paidAll 3 = .ok (.istore_n 2, 1) := by decide +kernel
theorem dX7_paidAll_4 : decode cX7_paidAll 4 = .ok (.iload_n 2, 1) := by decide +kernel
theorem dX7_paidAll_5 : decode cX7_paidAll 5 = .ok (.aload_n 0, 1) := by decide +kernel
theorem dX7_paidAll_6 : decode cX7_paidAll 6 = .ok (.getfield 87, 3) := by decide +kernel
theorem dX7_paidAll_9 : decode cX7_paidAll 9 = .ok (.if_icmp .ge 34, 3) := by decide +kernel
theorem dX7_paidAll_12 : decode cX7_paidAll 12 = .ok (.iload_n 1, 1) := by decide +kernel
theorem dX7_paidAll_13 : decode cX7_paidAll 13 = .ok (.aload_n 0, 1) := by decide +kernel
theorem dX7_paidAll_14 : decode cX7_paidAll 14 = .ok (.getfield 160, 3) := by decide +kernel
theorem dX7_paidAll_17 : decode cX7_paidAll 17 = .ok (.iload_n 2, 1) := by decide +kernel
theorem dX7_paidAll_18 : decode cX7_paidAll 18 = .ok (.ishr, 1) := by decide +kernel
theorem dX7_paidAll_19 : decode cX7_paidAll 19 = .ok (.iconst 1, 1) := by decide +kernel
theorem dX7_paidAll_20 : decode cX7_paidAll 20 = .ok (.iand, 1) := by decide +kernel
theorem dX7_paidAll_21 : decode cX7_paidAll 21 = .ok (.iconst 1, 1) := by decide +kernel
theorem dX7_paidAll_22 : decode cX7_paidAll 22 = .ok (.if_icmp .ne 12, 3) := by decide +kernel
theorem dX7_paidAll_25 : decode cX7_paidAll 25 = .ok (.aload_n 0, 1) := by decide +kernel
theorem dX7_paidAll_26 : decode cX7_paidAll 26 = .ok (.getfield 48, 3) := by decide +kernel
theorem dX7_paidAll_29 : decode cX7_paidAll 29 = .ok (.iload_n 2, 1) := by decide +kernel
theorem dX7_paidAll_30 : decode cX7_paidAll 30 = .ok (.iaload, 1) := by decide +kernel
theorem dX7_paidAll_31 : decode cX7_paidAll 31 = .ok (.goto 4, 3) := by decide +kernel
theorem dX7_paidAll_34 : decode cX7_paidAll 34 = .ok (.iconst 0, 1) := by decide +kernel
theorem dX7_paidAll_35 : decode cX7_paidAll 35 = .ok (.iadd, 1) := by decide +kernel
theorem dX7_paidAll_36 : decode cX7_paidAll 36 = .ok (.istore_n 1, 1) := by decide +kernel
theorem dX7_paidAll_37 : decode cX7_paidAll 37 = .ok (.iinc 2 1, 3) := by decide +kernel
theorem dX7_paidAll_40 : decode cX7_paidAll 40 = .ok (.goto (-36), 3) := by decide +kernel
theorem dX7_paidAll_43 : decode cX7_paidAll 43 = .ok (.iload_n 1, 1) := by decide +kernel
theorem dX7_paidAll_44 : decode cX7_paidAll 44 = .ok (.ireturn, 1) := by decide +kernel
theorem dX7_run_0 : decode cX7_run 0 = .ok (.iload_n 1, 1) := by decide +kernel
theorem dX7_run_1 : decode cX7_run 1 = .ok (.i2l, 1) := by decide +kernel
theorem dX7_run_2 : decode cX7_run 2 = .ok (.lconst 0, 1) := by decide +kernel
theorem dX7_run_3 : decode cX7_run 3 = .ok (.ldc2_w 166, 3) := by decide +kernel
theorem dX7_run_6 : decode cX7_run 6 = .ok (.invokestatic 90, 3) := by decide +kernel
theorem dX7_run_9 : decode cX7_run 9 = .ok (.ifCond .ne 6, 3) := by decide +kernel
theorem dX7_run_12 : decode cX7_run 12 = .ok (.bipush (-2), 2) := by decide +kernel
theorem dX7_run_14 : decode cX7_run 14 = .ok (.ireturn, 1) := by decide +kernel
theorem dX7_run_15 : decode cX7_run 15 = .ok (.aload_n 0, 1) := by decide +kernel
theorem dX7_run_16 : decode cX7_run 16 = .ok (.iconst (-1), 1) := by decide +kernel
theorem dX7_run_17 : decode cX7_run 17 = .ok (.iconst 0, 1) := by decide +kernel
theorem dX7_run_18 : decode cX7_run 18 = .ok (.invokevirtual 168, 3) := by decide +kernel
theorem dX7_run_21 : decode cX7_run 21 = .ok (.iload_n 1, 1) := by decide +kernel
theorem dX7_run_22 : decode cX7_run 22 = .ok (.ifCond .ne 10, 3) := by decide +kernel
theorem dX7_run_25 : decode cX7_run 25 = .ok (.aload_n 0, 1) := by decide +kernel
theorem dX7_run_26 : decode cX7_run 26 = .ok (.getfield 157, 3) := by decide +kernel
theorem dX7_run_29 : decode cX7_run 29 = .ok (.goto 31, 3) := by decide +kernel
theorem dX7_run_32 : decode cX7_run 32 = .ok (.iload_n 1, 1) := by decide +kernel
theorem dX7_run_33 : decode cX7_run 33 = .ok (.iconst 1, 1) := by decide +kernel
theorem dX7_run_34 : decode cX7_run 34 = .ok (.if_icmp .ne 10, 3) := by decide +kernel
theorem dX7_run_37 : decode cX7_run 37 = .ok (.aload_n 0, 1) := by decide +kernel
theorem dX7_run_38 : decode cX7_run 38 = .ok (.getfield 160, 3) := by decide +kernel
theorem dX7_run_41 : decode cX7_run 41 = .ok (.goto 19, 3) := by decide +kernel
theorem dX7_run_44 : decode cX7_run 44 = .ok (.iload_n 1, 1) := by decide +kernel
theorem dX7_run_45 : decode cX7_run 45 = .ok (.iconst 2, 1) := by decide +kernel
theorem dX7_run_46 : decode cX7_run 46 = .ok (.if_icmp .ne 10, 3) := by decide +kernel
theorem dX7_run_49 : decode cX7_run 49 = .ok (.aload_n 0, 1) := by decide +kernel
theorem dX7_run_50 : decode cX7_run 50 = .ok (.getfield 163, 3) := by decide +kernel
theorem dX7_run_53 : decode cX7_run 53 = .ok (.goto 7, 3) := by decide +kernel
theorem dX7_run_56 : decode cX7_run 56 = .ok (.aload_n 0, 1) := by decide +kernel
theorem dX7_run_57 : decode cX7_run 57 = .ok (.invokevirtual 172, 3) := by decide +kernel
theorem dX7_run_60 : decode cX7_run 60 = .ok (.ireturn, 1) := by decide +kernel
theorem dX7_noOld_0 : decode cX7_noOld 0 = .ok (.aload_n 0, 1) := by decide +kernel
theorem dX7_noOld_1 : decode cX7_noOld 1 = .ok (.iload_n 1, 1) := by decide +kernel
theorem dX7_noOld_2 : decode cX7_noOld 2 = .ok (.invokevirtual 96, 3) := by decide +kernel
theorem dX7_noOld_5 : decode cX7_noOld 5 = .ok (.ifCond .ne 12, 3) := by decide +kernel
theorem dX7_noOld_8 : decode cX7_noOld 8 = .ok (.aload_n 0, 1) := by decide +kernel
theorem dX7_noOld_9 : decode cX7_noOld 9 = .ok (.getfield 33, 3) := by decide +kernel
theorem dX7_noOld_12 : decode cX7_noOld 12 = .ok (.iload_n 1, 1) := by decide +kernel
theorem dX7_noOld_13 : decode cX7_noOld 13 = .ok (.baload, 1) := by decide +kernel
theorem dX7_noOld_14 : decode cX7_noOld 14 = .ok (.ifCond .ne 7, 3) := by decide +kernel
theorem dX7_noOld_17 : decode cX7_noOld 17 = .ok (.iconst 1, 1) := by decide +kernel
theorem dX7_noOld_18 : decode cX7_noOld 18 = .ok (.goto 4, 3) := by decide +kernel
theorem dX7_noOld_21 : decode cX7_noOld 21 = .ok (.iconst 0, 1) := by decide +kernel
theorem dX7_noOld_22 : decode cX7_noOld 22 = .ok (.ireturn, 1) := by decide +kernel
theorem dX7_paid_0 : decode cX7_paid 0 = .ok (.aload_n 0, 1) := by decide +kernel
theorem dX7_paid_1 : decode cX7_paid 1 = .ok (.iload_n 1, 1) := by decide +kernel
theorem dX7_paid_2 : decode cX7_paid 2 = .ok (.invokevirtual 175, 3) := by decide +kernel
theorem dX7_paid_5 : decode cX7_paid 5 = .ok (.ifCond .eq 6, 3) := by decide +kernel
theorem dX7_paid_8 : decode cX7_paid 8 = .ok (.bipush (-2), 2) := by decide +kernel
theorem dX7_paid_10 : decode cX7_paid 10 = .ok (.ireturn, 1) := by decide +kernel
theorem dX7_paid_11 : decode cX7_paid 11 = .ok (.aload_n 0, 1) := by decide +kernel
theorem dX7_paid_12 : decode cX7_paid 12 = .ok (.iconst (-1), 1) := by decide +kernel
theorem dX7_paid_13 : decode cX7_paid 13 = .ok (.iconst 0, 1) := by decide +kernel
theorem dX7_paid_14 : decode cX7_paid 14 = .ok (.invokevirtual 168, 3) := by decide +kernel
theorem dX7_paid_17 : decode cX7_paid 17 = .ok (.aload_n 0, 1) := by decide +kernel
theorem dX7_paid_18 : decode cX7_paid 18 = .ok (.getfield 160, 3) := by decide +kernel
theorem dX7_paid_21 : decode cX7_paid 21 = .ok (.iload_n 1, 1) := by decide +kernel
theorem dX7_paid_22 : decode cX7_paid 22 = .ok (.ishr, 1) := by decide +kernel
theorem dX7_paid_23 : decode cX7_paid 23 = .ok (.iconst 1, 1) := by decide +kernel
theorem dX7_paid_24 : decode cX7_paid 24 = .ok (.iand, 1) := by decide +kernel
theorem dX7_paid_25 : decode cX7_paid 25 = .ok (.iconst 1, 1) := by decide +kernel
theorem dX7_paid_26 : decode cX7_paid 26 = .ok (.if_icmp .ne 12, 3) := by decide +kernel
theorem dX7_paid_29 : decode cX7_paid 29 = .ok (.aload_n 0, 1) := by decide +kernel
theorem dX7_paid_30 : decode cX7_paid 30 = .ok (.getfield 48, 3) := by decide +kernel
theorem dX7_paid_33 : decode cX7_paid 33 = .ok (.iload_n 1, 1) := by decide +kernel
theorem dX7_paid_34 : decode cX7_paid 34 = .ok (.iaload, 1) := by decide +kernel
theorem dX7_paid_35 : decode cX7_paid 35 = .ok (.goto 4, 3) := by decide +kernel
theorem dX7_paid_38 : decode cX7_paid 38 = .ok (.iconst 0, 1) := by decide +kernel
theorem dX7_paid_39 : decode cX7_paid 39 = .ok (.ireturn, 1) := by decide +kernel
theorem dX7_round_0 : decode cX7_round 0 = .ok (.aload_n 0, 1) := by decide +kernel
theorem dX7_round_1 : decode cX7_round 1 = .ok (.iload_n 1, 1) := by decide +kernel
theorem dX7_round_2 : decode cX7_round 2 = .ok (.invokevirtual 175, 3) := by decide +kernel
theorem dX7_round_5 : decode cX7_round 5 = .ok (.ifCond .eq 6, 3) := by decide +kernel
theorem dX7_round_8 : decode cX7_round 8 = .ok (.bipush (-2), 2) := by decide +kernel
theorem dX7_round_10 : decode cX7_round 10 = .ok (.ireturn, 1) := by decide +kernel
theorem dX7_round_11 : decode cX7_round 11 = .ok (.aload_n 0, 1) := by decide +kernel
theorem dX7_round_12 : decode cX7_round 12 = .ok (.iconst (-1), 1) := by decide +kernel
theorem dX7_round_13 : decode cX7_round 13 = .ok (.iconst 0, 1) := by decide +kernel
theorem dX7_round_14 : decode cX7_round 14 = .ok (.invokevirtual 168, 3) := by decide +kernel
theorem dX7_round_17 : decode cX7_round 17 = .ok (.aload_n 0, 1) := by decide +kernel
theorem dX7_round_18 : decode cX7_round 18 = .ok (.getfield 51, 3) := by decide +kernel
theorem dX7_round_21 : decode cX7_round 21 = .ok (.iload_n 1, 1) := by decide +kernel
theorem dX7_round_22 : decode cX7_round 22 = .ok (.iaload, 1) := by decide +kernel
theorem dX7_round_23 : decode cX7_round 23 = .ok (.ireturn, 1) := by decide +kernel
theorem dX7_wins_0 : decode cX7_wins 0 = .ok (.aload_n 0, 1) := by decide +kernel
theorem dX7_wins_1 : decode cX7_wins 1 = .ok (.iload_n 1, 1) := by decide +kernel
theorem dX7_wins_2 : decode cX7_wins 2 = .ok (.iload_n 2, 1) := by decide +kernel
theorem dX7_wins_3 : decode cX7_wins 3 = .ok (.invokevirtual 168, 3) := by decide +kernel
theorem dX7_wins_6 : decode cX7_wins 6 = .ok (.aload_n 0, 1) := by decide +kernel
theorem dX7_wins_7 : decode cX7_wins 7 = .ok (.getfield 160, 3) := by decide +kernel
theorem dX7_wins_10 : decode cX7_wins 10 = .ok (.iload_n 1, 1) := by decide +kernel
theorem dX7_wins_11 : decode cX7_wins 11 = .ok (.ishr, 1) := by decide +kernel
theorem dX7_wins_12 : decode cX7_wins 12 = .ok (.iconst 1, 1) := by decide +kernel
theorem dX7_wins_13 : decode cX7_wins 13 = .ok (.iand, 1) := by decide +kernel
theorem dX7_wins_14 : decode cX7_wins 14 = .ok (.iconst 1, 1) := by decide +kernel
theorem dX7_wins_15 : decode cX7_wins 15 = .ok (.if_icmp .ne 19, 3) := by decide +kernel
theorem dX7_wins_18 : decode cX7_wins 18 = .ok (.aload_n 0, 1) := by decide +kernel
theorem dX7_wins_19 : decode cX7_wins 19 = .ok (.getfield 48, 3) := by decide +kernel
theorem dX7_wins_22 : decode cX7_wins 22 = .ok (.iload_n 1, 1) := by decide +kernel
theorem dX7_wins_23 : decode cX7_wins 23 = .ok (.iaload, 1) := by decide +kernel
theorem dX7_wins_24 : decode cX7_wins 24 = .ok (.aload_n 0, 1) := by decide +kernel
theorem dX7_wins_25 : decode cX7_wins 25 = .ok (.getfield 36, 3) := by decide +kernel
theorem dX7_wins_28 : decode cX7_wins 28 = .ok (.iload_n 1, 1) := by decide +kernel
theorem dX7_wins_29 : decode cX7_wins 29 = .ok (.iaload, 1) := by decide +kernel
theorem dX7_wins_30 : decode cX7_wins 30 = .ok (.isub, 1) := by decide +kernel
theorem dX7_wins_31 : decode cX7_wins 31 = .ok (.goto 4, 3) := by decide +kernel
theorem dX7_wins_34 : decode cX7_wins 34 = .ok (.iconst 0, 1) := by decide +kernel
theorem dX7_wins_35 : decode cX7_wins 35 = .ok (.ireturn, 1) := by decide +kernel
theorem dX7_gain_0 : decode cX7_gain 0 = .ok (.aload_n 0, 1) := by decide +kernel
theorem dX7_gain_1 : decode cX7_gain 1 = .ok (.iload_n 1, 1) := by decide +kernel
theorem dX7_gain_2 : decode cX7_gain 2 = .ok (.invokevirtual 175, 3) := by decide +kernel
theorem dX7_gain_5 : decode cX7_gain 5 = .ok (.ifCond .ne 15, 3) := by decide +kernel
theorem dX7_gain_8 : decode cX7_gain 8 = .ok (.iload_n 2, 1) := by decide +kernel
theorem dX7_gain_9 : decode cX7_gain 9 = .ok (.i2l, 1) := by decide +kernel
theorem dX7_gain_10 : decode cX7_gain 10 = .ok (.lconst 0, 1) := by decide +kernel
theorem dX7_gain_11 : decode cX7_gain 11 = .ok (.ldc2_w 147, 3) := by decide +kernel
theorem dX7_gain_14 : decode cX7_gain 14 = .ok (.invokestatic 90, 3) := by decide +kernel
theorem dX7_gain_17 : decode cX7_gain 17 = .ok (.ifCond .ne 6, 3) := by decide +kernel
theorem dX7_gain_20 : decode cX7_gain 20 = .ok (.ldc 178, 2) := by decide +kernel
theorem dX7_gain_22 : decode cX7_gain 22 = .ok (.ireturn, 1) := by decide +kernel
theorem dX7_gain_23 : decode cX7_gain 23 = .ok (.aload_n 0, 1) := by decide +kernel
theorem dX7_gain_24 : decode cX7_gain 24 = .ok (.iload_n 1, 1) := by decide +kernel
theorem dX7_gain_25 : decode cX7_gain 25 = .ok (.iload_n 2, 1) := by decide +kernel
theorem dX7_gain_26 : decode cX7_gain 26 = .ok (.invokevirtual 179, 3) := by decide +kernel
theorem dX7_gain_29 : decode cX7_gain 29 = .ok (.aload_n 0, 1) := by decide +kernel
theorem dX7_gain_30 : decode cX7_gain 30 = .ok (.iload_n 1, 1) := by decide +kernel
theorem dX7_gain_31 : decode cX7_gain 31 = .ok (.aload_n 0, 1) := by decide +kernel
theorem dX7_gain_32 : decode cX7_gain 32 = .ok (.getfield 36, 3) := by decide +kernel
theorem dX7_gain_35 : decode cX7_gain 35 = .ok (.iload_n 1, 1) := by decide +kernel
theorem dX7_gain_36 : decode cX7_gain 36 = .ok (.iaload, 1) := by decide +kernel
theorem dX7_gain_37 : decode cX7_gain 37 = .ok (.invokevirtual 179, 3) := by decide +kernel
theorem dX7_gain_40 : decode cX7_gain 40 = .ok (.isub, 1) := by decide +kernel
theorem dX7_gain_41 : decode cX7_gain 41 = .ok (.ireturn, 1) := by decide +kernel
theorem dX7_most_0 : decode cX7_most 0 = .ok (.aload_n 0, 1) := by decide +kernel
theorem dX7_most_1 : decode cX7_most 1 = .ok (.iload_n 1, 1) := by decide +kernel
theorem dX7_most_2 : decode cX7_most 2 = .ok (.invokevirtual 175, 3) := by decide +kernel
theorem dX7_most_5 : decode cX7_most 5 = .ok (.ifCond .ne 46, 3) := by decide +kernel
theorem dX7_most_8 : decode cX7_most 8 = .ok (.iload_n 2, 1) := by decide +kernel
theorem dX7_most_9 : decode cX7_most 9 = .ok (.i2l, 1) := by decide +kernel
theorem dX7_most_10 : decode cX7_most 10 = .ok (.lconst 0, 1) := by decide +kernel
theorem dX7_most_11 : decode cX7_most 11 = .ok (.ldc2_w 147, 3) := by decide +kernel
theorem dX7_most_14 : decode cX7_most 14 = .ok (.invokestatic 90, 3) := by decide +kernel
theorem dX7_most_17 : decode cX7_most 17 = .ok (.ifCond .eq 34, 3) := by decide +kernel
theorem dX7_most_20 : decode cX7_most 20 = .ok (.iload_n 3, 1) := by decide +kernel
theorem dX7_most_21 : decode cX7_most 21 = .ok (.i2l, 1) := by decide +kernel
theorem dX7_most_22 : decode cX7_most 22 = .ok (.lconst 1, 1) := by decide +kernel
theorem dX7_most_23 : decode cX7_most 23 = .ok (.ldc2_w 147, 3) := by decide +kernel
theorem dX7_most_26 : decode cX7_most 26 = .ok (.invokestatic 90, 3) := by decide +kernel
theorem dX7_most_29 : decode cX7_most 29 = .ok (.ifCond .eq 22, 3) := by decide +kernel
theorem dX7_most_32 : decode cX7_most 32 = .ok (.iload_n 2, 1) := by decide +kernel
theorem dX7_most_33 : decode cX7_most 33 = .ok (.iload_n 3, 1) := by decide +kernel
theorem dX7_most_34 : decode cX7_most 34 = .ok (.idiv, 1) := by decide +kernel
theorem dX7_most_35 : decode cX7_most 35 = .ok (.bipush 20, 2) := by decide +kernel
theorem dX7_most_37 : decode cX7_most 37 = .ok (.if_icmp .gt 14, 3) := by decide +kernel
theorem dX7_most_40 : decode cX7_most 40 = .ok (.iload 4, 2) := by decide +kernel
theorem dX7_most_42 : decode cX7_most 42 = .ok (.i2l, 1) := by decide +kernel
theorem dX7_most_43 : decode cX7_most 43 = .ok (.lconst 0, 1) := by decide +kernel
theorem dX7_most_44 : decode cX7_most 44 = .ok (.lconst 1, 1) := by decide +kernel
theorem dX7_most_45 : decode cX7_most 45 = .ok (.invokestatic 90, 3) := by decide +kernel
theorem dX7_most_48 : decode cX7_most 48 = .ok (.ifCond .ne 6, 3) := by decide +kernel
theorem dX7_most_51 : decode cX7_most 51 = .ok (.ldc 178, 2) := by decide +kernel
theorem dX7_most_53 : decode cX7_most 53 = .ok (.ireturn, 1) := by decide +kernel
theorem dX7_most_54 : decode cX7_most 54 = .ok (.aload_n 0, 1) := by decide +kernel
theorem dX7_most_55 : decode cX7_most 55 = .ok (.iload_n 1, 1) := by decide +kernel
theorem dX7_most_56 : decode cX7_most 56 = .ok (.aload_n 0, 1) := by decide +kernel
theorem dX7_most_57 : decode cX7_most 57 = .ok (.getfield 36, 3) := by decide +kernel
theorem dX7_most_60 : decode cX7_most 60 = .ok (.iload_n 1, 1) := by decide +kernel
theorem dX7_most_61 : decode cX7_most 61 = .ok (.iaload, 1) := by decide +kernel
theorem dX7_most_62 : decode cX7_most 62 = .ok (.invokevirtual 179, 3) := by decide +kernel
theorem dX7_most_65 : decode cX7_most 65 = .ok (.istore 5, 2) := by decide +kernel
theorem dX7_most_67 : decode cX7_most 67 = .ok (.iconst (-1), 1) := by decide +kernel
theorem dX7_most_68 : decode cX7_most 68 = .ok (.istore 6, 2) := by decide +kernel
theorem dX7_most_70 : decode cX7_most 70 = .ok (.iconst 0, 1) := by decide +kernel
theorem dX7_most_71 : decode cX7_most 71 = .ok (.istore 7, 2) := by decide +kernel
theorem dX7_most_73 : decode cX7_most 73 = .ok (.iconst 0, 1) := by decide +kernel
theorem dX7_most_74 : decode cX7_most 74 = .ok (.istore 8, 2) := by decide +kernel
theorem dX7_most_76 : decode cX7_most 76 = .ok (.iload 8, 2) := by decide +kernel
theorem dX7_most_78 : decode cX7_most 78 = .ok (.iload_n 2, 1) := by decide +kernel
theorem dX7_most_79 : decode cX7_most 79 = .ok (.if_icmp .gt 44, 3) := by decide +kernel
theorem dX7_most_82 : decode cX7_most 82 = .ok (.aload_n 0, 1) := by decide +kernel
theorem dX7_most_83 : decode cX7_most 83 = .ok (.iload_n 1, 1) := by decide +kernel
theorem dX7_most_84 : decode cX7_most 84 = .ok (.iload 8, 2) := by decide +kernel
theorem dX7_most_86 : decode cX7_most 86 = .ok (.invokevirtual 179, 3) := by decide +kernel
theorem dX7_most_89 : decode cX7_most 89 = .ok (.iload 5, 2) := by decide +kernel
theorem dX7_most_91 : decode cX7_most 91 = .ok (.isub, 1) := by decide +kernel
theorem dX7_most_92 : decode cX7_most 92 = .ok (.istore 9, 2) := by decide +kernel
theorem dX7_most_94 : decode cX7_most 94 = .ok (.iload 6, 2) := by decide +kernel
theorem dX7_most_96 : decode cX7_most 96 = .ok (.ifCond .lt 10, 3) := by decide +kernel
theorem dX7_most_99 : decode cX7_most 99 = .ok (.iload 9, 2) := by decide +kernel
theorem dX7_most_101 : decode cX7_most 101 = .ok (.iload 7, 2) := by decide +kernel
theorem dX7_most_103 : decode cX7_most 103 = .ok (.if_icmp .le 11, 3) := by decide +kernel
theorem dX7_most_106 : decode cX7_most 106 = .ok (.iload 8, 2) := by decide +kernel
theorem dX7_most_108 : decode cX7_most 108 = .ok (.istore 6, 2) := by decide +kernel
theorem dX7_most_110 : decode cX7_most 110 = .ok (.iload 9, 2) := by decide +kernel
theorem dX7_most_112 : decode cX7_most 112 = .ok (.istore 7, 2) := by decide +kernel
theorem dX7_most_114 : decode cX7_most 114 = .ok (.iload 8, 2) := by decide +kernel
theorem dX7_most_116 : decode cX7_most 116 = .ok (.iload_n 3, 1) := by decide +kernel
theorem dX7_most_117 : decode cX7_most 117 = .ok (.iadd, 1) := by decide +kernel
theorem dX7_most_118 : decode cX7_most 118 = .ok (.istore 8, 2) := by decide +kernel
theorem dX7_most_120 : decode cX7_most 120 = .ok (.goto (-44), 3) := by decide +kernel
theorem dX7_most_123 : decode cX7_most 123 = .ok (.iload 4, 2) := by decide +kernel
theorem dX7_most_125 : decode cX7_most 125 = .ok (.ifCond .ne 8, 3) := by decide +kernel
theorem dX7_most_128 : decode cX7_most 128 = .ok (.iload 7, 2) := by decide +kernel
theorem dX7_most_130 : decode cX7_most 130 = .ok (.goto 5, 3) := by decide +kernel
theorem dX7_most_133 : decode cX7_most 133 = .ok (.iload 6, 2) := by decide +kernel
theorem dX7_most_135 : decode cX7_most 135 = .ok (.ireturn, 1) := by decide +kernel
theorem dX7_noHouse_0 : decode cX7_noHouse 0 = .ok (.iload_n 1, 1) := by decide +kernel
theorem dX7_noHouse_1 : decode cX7_noHouse 1 = .ok (.i2l, 1) := by decide +kernel
theorem dX7_noHouse_2 : decode cX7_noHouse 2 = .ok (.lconst 0, 1) := by decide +kernel
theorem dX7_noHouse_3 : decode cX7_noHouse 3 = .ok (.aload_n 0, 1) := by decide +kernel
theorem dX7_noHouse_4 : decode cX7_noHouse 4 = .ok (.getfield 183, 3) := by decide +kernel
theorem dX7_noHouse_7 : decode cX7_noHouse 7 = .ok (.iconst 1, 1) := by decide +kernel
theorem dX7_noHouse_8 : decode cX7_noHouse 8 = .ok (.isub, 1) := by decide +kernel
theorem dX7_noHouse_9 : decode cX7_noHouse 9 = .ok (.i2l, 1) := by decide +kernel
theorem dX7_noHouse_10 : decode cX7_noHouse 10 = .ok (.invokestatic 90, 3) := by decide +kernel
theorem dX7_noHouse_13 : decode cX7_noHouse 13 = .ok (.ifCond .ne 7, 3) := by decide +kernel
theorem dX7_noHouse_16 : decode cX7_noHouse 16 = .ok (.iconst 1, 1) := by decide +kernel
theorem dX7_noHouse_17 : decode cX7_noHouse 17 = .ok (.goto 4, 3) := by decide +kernel
theorem dX7_noHouse_20 : decode cX7_noHouse 20 = .ok (.iconst 0, 1) := by decide +kernel
theorem dX7_noHouse_21 : decode cX7_noHouse 21 = .ok (.ireturn, 1) := by decide +kernel
theorem dX7_noGroup_0 : decode cX7_noGroup 0 = .ok (.iload_n 1, 1) := by decide +kernel
theorem dX7_noGroup_1 : decode cX7_noGroup 1 = .ok (.ifCond .lt 12, 3) := by decide +kernel
theorem dX7_noGroup_4 : decode cX7_noGroup 4 = .ok (.iload_n 1, 1) := by decide +kernel
theorem dX7_noGroup_5 : decode cX7_noGroup 5 = .ok (.aload_n 0, 1) := by decide +kernel
theorem dX7_noGroup_6 : decode cX7_noGroup 6 = .ok (.getfield 183, 3) := by decide +kernel
theorem dX7_noGroup_9 : decode cX7_noGroup 9 = .ok (.ishr, 1) := by decide +kernel
theorem dX7_noGroup_10 : decode cX7_noGroup 10 = .ok (.ifCond .eq 7, 3) := by decide +kernel
theorem dX7_noGroup_13 : decode cX7_noGroup 13 = .ok (.iconst 1, 1) := by decide +kernel
theorem dX7_noGroup_14 : decode cX7_noGroup 14 = .ok (.goto 4, 3) := by decide +kernel
theorem dX7_noGroup_17 : decode cX7_noGroup 17 = .ok (.iconst 0, 1) := by decide +kernel
theorem dX7_noGroup_18 : decode cX7_noGroup 18 = .ok (.ireturn, 1) := by decide +kernel
theorem dX7_house_0 : decode cX7_house 0 = .ok (.aload_n 0, 1) := by decide +kernel
theorem dX7_house_1 : decode cX7_house 1 = .ok (.getfield 183, 3) := by decide +kernel
theorem dX7_house_4 : decode cX7_house 4 = .ok (.bipush 6, 2) := by decide +kernel
theorem dX7_house_6 : decode cX7_house 6 = .ok (.if_icmp .ne 6, 3) := by decide +kernel
theorem dX7_house_9 : decode cX7_house 9 = .ok (.bipush (-4), 2) := by decide +kernel
theorem dX7_house_11 : decode cX7_house 11 = .ok (.ireturn, 1) := by decide +kernel
theorem dX7_house_12 : decode cX7_house 12 = .ok (.aload_n 0, 1) := by decide +kernel
theorem dX7_house_13 : decode cX7_house 13 = .ok (.dup, 1) := by decide +kernel
theorem dX7_house_14 : decode cX7_house 14 = .ok (.getfield 183, 3) := by decide +kernel
theorem dX7_house_17 : decode cX7_house 17 = .ok (.iconst 1, 1) := by decide +kernel
theorem dX7_house_18 : decode cX7_house 18 = .ok (.iadd, 1) := by decide +kernel
theorem dX7_house_19 : decode cX7_house 19 = .ok (.putfield 183, 3) := by decide +kernel
theorem dX7_house_22 : decode cX7_house 22 = .ok (.aload_n 0, 1) := by decide +kernel
theorem dX7_house_23 : decode cX7_house 23 = .ok (.getfield 183, 3) := by decide +kernel
theorem dX7_house_26 : decode cX7_house 26 = .ok (.iconst 1, 1) := by decide +kernel
theorem dX7_house_27 : decode cX7_house 27 = .ok (.isub, 1) := by decide +kernel
theorem dX7_house_28 : decode cX7_house 28 = .ok (.ireturn, 1) := by decide +kernel
theorem dX7_ask_0 : decode cX7_ask 0 = .ok (.aload_n 0, 1) := by decide +kernel
theorem dX7_ask_1 : decode cX7_ask 1 = .ok (.iload_n 1, 1) := by decide +kernel
theorem dX7_ask_2 : decode cX7_ask 2 = .ok (.invokevirtual 186, 3) := by decide +kernel
theorem dX7_ask_5 : decode cX7_ask 5 = .ok (.ifCond .ne 27, 3) := by decide +kernel
theorem dX7_ask_8 : decode cX7_ask 8 = .ok (.iload_n 2, 1) := by decide +kernel
theorem dX7_ask_9 : decode cX7_ask 9 = .ok (.i2l, 1) := by decide +kernel
theorem dX7_ask_10 : decode cX7_ask 10 = .ok (.lconst 1, 1) := by decide +kernel
theorem dX7_ask_11 : decode cX7_ask 11 = .ok (.ldc2_w 102, 3) := by decide +kernel
theorem dX7_ask_14 : decode cX7_ask 14 = .ok (.invokestatic 90, 3) := by decide +kernel
theorem dX7_ask_17 : decode cX7_ask 17 = .ok (.ifCond .eq 15, 3) := by decide +kernel
theorem dX7_ask_20 : decode cX7_ask 20 = .ok (.iload_n 3, 1) := by decide +kernel
theorem dX7_ask_21 : decode cX7_ask 21 = .ok (.i2l, 1) := by decide +kernel
theorem dX7_ask_22 : decode cX7_ask 22 = .ok (.lconst 1, 1) := by decide +kernel
theorem dX7_ask_23 : decode cX7_ask 23 = .ok (.ldc2_w 189, 3) := by decide +kernel
theorem dX7_ask_26 : decode cX7_ask 26 = .ok (.invokestatic 90, 3) := by decide +kernel
theorem dX7_ask_29 : decode cX7_ask 29 = .ok (.ifCond .ne 6, 3) := by decide +kernel
theorem dX7_ask_32 : decode cX7_ask 32 = .ok (.bipush (-2), 2) := by decide +kernel
theorem dX7_ask_34 : decode cX7_ask 34 = .ok (.ireturn, 1) := by decide +kernel
theorem dX7_ask_35 : decode cX7_ask 35 = .ok (.aload_n 0, 1) := by decide +kernel
theorem dX7_ask_36 : decode cX7_ask 36 = .ok (.getfield 191, 3) := by decide +kernel
theorem dX7_ask_39 : decode cX7_ask 39 = .ok (.bipush 24, 2) := by decide +kernel
theorem dX7_ask_41 : decode cX7_ask 41 = .ok (.if_icmp .ne 6, 3) := by decide +kernel
theorem dX7_ask_44 : decode cX7_ask 44 = .ok (.bipush (-4), 2) := by decide +kernel
theorem dX7_ask_46 : decode cX7_ask 46 = .ok (.ireturn, 1) := by decide +kernel
theorem dX7_ask_47 : decode cX7_ask 47 = .ok (.aload_n 0, 1) := by decide +kernel
theorem dX7_ask_48 : decode cX7_ask 48 = .ok (.getfield 57, 3) := by decide +kernel
theorem dX7_ask_51 : decode cX7_ask 51 = .ok (.aload_n 0, 1) := by decide +kernel
theorem dX7_ask_52 : decode cX7_ask 52 = .ok (.getfield 191, 3) := by decide +kernel
theorem dX7_ask_55 : decode cX7_ask 55 = .ok (.iload_n 1, 1) := by decide +kernel
theorem dX7_ask_56 : decode cX7_ask 56 = .ok (.iastore, 1) := by decide +kernel
theorem dX7_ask_57 : decode cX7_ask 57 = .ok (.aload_n 0, 1) := by decide +kernel
theorem dX7_ask_58 : decode cX7_ask 58 = .ok (.getfield 60, 3) := by decide +kernel
theorem dX7_ask_61 : decode cX7_ask 61 = .ok (.aload_n 0, 1) := by decide +kernel
theorem dX7_ask_62 : decode cX7_ask 62 = .ok (.getfield 191, 3) := by decide +kernel
theorem dX7_ask_65 : decode cX7_ask 65 = .ok (.iload_n 2, 1) := by decide +kernel
theorem dX7_ask_66 : decode cX7_ask 66 = .ok (.iastore, 1) := by decide +kernel
theorem dX7_ask_67 : decode cX7_ask 67 = .ok (.aload_n 0, 1) := by decide +kernel
theorem dX7_ask_68 : decode cX7_ask 68 = .ok (.getfield 63, 3) := by decide +kernel
theorem dX7_ask_71 : decode cX7_ask 71 = .ok (.aload_n 0, 1) := by decide +kernel
theorem dX7_ask_72 : decode cX7_ask 72 = .ok (.getfield 191, 3) := by decide +kernel
theorem dX7_ask_75 : decode cX7_ask 75 = .ok (.iload_n 3, 1) := by decide +kernel
theorem dX7_ask_76 : decode cX7_ask 76 = .ok (.iastore, 1) := by decide +kernel
theorem dX7_ask_77 : decode cX7_ask 77 = .ok (.aload_n 0, 1) := by decide +kernel
theorem dX7_ask_78 : decode cX7_ask 78 = .ok (.dup, 1) := by decide +kernel
theorem dX7_ask_79 : decode cX7_ask 79 = .ok (.getfield 191, 3) := by decide +kernel
theorem dX7_ask_82 : decode cX7_ask 82 = .ok (.iconst 1, 1) := by decide +kernel
theorem dX7_ask_83 : decode cX7_ask 83 = .ok (.iadd, 1) := by decide +kernel
theorem dX7_ask_84 : decode cX7_ask 84 = .ok (.putfield 191, 3) := by decide +kernel
theorem dX7_ask_87 : decode cX7_ask 87 = .ok (.aload_n 0, 1) := by decide +kernel
theorem dX7_ask_88 : decode cX7_ask 88 = .ok (.getfield 191, 3) := by decide +kernel
theorem dX7_ask_91 : decode cX7_ask 91 = .ok (.iconst 1, 1) := by decide +kernel
theorem dX7_ask_92 : decode cX7_ask 92 = .ok (.isub, 1) := by decide +kernel
theorem dX7_ask_93 : decode cX7_ask 93 = .ok (.ireturn, 1) := by decide +kernel
theorem dX7_findWorths_0 : decode cX7_findWorths 0 = .ok (.iconst 0, 1) := by decide +kernel
theorem dX7_findWorths_1 : decode cX7_findWorths 1 = .ok (.istore_n 2, 1) := by decide +kernel
theorem dX7_findWorths_2 : decode cX7_findWorths 2 = .ok (.iload_n 2, 1) := by decide +kernel
theorem dX7_findWorths_3 : decode cX7_findWorths 3 = .ok (.bipush 64, 2) := by decide +kernel
theorem dX7_findWorths_5 : decode cX7_findWorths 5 = .ok (.if_icmp .ge 20, 3) := by decide +kernel
theorem dX7_findWorths_8 : decode cX7_findWorths 8 = .ok (.aload_n 0, 1) := by decide +kernel
theorem dX7_findWorths_9 : decode cX7_findWorths 9 = .ok (.getfield 72, 3) := by decide +kernel
theorem dX7_findWorths_12 : decode cX7_findWorths 12 = .ok (.sipush 384, 3) := by decide +kernel
theorem dX7_findWorths_15 : decode cX7_findWorths 15 = .ok (.iload_n 2, 1) := by decide +kernel
theorem dX7_findWorths_16 : decode cX7_findWorths 16 = .ok (.iadd, 1) := by decide +kernel
theorem dX7_findWorths_17 : decode cX7_findWorths 17 = .ok (.iconst 0, 1) := by decide +kernel
theorem dX7_findWorths_18 : decode cX7_findWorths 18 = .ok (.iastore, 1) := by decide +kernel
theorem dX7_findWorths_19 : decode cX7_findWorths 19 = .ok (.iinc 2 1, 3) := by decide +kernel
theorem dX7_findWorths_22 : decode cX7_findWorths 22 = .ok (.goto (-20), 3) := by decide +kernel
theorem dX7_findWorths_25 : decode cX7_findWorths 25 = .ok (.iconst 5, 1) := by decide +kernel
theorem dX7_findWorths_26 : decode cX7_findWorths 26 = .ok (.istore_n 2, 1) := by decide +kernel
theorem dX7_findWorths_27 : decode cX7_findWorths 27 = .ok (.iload_n 2, 1) := by decide +kernel
theorem dX7_findWorths_28 : decode cX7_findWorths 28 = .ok (.ifCond .lt 173, 3) := by decide +kernel
theorem dX7_findWorths_31 : decode cX7_findWorths 31 = .ok (.iconst 0, 1) := by decide +kernel
theorem dX7_findWorths_32 : decode cX7_findWorths 32 = .ok (.istore_n 3, 1) := by decide +kernel
theorem dX7_findWorths_33 : decode cX7_findWorths 33 = .ok (.iload_n 3, 1) := by decide +kernel
theorem dX7_findWorths_34 : decode cX7_findWorths 34 = .ok (.bipush 64, 2) := by decide +kernel
theorem dX7_findWorths_36 : decode cX7_findWorths 36 = .ok (.if_icmp .ge 159, 3) := by decide +kernel
theorem dX7_findWorths_39 : decode cX7_findWorths 39 = .ok (.aload_n 0, 1) := by decide +kernel
theorem dX7_findWorths_40 : decode cX7_findWorths 40 = .ok (.getfield 72, 3) := by decide +kernel
theorem dX7_findWorths_43 : decode cX7_findWorths 43 = .ok (.bipush 64, 2) := by decide +kernel
theorem dX7_findWorths_45 : decode cX7_findWorths 45 = .ok (.iload_n 2, 1) := by decide +kernel
theorem dX7_findWorths_46 : decode cX7_findWorths 46 = .ok (.iconst 1, 1) := by decide +kernel
theorem dX7_findWorths_47 : decode cX7_findWorths 47 = .ok (.iadd, 1) := by decide +kernel
theorem dX7_findWorths_48 : decode cX7_findWorths 48 = .ok (.imul, 1) := by decide +kernel
theorem dX7_findWorths_49 : decode cX7_findWorths 49 = .ok (.iload_n 3, 1) := by decide +kernel
theorem dX7_findWorths_50 : decode cX7_findWorths 50 = .ok (.iadd, 1) := by decide +kernel
theorem dX7_findWorths_51 : decode cX7_findWorths 51 = .ok (.iaload, 1) := by decide +kernel
theorem dX7_findWorths_52 : decode cX7_findWorths 52 = .ok (.istore 4, 2) := by decide +kernel
theorem dX7_findWorths_54 : decode cX7_findWorths 54 = .ok (.iconst 0, 1) := by decide +kernel
theorem dX7_findWorths_55 : decode cX7_findWorths 55 = .ok (.istore 5, 2) := by decide +kernel
theorem dX7_findWorths_57 : decode cX7_findWorths 57 = .ok (.iload 5, 2) := by decide +kernel
theorem dX7_findWorths_59 : decode cX7_findWorths 59 = .ok (.aload_n 0, 1) := by decide +kernel
theorem dX7_findWorths_60 : decode cX7_findWorths 60 = .ok (.getfield 191, 3) := by decide +kernel
theorem dX7_findWorths_63 : decode cX7_findWorths 63 = .ok (.if_icmp .ge 113, 3) := by decide +kernel
theorem dX7_findWorths_66 : decode cX7_findWorths 66 = .ok (.aload_n 0, 1) := by decide +kernel
theorem dX7_findWorths_67 : decode cX7_findWorths 67 = .ok (.getfield 57, 3) := by decide +kernel
theorem dX7_findWorths_70 : decode cX7_findWorths 70 = .ok (.iload 5, 2) := by decide +kernel
theorem dX7_findWorths_72 : decode cX7_findWorths 72 = .ok (.iaload, 1) := by decide +kernel
theorem dX7_findWorths_73 : decode cX7_findWorths 73 = .ok (.iload_n 2, 1) := by decide +kernel
theorem dX7_findWorths_74 : decode cX7_findWorths 74 = .ok (.if_icmp .ne 35, 3) := by decide +kernel
theorem dX7_findWorths_77 : decode cX7_findWorths 77 = .ok (.iload_n 1, 1) := by decide +kernel
theorem dX7_findWorths_78 : decode cX7_findWorths 78 = .ok (.iload_n 2, 1) := by decide +kernel
theorem dX7_findWorths_79 : decode cX7_findWorths 79 = .ok (.ishr, 1) := by decide +kernel
theorem dX7_findWorths_80 : decode cX7_findWorths 80 = .ok (.iconst 1, 1) := by decide +kernel
theorem dX7_findWorths_81 : decode cX7_findWorths 81 = .ok (.iand, 1) := by decide +kernel
theorem dX7_findWorths_82 : decode cX7_findWorths 82 = .ok (.iconst 1, 1) := by decide +kernel
theorem dX7_findWorths_83 : decode cX7_findWorths 83 = .ok (.if_icmp .ne 26, 3) := by decide +kernel
theorem dX7_findWorths_86 : decode cX7_findWorths 86 = .ok (.aload_n 0, 1) := by decide +kernel
theorem dX7_findWorths_87 : decode cX7_findWorths 87 = .ok (.getfield 60, 3) := by decide +kernel
theorem dX7_findWorths_90 : decode cX7_findWorths 90 = .ok (.iload 5, 2) := by decide +kernel
theorem dX7_findWorths_92 : decode cX7_findWorths 92 = .ok (.iaload, 1) := by decide +kernel
theorem dX7_findWorths_93 : decode cX7_findWorths 93 = .ok (.iload_n 3, 1) := by decide +kernel
theorem dX7_findWorths_94 : decode cX7_findWorths 94 = .ok (.iand, 1) := by decide +kernel
theorem dX7_findWorths_95 : decode cX7_findWorths 95 = .ok (.aload_n 0, 1) := by decide +kernel
theorem dX7_findWorths_96 : decode cX7_findWorths 96 = .ok (.getfield 60, 3) := by decide +kernel
theorem dX7_findWorths_99 : decode cX7_findWorths 99 = .ok (.iload 5, 2) := by decide +kernel
theorem dX7_findWorths_101 : decode cX7_findWorths 101 = .ok (.iaload, 1) := by decide +kernel
theorem dX7_findWorths_102 : decode cX7_findWorths 102 = .ok (.if_icmp .ne 7, 3) := by decide +kernel
theorem dX7_findWorths_105 : decode cX7_findWorths 105 = .ok (.iconst 1, 1) := by decide +kernel
theorem dX7_findWorths_106 : decode cX7_findWorths 106 = .ok (.goto 4, 3) := by decide +kernel
theorem dX7_findWorths_109 : decode cX7_findWorths 109 = .ok (.iconst 0, 1) := by decide +kernel
theorem dX7_findWorths_110 : decode cX7_findWorths 110 = .ok (.istore 6, 2) := by decide +kernel
theorem dX7_findWorths_112 : decode cX7_findWorths 112 = .ok (.iload 6, 2) := by decide +kernel
theorem dX7_findWorths_114 : decode cX7_findWorths 114 = .ok (.ifCond .eq 37, 3) := by decide +kernel
theorem dX7_findWorths_117 : decode cX7_findWorths 117 = .ok (.aload_n 0, 1) := by decide +kernel
theorem dX7_findWorths_118 : decode cX7_findWorths 118 = .ok (.getfield 63, 3) := by decide +kernel
theorem dX7_findWorths_121 : decode cX7_findWorths 121 = .ok (.iload 5, 2) := by decide +kernel
theorem dX7_findWorths_123 : decode cX7_findWorths 123 = .ok (.iaload, 1) := by decide +kernel
theorem dX7_findWorths_124 : decode cX7_findWorths 124 = .ok (.aload_n 0, 1) := by decide +kernel
theorem dX7_findWorths_125 : decode cX7_findWorths 125 = .ok (.getfield 72, 3) := by decide +kernel
theorem dX7_findWorths_128 : decode cX7_findWorths 128 = .ok (.bipush 64, 2) := by decide +kernel
theorem dX7_findWorths_130 : decode cX7_findWorths 130 = .ok (.iload_n 2, 1) := by decide +kernel
theorem dX7_findWorths_131 : decode cX7_findWorths 131 = .ok (.iconst 1, 1) := by decide +kernel
theorem dX7_findWorths_132 : decode cX7_findWorths 132 = .ok (.iadd, 1) := by decide +kernel
theorem dX7_findWorths_133 : decode cX7_findWorths 133 = .ok (.imul, 1) := by decide +kernel
theorem dX7_findWorths_134 : decode cX7_findWorths 134 = .ok (.iload_n 3, 1) := by decide +kernel
theorem dX7_findWorths_135 : decode cX7_findWorths 135 = .ok (.aload_n 0, 1) := by decide +kernel
theorem dX7_findWorths_136 : decode cX7_findWorths 136 = .ok (.getfield 60, 3) := by decide +kernel
theorem dX7_findWorths_139 : decode cX7_findWorths 139 = .ok (.iload 5, 2) := by decide +kernel
theorem dX7_findWorths_141 : decode cX7_findWorths 141 = .ok (.iaload, 1) := by decide +kernel
theorem dX7_findWorths_142 : decode cX7_findWorths 142 = .ok (.iconst (-1), 1) := by decide +kernel
theorem dX7_findWorths_143 : decode cX7_findWorths 143 = .ok (.ixor, 1) := by decide +kernel
theorem dX7_findWorths_144 : decode cX7_findWorths 144 = .ok (.iand, 1) := by decide +kernel
theorem dX7_findWorths_145 : decode cX7_findWorths 145 = .ok (.iadd, 1) := by decide +kernel
theorem dX7_findWorths_146 : decode cX7_findWorths 146 = .ok (.iaload, 1) := by decide +kernel
theorem dX7_findWorths_147 : decode cX7_findWorths 147 = .ok (.iadd, 1) := by decide +kernel
theorem dX7_findWorths_148 : decode cX7_findWorths 148 = .ok (.goto 4, 3) := by decide +kernel
theorem dX7_findWorths_151 : decode cX7_findWorths 151 = .ok (.iconst 0, 1) := by decide +kernel
theorem dX7_findWorths_152 : decode cX7_findWorths 152 = .ok (.istore 7, 2) := by decide +kernel
theorem dX7_findWorths_154 : decode cX7_findWorths 154 = .ok (.iload 7, 2) := by decide +kernel
theorem dX7_findWorths_156 : decode cX7_findWorths 156 = .ok (.iload 4, 2) := by decide +kernel
theorem dX7_findWorths_158 : decode cX7_findWorths 158 = .ok (.if_icmp .le 8, 3) := by decide +kernel
theorem dX7_findWorths_161 : decode cX7_findWorths 161 = .ok (.iload 7, 2) := by decide +kernel
theorem dX7_findWorths_163 : decode cX7_findWorths 163 = .ok (.goto 5, 3) := by decide +kernel
theorem dX7_findWorths_166 : decode cX7_findWorths 166 = .ok (.iload 4, 2) := by decide +kernel
theorem dX7_findWorths_168 : decode cX7_findWorths 168 = .ok (.istore 4, 2) := by decide +kernel
theorem dX7_findWorths_170 : decode cX7_findWorths 170 = .ok (.iinc 5 1, 3) := by decide +kernel
theorem dX7_findWorths_173 : decode cX7_findWorths 173 = .ok (.goto (-116), 3) := by decide +kernel
theorem dX7_findWorths_176 : decode cX7_findWorths 176 = .ok (.aload_n 0, 1) := by decide +kernel
theorem dX7_findWorths_177 : decode cX7_findWorths 177 = .ok (.getfield 72, 3) := by decide +kernel
theorem dX7_findWorths_180 : decode cX7_findWorths 180 = .ok (.bipush 64, 2) := by decide +kernel
theorem dX7_findWorths_182 : decode cX7_findWorths 182 = .ok (.iload_n 2, 1) := by decide +kernel
theorem dX7_findWorths_183 : decode cX7_findWorths 183 = .ok (.imul, 1) := by decide +kernel
theorem dX7_findWorths_184 : decode cX7_findWorths 184 = .ok (.iload_n 3, 1) := by decide +kernel
theorem dX7_findWorths_185 : decode cX7_findWorths 185 = .ok (.iadd, 1) := by decide +kernel
theorem dX7_findWorths_186 : decode cX7_findWorths 186 = .ok (.iload 4, 2) := by decide +kernel
theorem dX7_findWorths_188 : decode cX7_findWorths 188 = .ok (.iastore, 1) := by decide +kernel
theorem dX7_findWorths_189 : decode cX7_findWorths 189 = .ok (.iinc 3 1, 3) := by decide +kernel
theorem dX7_findWorths_192 : decode cX7_findWorths 192 = .ok (.goto (-159), 3) := by decide +kernel
theorem dX7_findWorths_195 : decode cX7_findWorths 195 = .ok (.iinc 2 (-1), 3) := by decide +kernel
theorem dX7_findWorths_198 : decode cX7_findWorths 198 = .ok (.goto (-171), 3) := by decide +kernel
theorem dX7_findWorths_201 : decode cX7_findWorths 201 = .ok (.return_, 1) := by decide +kernel
theorem dX7_findBest_0 : decode cX7_findBest 0 = .ok (.aload_n 0, 1) := by decide +kernel
theorem dX7_findBest_1 : decode cX7_findBest 1 = .ok (.iload_n 1, 1) := by decide +kernel
theorem dX7_findBest_2 : decode cX7_findBest 2 = .ok (.invokevirtual 194, 3) := by decide +kernel
theorem dX7_findBest_5 : decode cX7_findBest 5 = .ok (.aload_n 0, 1) := by decide +kernel
theorem dX7_findBest_6 : decode cX7_findBest 6 = .ok (.aload_n 0, 1) := by decide +kernel
theorem dX7_findBest_7 : decode cX7_findBest 7 = .ok (.getfield 72, 3) := by decide +kernel
theorem dX7_findBest_10 : decode cX7_findBest 10 = .ok (.bipush 63, 2) := by decide +kernel
theorem dX7_findBest_12 : decode cX7_findBest 12 = .ok (.iaload, 1) := by decide +kernel
theorem dX7_findBest_13 : decode cX7_findBest 13 = .ok (.putfield 197, 3) := by decide +kernel
theorem dX7_findBest_16 : decode cX7_findBest 16 = .ok (.bipush 63, 2) := by decide +kernel
theorem dX7_findBest_18 : decode cX7_findBest 18 = .ok (.istore_n 2, 1) := by decide +kernel
theorem dX7_findBest_19 : decode cX7_findBest 19 = .ok (.iconst 0, 1) := by decide +kernel
theorem dX7_findBest_20 : decode cX7_findBest 20 = .ok (.istore_n 3, 1) := by decide +kernel
theorem dX7_findBest_21 : decode cX7_findBest 21 = .ok (.iload_n 3, 1) := by decide +kernel
theorem dX7_findBest_22 : decode cX7_findBest 22 = .ok (.bipush 6, 2) := by decide +kernel
theorem dX7_findBest_24 : decode cX7_findBest 24 = .ok (.if_icmp .ge 200, 3) := by decide +kernel
theorem dX7_findBest_27 : decode cX7_findBest 27 = .ok (.aload_n 0, 1) := by decide +kernel
theorem dX7_findBest_28 : decode cX7_findBest 28 = .ok (.getfield 72, 3) := by decide +kernel
theorem dX7_findBest_31 : decode cX7_findBest 31 = .ok (.bipush 64, 2) := by decide +kernel
theorem dX7_findBest_33 : decode cX7_findBest 33 = .ok (.iload_n 3, 1) := by decide +kernel
theorem dX7_findBest_34 : decode cX7_findBest 34 = .ok (.imul, 1) := by decide +kernel
theorem dX7_findBest_35 : decode cX7_findBest 35 = .ok (.iload_n 2, 1) := by decide +kernel
theorem dX7_findBest_36 : decode cX7_findBest 36 = .ok (.iadd, 1) := by decide +kernel
theorem dX7_findBest_37 : decode cX7_findBest 37 = .ok (.iaload, 1) := by decide +kernel
theorem dX7_findBest_38 : decode cX7_findBest 38 = .ok (.istore 4, 2) := by decide +kernel
theorem dX7_findBest_40 : decode cX7_findBest 40 = .ok (.iconst (-1), 1) := by decide +kernel
theorem dX7_findBest_41 : decode cX7_findBest 41 = .ok (.istore 5, 2) := by decide +kernel
theorem dX7_findBest_43 : decode cX7_findBest 43 = .ok (.aload_n 0, 1) := by decide +kernel
theorem dX7_findBest_44 : decode cX7_findBest 44 = .ok (.getfield 72, 3) := by decide +kernel
theorem dX7_findBest_47 : decode cX7_findBest 47 = .ok (.bipush 64, 2) := by decide +kernel
theorem dX7_findBest_49 : decode cX7_findBest 49 = .ok (.iload_n 3, 1) := by decide +kernel
theorem dX7_findBest_50 : decode cX7_findBest 50 = .ok (.iconst 1, 1) := by decide +kernel
theorem dX7_findBest_51 : decode cX7_findBest 51 = .ok (.iadd, 1) := by decide +kernel
theorem dX7_findBest_52 : decode cX7_findBest 52 = .ok (.imul, 1) := by decide +kernel
theorem dX7_findBest_53 : decode cX7_findBest 53 = .ok (.iload_n 2, 1) := by decide +kernel
theorem dX7_findBest_54 : decode cX7_findBest 54 = .ok (.iadd, 1) := by decide +kernel
theorem dX7_findBest_55 : decode cX7_findBest 55 = .ok (.iaload, 1) := by decide +kernel
theorem dX7_findBest_56 : decode cX7_findBest 56 = .ok (.iload 4, 2) := by decide +kernel
theorem dX7_findBest_58 : decode cX7_findBest 58 = .ok (.if_icmp .ne 7, 3) := by decide +kernel
theorem dX7_findBest_61 : decode cX7_findBest 61 = .ok (.iconst 1, 1) := by decide +kernel
theorem dX7_findBest_62 : decode cX7_findBest 62 = .ok (.goto 4, 3) := by decide +kernel
theorem dX7_findBest_65 : decode cX7_findBest 65 = .ok (.iconst 0, 1) := by decide +kernel
theorem dX7_findBest_66 : decode cX7_findBest 66 = .ok (.istore 6, 2) := by decide +kernel
theorem dX7_findBest_68 : decode cX7_findBest 68 = .ok (.aload_n 0, 1) := by decide +kernel
theorem dX7_findBest_69 : decode cX7_findBest 69 = .ok (.getfield 191, 3) := by decide +kernel
theorem dX7_findBest_72 : decode cX7_findBest 72 = .ok (.iconst 1, 1) := by decide +kernel
theorem dX7_findBest_73 : decode cX7_findBest 73 = .ok (.isub, 1) := by decide +kernel
theorem dX7_findBest_74 : decode cX7_findBest 74 = .ok (.istore 7, 2) := by decide +kernel
theorem dX7_findBest_76 : decode cX7_findBest 76 = .ok (.iload 7, 2) := by decide +kernel
theorem dX7_findBest_78 : decode cX7_findBest 78 = .ok (.ifCond .lt 110, 3) := by decide +kernel
theorem dX7_findBest_81 : decode cX7_findBest 81 = .ok (.iload 6, 2) := by decide +kernel
theorem dX7_findBest_83 : decode cX7_findBest 83 = .ok (.ifCond .ne 105, 3) := by decide +kernel
theorem dX7_findBest_86 : decode cX7_findBest 86 = .ok (.aload_n 0, 1) := by decide +kernel
theorem dX7_findBest_87 : decode cX7_findBest 87 = .ok (.getfield 57, 3) := by decide +kernel
theorem dX7_findBest_90 : decode cX7_findBest 90 = .ok (.iload 7, 2) := by decide +kernel
theorem dX7_findBest_92 : decode cX7_findBest 92 = .ok (.iaload, 1) := by decide +kernel
theorem dX7_findBest_93 : decode cX7_findBest 93 = .ok (.iload_n 3, 1) := by decide +kernel
theorem dX7_findBest_94 : decode cX7_findBest 94 = .ok (.if_icmp .ne 35, 3) := by decide +kernel
theorem dX7_findBest_97 : decode cX7_findBest 97 = .ok (.iload_n 1, 1) := by decide +kernel
theorem dX7_findBest_98 : decode cX7_findBest 98 = .ok (.iload_n 3, 1) := by decide +kernel
theorem dX7_findBest_99 : decode cX7_findBest 99 = .ok (.ishr, 1) := by decide +kernel
theorem dX7_findBest_100 : decode cX7_findBest 100 = .ok (.iconst 1, 1) := by decide +kernel
theorem dX7_findBest_101 : decode cX7_findBest 101 = .ok (.iand, 1) := by decide +kernel
theorem dX7_findBest_102 : decode cX7_findBest 102 = .ok (.iconst 1, 1) := by decide +kernel
theorem dX7_findBest_103 : decode cX7_findBest 103 = .ok (.if_icmp .ne 26, 3) := by decide +kernel
theorem dX7_findBest_106 : decode cX7_findBest 106 = .ok (.aload_n 0, 1) := by decide +kernel
theorem dX7_findBest_107 : decode cX7_findBest 107 = .ok (.getfield 60, 3) := by decide +kernel
theorem dX7_findBest_110 : decode cX7_findBest 110 = .ok (.iload 7, 2) := by decide +kernel
theorem dX7_findBest_112 : decode cX7_findBest 112 = .ok (.iaload, 1) := by decide +kernel
theorem dX7_findBest_113 : decode cX7_findBest 113 = .ok (.iload_n 2, 1) := by decide +kernel
theorem dX7_findBest_114 : decode cX7_findBest 114 = .ok (.iand, 1) := by decide +kernel
theorem dX7_findBest_115 : decode cX7_findBest 115 = .ok (.aload_n 0, 1) := by decide +kernel
theorem dX7_findBest_116 : decode cX7_findBest 116 = .ok (.getfield 60, 3) := by decide +kernel
theorem dX7_findBest_119 : decode cX7_findBest 119 = .ok (.iload 7, 2) := by decide +kernel
theorem dX7_findBest_121 : decode cX7_findBest 121 = .ok (.iaload, 1) := by decide +kernel
theorem dX7_findBest_122 : decode cX7_findBest 122 = .ok (.if_icmp .ne 7, 3) := by decide +kernel
theorem dX7_findBest_125 : decode cX7_findBest 125 = .ok (.iconst 1, 1) := by decide +kernel
theorem dX7_findBest_126 : decode cX7_findBest 126 = .ok (.goto 4, 3) := by decide +kernel
theorem dX7_findBest_129 : decode cX7_findBest 129 = .ok (.iconst 0, 1) := by decide +kernel
theorem dX7_findBest_130 : decode cX7_findBest 130 = .ok (.istore 8, 2) := by decide +kernel
theorem dX7_findBest_132 : decode cX7_findBest 132 = .ok (.iload 8, 2) := by decide +kernel
theorem dX7_findBest_134 : decode cX7_findBest 134 = .ok (.ifCond .eq 44, 3) := by decide +kernel
theorem dX7_findBest_137 : decode cX7_findBest 137 = .ok (.aload_n 0, 1) := by decide +kernel
theorem dX7_findBest_138 : decode cX7_findBest 138 = .ok (.getfield 63, 3) := by decide +kernel
theorem dX7_findBest_141 : decode cX7_findBest 141 = .ok (.iload 7, 2) := by decide +kernel
theorem dX7_findBest_143 : decode cX7_findBest 143 = .ok (.iaload, 1) := by decide +kernel
theorem dX7_findBest_144 : decode cX7_findBest 144 = .ok (.aload_n 0, 1) := by decide +kernel
theorem dX7_findBest_145 : decode cX7_findBest 145 = .ok (.getfield 72, 3) := by decide +kernel
theorem dX7_findBest_148 : decode cX7_findBest 148 = .ok (.bipush 64, 2) := by decide +kernel
theorem dX7_findBest_150 : decode cX7_findBest 150 = .ok (.iload_n 3, 1) := by decide +kernel
theorem dX7_findBest_151 : decode cX7_findBest 151 = .ok (.iconst 1, 1) := by decide +kernel
theorem dX7_findBest_152 : decode cX7_findBest 152 = .ok (.iadd, 1) := by decide +kernel
theorem dX7_findBest_153 : decode cX7_findBest 153 = .ok (.imul, 1) := by decide +kernel
theorem dX7_findBest_154 : decode cX7_findBest 154 = .ok (.iload_n 2, 1) := by decide +kernel
theorem dX7_findBest_155 : decode cX7_findBest 155 = .ok (.aload_n 0, 1) := by decide +kernel
theorem dX7_findBest_156 : decode cX7_findBest 156 = .ok (.getfield 60, 3) := by decide +kernel
theorem dX7_findBest_159 : decode cX7_findBest 159 = .ok (.iload 7, 2) := by decide +kernel
theorem dX7_findBest_161 : decode cX7_findBest 161 = .ok (.iaload, 1) := by decide +kernel
theorem dX7_findBest_162 : decode cX7_findBest 162 = .ok (.iconst (-1), 1) := by decide +kernel
theorem dX7_findBest_163 : decode cX7_findBest 163 = .ok (.ixor, 1) := by decide +kernel
theorem dX7_findBest_164 : decode cX7_findBest 164 = .ok (.iand, 1) := by decide +kernel
theorem dX7_findBest_165 : decode cX7_findBest 165 = .ok (.iadd, 1) := by decide +kernel
theorem dX7_findBest_166 : decode cX7_findBest 166 = .ok (.iaload, 1) := by decide +kernel
theorem dX7_findBest_167 : decode cX7_findBest 167 = .ok (.iadd, 1) := by decide +kernel
theorem dX7_findBest_168 : decode cX7_findBest 168 = .ok (.iload 4, 2) := by decide +kernel
theorem dX7_findBest_170 : decode cX7_findBest 170 = .ok (.if_icmp .ne 8, 3) := by decide +kernel
theorem dX7_findBest_173 : decode cX7_findBest 173 = .ok (.iload 7, 2) := by decide +kernel
theorem dX7_findBest_175 : decode cX7_findBest 175 = .ok (.goto 5, 3) := by decide +kernel
theorem dX7_findBest_178 : decode cX7_findBest 178 = .ok (.iload 5, 2) := by decide +kernel
theorem dX7_findBest_180 : decode cX7_findBest 180 = .ok (.istore 5, 2) := by decide +kernel
theorem dX7_findBest_182 : decode cX7_findBest 182 = .ok (.iinc 7 (-1), 3) := by decide +kernel
theorem dX7_findBest_185 : decode cX7_findBest 185 = .ok (.goto (-109), 3) := by decide +kernel
theorem dX7_findBest_188 : decode cX7_findBest 188 = .ok (.aload_n 0, 1) := by decide +kernel
theorem dX7_findBest_189 : decode cX7_findBest 189 = .ok (.getfield 69, 3) := by decide +kernel
theorem dX7_findBest_192 : decode cX7_findBest 192 = .ok (.iload_n 3, 1) := by decide +kernel
theorem dX7_findBest_193 : decode cX7_findBest 193 = .ok (.iload 5, 2) := by decide +kernel
theorem dX7_findBest_195 : decode cX7_findBest 195 = .ok (.iastore, 1) := by decide +kernel
theorem dX7_findBest_196 : decode cX7_findBest 196 = .ok (.iload_n 2, 1) := by decide +kernel
theorem dX7_findBest_197 : decode cX7_findBest 197 = .ok (.iload 5, 2) := by decide +kernel
theorem dX7_findBest_199 : decode cX7_findBest 199 = .ok (.ifCond .ge 8, 3) := by decide +kernel
theorem dX7_findBest_202 : decode cX7_findBest 202 = .ok (.bipush 63, 2) := by decide +kernel
theorem dX7_findBest_204 : decode cX7_findBest 204 = .ok (.goto 12, 3) := by decide +kernel
theorem dX7_findBest_207 : decode cX7_findBest 207 = .ok (.aload_n 0, 1) := by decide +kernel
theorem dX7_findBest_208 : decode cX7_findBest 208 = .ok (.getfield 60, 3) := by decide +kernel
theorem dX7_findBest_211 : decode cX7_findBest 211 = .ok (.iload 5, 2) := by decide +kernel
theorem dX7_findBest_213 : decode cX7_findBest 213 = .ok (.iaload, 1) := by decide +kernel
theorem dX7_findBest_214 : decode cX7_findBest 214 = .ok (.iconst (-1), 1) := by decide +kernel
theorem dX7_findBest_215 : decode cX7_findBest 215 = .ok (.ixor, 1) := by decide +kernel
theorem dX7_findBest_216 : decode cX7_findBest 216 = .ok (.iand, 1) := by decide +kernel
theorem dX7_findBest_217 : decode cX7_findBest 217 = .ok (.istore_n 2, 1) := by decide +kernel
theorem dX7_findBest_218 : decode cX7_findBest 218 = .ok (.iinc 3 1, 3) := by decide +kernel
theorem dX7_findBest_221 : decode cX7_findBest 221 = .ok (.goto (-200), 3) := by decide +kernel
theorem dX7_findBest_224 : decode cX7_findBest 224 = .ok (.return_, 1) := by decide +kernel
theorem dX7_best_0 : decode cX7_best 0 = .ok (.aload_n 0, 1) := by decide +kernel
theorem dX7_best_1 : decode cX7_best 1 = .ok (.iload_n 1, 1) := by decide +kernel
theorem dX7_best_2 : decode cX7_best 2 = .ok (.invokevirtual 200, 3) := by decide +kernel
theorem dX7_best_5 : decode cX7_best 5 = .ok (.ifCond .ne 29, 3) := by decide +kernel
theorem dX7_best_8 : decode cX7_best 8 = .ok (.iload_n 2, 1) := by decide +kernel
theorem dX7_best_9 : decode cX7_best 9 = .ok (.iconst (-1), 1) := by decide +kernel
theorem dX7_best_10 : decode cX7_best 10 = .ok (.if_icmp .lt 24, 3) := by decide +kernel
theorem dX7_best_13 : decode cX7_best 13 = .ok (.iload_n 2, 1) := by decide +kernel
theorem dX7_best_14 : decode cX7_best 14 = .ok (.iconst (-1), 1) := by decide +kernel
theorem dX7_best_15 : decode cX7_best 15 = .ok (.if_icmp .eq 22, 3) := by decide +kernel
theorem dX7_best_18 : decode cX7_best 18 = .ok (.aload_n 0, 1) := by decide +kernel
theorem dX7_best_19 : decode cX7_best 19 = .ok (.iload_n 2, 1) := by decide +kernel
theorem dX7_best_20 : decode cX7_best 20 = .ok (.invokevirtual 186, 3) := by decide +kernel
theorem dX7_best_23 : decode cX7_best 23 = .ok (.ifCond .ne 11, 3) := by decide +kernel
theorem dX7_best_26 : decode cX7_best 26 = .ok (.iload_n 1, 1) := by decide +kernel
theorem dX7_best_27 : decode cX7_best 27 = .ok (.iload_n 2, 1) := by decide +kernel
theorem dX7_best_28 : decode cX7_best 28 = .ok (.ishr, 1) := by decide +kernel
theorem dX7_best_29 : decode cX7_best 29 = .ok (.iconst 1, 1) := by decide +kernel
theorem dX7_best_30 : decode cX7_best 30 = .ok (.iand, 1) := by decide +kernel
theorem dX7_best_31 : decode cX7_best 31 = .ok (.ifCond .ne 6, 3) := by decide +kernel
theorem dX7_best_34 : decode cX7_best 34 = .ok (.bipush (-10), 2) := by decide +kernel
theorem dX7_best_36 : decode cX7_best 36 = .ok (.ireturn, 1) := by decide +kernel
theorem dX7_best_37 : decode cX7_best 37 = .ok (.aload_n 0, 1) := by decide +kernel
theorem dX7_best_38 : decode cX7_best 38 = .ok (.iload_n 1, 1) := by decide +kernel
theorem dX7_best_39 : decode cX7_best 39 = .ok (.invokevirtual 203, 3) := by decide +kernel
theorem dX7_best_42 : decode cX7_best 42 = .ok (.iload_n 2, 1) := by decide +kernel
theorem dX7_best_43 : decode cX7_best 43 = .ok (.iconst (-1), 1) := by decide +kernel
theorem dX7_best_44 : decode cX7_best 44 = .ok (.if_icmp .ne 10, 3) := by decide +kernel
theorem dX7_best_47 : decode cX7_best 47 = .ok (.aload_n 0, 1) := by decide +kernel
theorem dX7_best_48 : decode cX7_best 48 = .ok (.getfield 197, 3) := by decide +kernel
theorem dX7_best_51 : decode cX7_best 51 = .ok (.goto 9, 3) := by decide +kernel
theorem dX7_best_54 : decode cX7_best 54 = .ok (.aload_n 0, 1) := by decide +kernel
theorem dX7_best_55 : decode cX7_best 55 = .ok (.getfield 69, 3) := by decide +kernel
theorem dX7_best_58 : decode cX7_best 58 = .ok (.iload_n 2, 1) := by decide +kernel
theorem dX7_best_59 : decode cX7_best 59 = .ok (.iaload, 1) := by decide +kernel
theorem dX7_best_60 : decode cX7_best 60 = .ok (.ireturn, 1) := by decide +kernel
theorem dX7_allHouses_0 : decode cX7_allHouses 0 = .ok (.iconst 1, 1) := by decide +kernel
theorem dX7_allHouses_1 : decode cX7_allHouses 1 = .ok (.aload_n 0, 1) := by decide +kernel
theorem dX7_allHouses_2 : decode cX7_allHouses 2 = .ok (.getfield 183, 3) := by decide +kernel
theorem dX7_allHouses_5 : decode cX7_allHouses 5 = .ok (.ishl, 1) := by decide +kernel
theorem dX7_allHouses_6 : decode cX7_allHouses 6 = .ok (.iconst 1, 1) := by decide +kernel
theorem dX7_allHouses_7 : decode cX7_allHouses 7 = .ok (.isub, 1) := by decide +kernel
theorem dX7_allHouses_8 : decode cX7_allHouses 8 = .ok (.ireturn, 1) := by decide +kernel
theorem dX7_wonBy_0 : decode cX7_wonBy 0 = .ok (.aload_n 0, 1) := by decide +kernel
theorem dX7_wonBy_1 : decode cX7_wonBy 1 = .ok (.getfield 69, 3) := by decide +kernel
theorem dX7_wonBy_4 : decode cX7_wonBy 4 = .ok (.iload_n 1, 1) := by decide +kernel
theorem dX7_wonBy_5 : decode cX7_wonBy 5 = .ok (.iaload, 1) := by decide +kernel
theorem dX7_wonBy_6 : decode cX7_wonBy 6 = .ok (.ifCond .ge 7, 3) := by decide +kernel
theorem dX7_wonBy_9 : decode cX7_wonBy 9 = .ok (.iconst 0, 1) := by decide +kernel
theorem dX7_wonBy_10 : decode cX7_wonBy 10 = .ok (.goto 14, 3) := by decide +kernel
theorem dX7_wonBy_13 : decode cX7_wonBy 13 = .ok (.aload_n 0, 1) := by decide +kernel
theorem dX7_wonBy_14 : decode cX7_wonBy 14 = .ok (.getfield 63, 3) := by decide +kernel
theorem dX7_wonBy_17 : decode cX7_wonBy 17 = .ok (.aload_n 0, 1) := by decide +kernel
theorem dX7_wonBy_18 : decode cX7_wonBy 18 = .ok (.getfield 69, 3) := by decide +kernel
theorem dX7_wonBy_21 : decode cX7_wonBy 21 = .ok (.iload_n 1, 1) := by decide +kernel
theorem dX7_wonBy_22 : decode cX7_wonBy 22 = .ok (.iaload, 1) := by decide +kernel
theorem dX7_wonBy_23 : decode cX7_wonBy 23 = .ok (.iaload, 1) := by decide +kernel
theorem dX7_wonBy_24 : decode cX7_wonBy 24 = .ok (.ireturn, 1) := by decide +kernel
theorem dX7_takes_0 : decode cX7_takes 0 = .ok (.aload_n 0, 1) := by decide +kernel
theorem dX7_takes_1 : decode cX7_takes 1 = .ok (.iload_n 1, 1) := by decide +kernel
theorem dX7_takes_2 : decode cX7_takes 2 = .ok (.invokevirtual 186, 3) := by decide +kernel
theorem dX7_takes_5 : decode cX7_takes 5 = .ok (.ifCond .eq 6, 3) := by decide +kernel
theorem dX7_takes_8 : decode cX7_takes 8 = .ok (.bipush (-2), 2) := by decide +kernel
theorem dX7_takes_10 : decode cX7_takes 10 = .ok (.ireturn, 1) := by decide +kernel
theorem dX7_takes_11 : decode cX7_takes 11 = .ok (.aload_n 0, 1) := by decide +kernel
theorem dX7_takes_12 : decode cX7_takes 12 = .ok (.aload_n 0, 1) := by decide +kernel
theorem dX7_takes_13 : decode cX7_takes 13 = .ok (.invokevirtual 206, 3) := by decide +kernel
theorem dX7_takes_16 : decode cX7_takes 16 = .ok (.iconst 1, 1) := by decide +kernel
theorem dX7_takes_17 : decode cX7_takes 17 = .ok (.iload_n 1, 1) := by decide +kernel
theorem dX7_takes_18 : decode cX7_takes 18 = .ok (.ishl, 1) := by decide +kernel
theorem dX7_takes_19 : decode cX7_takes 19 = .ok (.iconst (-1), 1) := by decide +kernel
theorem dX7_takes_20 : decode cX7_takes 20 = .ok (.ixor, 1) := by decide +kernel
theorem dX7_takes_21 : decode cX7_takes 21 = .ok (.iand, 1) := by decide +kernel
theorem dX7_takes_22 : decode cX7_takes 22 = .ok (.invokevirtual 203, 3) := by decide +kernel
theorem dX7_takes_25 : decode cX7_takes 25 = .ok (.aload_n 0, 1) := by decide +kernel
theorem dX7_takes_26 : decode cX7_takes 26 = .ok (.getfield 197, 3) := by decide +kernel
theorem dX7_takes_29 : decode cX7_takes 29 = .ok (.istore_n 2, 1) := by decide +kernel
theorem dX7_takes_30 : decode cX7_takes 30 = .ok (.aload_n 0, 1) := by decide +kernel
theorem dX7_takes_31 : decode cX7_takes 31 = .ok (.aload_n 0, 1) := by decide +kernel
theorem dX7_takes_32 : decode cX7_takes 32 = .ok (.invokevirtual 206, 3) := by decide +kernel
theorem dX7_takes_35 : decode cX7_takes 35 = .ok (.invokevirtual 203, 3) := by decide +kernel
theorem dX7_takes_38 : decode cX7_takes 38 = .ok (.iload_n 2, 1) := by decide +kernel
theorem dX7_takes_39 : decode cX7_takes 39 = .ok (.aload_n 0, 1) := by decide +kernel
theorem dX7_takes_40 : decode cX7_takes 40 = .ok (.getfield 197, 3) := by decide +kernel
theorem dX7_takes_43 : decode cX7_takes 43 = .ok (.aload_n 0, 1) := by decide +kernel
theorem dX7_takes_44 : decode cX7_takes 44 = .ok (.iload_n 1, 1) := by decide +kernel
theorem dX7_takes_45 : decode cX7_takes 45 = .ok (.invokevirtual 209, 3) := by decide +kernel
theorem dX7_takes_48 : decode cX7_takes 48 = .ok (.isub, 1) := by decide +kernel
theorem dX7_takes_49 : decode cX7_takes 49 = .ok (.isub, 1) := by decide +kernel
theorem dX7_takes_50 : decode cX7_takes 50 = .ok (.ireturn, 1) := by decide +kernel
theorem dX7_price_0 : decode cX7_price 0 = .ok (.aload_n 0, 1) := by decide +kernel
theorem dX7_price_1 : decode cX7_price 1 = .ok (.iload_n 1, 1) := by decide +kernel
theorem dX7_price_2 : decode cX7_price 2 = .ok (.invokevirtual 186, 3) := by decide +kernel
theorem dX7_price_5 : decode cX7_price 5 = .ok (.ifCond .ne 15, 3) := by decide +kernel
theorem dX7_price_8 : decode cX7_price 8 = .ok (.iload_n 2, 1) := by decide +kernel
theorem dX7_price_9 : decode cX7_price 9 = .ok (.i2l, 1) := by decide +kernel
theorem dX7_price_10 : decode cX7_price 10 = .ok (.lconst 0, 1) := by decide +kernel
theorem dX7_price_11 : decode cX7_price 11 = .ok (.ldc2_w 189, 3) := by decide +kernel
theorem dX7_price_14 : decode cX7_price 14 = .ok (.invokestatic 90, 3) := by decide +kernel
theorem dX7_price_17 : decode cX7_price 17 = .ok (.ifCond .ne 6, 3) := by decide +kernel
theorem dX7_price_20 : decode cX7_price 20 = .ok (.bipush (-2), 2) := by decide +kernel
theorem dX7_price_22 : decode cX7_price 22 = .ok (.ireturn, 1) := by decide +kernel
theorem dX7_price_23 : decode cX7_price 23 = .ok (.aload_n 0, 1) := by decide +kernel
theorem dX7_price_24 : decode cX7_price 24 = .ok (.getfield 54, 3) := by decide +kernel
theorem dX7_price_27 : decode cX7_price 27 = .ok (.iload_n 1, 1) := by decide +kernel
theorem dX7_price_28 : decode cX7_price 28 = .ok (.iaload, 1) := by decide +kernel
theorem dX7_price_29 : decode cX7_price 29 = .ok (.istore_n 3, 1) := by decide +kernel
theorem dX7_price_30 : decode cX7_price 30 = .ok (.aload_n 0, 1) := by decide +kernel
theorem dX7_price_31 : decode cX7_price 31 = .ok (.getfield 54, 3) := by decide +kernel
theorem dX7_price_34 : decode cX7_price 34 = .ok (.iload_n 1, 1) := by decide +kernel
theorem dX7_price_35 : decode cX7_price 35 = .ok (.iload_n 2, 1) := by decide +kernel
theorem dX7_price_36 : decode cX7_price 36 = .ok (.iastore, 1) := by decide +kernel
theorem dX7_price_37 : decode cX7_price 37 = .ok (.iload_n 3, 1) := by decide +kernel
theorem dX7_price_38 : decode cX7_price 38 = .ok (.ireturn, 1) := by decide +kernel
theorem dX7_isBlocking_0 : decode cX7_isBlocking 0 = .ok (.aload_n 0, 1) := by decide +kernel
theorem dX7_isBlocking_1 : decode cX7_isBlocking 1 = .ok (.iload_n 1, 1) := by decide +kernel
theorem dX7_isBlocking_2 : decode cX7_isBlocking 2 = .ok (.invokevirtual 203, 3) := by decide +kernel
theorem dX7_isBlocking_5 : decode cX7_isBlocking 5 = .ok (.aload_n 0, 1) := by decide +kernel
theorem dX7_isBlocking_6 : decode cX7_isBlocking 6 = .ok (.getfield 197, 3) := by decide +kernel
theorem dX7_isBlocking_9 : decode cX7_isBlocking 9 = .ok (.istore_n 2, 1) := by decide +kernel
theorem dX7_isBlocking_10 : decode cX7_isBlocking 10 = .ok (.aload_n 0, 1) := by decide +kernel
theorem dX7_isBlocking_11 : decode cX7_isBlocking 11 = .ok (.aload_n 0, 1) := by decide +kernel
theorem dX7_isBlocking_12 : decode cX7_isBlocking 12 = .ok (.invokevirtual 206, 3) := by decide +kernel
theorem dX7_isBlocking_15 : decode cX7_isBlocking 15 = .ok (.invokevirtual 203, 3) := by decide +kernel
theorem dX7_isBlocking_18 : decode cX7_isBlocking 18 = .ok (.iconst 0, 1) := by decide +kernel
theorem dX7_isBlocking_19 : decode cX7_isBlocking 19 = .ok (.istore_n 3, 1) := by decide +kernel
theorem dX7_isBlocking_20 : decode cX7_isBlocking 20 = .ok (.iconst 0, 1) := by decide +kernel
theorem dX7_isBlocking_21 : decode cX7_isBlocking 21 = .ok (.istore 4, 2) := by decide +kernel
theorem dX7_isBlocking_23 : decode cX7_isBlocking 23 = .ok (.iload 4, 2) := by decide +kernel
theorem dX7_isBlocking_25 : decode cX7_isBlocking 25 = .ok (.aload_n 0, 1) := by decide +kernel
theorem dX7_isBlocking_26 : decode cX7_isBlocking 26 = .ok (.getfield 183, 3) := by decide +kernel
theorem dX7_isBlocking_29 : decode cX7_isBlocking 29 = .ok (.if_icmp .ge 80, 3) := by decide +kernel
theorem dX7_isBlocking_32 : decode cX7_isBlocking 32 = .ok (.aload_n 0, 1) := by decide +kernel
theorem dX7_isBlocking_33 : decode cX7_isBlocking 33 = .ok (.iload 4, 2) := by decide +kernel
theorem dX7_isBlocking_35 : decode cX7_isBlocking 35 = .ok (.invokevirtual 209, 3) := by decide +kernel
theorem dX7_isBlocking_38 : decode cX7_isBlocking 38 = .ok (.istore 5, 2) := by decide +kernel
theorem dX7_isBlocking_40 : decode cX7_isBlocking 40 = .ok (.iload_n 3, 1) := by decide +kernel
theorem dX7_isBlocking_41 : decode cX7_isBlocking 41 = .ok (.aload_n 0, 1) := by decide +kernel
theorem dX7_isBlocking_42 : decode cX7_isBlocking 42 = .ok (.getfield 69, 3) := by decide +kernel
theorem dX7_isBlocking_45 : decode cX7_isBlocking 45 = .ok (.iload 4, 2) := by decide +kernel
theorem dX7_isBlocking_47 : decode cX7_isBlocking 47 = .ok (.iaload, 1) := by decide +kernel
theorem dX7_isBlocking_48 : decode cX7_isBlocking 48 = .ok (.ifCond .ge 7, 3) := by decide +kernel
theorem dX7_isBlocking_51 : decode cX7_isBlocking 51 = .ok (.iconst 0, 1) := by decide +kernel
theorem dX7_isBlocking_52 : decode cX7_isBlocking 52 = .ok (.goto 10, 3) := by decide +kernel
theorem dX7_isBlocking_55 : decode cX7_isBlocking 55 = .ok (.aload_n 0, 1) := by decide +kernel
theorem dX7_isBlocking_56 : decode cX7_isBlocking 56 = .ok (.getfield 54, 3) := by decide +kernel
theorem dX7_isBlocking_59 : decode cX7_isBlocking 59 = .ok (.iload 4, 2) := by decide +kernel
theorem dX7_isBlocking_61 : decode cX7_isBlocking 61 = .ok (.iaload, 1) := by decide +kernel
theorem dX7_isBlocking_62 : decode cX7_isBlocking 62 = .ok (.iadd, 1) := by decide +kernel
theorem dX7_isBlocking_63 : decode cX7_isBlocking 63 = .ok (.istore_n 3, 1) := by decide +kernel
theorem dX7_isBlocking_64 : decode cX7_isBlocking 64 = .ok (.iload_n 3, 1) := by decide +kernel
theorem dX7_isBlocking_65 : decode cX7_isBlocking 65 = .ok (.iload_n 1, 1) := by decide +kernel
theorem dX7_isBlocking_66 : decode cX7_isBlocking 66 = .ok (.iload 4, 2) := by decide +kernel
theorem dX7_isBlocking_68 : decode cX7_isBlocking 68 = .ok (.ishr, 1) := by decide +kernel
theorem dX7_isBlocking_69 : decode cX7_isBlocking 69 = .ok (.iconst 1, 1) := by decide +kernel
theorem dX7_isBlocking_70 : decode cX7_isBlocking 70 = .ok (.iand, 1) := by decide +kernel
theorem dX7_isBlocking_71 : decode cX7_isBlocking 71 = .ok (.iconst 1, 1) := by decide +kernel
theorem dX7_isBlocking_72 : decode cX7_isBlocking 72 = .ok (.if_icmp .ne 28, 3) := by decide +kernel
theorem dX7_isBlocking_75 : decode cX7_isBlocking 75 = .ok (.iload 5, 2) := by decide +kernel
theorem dX7_isBlocking_77 : decode cX7_isBlocking 77 = .ok (.aload_n 0, 1) := by decide +kernel
theorem dX7_isBlocking_78 : decode cX7_isBlocking 78 = .ok (.getfield 54, 3) := by decide +kernel
theorem dX7_isBlocking_81 : decode cX7_isBlocking 81 = .ok (.iload 4, 2) := by decide +kernel
theorem dX7_isBlocking_83 : decode cX7_isBlocking 83 = .ok (.iaload, 1) := by decide +kernel
theorem dX7_isBlocking_84 : decode cX7_isBlocking 84 = .ok (.if_icmp .le 16, 3) := by decide +kernel
theorem dX7_isBlocking_87 : decode cX7_isBlocking 87 = .ok (.iload 5, 2) := by decide +kernel
theorem dX7_isBlocking_89 : decode cX7_isBlocking 89 = .ok (.aload_n 0, 1) := by decide +kernel
theorem dX7_isBlocking_90 : decode cX7_isBlocking 90 = .ok (.getfield 54, 3) := by decide +kernel
theorem dX7_isBlocking_93 : decode cX7_isBlocking 93 = .ok (.iload 4, 2) := by decide +kernel
theorem dX7_isBlocking_95 : decode cX7_isBlocking 95 = .ok (.iaload, 1) := by decide +kernel
theorem dX7_isBlocking_96 : decode cX7_isBlocking 96 = .ok (.isub, 1) := by decide +kernel
theorem dX7_isBlocking_97 : decode cX7_isBlocking 97 = .ok (.goto 4, 3) := by decide +kernel
theorem dX7_isBlocking_100 : decode cX7_isBlocking 100 = .ok (.iconst 0, 1) := by decide +kernel
theorem dX7_isBlocking_101 : decode cX7_isBlocking 101 = .ok (.iadd, 1) := by decide +kernel
theorem dX7_isBlocking_102 : decode cX7_isBlocking 102 = .ok (.istore_n 3, 1) := by decide +kernel
theorem dX7_isBlocking_103 : decode cX7_isBlocking 103 = .ok (.iinc 4 1, 3) := by decide +kernel
theorem dX7_isBlocking_106 : decode cX7_isBlocking 106 = .ok (.goto (-83), 3) := by decide +kernel
theorem dX7_isBlocking_109 : decode cX7_isBlocking 109 = .ok (.iload_n 2, 1) := by decide +kernel
theorem dX7_isBlocking_110 : decode cX7_isBlocking 110 = .ok (.iload_n 3, 1) := by decide +kernel
theorem dX7_isBlocking_111 : decode cX7_isBlocking 111 = .ok (.if_icmp .le 7, 3) := by decide +kernel
theorem dX7_isBlocking_114 : decode cX7_isBlocking 114 = .ok (.iconst 1, 1) := by decide +kernel
theorem dX7_isBlocking_115 : decode cX7_isBlocking 115 = .ok (.goto 4, 3) := by decide +kernel
theorem dX7_isBlocking_118 : decode cX7_isBlocking 118 = .ok (.iconst 0, 1) := by decide +kernel
theorem dX7_isBlocking_119 : decode cX7_isBlocking 119 = .ok (.ireturn, 1) := by decide +kernel
theorem dX7_blocks_0 : decode cX7_blocks 0 = .ok (.aload_n 0, 1) := by decide +kernel
theorem dX7_blocks_1 : decode cX7_blocks 1 = .ok (.iload_n 1, 1) := by decide +kernel
theorem dX7_blocks_2 : decode cX7_blocks 2 = .ok (.invokevirtual 200, 3) := by decide +kernel
theorem dX7_blocks_5 : decode cX7_blocks 5 = .ok (.ifCond .eq 8, 3) := by decide +kernel
theorem dX7_blocks_8 : decode cX7_blocks 8 = .ok (.bipush (-2), 2) := by decide +kernel
theorem dX7_blocks_10 : decode cX7_blocks 10 = .ok (.goto 11, 3) := by decide +kernel
theorem dX7_blocks_13 : decode cX7_blocks 13 = .ok (.aload_n 0, 1) := by decide +kernel
theorem dX7_blocks_14 : decode cX7_blocks 14 = .ok (.iload_n 1, 1) := by decide +kernel
theorem dX7_blocks_15 : decode cX7_blocks 15 = .ok (.invokevirtual 212, 3) := by decide +kernel
theorem dX7_blocks_18 : decode cX7_blocks 18 = .ok (.invokestatic 124, 3) := by decide +kernel
theorem dX7_blocks_21 : decode cX7_blocks 21 = .ok (.ireturn, 1) := by decide +kernel
theorem dX7_alone_0 : decode cX7_alone 0 = .ok (.iconst 1, 1) := by decide +kernel
theorem dX7_alone_1 : decode cX7_alone 1 = .ok (.istore_n 1, 1) := by decide +kernel
theorem dX7_alone_2 : decode cX7_alone 2 = .ok (.iload_n 1, 1) := by decide +kernel
theorem dX7_alone_3 : decode cX7_alone 3 = .ok (.aload_n 0, 1) := by decide +kernel
theorem dX7_alone_4 : decode cX7_alone 4 = .ok (.invokevirtual 206, 3) := by decide +kernel
theorem dX7_alone_7 : decode cX7_alone 7 = .ok (.if_icmp .gt 19, 3) := by decide +kernel
theorem dX7_alone_10 : decode cX7_alone 10 = .ok (.aload_n 0, 1) := by decide +kernel
theorem dX7_alone_11 : decode cX7_alone 11 = .ok (.iload_n 1, 1) := by decide +kernel
theorem dX7_alone_12 : decode cX7_alone 12 = .ok (.invokevirtual 212, 3) := by decide +kernel
theorem dX7_alone_15 : decode cX7_alone 15 = .ok (.ifCond .eq 5, 3) := by decide +kernel
theorem dX7_alone_18 : decode cX7_alone 18 = .ok (.iload_n 1, 1) := by decide +kernel
theorem dX7_alone_19 : decode cX7_alone 19 = .ok (.ireturn, 1) := by decide +kernel
theorem dX7_alone_20 : decode cX7_alone 20 = .ok (.iinc 1 1, 3) := by decide +kernel
theorem dX7_alone_23 : decode cX7_alone 23 = .ok (.goto (-21), 3) := by decide +kernel
theorem dX7_alone_26 : decode cX7_alone 26 = .ok (.iconst (-1), 1) := by decide +kernel
theorem dX7_alone_27 : decode cX7_alone 27 = .ok (.ireturn, 1) := by decide +kernel
theorem dX7_tell_0 : decode cX7_tell 0 = .ok (.aload_n 0, 1) := by decide +kernel
theorem dX7_tell_1 : decode cX7_tell 1 = .ok (.iload_n 1, 1) := by decide +kernel
theorem dX7_tell_2 : decode cX7_tell 2 = .ok (.invokevirtual 96, 3) := by decide +kernel
theorem dX7_tell_5 : decode cX7_tell 5 = .ok (.ifCond .ne 27, 3) := by decide +kernel
theorem dX7_tell_8 : decode cX7_tell 8 = .ok (.iload_n 2, 1) := by decide +kernel
theorem dX7_tell_9 : decode cX7_tell 9 = .ok (.i2l, 1) := by decide +kernel
theorem dX7_tell_10 : decode cX7_tell 10 = .ok (.lconst 0, 1) := by decide +kernel
theorem dX7_tell_11 : decode cX7_tell 11 = .ok (.lconst 1, 1) := by decide +kernel
theorem dX7_tell_12 : decode cX7_tell 12 = .ok (.invokestatic 90, 3) := by decide +kernel
theorem dX7_tell_15 : decode cX7_tell 15 = .ok (.ifCond .eq 17, 3) := by decide +kernel
theorem dX7_tell_18 : decode cX7_tell 18 = .ok (.iload_n 3, 1) := by decide +kernel
theorem dX7_tell_19 : decode cX7_tell 19 = .ok (.i2l, 1) := by decide +kernel
theorem dX7_tell_20 : decode cX7_tell 20 = .ok (.ldc2_w 215, 3) := by decide +kernel
theorem dX7_tell_23 : decode cX7_tell 23 = .ok (.ldc2_w 217, 3) := by decide +kernel
theorem dX7_tell_26 : decode cX7_tell 26 = .ok (.invokestatic 90, 3) := by decide +kernel
theorem dX7_tell_29 : decode cX7_tell 29 = .ok (.ifCond .ne 6, 3) := by decide +kernel
theorem dX7_tell_32 : decode cX7_tell 32 = .ok (.bipush (-10), 2) := by decide +kernel
theorem dX7_tell_34 : decode cX7_tell 34 = .ok (.ireturn, 1) := by decide +kernel
theorem dX7_tell_35 : decode cX7_tell 35 = .ok (.iload_n 2, 1) := by decide +kernel
theorem dX7_tell_36 : decode cX7_tell 36 = .ok (.ifCond .ne 12, 3) := by decide +kernel
theorem dX7_tell_39 : decode cX7_tell 39 = .ok (.aload_n 0, 1) := by decide +kernel
theorem dX7_tell_40 : decode cX7_tell 40 = .ok (.getfield 75, 3) := by decide +kernel
theorem dX7_tell_43 : decode cX7_tell 43 = .ok (.iload_n 1, 1) := by decide +kernel
theorem dX7_tell_44 : decode cX7_tell 44 = .ok (.iaload, 1) := by decide +kernel
theorem dX7_tell_45 : decode cX7_tell 45 = .ok (.goto 9, 3) := by decide +kernel
theorem dX7_tell_48 : decode cX7_tell 48 = .ok (.aload_n 0, 1) := by decide +kernel
theorem dX7_tell_49 : decode cX7_tell 49 = .ok (.getfield 78, 3) := by decide +kernel
theorem dX7_tell_52 : decode cX7_tell 52 = .ok (.iload_n 1, 1) := by decide +kernel
theorem dX7_tell_53 : decode cX7_tell 53 = .ok (.iaload, 1) := by decide +kernel
theorem dX7_tell_54 : decode cX7_tell 54 = .ok (.istore 4, 2) := by decide +kernel
theorem dX7_tell_56 : decode cX7_tell 56 = .ok (.aload_n 0, 1) := by decide +kernel
theorem dX7_tell_57 : decode cX7_tell 57 = .ok (.getfield 75, 3) := by decide +kernel
theorem dX7_tell_60 : decode cX7_tell 60 = .ok (.iload_n 1, 1) := by decide +kernel
theorem dX7_tell_61 : decode cX7_tell 61 = .ok (.iload_n 2, 1) := by decide +kernel
theorem dX7_tell_62 : decode cX7_tell 62 = .ok (.ifCond .ne 7, 3) := by decide +kernel
theorem dX7_tell_65 : decode cX7_tell 65 = .ok (.iload_n 3, 1) := by decide +kernel
theorem dX7_tell_66 : decode cX7_tell 66 = .ok (.goto 9, 3) := by decide +kernel
theorem dX7_tell_69 : decode cX7_tell 69 = .ok (.aload_n 0, 1) := by decide +kernel
theorem dX7_tell_70 : decode cX7_tell 70 = .ok (.getfield 75, 3) := by decide +kernel
theorem dX7_tell_73 : decode cX7_tell 73 = .ok (.iload_n 1, 1) := by decide +kernel
theorem dX7_tell_74 : decode cX7_tell 74 = .ok (.iaload, 1) := by decide +kernel
theorem dX7_tell_75 : decode cX7_tell 75 = .ok (.iastore, 1) := by decide +kernel
theorem dX7_tell_76 : decode cX7_tell 76 = .ok (.aload_n 0, 1) := by decide +kernel
theorem dX7_tell_77 : decode cX7_tell 77 = .ok (.getfield 78, 3) := by decide +kernel
theorem dX7_tell_80 : decode cX7_tell 80 = .ok (.iload_n 1, 1) := by decide +kernel
theorem dX7_tell_81 : decode cX7_tell 81 = .ok (.iload_n 2, 1) := by decide +kernel
theorem dX7_tell_82 : decode cX7_tell 82 = .ok (.ifCond .ne 12, 3) := by decide +kernel
theorem dX7_tell_85 : decode cX7_tell 85 = .ok (.aload_n 0, 1) := by decide +kernel
theorem dX7_tell_86 : decode cX7_tell 86 = .ok (.getfield 78, 3) := by decide +kernel
theorem dX7_tell_89 : decode cX7_tell 89 = .ok (.iload_n 1, 1) := by decide +kernel
theorem dX7_tell_90 : decode cX7_tell 90 = .ok (.iaload, 1) := by decide +kernel
theorem dX7_tell_91 : decode cX7_tell 91 = .ok (.goto 4, 3) := by decide +kernel
theorem dX7_tell_94 : decode cX7_tell 94 = .ok (.iload_n 3, 1) := by decide +kernel
theorem dX7_tell_95 : decode cX7_tell 95 = .ok (.iastore, 1) := by decide +kernel
theorem dX7_tell_96 : decode cX7_tell 96 = .ok (.iload 4, 2) := by decide +kernel
theorem dX7_tell_98 : decode cX7_tell 98 = .ok (.ireturn, 1) := by decide +kernel
theorem dX7_at_0 : decode cX7_at 0 = .ok (.iload_n 2, 1) := by decide +kernel
theorem dX7_at_1 : decode cX7_at 1 = .ok (.iload_n 1, 1) := by decide +kernel
theorem dX7_at_2 : decode cX7_at 2 = .ok (.ishr, 1) := by decide +kernel
theorem dX7_at_3 : decode cX7_at 3 = .ok (.iconst 1, 1) := by decide +kernel
theorem dX7_at_4 : decode cX7_at 4 = .ok (.iand, 1) := by decide +kernel
theorem dX7_at_5 : decode cX7_at 5 = .ok (.iconst 1, 1) := by decide +kernel
theorem dX7_at_6 : decode cX7_at 6 = .ok (.if_icmp .ne 12, 3) := by decide +kernel
theorem dX7_at_9 : decode cX7_at 9 = .ok (.aload_n 0, 1) := by decide +kernel
theorem dX7_at_10 : decode cX7_at 10 = .ok (.getfield 78, 3) := by decide +kernel
theorem dX7_at_13 : decode cX7_at 13 = .ok (.iload_n 1, 1) := by decide +kernel
theorem dX7_at_14 : decode cX7_at 14 = .ok (.iaload, 1) := by decide +kernel
theorem dX7_at_15 : decode cX7_at 15 = .ok (.goto 9, 3) := by decide +kernel
theorem dX7_at_18 : decode cX7_at 18 = .ok (.aload_n 0, 1) := by decide +kernel
theorem dX7_at_19 : decode cX7_at 19 = .ok (.getfield 75, 3) := by decide +kernel
theorem dX7_at_22 : decode cX7_at 22 = .ok (.iload_n 1, 1) := by decide +kernel
theorem dX7_at_23 : decode cX7_at 23 = .ok (.iaload, 1) := by decide +kernel
theorem dX7_at_24 : decode cX7_at 24 = .ok (.ireturn, 1) := by decide +kernel
theorem dX7_isQuiet_0 : decode cX7_isQuiet 0 = .ok (.iconst 1, 1) := by decide +kernel
theorem dX7_isQuiet_1 : decode cX7_isQuiet 1 = .ok (.istore_n 2, 1) := by decide +kernel
theorem dX7_isQuiet_2 : decode cX7_isQuiet 2 = .ok (.iconst 0, 1) := by decide +kernel
theorem dX7_isQuiet_3 : decode cX7_isQuiet 3 = .ok (.istore_n 3, 1) := by decide +kernel
theorem dX7_isQuiet_4 : decode cX7_isQuiet 4 = .ok (.iload_n 3, 1) := by decide +kernel
theorem dX7_isQuiet_5 : decode cX7_isQuiet 5 = .ok (.aload_n 0, 1) := by decide +kernel
theorem dX7_isQuiet_6 : decode cX7_isQuiet 6 = .ok (.getfield 87, 3) := by decide +kernel
theorem dX7_isQuiet_9 : decode cX7_isQuiet 9 = .ok (.if_icmp .ge 79, 3) := by decide +kernel
theorem dX7_isQuiet_12 : decode cX7_isQuiet 12 = .ok (.iload_n 2, 1) := by decide +kernel
theorem dX7_isQuiet_13 : decode cX7_isQuiet 13 = .ok (.ifCond .eq 75, 3) := by decide +kernel
theorem dX7_isQuiet_16 : decode cX7_isQuiet 16 = .ok (.iconst 0, 1) := by decide +kernel
theorem dX7_isQuiet_17 : decode cX7_isQuiet 17 = .ok (.istore 4, 2) := by decide +kernel
theorem dX7_isQuiet_19 : decode cX7_isQuiet 19 = .ok (.iload 4, 2) := by decide +kernel
theorem dX7_isQuiet_21 : decode cX7_isQuiet 21 = .ok (.iload_n 3, 1) := by decide +kernel
theorem dX7_isQuiet_22 : decode cX7_isQuiet 22 = .ok (.if_icmp .ge 60, 3) := by decide +kernel
theorem dX7_isQuiet_25 : decode cX7_isQuiet 25 = .ok (.aload_n 0, 1) := by decide +kernel
theorem dX7_isQuiet_26 : decode cX7_isQuiet 26 = .ok (.iload_n 3, 1) := by decide +kernel
theorem dX7_isQuiet_27 : decode cX7_isQuiet 27 = .ok (.iload_n 1, 1) := by decide +kernel
theorem dX7_isQuiet_28 : decode cX7_isQuiet 28 = .ok (.invokevirtual 219, 3) := by decide +kernel
theorem dX7_isQuiet_31 : decode cX7_isQuiet 31 = .ok (.istore 5, 2) := by decide +kernel
theorem dX7_isQuiet_33 : decode cX7_isQuiet 33 = .ok (.aload_n 0, 1) := by decide +kernel
theorem dX7_isQuiet_34 : decode cX7_isQuiet 34 = .ok (.iload 4, 2) := by decide +kernel
theorem dX7_isQuiet_36 : decode cX7_isQuiet 36 = .ok (.iload_n 1, 1) := by decide +kernel
theorem dX7_isQuiet_37 : decode cX7_isQuiet 37 = .ok (.invokevirtual 219, 3) := by decide +kernel
theorem dX7_isQuiet_40 : decode cX7_isQuiet 40 = .ok (.istore 6, 2) := by decide +kernel
theorem dX7_isQuiet_42 : decode cX7_isQuiet 42 = .ok (.iload_n 2, 1) := by decide +kernel
theorem dX7_isQuiet_43 : decode cX7_isQuiet 43 = .ok (.ifCond .eq 31, 3) := by decide +kernel
theorem dX7_isQuiet_46 : decode cX7_isQuiet 46 = .ok (.iload 5, 2) := by decide +kernel
theorem dX7_isQuiet_48 : decode cX7_isQuiet 48 = .ok (.ifCond .lt 22, 3) := by decide +kernel
theorem dX7_isQuiet_51 : decode cX7_isQuiet 51 = .ok (.iload 6, 2) := by decide +kernel
theorem dX7_isQuiet_53 : decode cX7_isQuiet 53 = .ok (.ifCond .lt 17, 3) := by decide +kernel
theorem dX7_isQuiet_56 : decode cX7_isQuiet 56 = .ok (.aload_n 0, 1) := by decide +kernel
theorem dX7_isQuiet_57 : decode cX7_isQuiet 57 = .ok (.iload_n 3, 1) := by decide +kernel
theorem dX7_isQuiet_58 : decode cX7_isQuiet 58 = .ok (.iload 4, 2) := by decide +kernel
theorem dX7_isQuiet_60 : decode cX7_isQuiet 60 = .ok (.iload 5, 2) := by decide +kernel
theorem dX7_isQuiet_62 : decode cX7_isQuiet 62 = .ok (.iload 6, 2) := by decide +kernel
theorem dX7_isQuiet_64 : decode cX7_isQuiet 64 = .ok (.invokevirtual 109, 3) := by decide +kernel
theorem dX7_isQuiet_67 : decode cX7_isQuiet 67 = .ok (.ifCond .ne 7, 3) := by decide +kernel
theorem dX7_isQuiet_70 : decode cX7_isQuiet 70 = .ok (.iconst 1, 1) := by decide +kernel
theorem dX7_isQuiet_71 : decode cX7_isQuiet 71 = .ok (.goto 4, 3) := by decide +kernel
theorem dX7_isQuiet_74 : decode cX7_isQuiet 74 = .ok (.iconst 0, 1) := by decide +kernel
theorem dX7_isQuiet_75 : decode cX7_isQuiet 75 = .ok (.istore_n 2, 1) := by decide +kernel
theorem dX7_isQuiet_76 : decode cX7_isQuiet 76 = .ok (.iinc 4 1, 3) := by decide +kernel
theorem dX7_isQuiet_79 : decode cX7_isQuiet 79 = .ok (.goto (-60), 3) := by decide +kernel
theorem dX7_isQuiet_82 : decode cX7_isQuiet 82 = .ok (.iinc 3 1, 3) := by decide +kernel
theorem dX7_isQuiet_85 : decode cX7_isQuiet 85 = .ok (.goto (-81), 3) := by decide +kernel
theorem dX7_isQuiet_88 : decode cX7_isQuiet 88 = .ok (.iload_n 2, 1) := by decide +kernel
theorem dX7_isQuiet_89 : decode cX7_isQuiet 89 = .ok (.ireturn, 1) := by decide +kernel
theorem dX7_findFar_0 : decode cX7_findFar 0 = .ok (.iload_n 1, 1) := by decide +kernel
theorem dX7_findFar_1 : decode cX7_findFar 1 = .ok (.istore_n 3, 1) := by decide +kernel
theorem dX7_findFar_2 : decode cX7_findFar 2 = .ok (.iload_n 3, 1) := by decide +kernel
theorem dX7_findFar_3 : decode cX7_findFar 3 = .ok (.ifCond .lt 124, 3) := by decide +kernel
theorem dX7_findFar_6 : decode cX7_findFar 6 = .ok (.iload_n 3, 1) := by decide +kernel
theorem dX7_findFar_7 : decode cX7_findFar 7 = .ok (.iload_n 1, 1) := by decide +kernel
theorem dX7_findFar_8 : decode cX7_findFar 8 = .ok (.iconst (-1), 1) := by decide +kernel
theorem dX7_findFar_9 : decode cX7_findFar 9 = .ok (.ixor, 1) := by decide +kernel
theorem dX7_findFar_10 : decode cX7_findFar 10 = .ok (.iand, 1) := by decide +kernel
theorem dX7_findFar_11 : decode cX7_findFar 11 = .ok (.ifCond .ne 110, 3) := by decide +kernel
theorem dX7_findFar_14 : decode cX7_findFar 14 = .ok (.iload_n 3, 1) := by decide +kernel
theorem dX7_findFar_15 : decode cX7_findFar 15 = .ok (.iload_n 1, 1) := by decide +kernel
theorem dX7_findFar_16 : decode cX7_findFar 16 = .ok (.if_icmp .ne 7, 3) := by decide +kernel
theorem dX7_findFar_19 : decode cX7_findFar 19 = .ok (.iconst 0, 1) := by decide +kernel
theorem dX7_findFar_20 : decode cX7_findFar 20 = .ok (.goto 6, 3) := by decide +kernel
theorem dX7_findFar_23 : decode cX7_findFar 23 = .ok (.sipush 1000, 3) := by decide +kernel
theorem dX7_findFar_26 : decode cX7_findFar 26 = .ok (.istore 4, 2) := by decide +kernel
theorem dX7_findFar_28 : decode cX7_findFar 28 = .ok (.iload_n 1, 1) := by decide +kernel
theorem dX7_findFar_29 : decode cX7_findFar 29 = .ok (.iload_n 3, 1) := by decide +kernel
theorem dX7_findFar_30 : decode cX7_findFar 30 = .ok (.iconst (-1), 1) := by decide +kernel
theorem dX7_findFar_31 : decode cX7_findFar 31 = .ok (.ixor, 1) := by decide +kernel
theorem dX7_findFar_32 : decode cX7_findFar 32 = .ok (.iand, 1) := by decide +kernel
theorem dX7_findFar_33 : decode cX7_findFar 33 = .ok (.istore 5, 2) := by decide +kernel
theorem dX7_findFar_35 : decode cX7_findFar 35 = .ok (.iload 5, 2) := by decide +kernel
theorem dX7_findFar_37 : decode cX7_findFar 37 = .ok (.istore 6, 2) := by decide +kernel
theorem dX7_findFar_39 : decode cX7_findFar 39 = .ok (.iload 6, 2) := by decide +kernel
theorem dX7_findFar_41 : decode cX7_findFar 41 = .ok (.ifCond .le 58, 3) := by decide +kernel
theorem dX7_findFar_44 : decode cX7_findFar 44 = .ok (.iload 6, 2) := by decide +kernel
theorem dX7_findFar_46 : decode cX7_findFar 46 = .ok (.invokestatic 144, 3) := by decide +kernel
theorem dX7_findFar_49 : decode cX7_findFar 49 = .ok (.iload_n 2, 1) := by decide +kernel
theorem dX7_findFar_50 : decode cX7_findFar 50 = .ok (.if_icmp .gt 33, 3) := by decide +kernel
theorem dX7_findFar_53 : decode cX7_findFar 53 = .ok (.aload_n 0, 1) := by decide +kernel
theorem dX7_findFar_54 : decode cX7_findFar 54 = .ok (.getfield 81, 3) := by decide +kernel
theorem dX7_findFar_57 : decode cX7_findFar 57 = .ok (.iload_n 3, 1) := by decide +kernel
theorem dX7_findFar_58 : decode cX7_findFar 58 = .ok (.iload 6, 2) := by decide +kernel
theorem dX7_findFar_60 : decode cX7_findFar 60 = .ok (.ior, 1) := by decide +kernel
theorem dX7_findFar_61 : decode cX7_findFar 61 = .ok (.iaload, 1) := by decide +kernel
theorem dX7_findFar_62 : decode cX7_findFar 62 = .ok (.iconst 1, 1) := by decide +kernel
theorem dX7_findFar_63 : decode cX7_findFar 63 = .ok (.iadd, 1) := by decide +kernel
theorem dX7_findFar_64 : decode cX7_findFar 64 = .ok (.iload 4, 2) := by decide +kernel
theorem dX7_findFar_66 : decode cX7_findFar 66 = .ok (.if_icmp .ge 17, 3) := by decide +kernel
theorem dX7_findFar_69 : decode cX7_findFar 69 = .ok (.aload_n 0, 1) := by decide +kernel
theorem dX7_findFar_70 : decode cX7_findFar 70 = .ok (.getfield 81, 3) := by decide +kernel
theorem dX7_findFar_73 : decode cX7_findFar 73 = .ok (.iload_n 3, 1) := by decide +kernel
theorem dX7_findFar_74 : decode cX7_findFar 74 = .ok (.iload 6, 2) := by decide +kernel
theorem dX7_findFar_76 : decode cX7_findFar 76 = .ok (.ior, 1) := by decide +kernel
theorem dX7_findFar_77 : decode cX7_findFar 77 = .ok (.iaload, 1) := by decide +kernel
theorem dX7_findFar_78 : decode cX7_findFar 78 = .ok (.iconst 1, 1) := by decide +kernel
theorem dX7_findFar_79 : decode cX7_findFar 79 = .ok (.iadd, 1) := by decide +kernel
theorem dX7_findFar_80 : decode cX7_findFar 80 = .ok (.goto 5, 3) := by decide +kernel
theorem dX7_findFar_83 : decode cX7_findFar 83 = .ok (.iload 4, 2) := by decide +kernel
theorem dX7_findFar_85 : decode cX7_findFar 85 = .ok (.istore 4, 2) := by decide +kernel
theorem dX7_findFar_87 : decode cX7_findFar 87 = .ok (.iload 6, 2) := by decide +kernel
theorem dX7_findFar_89 : decode cX7_findFar 89 = .ok (.iconst 1, 1) := by decide +kernel
theorem dX7_findFar_90 : decode cX7_findFar 90 = .ok (.isub, 1) := by decide +kernel
theorem dX7_findFar_91 : decode cX7_findFar 91 = .ok (.iload 5, 2) := by decide +kernel
theorem dX7_findFar_93 : decode cX7_findFar 93 = .ok (.iand, 1) := by decide +kernel
theorem dX7_findFar_94 : decode cX7_findFar 94 = .ok (.istore 6, 2) := by decide +kernel
theorem dX7_findFar_96 : decode cX7_findFar 96 = .ok (.goto (-57), 3) := by decide +kernel
theorem dX7_findFar_99 : decode cX7_findFar 99 = .ok (.aload_n 0, 1) := by decide +kernel
theorem dX7_findFar_100 : decode cX7_findFar 100 = .ok (.getfield 81, 3) := by decide +kernel
theorem dX7_findFar_103 : decode cX7_findFar 103 = .ok (.iload_n 3, 1) := by decide +kernel
theorem dX7_findFar_104 : decode cX7_findFar 104 = .ok (.aload_n 0, 1) := by decide +kernel
theorem dX7_findFar_105 : decode cX7_findFar 105 = .ok (.iload_n 3, 1) := by decide +kernel
theorem dX7_findFar_106 : decode cX7_findFar 106 = .ok (.invokevirtual 222, 3) := by decide +kernel
theorem dX7_findFar_109 : decode cX7_findFar 109 = .ok (.ifCond .eq 8, 3) := by decide +kernel
theorem dX7_findFar_112 : decode cX7_findFar 112 = .ok (.iload 4, 2) := by decide +kernel
theorem dX7_findFar_114 : decode cX7_findFar 114 = .ok (.goto 6, 3) := by decide +kernel
theorem dX7_findFar_117 : decode cX7_findFar 117 = .ok (.sipush 1000, 3) := by decide +kernel
theorem dX7_findFar_120 : decode cX7_findFar 120 = .ok (.iastore, 1) := by decide +kernel
theorem dX7_findFar_121 : decode cX7_findFar 121 = .ok (.iinc 3 (-1), 3) := by decide +kernel
theorem dX7_findFar_124 : decode cX7_findFar 124 = .ok (.goto (-122), 3) := by decide +kernel
theorem dX7_findFar_127 : decode cX7_findFar 127 = .ok (.return_, 1) := by decide +kernel
theorem dX7_weeks_0 : decode cX7_weeks 0 = .ok (.iload_n 1, 1) := by decide +kernel
theorem dX7_weeks_1 : decode cX7_weeks 1 = .ok (.i2l, 1) := by decide +kernel
theorem dX7_weeks_2 : decode cX7_weeks 2 = .ok (.lconst 1, 1) := by decide +kernel
theorem dX7_weeks_3 : decode cX7_weeks 3 = .ok (.ldc2_w 149, 3) := by decide +kernel
theorem dX7_weeks_6 : decode cX7_weeks 6 = .ok (.invokestatic 90, 3) := by decide +kernel
theorem dX7_weeks_9 : decode cX7_weeks 9 = .ok (.ifCond .eq 8, 3) := by decide +kernel
theorem dX7_weeks_12 : decode cX7_weeks 12 = .ok (.iload_n 2, 1) := by decide +kernel
theorem dX7_weeks_13 : decode cX7_weeks 13 = .ok (.iconst (-1), 1) := by decide +kernel
theorem dX7_weeks_14 : decode cX7_weeks 14 = .ok (.if_icmp .ge 6, 3) := by decide +kernel
theorem dX7_weeks_17 : decode cX7_weeks 17 = .ok (.bipush (-10), 2) := by decide +kernel
theorem dX7_weeks_19 : decode cX7_weeks 19 = .ok (.ireturn, 1) := by decide +kernel
theorem dX7_weeks_20 : decode cX7_weeks 20 = .ok (.iconst 0, 1) := by decide +kernel
theorem dX7_weeks_21 : decode cX7_weeks 21 = .ok (.istore_n 3, 1) := by decide +kernel
theorem dX7_weeks_22 : decode cX7_weeks 22 = .ok (.iconst 0, 1) := by decide +kernel
theorem dX7_weeks_23 : decode cX7_weeks 23 = .ok (.istore 4, 2) := by decide +kernel
theorem dX7_weeks_25 : decode cX7_weeks 25 = .ok (.iload 4, 2) := by decide +kernel
theorem dX7_weeks_27 : decode cX7_weeks 27 = .ok (.aload_n 0, 1) := by decide +kernel
theorem dX7_weeks_28 : decode cX7_weeks 28 = .ok (.getfield 87, 3) := by decide +kernel
theorem dX7_weeks_31 : decode cX7_weeks 31 = .ok (.if_icmp .ge 40, 3) := by decide +kernel
theorem dX7_weeks_34 : decode cX7_weeks 34 = .ok (.iload_n 3, 1) := by decide +kernel
theorem dX7_weeks_35 : decode cX7_weeks 35 = .ok (.aload_n 0, 1) := by decide +kernel
theorem dX7_weeks_36 : decode cX7_weeks 36 = .ok (.getfield 75, 3) := by decide +kernel
theorem dX7_weeks_39 : decode cX7_weeks 39 = .ok (.iload 4, 2) := by decide +kernel
theorem dX7_weeks_41 : decode cX7_weeks 41 = .ok (.iaload, 1) := by decide +kernel
theorem dX7_weeks_42 : decode cX7_weeks 42 = .ok (.aload_n 0, 1) := by decide +kernel
theorem dX7_weeks_43 : decode cX7_weeks 43 = .ok (.getfield 78, 3) := by decide +kernel
theorem dX7_weeks_46 : decode cX7_weeks 46 = .ok (.iload 4, 2) := by decide +kernel
theorem dX7_weeks_48 : decode cX7_weeks 48 = .ok (.iaload, 1) := by decide +kernel
theorem dX7_weeks_49 : decode cX7_weeks 49 = .ok (.if_icmp .eq 7, 3) := by decide +kernel
theorem dX7_weeks_52 : decode cX7_weeks 52 = .ok (.iconst 1, 1) := by decide +kernel
theorem dX7_weeks_53 : decode cX7_weeks 53 = .ok (.goto 4, 3) := by decide +kernel
theorem dX7_weeks_56 : decode cX7_weeks 56 = .ok (.iconst 0, 1) := by decide +kernel
theorem dX7_weeks_57 : decode cX7_weeks 57 = .ok (.invokestatic 124, 3) := by decide +kernel
theorem dX7_weeks_60 : decode cX7_weeks 60 = .ok (.iload 4, 2) := by decide +kernel
theorem dX7_weeks_62 : decode cX7_weeks 62 = .ok (.ishl, 1) := by decide +kernel
theorem dX7_weeks_63 : decode cX7_weeks 63 = .ok (.ior, 1) := by decide +kernel
theorem dX7_weeks_64 : decode cX7_weeks 64 = .ok (.istore_n 3, 1) := by decide +kernel
theorem dX7_weeks_65 : decode cX7_weeks 65 = .ok (.iinc 4 1, 3) := by decide +kernel
theorem dX7_weeks_68 : decode cX7_weeks 68 = .ok (.goto (-43), 3) := by decide +kernel
theorem dX7_weeks_71 : decode cX7_weeks 71 = .ok (.aload_n 0, 1) := by decide +kernel
theorem dX7_weeks_72 : decode cX7_weeks 72 = .ok (.iload_n 3, 1) := by decide +kernel
theorem dX7_weeks_73 : decode cX7_weeks 73 = .ok (.iload_n 1, 1) := by decide +kernel
theorem dX7_weeks_74 : decode cX7_weeks 74 = .ok (.invokevirtual 225, 3) := by decide +kernel
theorem dX7_weeks_77 : decode cX7_weeks 77 = .ok (.aload_n 0, 1) := by decide +kernel
theorem dX7_weeks_78 : decode cX7_weeks 78 = .ok (.getfield 81, 3) := by decide +kernel
theorem dX7_weeks_81 : decode cX7_weeks 81 = .ok (.iconst 0, 1) := by decide +kernel
theorem dX7_weeks_82 : decode cX7_weeks 82 = .ok (.iaload, 1) := by decide +kernel
theorem dX7_weeks_83 : decode cX7_weeks 83 = .ok (.sipush 1000, 3) := by decide +kernel
theorem dX7_weeks_86 : decode cX7_weeks 86 = .ok (.if_icmp .lt 6, 3) := by decide +kernel
theorem dX7_weeks_89 : decode cX7_weeks 89 = .ok (.bipush (-5), 2) := by decide +kernel
theorem dX7_weeks_91 : decode cX7_weeks 91 = .ok (.ireturn, 1) := by decide +kernel
theorem dX7_weeks_92 : decode cX7_weeks 92 = .ok (.iload_n 2, 1) := by decide +kernel
theorem dX7_weeks_93 : decode cX7_weeks 93 = .ok (.iconst (-1), 1) := by decide +kernel
theorem dX7_weeks_94 : decode cX7_weeks 94 = .ok (.if_icmp .ne 10, 3) := by decide +kernel
theorem dX7_weeks_97 : decode cX7_weeks 97 = .ok (.aload_n 0, 1) := by decide +kernel
theorem dX7_weeks_98 : decode cX7_weeks 98 = .ok (.getfield 81, 3) := by decide +kernel
theorem dX7_weeks_101 : decode cX7_weeks 101 = .ok (.iconst 0, 1) := by decide +kernel
theorem dX7_weeks_102 : decode cX7_weeks 102 = .ok (.iaload, 1) := by decide +kernel
theorem dX7_weeks_103 : decode cX7_weeks 103 = .ok (.ireturn, 1) := by decide +kernel
theorem dX7_weeks_104 : decode cX7_weeks 104 = .ok (.iconst 0, 1) := by decide +kernel
theorem dX7_weeks_105 : decode cX7_weeks 105 = .ok (.istore 4, 2) := by decide +kernel
theorem dX7_weeks_107 : decode cX7_weeks 107 = .ok (.iconst 0, 1) := by decide +kernel
theorem dX7_weeks_108 : decode cX7_weeks 108 = .ok (.istore 5, 2) := by decide +kernel
theorem dX7_weeks_110 : decode cX7_weeks 110 = .ok (.iload 4, 2) := by decide +kernel
theorem dX7_weeks_112 : decode cX7_weeks 112 = .ok (.iload_n 3, 1) := by decide +kernel
theorem dX7_weeks_113 : decode cX7_weeks 113 = .ok (.if_icmp .eq 97, 3) := by decide +kernel
theorem dX7_weeks_116 : decode cX7_weeks 116 = .ok (.iconst 0, 1) := by decide +kernel
theorem dX7_weeks_117 : decode cX7_weeks 117 = .ok (.istore 6, 2) := by decide +kernel
theorem dX7_weeks_119 : decode cX7_weeks 119 = .ok (.iload_n 3, 1) := by decide +kernel
theorem dX7_weeks_120 : decode cX7_weeks 120 = .ok (.iload 4, 2) := by decide +kernel
theorem dX7_weeks_122 : decode cX7_weeks 122 = .ok (.iconst (-1), 1) := by decide +kernel
theorem dX7_weeks_123 : decode cX7_weeks 123 = .ok (.ixor, 1) := by decide +kernel
theorem dX7_weeks_124 : decode cX7_weeks 124 = .ok (.iand, 1) := by decide +kernel
theorem dX7_weeks_125 : decode cX7_weeks 125 = .ok (.istore 7, 2) := by decide +kernel
theorem dX7_weeks_127 : decode cX7_weeks 127 = .ok (.iload 7, 2) := by decide +kernel
theorem dX7_weeks_129 : decode cX7_weeks 129 = .ok (.istore 8, 2) := by decide +kernel
theorem dX7_weeks_131 : decode cX7_weeks 131 = .ok (.iload 8, 2) := by decide +kernel
theorem dX7_weeks_133 : decode cX7_weeks 133 = .ok (.ifCond .le 55, 3) := by decide +kernel
theorem dX7_weeks_136 : decode cX7_weeks 136 = .ok (.iload 8, 2) := by decide +kernel
theorem dX7_weeks_138 : decode cX7_weeks 138 = .ok (.invokestatic 144, 3) := by decide +kernel
theorem dX7_weeks_141 : decode cX7_weeks 141 = .ok (.iload_n 1, 1) := by decide +kernel
theorem dX7_weeks_142 : decode cX7_weeks 142 = .ok (.if_icmp .gt 30, 3) := by decide +kernel
theorem dX7_weeks_145 : decode cX7_weeks 145 = .ok (.aload_n 0, 1) := by decide +kernel
theorem dX7_weeks_146 : decode cX7_weeks 146 = .ok (.getfield 81, 3) := by decide +kernel
theorem dX7_weeks_149 : decode cX7_weeks 149 = .ok (.iload 4, 2) := by decide +kernel
theorem dX7_weeks_151 : decode cX7_weeks 151 = .ok (.iload 8, 2) := by decide +kernel
theorem dX7_weeks_153 : decode cX7_weeks 153 = .ok (.ior, 1) := by decide +kernel
theorem dX7_weeks_154 : decode cX7_weeks 154 = .ok (.iaload, 1) := by decide +kernel
theorem dX7_weeks_155 : decode cX7_weeks 155 = .ok (.iconst 1, 1) := by decide +kernel
theorem dX7_weeks_156 : decode cX7_weeks 156 = .ok (.iadd, 1) := by decide +kernel
theorem dX7_weeks_157 : decode cX7_weeks 157 = .ok (.aload_n 0, 1) := by decide +kernel
theorem dX7_weeks_158 : decode cX7_weeks 158 = .ok (.getfield 81, 3) := by decide +kernel
theorem dX7_weeks_161 : decode cX7_weeks 161 = .ok (.iload 4, 2) := by decide +kernel
theorem dX7_weeks_163 : decode cX7_weeks 163 = .ok (.iaload, 1) := by decide +kernel
theorem dX7_weeks_164 : decode cX7_weeks 164 = .ok (.if_icmp .ne 8, 3) := by decide +kernel
theorem dX7_weeks_167 : decode cX7_weeks 167 = .ok (.iload 8, 2) := by decide +kernel
theorem dX7_weeks_169 : decode cX7_weeks 169 = .ok (.goto 5, 3) := by decide +kernel
theorem dX7_weeks_172 : decode cX7_weeks 172 = .ok (.iload 6, 2) := by decide +kernel
theorem dX7_weeks_174 : decode cX7_weeks 174 = .ok (.istore 6, 2) := by decide +kernel
theorem dX7_weeks_176 : decode cX7_weeks 176 = .ok (.iload 8, 2) := by decide +kernel
theorem dX7_weeks_178 : decode cX7_weeks 178 = .ok (.iconst 1, 1) := by decide +kernel
theorem dX7_weeks_179 : decode cX7_weeks 179 = .ok (.isub, 1) := by decide +kernel
theorem dX7_weeks_180 : decode cX7_weeks 180 = .ok (.iload 7, 2) := by decide +kernel
theorem dX7_weeks_182 : decode cX7_weeks 182 = .ok (.iand, 1) := by decide +kernel
theorem dX7_weeks_183 : decode cX7_weeks 183 = .ok (.istore 8, 2) := by decide +kernel
theorem dX7_weeks_185 : decode cX7_weeks 185 = .ok (.goto (-54), 3) := by decide +kernel
theorem dX7_weeks_188 : decode cX7_weeks 188 = .ok (.iload 5, 2) := by decide +kernel
theorem dX7_weeks_190 : decode cX7_weeks 190 = .ok (.iload_n 2, 1) := by decide +kernel
theorem dX7_weeks_191 : decode cX7_weeks 191 = .ok (.if_icmp .ne 6, 3) := by decide +kernel
theorem dX7_weeks_194 : decode cX7_weeks 194 = .ok (.iload 6, 2) := by decide +kernel
theorem dX7_weeks_196 : decode cX7_weeks 196 = .ok (.ireturn, 1) := by decide +kernel
theorem dX7_weeks_197 : decode cX7_weeks 197 = .ok (.iload 4, 2) := by decide +kernel
theorem dX7_weeks_199 : decode cX7_weeks 199 = .ok (.iload 6, 2) := by decide +kernel
theorem dX7_weeks_201 : decode cX7_weeks 201 = .ok (.ior, 1) := by decide +kernel
theorem dX7_weeks_202 : decode cX7_weeks 202 = .ok (.istore 4, 2) := by decide +kernel
theorem dX7_weeks_204 : decode cX7_weeks 204 = .ok (.iinc 5 1, 3) := by decide +kernel
theorem dX7_weeks_207 : decode cX7_weeks 207 = .ok (.goto (-97), 3) := by decide +kernel
theorem dX7_weeks_210 : decode cX7_weeks 210 = .ok (.iconst (-1), 1) := by decide +kernel
theorem dX7_weeks_211 : decode cX7_weeks 211 = .ok (.ireturn, 1) := by decide +kernel
theorem dX7_broken_0 : decode cX7_broken 0 = .ok (.iconst 0, 1) := by decide +kernel
theorem dX7_broken_1 : decode cX7_broken 1 = .ok (.istore_n 3, 1) := by decide +kernel
theorem dX7_broken_2 : decode cX7_broken 2 = .ok (.iconst 0, 1) := by decide +kernel
theorem dX7_broken_3 : decode cX7_broken 3 = .ok (.istore 4, 2) := by decide +kernel
theorem dX7_broken_5 : decode cX7_broken 5 = .ok (.iload 4, 2) := by decide +kernel
theorem dX7_broken_7 : decode cX7_broken 7 = .ok (.aload_n 0, 1) := by decide +kernel
theorem dX7_broken_8 : decode cX7_broken 8 = .ok (.getfield 87, 3) := by decide +kernel
theorem dX7_broken_11 : decode cX7_broken 11 = .ok (.if_icmp .ge 54, 3) := by decide +kernel
theorem dX7_broken_14 : decode cX7_broken 14 = .ok (.iload_n 3, 1) := by decide +kernel
theorem dX7_broken_15 : decode cX7_broken 15 = .ok (.iload 4, 2) := by decide +kernel
theorem dX7_broken_17 : decode cX7_broken 17 = .ok (.iload_n 1, 1) := by decide +kernel
theorem dX7_broken_18 : decode cX7_broken 18 = .ok (.if_icmp .eq 38, 3) := by decide +kernel
theorem dX7_broken_21 : decode cX7_broken 21 = .ok (.aload_n 0, 1) := by decide +kernel
theorem dX7_broken_22 : decode cX7_broken 22 = .ok (.getfield 78, 3) := by decide +kernel
theorem dX7_broken_25 : decode cX7_broken 25 = .ok (.iload 4, 2) := by decide +kernel
theorem dX7_broken_27 : decode cX7_broken 27 = .ok (.iaload, 1) := by decide +kernel
theorem dX7_broken_28 : decode cX7_broken 28 = .ok (.ifCond .lt 28, 3) := by decide +kernel
theorem dX7_broken_31 : decode cX7_broken 31 = .ok (.aload_n 0, 1) := by decide +kernel
theorem dX7_broken_32 : decode cX7_broken 32 = .ok (.iload_n 1, 1) := by decide +kernel
theorem dX7_broken_33 : decode cX7_broken 33 = .ok (.iload 4, 2) := by decide +kernel
theorem dX7_broken_35 : decode cX7_broken 35 = .ok (.iload_n 2, 1) := by decide +kernel
theorem dX7_broken_36 : decode cX7_broken 36 = .ok (.aload_n 0, 1) := by decide +kernel
theorem dX7_broken_37 : decode cX7_broken 37 = .ok (.getfield 78, 3) := by decide +kernel
theorem dX7_broken_40 : decode cX7_broken 40 = .ok (.iload 4, 2) := by decide +kernel
theorem dX7_broken_42 : decode cX7_broken 42 = .ok (.iaload, 1) := by decide +kernel
theorem dX7_broken_43 : decode cX7_broken 43 = .ok (.invokevirtual 109, 3) := by decide +kernel
theorem dX7_broken_46 : decode cX7_broken 46 = .ok (.ifCond .eq 10, 3) := by decide +kernel
theorem dX7_broken_49 : decode cX7_broken 49 = .ok (.iconst 1, 1) := by decide +kernel
theorem dX7_broken_50 : decode cX7_broken 50 = .ok (.iload 4, 2) := by decide +kernel
theorem dX7_broken_52 : decode cX7_broken 52 = .ok (.ishl, 1) := by decide +kernel
theorem dX7_broken_53 : decode cX7_broken 53 = .ok (.goto 4, 3) := by decide +kernel
theorem dX7_broken_56 : decode cX7_broken 56 = .ok (.iconst 0, 1) := by decide +kernel
theorem dX7_broken_57 : decode cX7_broken 57 = .ok (.ior, 1) := by decide +kernel
theorem dX7_broken_58 : decode cX7_broken 58 = .ok (.istore_n 3, 1) := by decide +kernel
theorem dX7_broken_59 : decode cX7_broken 59 = .ok (.iinc 4 1, 3) := by decide +kernel
theorem dX7_broken_62 : decode cX7_broken 62 = .ok (.goto (-57), 3) := by decide +kernel
theorem dX7_broken_65 : decode cX7_broken 65 = .ok (.iload_n 3, 1) := by decide +kernel
theorem dX7_broken_66 : decode cX7_broken 66 = .ok (.ireturn, 1) := by decide +kernel
theorem dX7_tower_0 : decode cX7_tower 0 = .ok (.aload_n 0, 1) := by decide +kernel
theorem dX7_tower_1 : decode cX7_tower 1 = .ok (.iload_n 1, 1) := by decide +kernel
theorem dX7_tower_2 : decode cX7_tower 2 = .ok (.invokevirtual 96, 3) := by decide +kernel
theorem dX7_tower_5 : decode cX7_tower 5 = .ok (.ifCond .ne 15, 3) := by decide +kernel
theorem dX7_tower_8 : decode cX7_tower 8 = .ok (.iload_n 2, 1) := by decide +kernel
theorem dX7_tower_9 : decode cX7_tower 9 = .ok (.i2l, 1) := by decide +kernel
theorem dX7_tower_10 : decode cX7_tower 10 = .ok (.lconst 0, 1) := by decide +kernel
theorem dX7_tower_11 : decode cX7_tower 11 = .ok (.ldc2_w 217, 3) := by decide +kernel
theorem dX7_tower_14 : decode cX7_tower 14 = .ok (.invokestatic 90, 3) := by decide +kernel
theorem dX7_tower_17 : decode cX7_tower 17 = .ok (.ifCond .ne 8, 3) := by decide +kernel
theorem dX7_tower_20 : decode cX7_tower 20 = .ok (.bipush (-2), 2) := by decide +kernel
theorem dX7_tower_22 : decode cX7_tower 22 = .ok (.goto 9, 3) := by decide +kernel
theorem dX7_tower_25 : decode cX7_tower 25 = .ok (.aload_n 0, 1) := by decide +kernel
theorem dX7_tower_26 : decode cX7_tower 26 = .ok (.iload_n 1, 1) := by decide +kernel
theorem dX7_tower_27 : decode cX7_tower 27 = .ok (.iload_n 2, 1) := by decide +kernel
theorem dX7_tower_28 : decode cX7_tower 28 = .ok (.invokevirtual 228, 3) := by decide +kernel
theorem dX7_tower_31 : decode cX7_tower 31 = .ok (.ireturn, 1) := by decide +kernel
theorem dX7_free_0 : decode cX7_free 0 = .ok (.aload_n 0, 1) := by decide +kernel
theorem dX7_free_1 : decode cX7_free 1 = .ok (.iload_n 1, 1) := by decide +kernel
theorem dX7_free_2 : decode cX7_free 2 = .ok (.invokevirtual 96, 3) := by decide +kernel
theorem dX7_free_5 : decode cX7_free 5 = .ok (.ifCond .eq 6, 3) := by decide +kernel
theorem dX7_free_8 : decode cX7_free 8 = .ok (.bipush (-2), 2) := by decide +kernel
theorem dX7_free_10 : decode cX7_free 10 = .ok (.ireturn, 1) := by decide +kernel
theorem dX7_free_11 : decode cX7_free 11 = .ok (.iconst 0, 1) := by decide +kernel
theorem dX7_free_12 : decode cX7_free 12 = .ok (.istore_n 2, 1) := by decide +kernel
theorem dX7_free_13 : decode cX7_free 13 = .ok (.iconst 0, 1) := by decide +kernel
theorem dX7_free_14 : decode cX7_free 14 = .ok (.istore_n 3, 1) := by decide +kernel
theorem dX7_free_15 : decode cX7_free 15 = .ok (.iload_n 3, 1) := by decide +kernel
theorem dX7_free_16 : decode cX7_free 16 = .ok (.aload_n 0, 1) := by decide +kernel
theorem dX7_free_17 : decode cX7_free 17 = .ok (.getfield 7, 3) := by decide +kernel
theorem dX7_free_20 : decode cX7_free 20 = .ok (.if_icmp .ge 41, 3) := by decide +kernel
theorem dX7_free_23 : decode cX7_free 23 = .ok (.iload_n 2, 1) := by decide +kernel
theorem dX7_free_24 : decode cX7_free 24 = .ok (.aload_n 0, 1) := by decide +kernel
theorem dX7_free_25 : decode cX7_free 25 = .ok (.getfield 20, 3) := by decide +kernel
theorem dX7_free_28 : decode cX7_free 28 = .ok (.iload_n 1, 1) := by decide +kernel
theorem dX7_free_29 : decode cX7_free 29 = .ok (.iaload, 1) := by decide +kernel
theorem dX7_free_30 : decode cX7_free 30 = .ok (.iload_n 3, 1) := by decide +kernel
theorem dX7_free_31 : decode cX7_free 31 = .ok (.ishr, 1) := by decide +kernel
theorem dX7_free_32 : decode cX7_free 32 = .ok (.iconst 1, 1) := by decide +kernel
theorem dX7_free_33 : decode cX7_free 33 = .ok (.iand, 1) := by decide +kernel
theorem dX7_free_34 : decode cX7_free 34 = .ok (.ifCond .ne 18, 3) := by decide +kernel
theorem dX7_free_37 : decode cX7_free 37 = .ok (.aload_n 0, 1) := by decide +kernel
theorem dX7_free_38 : decode cX7_free 38 = .ok (.iload_n 1, 1) := by decide +kernel
theorem dX7_free_39 : decode cX7_free 39 = .ok (.iload_n 3, 1) := by decide +kernel
theorem dX7_free_40 : decode cX7_free 40 = .ok (.invokevirtual 228, 3) := by decide +kernel
theorem dX7_free_43 : decode cX7_free 43 = .ok (.ifCond .ne 9, 3) := by decide +kernel
theorem dX7_free_46 : decode cX7_free 46 = .ok (.iconst 1, 1) := by decide +kernel
theorem dX7_free_47 : decode cX7_free 47 = .ok (.iload_n 3, 1) := by decide +kernel
theorem dX7_free_48 : decode cX7_free 48 = .ok (.ishl, 1) := by decide +kernel
theorem dX7_free_49 : decode cX7_free 49 = .ok (.goto 4, 3) := by decide +kernel
theorem dX7_free_52 : decode cX7_free 52 = .ok (.iconst 0, 1) := by decide +kernel
theorem dX7_free_53 : decode cX7_free 53 = .ok (.ior, 1) := by decide +kernel
theorem dX7_free_54 : decode cX7_free 54 = .ok (.istore_n 2, 1) := by decide +kernel
theorem dX7_free_55 : decode cX7_free 55 = .ok (.iinc 3 1, 3) := by decide +kernel
theorem dX7_free_58 : decode cX7_free 58 = .ok (.goto (-43), 3) := by decide +kernel
theorem dX7_free_61 : decode cX7_free 61 = .ok (.iload_n 2, 1) := by decide +kernel
theorem dX7_free_62 : decode cX7_free 62 = .ok (.ireturn, 1) := by decide +kernel
theorem dX7_heard_0 : decode cX7_heard 0 = .ok (.iload_n 1, 1) := by decide +kernel
theorem dX7_heard_1 : decode cX7_heard 1 = .ok (.i2l, 1) := by decide +kernel
theorem dX7_heard_2 : decode cX7_heard 2 = .ok (.lconst 0, 1) := by decide +kernel
theorem dX7_heard_3 : decode cX7_heard 3 = .ok (.ldc2_w 231, 3) := by decide +kernel
theorem dX7_heard_6 : decode cX7_heard 6 = .ok (.invokestatic 90, 3) := by decide +kernel
theorem dX7_heard_9 : decode cX7_heard 9 = .ok (.ifCond .eq 11, 3) := by decide +kernel
theorem dX7_heard_12 : decode cX7_heard 12 = .ok (.aload_n 0, 1) := by decide +kernel
theorem dX7_heard_13 : decode cX7_heard 13 = .ok (.iload_n 2, 1) := by decide +kernel
theorem dX7_heard_14 : decode cX7_heard 14 = .ok (.invokevirtual 131, 3) := by decide +kernel
theorem dX7_heard_17 : decode cX7_heard 17 = .ok (.ifCond .eq 6, 3) := by decide +kernel
theorem dX7_heard_20 : decode cX7_heard 20 = .ok (.bipush (-2), 2) := by decide +kernel
theorem dX7_heard_22 : decode cX7_heard 22 = .ok (.ireturn, 1) := by decide +kernel
theorem dX7_heard_23 : decode cX7_heard 23 = .ok (.aload_n 0, 1) := by decide +kernel
theorem dX7_heard_24 : decode cX7_heard 24 = .ok (.getfield 84, 3) := by decide +kernel
theorem dX7_heard_27 : decode cX7_heard 27 = .ok (.iload_n 1, 1) := by decide +kernel
theorem dX7_heard_28 : decode cX7_heard 28 = .ok (.iaload, 1) := by decide +kernel
theorem dX7_heard_29 : decode cX7_heard 29 = .ok (.istore_n 3, 1) := by decide +kernel
theorem dX7_heard_30 : decode cX7_heard 30 = .ok (.aload_n 0, 1) := by decide +kernel
theorem dX7_heard_31 : decode cX7_heard 31 = .ok (.getfield 84, 3) := by decide +kernel
theorem dX7_heard_34 : decode cX7_heard 34 = .ok (.iload_n 1, 1) := by decide +kernel
theorem dX7_heard_35 : decode cX7_heard 35 = .ok (.iload_n 2, 1) := by decide +kernel
theorem dX7_heard_36 : decode cX7_heard 36 = .ok (.iastore, 1) := by decide +kernel
theorem dX7_heard_37 : decode cX7_heard 37 = .ok (.iload_n 3, 1) := by decide +kernel
theorem dX7_heard_38 : decode cX7_heard 38 = .ok (.ireturn, 1) := by decide +kernel
theorem dX7_could_0 : decode cX7_could 0 = .ok (.aload_n 0, 1) := by decide +kernel
theorem dX7_could_1 : decode cX7_could 1 = .ok (.iload_n 1, 1) := by decide +kernel
theorem dX7_could_2 : decode cX7_could 2 = .ok (.invokevirtual 131, 3) := by decide +kernel
theorem dX7_could_5 : decode cX7_could 5 = .ok (.ifCond .ne 19, 3) := by decide +kernel
theorem dX7_could_8 : decode cX7_could 8 = .ok (.aload_n 0, 1) := by decide +kernel
theorem dX7_could_9 : decode cX7_could 9 = .ok (.iload_n 2, 1) := by decide +kernel
theorem dX7_could_10 : decode cX7_could 10 = .ok (.invokevirtual 131, 3) := by decide +kernel
theorem dX7_could_13 : decode cX7_could 13 = .ok (.ifCond .ne 11, 3) := by decide +kernel
theorem dX7_could_16 : decode cX7_could 16 = .ok (.iload_n 2, 1) := by decide +kernel
theorem dX7_could_17 : decode cX7_could 17 = .ok (.iload_n 1, 1) := by decide +kernel
theorem dX7_could_18 : decode cX7_could 18 = .ok (.iconst (-1), 1) := by decide +kernel
theorem dX7_could_19 : decode cX7_could 19 = .ok (.ixor, 1) := by decide +kernel
theorem dX7_could_20 : decode cX7_could 20 = .ok (.iand, 1) := by decide +kernel
theorem dX7_could_21 : decode cX7_could 21 = .ok (.ifCond .eq 6, 3) := by decide +kernel
theorem dX7_could_24 : decode cX7_could 24 = .ok (.bipush (-2), 2) := by decide +kernel
theorem dX7_could_26 : decode cX7_could 26 = .ok (.ireturn, 1) := by decide +kernel
theorem dX7_could_27 : decode cX7_could 27 = .ok (.iconst 0, 1) := by decide +kernel
theorem dX7_could_28 : decode cX7_could 28 = .ok (.istore_n 3, 1) := by decide +kernel
theorem dX7_could_29 : decode cX7_could 29 = .ok (.iconst 0, 1) := by decide +kernel
theorem dX7_could_30 : decode cX7_could 30 = .ok (.istore 4, 2) := by decide +kernel
theorem dX7_could_32 : decode cX7_could 32 = .ok (.iload 4, 2) := by decide +kernel
theorem dX7_could_34 : decode cX7_could 34 = .ok (.bipush 16, 2) := by decide +kernel
theorem dX7_could_36 : decode cX7_could 36 = .ok (.if_icmp .ge 33, 3) := by decide +kernel
theorem dX7_could_39 : decode cX7_could 39 = .ok (.iload_n 3, 1) := by decide +kernel
theorem dX7_could_40 : decode cX7_could 40 = .ok (.aload_n 0, 1) := by decide +kernel
theorem dX7_could_41 : decode cX7_could 41 = .ok (.getfield 84, 3) := by decide +kernel
theorem dX7_could_44 : decode cX7_could 44 = .ok (.iload 4, 2) := by decide +kernel
theorem dX7_could_46 : decode cX7_could 46 = .ok (.iaload, 1) := by decide +kernel
theorem dX7_could_47 : decode cX7_could 47 = .ok (.iload_n 1, 1) := by decide +kernel
theorem dX7_could_48 : decode cX7_could 48 = .ok (.iand, 1) := by decide +kernel
theorem dX7_could_49 : decode cX7_could 49 = .ok (.iload_n 2, 1) := by decide +kernel
theorem dX7_could_50 : decode cX7_could 50 = .ok (.if_icmp .ne 10, 3) := by decide +kernel
theorem dX7_could_53 : decode cX7_could 53 = .ok (.iconst 1, 1) := by decide +kernel
theorem dX7_could_54 : decode cX7_could 54 = .ok (.iload 4, 2) := by decide +kernel
theorem dX7_could_56 : decode cX7_could 56 = .ok (.ishl, 1) := by decide +kernel
theorem dX7_could_57 : decode cX7_could 57 = .ok (.goto 4, 3) := by decide +kernel
theorem dX7_could_60 : decode cX7_could 60 = .ok (.iconst 0, 1) := by decide +kernel
theorem dX7_could_61 : decode cX7_could 61 = .ok (.ior, 1) := by decide +kernel
theorem dX7_could_62 : decode cX7_could 62 = .ok (.istore_n 3, 1) := by decide +kernel
theorem dX7_could_63 : decode cX7_could 63 = .ok (.iinc 4 1, 3) := by decide +kernel
theorem dX7_could_66 : decode cX7_could 66 = .ok (.goto (-34), 3) := by decide +kernel
theorem dX7_could_69 : decode cX7_could 69 = .ok (.iload_n 3, 1) := by decide +kernel
theorem dX7_could_70 : decode cX7_could 70 = .ok (.ireturn, 1) := by decide +kernel
theorem dX7_count_0 : decode cX7_count 0 = .ok (.iload_n 1, 1) := by decide +kernel
theorem dX7_count_1 : decode cX7_count 1 = .ok (.tableswitch 54 0 3 #[31, 36, 44, 49], 31) := by decide +kernel
theorem dX7_count_32 : decode cX7_count 32 = .ok (.aload_n 0, 1) := by decide +kernel
theorem dX7_count_33 : decode cX7_count 33 = .ok (.getfield 87, 3) := by decide +kernel
theorem dX7_count_36 : decode cX7_count 36 = .ok (.ireturn, 1) := by decide +kernel
theorem dX7_count_37 : decode cX7_count 37 = .ok (.aload_n 0, 1) := by decide +kernel
theorem dX7_count_38 : decode cX7_count 38 = .ok (.invokevirtual 153, 3) := by decide +kernel
theorem dX7_count_41 : decode cX7_count 41 = .ok (.invokestatic 144, 3) := by decide +kernel
theorem dX7_count_44 : decode cX7_count 44 = .ok (.ireturn, 1) := by decide +kernel
theorem dX7_count_45 : decode cX7_count 45 = .ok (.aload_n 0, 1) := by decide +kernel
theorem dX7_count_46 : decode cX7_count 46 = .ok (.getfield 183, 3) := by decide +kernel
theorem dX7_count_49 : decode cX7_count 49 = .ok (.ireturn, 1) := by decide +kernel
theorem dX7_count_50 : decode cX7_count 50 = .ok (.aload_n 0, 1) := by decide +kernel
theorem dX7_count_51 : decode cX7_count 51 = .ok (.getfield 191, 3) := by decide +kernel
theorem dX7_count_54 : decode cX7_count 54 = .ok (.ireturn, 1) := by decide +kernel
theorem dX7_count_55 : decode cX7_count 55 = .ok (.bipush (-2), 2) := by decide +kernel
theorem dX7_count_57 : decode cX7_count 57 = .ok (.ireturn, 1) := by decide +kernel
theorem dX7_add_0 : decode cX7_add 0 = .ok (.aload_n 0, 1) := by decide +kernel
theorem dX7_add_1 : decode cX7_add 1 = .ok (.ldc2_w 233, 3) := by decide +kernel
theorem dX7_add_4 : decode cX7_add 4 = .ok (.aload_n 0, 1) := by decide +kernel
theorem dX7_add_5 : decode cX7_add 5 = .ok (.getfield 235, 3) := by decide +kernel
theorem dX7_add_8 : decode cX7_add 8 = .ok (.lmul, 1) := by decide +kernel
theorem dX7_add_9 : decode cX7_add 9 = .ok (.iload_n 1, 1) := by decide +kernel
theorem dX7_add_10 : decode cX7_add 10 = .ok (.i2l, 1) := by decide +kernel
theorem dX7_add_11 : decode cX7_add 11 = .ok (.ladd, 1) := by decide +kernel
theorem dX7_add_12 : decode cX7_add 12 = .ok (.putfield 235, 3) := by decide +kernel
theorem dX7_add_15 : decode cX7_add 15 = .ok (.return_, 1) := by decide +kernel
theorem dX7_digest_0 : decode cX7_digest 0 = .ok (.aload_n 0, 1) := by decide +kernel
theorem dX7_digest_1 : decode cX7_digest 1 = .ok (.ldc2_w 239, 3) := by decide +kernel
theorem dX7_digest_4 : decode cX7_digest 4 = .ok (.putfield 235, 3) := by decide +kernel
theorem dX7_digest_7 : decode cX7_digest 7 = .ok (.iconst 0, 1) := by decide +kernel
theorem dX7_digest_8 : decode cX7_digest 8 = .ok (.istore_n 1, 1) := by decide +kernel
theorem dX7_digest_9 : decode cX7_digest 9 = .ok (.iload_n 1, 1) := by decide +kernel
theorem dX7_digest_10 : decode cX7_digest 10 = .ok (.iconst 4, 1) := by decide +kernel
theorem dX7_digest_11 : decode cX7_digest 11 = .ok (.if_icmp .ge 18, 3) := by decide +kernel
theorem dX7_digest_14 : decode cX7_digest 14 = .ok (.aload_n 0, 1) := by decide +kernel
theorem dX7_digest_15 : decode cX7_digest 15 = .ok (.aload_n 0, 1) := by decide +kernel
theorem dX7_digest_16 : decode cX7_digest 16 = .ok (.iload_n 1, 1) := by decide +kernel
theorem dX7_digest_17 : decode cX7_digest 17 = .ok (.invokevirtual 241, 3) := by decide +kernel
theorem dX7_digest_20 : decode cX7_digest 20 = .ok (.invokevirtual 244, 3) := by decide +kernel
theorem dX7_digest_23 : decode cX7_digest 23 = .ok (.iinc 1 1, 3) := by decide +kernel
theorem dX7_digest_26 : decode cX7_digest 26 = .ok (.goto (-17), 3) := by decide +kernel
theorem dX7_digest_29 : decode cX7_digest 29 = .ok (.aload_n 0, 1) := by decide +kernel
theorem dX7_digest_30 : decode cX7_digest 30 = .ok (.aload_n 0, 1) := by decide +kernel
theorem dX7_digest_31 : decode cX7_digest 31 = .ok (.getfield 7, 3) := by decide +kernel
theorem dX7_digest_34 : decode cX7_digest 34 = .ok (.invokevirtual 244, 3) := by decide +kernel
theorem dX7_digest_37 : decode cX7_digest 37 = .ok (.aload_n 0, 1) := by decide +kernel
theorem dX7_digest_38 : decode cX7_digest 38 = .ok (.aload_n 0, 1) := by decide +kernel
theorem dX7_digest_39 : decode cX7_digest 39 = .ok (.getfield 13, 3) := by decide +kernel
theorem dX7_digest_42 : decode cX7_digest 42 = .ok (.invokevirtual 244, 3) := by decide +kernel
theorem dX7_digest_45 : decode cX7_digest 45 = .ok (.aload_n 0, 1) := by decide +kernel
theorem dX7_digest_46 : decode cX7_digest 46 = .ok (.aload_n 0, 1) := by decide +kernel
theorem dX7_digest_47 : decode cX7_digest 47 = .ok (.getfield 42, 3) := by decide +kernel
theorem dX7_digest_50 : decode cX7_digest 50 = .ok (.invokevirtual 244, 3) := by decide +kernel
theorem dX7_digest_53 : decode cX7_digest 53 = .ok (.aload_n 0, 1) := by decide +kernel
theorem dX7_digest_54 : decode cX7_digest 54 = .ok (.aload_n 0, 1) := by decide +kernel
theorem dX7_digest_55 : decode cX7_digest 55 = .ok (.getfield 45, 3) := by decide +kernel
theorem dX7_digest_58 : decode cX7_digest 58 = .ok (.invokevirtual 244, 3) := by decide +kernel
theorem dX7_digest_61 : decode cX7_digest 61 = .ok (.iconst 0, 1) := by decide +kernel
theorem dX7_digest_62 : decode cX7_digest 62 = .ok (.istore_n 1, 1) := by decide +kernel
theorem dX7_digest_63 : decode cX7_digest 63 = .ok (.iload_n 1, 1) := by decide +kernel
theorem dX7_digest_64 : decode cX7_digest 64 = .ok (.aload_n 0, 1) := by decide +kernel
theorem dX7_digest_65 : decode cX7_digest 65 = .ok (.getfield 87, 3) := by decide +kernel
theorem dX7_digest_68 : decode cX7_digest 68 = .ok (.if_icmp .ge 121, 3) := by decide +kernel
theorem dX7_digest_71 : decode cX7_digest 71 = .ok (.aload_n 0, 1) := by decide +kernel
theorem dX7_digest_72 : decode cX7_digest 72 = .ok (.aload_n 0, 1) := by decide +kernel
theorem dX7_digest_73 : decode cX7_digest 73 = .ok (.getfield 20, 3) := by decide +kernel
theorem dX7_digest_76 : decode cX7_digest 76 = .ok (.iload_n 1, 1) := by decide +kernel
theorem dX7_digest_77 : decode cX7_digest 77 = .ok (.iaload, 1) := by decide +kernel
theorem dX7_digest_78 : decode cX7_digest 78 = .ok (.invokevirtual 244, 3) := by decide +kernel
theorem dX7_digest_81 : decode cX7_digest 81 = .ok (.iconst 0, 1) := by decide +kernel
theorem dX7_digest_82 : decode cX7_digest 82 = .ok (.istore_n 2, 1) := by decide +kernel
theorem dX7_digest_83 : decode cX7_digest 83 = .ok (.iload_n 2, 1) := by decide +kernel
theorem dX7_digest_84 : decode cX7_digest 84 = .ok (.aload_n 0, 1) := by decide +kernel
theorem dX7_digest_85 : decode cX7_digest 85 = .ok (.getfield 87, 3) := by decide +kernel
theorem dX7_digest_88 : decode cX7_digest 88 = .ok (.if_icmp .ge 29, 3) := by decide +kernel
theorem dX7_digest_91 : decode cX7_digest 91 = .ok (.iload_n 2, 1) := by decide +kernel
theorem dX7_digest_92 : decode cX7_digest 92 = .ok (.iload_n 1, 1) := by decide +kernel
theorem dX7_digest_93 : decode cX7_digest 93 = .ok (.if_icmp .eq 18, 3) := by decide +kernel
theorem dX7_digest_96 : decode cX7_digest 96 = .ok (.aload_n 0, 1) := by decide +kernel
theorem dX7_digest_97 : decode cX7_digest 97 = .ok (.aload_n 0, 1) := by decide +kernel
theorem dX7_digest_98 : decode cX7_digest 98 = .ok (.getfield 16, 3) := by decide +kernel
theorem dX7_digest_101 : decode cX7_digest 101 = .ok (.bipush 10, 2) := by decide +kernel
theorem dX7_digest_103 : decode cX7_digest 103 = .ok (.iload_n 1, 1) := by decide +kernel
theorem dX7_digest_104 : decode cX7_digest 104 = .ok (.imul, 1) := by decide +kernel
theorem dX7_digest_105 : decode cX7_digest 105 = .ok (.iload_n 2, 1) := by decide +kernel
theorem dX7_digest_106 : decode cX7_digest 106 = .ok (.iadd, 1) := by decide +kernel
theorem dX7_digest_107 : decode cX7_digest 107 = .ok (.iaload, 1) := by decide +kernel
theorem dX7_digest_108 : decode cX7_digest 108 = .ok (.invokevirtual 244, 3) := by decide +kernel
theorem dX7_digest_111 : decode cX7_digest 111 = .ok (.iinc 2 1, 3) := by decide +kernel
theorem dX7_digest_114 : decode cX7_digest 114 = .ok (.goto (-31), 3) := by decide +kernel
theorem dX7_digest_117 : decode cX7_digest 117 = .ok (.aload_n 0, 1) := by decide +kernel
theorem dX7_digest_118 : decode cX7_digest 118 = .ok (.aload_n 0, 1) := by decide +kernel
theorem dX7_digest_119 : decode cX7_digest 119 = .ok (.getfield 33, 3) := by decide +kernel
theorem dX7_digest_122 : decode cX7_digest 122 = .ok (.iload_n 1, 1) := by decide +kernel
theorem dX7_digest_123 : decode cX7_digest 123 = .ok (.baload, 1) := by decide +kernel
theorem dX7_digest_124 : decode cX7_digest 124 = .ok (.ifCond .eq 12, 3) := by decide +kernel
theorem dX7_digest_127 : decode cX7_digest 127 = .ok (.aload_n 0, 1) := by decide +kernel
theorem dX7_digest_128 : decode cX7_digest 128 = .ok (.getfield 36, 3) := by decide +kernel
theorem dX7_digest_131 : decode cX7_digest 131 = .ok (.iload_n 1, 1) := by decide +kernel
theorem dX7_digest_132 : decode cX7_digest 132 = .ok (.iaload, 1) := by decide +kernel
theorem dX7_digest_133 : decode cX7_digest 133 = .ok (.goto 4, 3) := by decide +kernel
theorem dX7_digest_136 : decode cX7_digest 136 = .ok (.iconst 0, 1) := by decide +kernel
theorem dX7_digest_137 : decode cX7_digest 137 = .ok (.invokevirtual 244, 3) := by decide +kernel
theorem dX7_digest_140 : decode cX7_digest 140 = .ok (.aload_n 0, 1) := by decide +kernel
theorem dX7_digest_141 : decode cX7_digest 141 = .ok (.aload_n 0, 1) := by decide +kernel
theorem dX7_digest_142 : decode cX7_digest 142 = .ok (.getfield 33, 3) := by decide +kernel
theorem dX7_digest_145 : decode cX7_digest 145 = .ok (.iload_n 1, 1) := by decide +kernel
theorem dX7_digest_146 : decode cX7_digest 146 = .ok (.baload, 1) := by decide +kernel
theorem dX7_digest_147 : decode cX7_digest 147 = .ok (.ifCond .eq 12, 3) := by decide +kernel
theorem dX7_digest_150 : decode cX7_digest 150 = .ok (.aload_n 0, 1) := by decide +kernel
theorem dX7_digest_151 : decode cX7_digest 151 = .ok (.getfield 39, 3) := by decide +kernel
theorem dX7_digest_154 : decode cX7_digest 154 = .ok (.iload_n 1, 1) := by decide +kernel
theorem dX7_digest_155 : decode cX7_digest 155 = .ok (.iaload, 1) := by decide +kernel
theorem dX7_digest_156 : decode cX7_digest 156 = .ok (.goto 4, 3) := by decide +kernel
theorem dX7_digest_159 : decode cX7_digest 159 = .ok (.iconst 0, 1) := by decide +kernel
theorem dX7_digest_160 : decode cX7_digest 160 = .ok (.invokevirtual 244, 3) := by decide +kernel
theorem dX7_digest_163 : decode cX7_digest 163 = .ok (.aload_n 0, 1) := by decide +kernel
theorem dX7_digest_164 : decode cX7_digest 164 = .ok (.aload_n 0, 1) := by decide +kernel
theorem dX7_digest_165 : decode cX7_digest 165 = .ok (.getfield 75, 3) := by decide +kernel
theorem dX7_digest_168 : decode cX7_digest 168 = .ok (.iload_n 1, 1) := by decide +kernel
theorem dX7_digest_169 : decode cX7_digest 169 = .ok (.iaload, 1) := by decide +kernel
theorem dX7_digest_170 : decode cX7_digest 170 = .ok (.invokevirtual 244, 3) := by decide +kernel
theorem dX7_digest_173 : decode cX7_digest 173 = .ok (.aload_n 0, 1) := by decide +kernel
theorem dX7_digest_174 : decode cX7_digest 174 = .ok (.aload_n 0, 1) := by decide +kernel
theorem dX7_digest_175 : decode cX7_digest 175 = .ok (.getfield 78, 3) := by decide +kernel
theorem dX7_digest_178 : decode cX7_digest 178 = .ok (.iload_n 1, 1) := by decide +kernel
theorem dX7_digest_179 : decode cX7_digest 179 = .ok (.iaload, 1) := by decide +kernel
theorem dX7_digest_180 : decode cX7_digest 180 = .ok (.invokevirtual 244, 3) := by decide +kernel
theorem dX7_digest_183 : decode cX7_digest 183 = .ok (.iinc 1 1, 3) := by decide +kernel
theorem dX7_digest_186 : decode cX7_digest 186 = .ok (.goto (-123), 3) := by decide +kernel
theorem dX7_digest_189 : decode cX7_digest 189 = .ok (.iconst 0, 1) := by decide +kernel
theorem dX7_digest_190 : decode cX7_digest 190 = .ok (.istore_n 1, 1) := by decide +kernel
theorem dX7_digest_191 : decode cX7_digest 191 = .ok (.iload_n 1, 1) := by decide +kernel
theorem dX7_digest_192 : decode cX7_digest 192 = .ok (.aload_n 0, 1) := by decide +kernel
theorem dX7_digest_193 : decode cX7_digest 193 = .ok (.getfield 191, 3) := by decide +kernel
theorem dX7_digest_196 : decode cX7_digest 196 = .ok (.if_icmp .ge 39, 3) := by decide +kernel
theorem dX7_digest_199 : decode cX7_digest 199 = .ok (.aload_n 0, 1) := by decide +kernel
theorem dX7_digest_200 : decode cX7_digest 200 = .ok (.aload_n 0, 1) := by decide +kernel
theorem dX7_digest_201 : decode cX7_digest 201 = .ok (.getfield 57, 3) := by decide +kernel
theorem dX7_digest_204 : decode cX7_digest 204 = .ok (.iload_n 1, 1) := by decide +kernel
theorem dX7_digest_205 : decode cX7_digest 205 = .ok (.iaload, 1) := by decide +kernel
theorem dX7_digest_206 : decode cX7_digest 206 = .ok (.invokevirtual 244, 3) := by decide +kernel
theorem dX7_digest_209 : decode cX7_digest 209 = .ok (.aload_n 0, 1) := by decide +kernel
theorem dX7_digest_210 : decode cX7_digest 210 = .ok (.aload_n 0, 1) := by decide +kernel
theorem dX7_digest_211 : decode cX7_digest 211 = .ok (.getfield 60, 3) := by decide +kernel
theorem dX7_digest_214 : decode cX7_digest 214 = .ok (.iload_n 1, 1) := by decide +kernel
theorem dX7_digest_215 : decode cX7_digest 215 = .ok (.iaload, 1) := by decide +kernel
theorem dX7_digest_216 : decode cX7_digest 216 = .ok (.invokevirtual 244, 3) := by decide +kernel
theorem dX7_digest_219 : decode cX7_digest 219 = .ok (.aload_n 0, 1) := by decide +kernel
theorem dX7_digest_220 : decode cX7_digest 220 = .ok (.aload_n 0, 1) := by decide +kernel
theorem dX7_digest_221 : decode cX7_digest 221 = .ok (.getfield 63, 3) := by decide +kernel
theorem dX7_digest_224 : decode cX7_digest 224 = .ok (.iload_n 1, 1) := by decide +kernel
theorem dX7_digest_225 : decode cX7_digest 225 = .ok (.iaload, 1) := by decide +kernel
theorem dX7_digest_226 : decode cX7_digest 226 = .ok (.invokevirtual 244, 3) := by decide +kernel
theorem dX7_digest_229 : decode cX7_digest 229 = .ok (.iinc 1 1, 3) := by decide +kernel
theorem dX7_digest_232 : decode cX7_digest 232 = .ok (.goto (-41), 3) := by decide +kernel
theorem dX7_digest_235 : decode cX7_digest 235 = .ok (.iconst 0, 1) := by decide +kernel
theorem dX7_digest_236 : decode cX7_digest 236 = .ok (.istore_n 1, 1) := by decide +kernel
theorem dX7_digest_237 : decode cX7_digest 237 = .ok (.iload_n 1, 1) := by decide +kernel
theorem dX7_digest_238 : decode cX7_digest 238 = .ok (.aload_n 0, 1) := by decide +kernel
theorem dX7_digest_239 : decode cX7_digest 239 = .ok (.getfield 183, 3) := by decide +kernel
theorem dX7_digest_242 : decode cX7_digest 242 = .ok (.if_icmp .ge 19, 3) := by decide +kernel
theorem dX7_digest_245 : decode cX7_digest 245 = .ok (.aload_n 0, 1) := by decide +kernel
theorem dX7_digest_246 : decode cX7_digest 246 = .ok (.aload_n 0, 1) := by decide +kernel
theorem dX7_digest_247 : decode cX7_digest 247 = .ok (.getfield 54, 3) := by decide +kernel
theorem dX7_digest_250 : decode cX7_digest 250 = .ok (.iload_n 1, 1) := by decide +kernel
theorem dX7_digest_251 : decode cX7_digest 251 = .ok (.iaload, 1) := by decide +kernel
theorem dX7_digest_252 : decode cX7_digest 252 = .ok (.invokevirtual 244, 3) := by decide +kernel
theorem dX7_digest_255 : decode cX7_digest 255 = .ok (.iinc 1 1, 3) := by decide +kernel
theorem dX7_digest_258 : decode cX7_digest 258 = .ok (.goto (-21), 3) := by decide +kernel
theorem dX7_digest_261 : decode cX7_digest 261 = .ok (.iconst 0, 1) := by decide +kernel
theorem dX7_digest_262 : decode cX7_digest 262 = .ok (.istore_n 1, 1) := by decide +kernel
theorem dX7_digest_263 : decode cX7_digest 263 = .ok (.iload_n 1, 1) := by decide +kernel
theorem dX7_digest_264 : decode cX7_digest 264 = .ok (.bipush 16, 2) := by decide +kernel
theorem dX7_digest_266 : decode cX7_digest 266 = .ok (.if_icmp .ge 19, 3) := by decide +kernel
theorem dX7_digest_269 : decode cX7_digest 269 = .ok (.aload_n 0, 1) := by decide +kernel
theorem dX7_digest_270 : decode cX7_digest 270 = .ok (.aload_n 0, 1) := by decide +kernel
theorem dX7_digest_271 : decode cX7_digest 271 = .ok (.getfield 84, 3) := by decide +kernel
theorem dX7_digest_274 : decode cX7_digest 274 = .ok (.iload_n 1, 1) := by decide +kernel
theorem dX7_digest_275 : decode cX7_digest 275 = .ok (.iaload, 1) := by decide +kernel
theorem dX7_digest_276 : decode cX7_digest 276 = .ok (.invokevirtual 244, 3) := by decide +kernel
theorem dX7_digest_279 : decode cX7_digest 279 = .ok (.iinc 1 1, 3) := by decide +kernel
theorem dX7_digest_282 : decode cX7_digest 282 = .ok (.goto (-19), 3) := by decide +kernel
theorem dX7_digest_285 : decode cX7_digest 285 = .ok (.iconst 0, 1) := by decide +kernel
theorem dX7_digest_286 : decode cX7_digest 286 = .ok (.istore_n 1, 1) := by decide +kernel
theorem dX7_digest_287 : decode cX7_digest 287 = .ok (.iload_n 1, 1) := by decide +kernel
theorem dX7_digest_288 : decode cX7_digest 288 = .ok (.iconst 4, 1) := by decide +kernel
theorem dX7_digest_289 : decode cX7_digest 289 = .ok (.if_icmp .ge 18, 3) := by decide +kernel
theorem dX7_digest_292 : decode cX7_digest 292 = .ok (.aload_n 0, 1) := by decide +kernel
theorem dX7_digest_293 : decode cX7_digest 293 = .ok (.aload_n 0, 1) := by decide +kernel
theorem dX7_digest_294 : decode cX7_digest 294 = .ok (.iload_n 1, 1) := by decide +kernel
theorem dX7_digest_295 : decode cX7_digest 295 = .ok (.invokevirtual 247, 3) := by decide +kernel
theorem dX7_digest_298 : decode cX7_digest 298 = .ok (.invokevirtual 244, 3) := by decide +kernel
theorem dX7_digest_301 : decode cX7_digest 301 = .ok (.iinc 1 1, 3) := by decide +kernel
theorem dX7_digest_304 : decode cX7_digest 304 = .ok (.goto (-17), 3) := by decide +kernel
theorem dX7_digest_307 : decode cX7_digest 307 = .ok (.aload_n 0, 1) := by decide +kernel
theorem dX7_digest_308 : decode cX7_digest 308 = .ok (.getfield 235, 3) := by decide +kernel
theorem dX7_digest_311 : decode cX7_digest 311 = .ok (.lreturn, 1) := by decide +kernel
end
section
theorem dL_law_0 : decode cL_law 0 = .ok (.new 7, 3) := by decide +kernel
theorem dL_law_3 : decode cL_law 3 = .ok (.dup, 1) := by decide +kernel
theorem dL_law_4 : decode cL_law 4 = .ok (.invokespecial 9, 3) := by decide +kernel
theorem dL_law_7 : decode cL_law 7 = .ok (.astore_n 1, 1) := by decide +kernel
theorem dL_law_8 : decode cL_law 8 = .ok (.new 10, 3) := by decide +kernel
theorem dL_law_11 : decode cL_law 11 = .ok (.dup, 1) := by decide +kernel
theorem dL_law_12 : decode cL_law 12 = .ok (.invokespecial 12, 3) := by decide +kernel
theorem dL_law_15 : decode cL_law 15 = .ok (.astore_n 2, 1) := by decide +kernel
theorem dL_law_16 : decode cL_law 16 = .ok (.iconst 0, 1) := by decide +kernel
theorem dL_law_17 : decode cL_law 17 = .ok (.istore_n 3, 1) := by decide +kernel
theorem dL_law_18 : decode cL_law 18 = .ok (.iload_n 3, 1) := by decide +kernel
theorem dL_law_19 : decode cL_law 19 = .ok (.aload_n 0, 1) := by decide +kernel
theorem dL_law_20 : decode cL_law 20 = .ok (.arraylength, 1) := by decide +kernel
theorem dL_law_21 : decode cL_law 21 = .ok (.iconst 5, 1) := by decide +kernel
theorem dL_law_22 : decode cL_law 22 = .ok (.isub, 1) := by decide +kernel
theorem dL_law_23 : decode cL_law 23 = .ok (.if_icmp .gt 1065, 3) := by decide +kernel
theorem dL_law_26 : decode cL_law 26 = .ok (.aload_n 0, 1) := by decide +kernel
theorem dL_law_27 : decode cL_law 27 = .ok (.iload_n 3, 1) := by decide +kernel
theorem dL_law_28 : decode cL_law 28 = .ok (.iaload, 1) := by decide +kernel
theorem dL_law_29 : decode cL_law 29 = .ok (.bipush 31, 2) := by decide +kernel
theorem dL_law_31 : decode cL_law 31 = .ok (.iand, 1) := by decide +kernel
theorem dL_law_32 : decode cL_law 32 = .ok (.tableswitch 1050 0 31 #[144, 157, 180, 223, 256, 279, 302, 325, 358, 381, 404, 447, 480, 503, 526, 549, 582, 635, 648, 691, 724, 747, 780, 803, 816, 859, 892, 925, 948, 981, 1014, 1037], 144) := by decide +kernel
theorem dL_law_176 : decode cL_law 176 = .ok (.aload_n 1, 1) := by decide +kernel
theorem dL_law_177 : decode cL_law 177 = .ok (.invokevirtual 13, 3) := by decide +kernel
theorem dL_law_180 : decode cL_law 180 = .ok (.aload_n 2, 1) := by decide +kernel
theorem dL_law_181 : decode cL_law 181 = .ok (.invokevirtual 17, 3) := by decide +kernel
theorem dL_law_184 : decode cL_law 184 = .ok (.if_icmp .eq 898, 3) := by decide +kernel
theorem dL_law_187 : decode cL_law 187 = .ok (.iconst 0, 1) := by decide +kernel
theorem dL_law_188 : decode cL_law 188 = .ok (.ireturn, 1) := by decide +kernel
theorem dL_law_189 : decode cL_law 189 = .ok (.aload_n 1, 1) := by decide +kernel
theorem dL_law_190 : decode cL_law 190 = .ok (.aload_n 0, 1) := by decide +kernel
theorem dL_law_191 : decode cL_law 191 = .ok (.iload_n 3, 1) := by decide +kernel
theorem dL_law_192 : decode cL_law 192 = .ok (.iconst 1, 1) := by decide +kernel
theorem dL_law_193 : decode cL_law 193 = .ok (.iadd, 1) := by decide +kernel
theorem dL_law_194 : decode cL_law 194 = .ok (.iaload, 1) := by decide +kernel
theorem dL_law_195 : decode cL_law 195 = .ok (.invokevirtual 18, 3) := by decide +kernel
theorem dL_law_198 : decode cL_law 198 = .ok (.pop, 1) := by decide +kernel
theorem dL_law_199 : decode cL_law 199 = .ok (.aload_n 2, 1) := by decide +kernel
theorem dL_law_200 : decode cL_law 200 = .ok (.aload_n 0, 1) := by decide +kernel
theorem dL_law_201 : decode cL_law 201 = .ok (.iload_n 3, 1) := by decide +kernel
theorem dL_law_202 : decode cL_law 202 = .ok (.iconst 1, 1) := by decide +kernel
theorem dL_law_203 : decode cL_law 203 = .ok (.iadd, 1) := by decide +kernel
theorem dL_law_204 : decode cL_law 204 = .ok (.iaload, 1) := by decide +kernel
theorem dL_law_205 : decode cL_law 205 = .ok (.invokevirtual 22, 3) := by decide +kernel
theorem dL_law_208 : decode cL_law 208 = .ok (.pop, 1) := by decide +kernel
theorem dL_law_209 : decode cL_law 209 = .ok (.goto 873, 3) := by decide +kernel
theorem dL_law_212 : decode cL_law 212 = .ok (.aload_n 1, 1) := by decide +kernel
theorem dL_law_213 : decode cL_law 213 = .ok (.aload_n 0, 1) := by decide +kernel
theorem dL_law_214 : decode cL_law 214 = .ok (.iload_n 3, 1) := by decide +kernel
theorem dL_law_215 : decode cL_law 215 = .ok (.iconst 1, 1) := by decide +kernel
theorem dL_law_216 : decode cL_law 216 = .ok (.iadd, 1) := by decide +kernel
theorem dL_law_217 : decode cL_law 217 = .ok (.iaload, 1) := by decide +kernel
theorem dL_law_218 : decode cL_law 218 = .ok (.aload_n 0, 1) := by decide +kernel
theorem dL_law_219 : decode cL_law 219 = .ok (.iload_n 3, 1) := by decide +kernel
theorem dL_law_220 : decode cL_law 220 = .ok (.iconst 2, 1) := by decide +kernel
theorem dL_law_221 : decode cL_law 221 = .ok (.iadd, 1) := by decide +kernel
theorem dL_law_222 : decode cL_law 222 = .ok (.iaload, 1) := by decide +kernel
theorem dL_law_223 : decode cL_law 223 = .ok (.aload_n 0, 1) := by decide +kernel
theorem dL_law_224 : decode cL_law 224 = .ok (.iload_n 3, 1) := by decide +kernel
theorem dL_law_225 : decode cL_law 225 = .ok (.iconst 3, 1) := by decide +kernel
theorem dL_law_226 : decode cL_law 226 = .ok (.iadd, 1) := by decide +kernel
theorem dL_law_227 : decode cL_law 227 = .ok (.iaload, 1) := by decide +kernel
theorem dL_law_228 : decode cL_law 228 = .ok (.invokevirtual 23, 3) := by decide +kernel
theorem dL_law_231 : decode cL_law 231 = .ok (.pop, 1) := by decide +kernel
theorem dL_law_232 : decode cL_law 232 = .ok (.aload_n 2, 1) := by decide +kernel
theorem dL_law_233 : decode cL_law 233 = .ok (.aload_n 0, 1) := by decide +kernel
theorem dL_law_234 : decode cL_law 234 = .ok (.iload_n 3, 1) := by decide +kernel
theorem dL_law_235 : decode cL_law 235 = .ok (.iconst 1, 1) := by decide +kernel
theorem dL_law_236 : decode cL_law 236 = .ok (.iadd, 1) := by decide +kernel
theorem dL_law_237 : decode cL_law 237 = .ok (.iaload, 1) := by decide +kernel
theorem dL_law_238 : decode cL_law 238 = .ok (.aload_n 0, 1) := by decide +kernel
theorem dL_law_239 : decode cL_law 239 = .ok (.iload_n 3, 1) := by decide +kernel
theorem dL_law_240 : decode cL_law 240 = .ok (.iconst 2, 1) := by decide +kernel
theorem dL_law_241 : decode cL_law 241 = .ok (.iadd, 1) := by decide +kernel
theorem dL_law_242 : decode cL_law 242 = .ok (.iaload, 1) := by decide +kernel
theorem dL_law_243 : decode cL_law 243 = .ok (.aload_n 0, 1) := by decide +kernel
theorem dL_law_244 : decode cL_law 244 = .ok (.iload_n 3, 1) := by decide +kernel
theorem dL_law_245 : decode cL_law 245 = .ok (.iconst 3, 1) := by decide +kernel
theorem dL_law_246 : decode cL_law 246 = .ok (.iadd, 1) := by decide +kernel
theorem dL_law_247 : decode cL_law 247 = .ok (.iaload, 1) := by decide +kernel
theorem dL_law_248 : decode cL_law 248 = .ok (.invokevirtual 27, 3) := by decide +kernel
theorem dL_law_251 : decode cL_law 251 = .ok (.pop, 1) := by decide +kernel
theorem dL_law_252 : decode cL_law 252 = .ok (.goto 830, 3) := by decide +kernel
theorem dL_law_255 : decode cL_law 255 = .ok (.aload_n 1, 1) := by decide +kernel
theorem dL_law_256 : decode cL_law 256 = .ok (.aload_n 0, 1) := by decide +kernel
theorem dL_law_257 : decode cL_law 257 = .ok (.iload_n 3, 1) := by decide +kernel
theorem dL_law_258 : decode cL_law 258 = .ok (.iconst 1, 1) := by decide +kernel
theorem dL_law_259 : decode cL_law 259 = .ok (.iadd, 1) := by decide +kernel
theorem dL_law_260 : decode cL_law 260 = .ok (.iaload, 1) := by decide +kernel
theorem dL_law_261 : decode cL_law 261 = .ok (.aload_n 0, 1) := by decide +kernel
theorem dL_law_262 : decode cL_law 262 = .ok (.iload_n 3, 1) := by decide +kernel
theorem dL_law_263 : decode cL_law 263 = .ok (.iconst 2, 1) := by decide +kernel
theorem dL_law_264 : decode cL_law 264 = .ok (.iadd, 1) := by decide +kernel
theorem dL_law_265 : decode cL_law 265 = .ok (.iaload, 1) := by decide +kernel
theorem dL_law_266 : decode cL_law 266 = .ok (.invokevirtual 28, 3) := by decide +kernel
theorem dL_law_269 : decode cL_law 269 = .ok (.pop, 1) := by decide +kernel
theorem dL_law_270 : decode cL_law 270 = .ok (.aload_n 2, 1) := by decide +kernel
theorem dL_law_271 : decode cL_law 271 = .ok (.aload_n 0, 1) := by decide +kernel
theorem dL_law_272 : decode cL_law 272 = .ok (.iload_n 3, 1) := by decide +kernel
theorem dL_law_273 : decode cL_law 273 = .ok (.iconst 1, 1) := by decide +kernel
theorem dL_law_274 : decode cL_law 274 = .ok (.iadd, 1) := by decide +kernel
theorem dL_law_275 : decode cL_law 275 = .ok (.iaload, 1) := by decide +kernel
theorem dL_law_276 : decode cL_law 276 = .ok (.aload_n 0, 1) := by decide +kernel
theorem dL_law_277 : decode cL_law 277 = .ok (.iload_n 3, 1) := by decide +kernel
theorem dL_law_278 : decode cL_law 278 = .ok (.iconst 2, 1) := by decide +kernel
theorem dL_law_279 : decode cL_law 279 = .ok (.iadd, 1) := by decide +kernel
theorem dL_law_280 : decode cL_law 280 = .ok (.iaload, 1) := by decide +kernel
theorem dL_law_281 : decode cL_law 281 = .ok (.invokevirtual 32, 3) := by decide +kernel
theorem dL_law_284 : decode cL_law 284 = .ok (.pop, 1) := by decide +kernel
theorem dL_law_285 : decode cL_law 285 = .ok (.goto 797, 3) := by decide +kernel
theorem dL_law_288 : decode cL_law 288 = .ok (.aload_n 1, 1) := by decide +kernel
theorem dL_law_289 : decode cL_law 289 = .ok (.aload_n 0, 1) := by decide +kernel
theorem dL_law_290 : decode cL_law 290 = .ok (.iload_n 3, 1) := by decide +kernel
theorem dL_law_291 : decode cL_law 291 = .ok (.iconst 1, 1) := by decide +kernel
theorem dL_law_292 : decode cL_law 292 = .ok (.iadd, 1) := by decide +kernel
theorem dL_law_293 : decode cL_law 293 = .ok (.iaload, 1) := by decide +kernel
theorem dL_law_294 : decode cL_law 294 = .ok (.invokevirtual 33, 3) := by decide +kernel
theorem dL_law_297 : decode cL_law 297 = .ok (.pop, 1) := by decide +kernel
theorem dL_law_298 : decode cL_law 298 = .ok (.aload_n 2, 1) := by decide +kernel
theorem dL_law_299 : decode cL_law 299 = .ok (.aload_n 0, 1) := by decide +kernel
theorem dL_law_300 : decode cL_law 300 = .ok (.iload_n 3, 1) := by decide +kernel
theorem dL_law_301 : decode cL_law 301 = .ok (.iconst 1, 1) := by decide +kernel
theorem dL_law_302 : decode cL_law 302 = .ok (.iadd, 1) := by decide +kernel
theorem dL_law_303 : decode cL_law 303 = .ok (.iaload, 1) := by decide +kernel
theorem dL_law_304 : decode cL_law 304 = .ok (.invokevirtual 36, 3) := by decide +kernel
theorem dL_law_307 : decode cL_law 307 = .ok (.pop, 1) := by decide +kernel
theorem dL_law_308 : decode cL_law 308 = .ok (.goto 774, 3) := by decide +kernel
theorem dL_law_311 : decode cL_law 311 = .ok (.aload_n 1, 1) := by decide +kernel
theorem dL_law_312 : decode cL_law 312 = .ok (.aload_n 0, 1) := by decide +kernel
theorem dL_law_313 : decode cL_law 313 = .ok (.iload_n 3, 1) := by decide +kernel
theorem dL_law_314 : decode cL_law 314 = .ok (.iconst 1, 1) := by decide +kernel
theorem dL_law_315 : decode cL_law 315 = .ok (.iadd, 1) := by decide +kernel
theorem dL_law_316 : decode cL_law 316 = .ok (.iaload, 1) := by decide +kernel
theorem dL_law_317 : decode cL_law 317 = .ok (.invokevirtual 37, 3) := by decide +kernel
theorem dL_law_320 : decode cL_law 320 = .ok (.pop, 1) := by decide +kernel
theorem dL_law_321 : decode cL_law 321 = .ok (.aload_n 2, 1) := by decide +kernel
theorem dL_law_322 : decode cL_law 322 = .ok (.aload_n 0, 1) := by decide +kernel
theorem dL_law_323 : decode cL_law 323 = .ok (.iload_n 3, 1) := by decide +kernel
theorem dL_law_324 : decode cL_law 324 = .ok (.iconst 1, 1) := by decide +kernel
theorem dL_law_325 : decode cL_law 325 = .ok (.iadd, 1) := by decide +kernel
theorem dL_law_326 : decode cL_law 326 = .ok (.iaload, 1) := by decide +kernel
theorem dL_law_327 : decode cL_law 327 = .ok (.invokevirtual 40, 3) := by decide +kernel
theorem dL_law_330 : decode cL_law 330 = .ok (.pop, 1) := by decide +kernel
theorem dL_law_331 : decode cL_law 331 = .ok (.goto 751, 3) := by decide +kernel
theorem dL_law_334 : decode cL_law 334 = .ok (.aload_n 1, 1) := by decide +kernel
theorem dL_law_335 : decode cL_law 335 = .ok (.aload_n 0, 1) := by decide +kernel
theorem dL_law_336 : decode cL_law 336 = .ok (.iload_n 3, 1) := by decide +kernel
theorem dL_law_337 : decode cL_law 337 = .ok (.iconst 1, 1) := by decide +kernel
theorem dL_law_338 : decode cL_law 338 = .ok (.iadd, 1) := by decide +kernel
theorem dL_law_339 : decode cL_law 339 = .ok (.iaload, 1) := by decide +kernel
theorem dL_law_340 : decode cL_law 340 = .ok (.invokevirtual 41, 3) := by decide +kernel
theorem dL_law_343 : decode cL_law 343 = .ok (.pop, 1) := by decide +kernel
theorem dL_law_344 : decode cL_law 344 = .ok (.aload_n 2, 1) := by decide +kernel
theorem dL_law_345 : decode cL_law 345 = .ok (.aload_n 0, 1) := by decide +kernel
theorem dL_law_346 : decode cL_law 346 = .ok (.iload_n 3, 1) := by decide +kernel
theorem dL_law_347 : decode cL_law 347 = .ok (.iconst 1, 1) := by decide +kernel
theorem dL_law_348 : decode cL_law 348 = .ok (.iadd, 1) := by decide +kernel
theorem dL_law_349 : decode cL_law 349 = .ok (.iaload, 1) := by decide +kernel
theorem dL_law_350 : decode cL_law 350 = .ok (.invokevirtual 44, 3) := by decide +kernel
theorem dL_law_353 : decode cL_law 353 = .ok (.pop, 1) := by decide +kernel
theorem dL_law_354 : decode cL_law 354 = .ok (.goto 728, 3) := by decide +kernel
theorem dL_law_357 : decode cL_law 357 = .ok (.aload_n 1, 1) := by decide +kernel
theorem dL_law_358 : decode cL_law 358 = .ok (.aload_n 0, 1) := by decide +kernel
theorem dL_law_359 : decode cL_law 359 = .ok (.iload_n 3, 1) := by decide +kernel
theorem dL_law_360 : decode cL_law 360 = .ok (.iconst 1, 1) := by decide +kernel
theorem dL_law_361 : decode cL_law 361 = .ok (.iadd, 1) := by decide +kernel
theorem dL_law_362 : decode cL_law 362 = .ok (.iaload, 1) := by decide +kernel
theorem dL_law_363 : decode cL_law 363 = .ok (.aload_n 0, 1) := by decide +kernel
theorem dL_law_364 : decode cL_law 364 = .ok (.iload_n 3, 1) := by decide +kernel
theorem dL_law_365 : decode cL_law 365 = .ok (.iconst 2, 1) := by decide +kernel
theorem dL_law_366 : decode cL_law 366 = .ok (.iadd, 1) := by decide +kernel
theorem dL_law_367 : decode cL_law 367 = .ok (.iaload, 1) := by decide +kernel
theorem dL_law_368 : decode cL_law 368 = .ok (.invokevirtual 45, 3) := by decide +kernel
theorem dL_law_371 : decode cL_law 371 = .ok (.pop, 1) := by decide +kernel
theorem dL_law_372 : decode cL_law 372 = .ok (.aload_n 2, 1) := by decide +kernel
theorem dL_law_373 : decode cL_law 373 = .ok (.aload_n 0, 1) := by decide +kernel
theorem dL_law_374 : decode cL_law 374 = .ok (.iload_n 3, 1) := by decide +kernel
theorem dL_law_375 : decode cL_law 375 = .ok (.iconst 1, 1) := by decide +kernel
theorem dL_law_376 : decode cL_law 376 = .ok (.iadd, 1) := by decide +kernel
theorem dL_law_377 : decode cL_law 377 = .ok (.iaload, 1) := by decide +kernel
theorem dL_law_378 : decode cL_law 378 = .ok (.aload_n 0, 1) := by decide +kernel
theorem dL_law_379 : decode cL_law 379 = .ok (.iload_n 3, 1) := by decide +kernel
theorem dL_law_380 : decode cL_law 380 = .ok (.iconst 2, 1) := by decide +kernel
theorem dL_law_381 : decode cL_law 381 = .ok (.iadd, 1) := by decide +kernel
theorem dL_law_382 : decode cL_law 382 = .ok (.iaload, 1) := by decide +kernel
theorem dL_law_383 : decode cL_law 383 = .ok (.invokevirtual 48, 3) := by decide +kernel
theorem dL_law_386 : decode cL_law 386 = .ok (.pop, 1) := by decide +kernel
theorem dL_law_387 : decode cL_law 387 = .ok (.goto 695, 3) := by decide +kernel
theorem dL_law_390 : decode cL_law 390 = .ok (.aload_n 1, 1) := by decide +kernel
theorem dL_law_391 : decode cL_law 391 = .ok (.aload_n 0, 1) := by decide +kernel
theorem dL_law_392 : decode cL_law 392 = .ok (.iload_n 3, 1) := by decide +kernel
theorem dL_law_393 : decode cL_law 393 = .ok (.iconst 1, 1) := by decide +kernel
theorem dL_law_394 : decode cL_law 394 = .ok (.iadd, 1) := by decide +kernel
theorem dL_law_395 : decode cL_law 395 = .ok (.iaload, 1) := by decide +kernel
theorem dL_law_396 : decode cL_law 396 = .ok (.invokevirtual 49, 3) := by decide +kernel
theorem dL_law_399 : decode cL_law 399 = .ok (.pop, 1) := by decide +kernel
theorem dL_law_400 : decode cL_law 400 = .ok (.aload_n 2, 1) := by decide +kernel
theorem dL_law_401 : decode cL_law 401 = .ok (.aload_n 0, 1) := by decide +kernel
theorem dL_law_402 : decode cL_law 402 = .ok (.iload_n 3, 1) := by decide +kernel
theorem dL_law_403 : decode cL_law 403 = .ok (.iconst 1, 1) := by decide +kernel
theorem dL_law_404 : decode cL_law 404 = .ok (.iadd, 1) := by decide +kernel
theorem dL_law_405 : decode cL_law 405 = .ok (.iaload, 1) := by decide +kernel
theorem dL_law_406 : decode cL_law 406 = .ok (.invokevirtual 52, 3) := by decide +kernel
theorem dL_law_409 : decode cL_law 409 = .ok (.pop, 1) := by decide +kernel
theorem dL_law_410 : decode cL_law 410 = .ok (.goto 672, 3) := by decide +kernel
theorem dL_law_413 : decode cL_law 413 = .ok (.aload_n 1, 1) := by decide +kernel
theorem dL_law_414 : decode cL_law 414 = .ok (.aload_n 0, 1) := by decide +kernel
theorem dL_law_415 : decode cL_law 415 = .ok (.iload_n 3, 1) := by decide +kernel
theorem dL_law_416 : decode cL_law 416 = .ok (.iconst 1, 1) := by decide +kernel
theorem dL_law_417 : decode cL_law 417 = .ok (.iadd, 1) := by decide +kernel
theorem dL_law_418 : decode cL_law 418 = .ok (.iaload, 1) := by decide +kernel
theorem dL_law_419 : decode cL_law 419 = .ok (.invokevirtual 53, 3) := by decide +kernel
theorem dL_law_422 : decode cL_law 422 = .ok (.pop, 1) := by decide +kernel
theorem dL_law_423 : decode cL_law 423 = .ok (.aload_n 2, 1) := by decide +kernel
theorem dL_law_424 : decode cL_law 424 = .ok (.aload_n 0, 1) := by decide +kernel
theorem dL_law_425 : decode cL_law 425 = .ok (.iload_n 3, 1) := by decide +kernel
theorem dL_law_426 : decode cL_law 426 = .ok (.iconst 1, 1) := by decide +kernel
theorem dL_law_427 : decode cL_law 427 = .ok (.iadd, 1) := by decide +kernel
theorem dL_law_428 : decode cL_law 428 = .ok (.iaload, 1) := by decide +kernel
theorem dL_law_429 : decode cL_law 429 = .ok (.invokevirtual 56, 3) := by decide +kernel
theorem dL_law_432 : decode cL_law 432 = .ok (.pop, 1) := by decide +kernel
theorem dL_law_433 : decode cL_law 433 = .ok (.goto 649, 3) := by decide +kernel
theorem dL_law_436 : decode cL_law 436 = .ok (.aload_n 1, 1) := by decide +kernel
theorem dL_law_437 : decode cL_law 437 = .ok (.aload_n 0, 1) := by decide +kernel
theorem dL_law_438 : decode cL_law 438 = .ok (.iload_n 3, 1) := by decide +kernel
theorem dL_law_439 : decode cL_law 439 = .ok (.iconst 1, 1) := by decide +kernel
theorem dL_law_440 : decode cL_law 440 = .ok (.iadd, 1) := by decide +kernel
theorem dL_law_441 : decode cL_law 441 = .ok (.iaload, 1) := by decide +kernel
theorem dL_law_442 : decode cL_law 442 = .ok (.aload_n 0, 1) := by decide +kernel
theorem dL_law_443 : decode cL_law 443 = .ok (.iload_n 3, 1) := by decide +kernel
theorem dL_law_444 : decode cL_law 444 = .ok (.iconst 2, 1) := by decide +kernel
theorem dL_law_445 : decode cL_law 445 = .ok (.iadd, 1) := by decide +kernel
theorem dL_law_446 : decode cL_law 446 = .ok (.iaload, 1) := by decide +kernel
theorem dL_law_447 : decode cL_law 447 = .ok (.aload_n 0, 1) := by decide +kernel
theorem dL_law_448 : decode cL_law 448 = .ok (.iload_n 3, 1) := by decide +kernel
theorem dL_law_449 : decode cL_law 449 = .ok (.iconst 3, 1) := by decide +kernel
theorem dL_law_450 : decode cL_law 450 = .ok (.iadd, 1) := by decide +kernel
theorem dL_law_451 : decode cL_law 451 = .ok (.iaload, 1) := by decide +kernel
theorem dL_law_452 : decode cL_law 452 = .ok (.invokevirtual 57, 3) := by decide +kernel
theorem dL_law_455 : decode cL_law 455 = .ok (.pop, 1) := by decide +kernel
theorem dL_law_456 : decode cL_law 456 = .ok (.aload_n 2, 1) := by decide +kernel
theorem dL_law_457 : decode cL_law 457 = .ok (.aload_n 0, 1) := by decide +kernel
theorem dL_law_458 : decode cL_law 458 = .ok (.iload_n 3, 1) := by decide +kernel
theorem dL_law_459 : decode cL_law 459 = .ok (.iconst 1, 1) := by decide +kernel
theorem dL_law_460 : decode cL_law 460 = .ok (.iadd, 1) := by decide +kernel
theorem dL_law_461 : decode cL_law 461 = .ok (.iaload, 1) := by decide +kernel
theorem dL_law_462 : decode cL_law 462 = .ok (.aload_n 0, 1) := by decide +kernel
theorem dL_law_463 : decode cL_law 463 = .ok (.iload_n 3, 1) := by decide +kernel
theorem dL_law_464 : decode cL_law 464 = .ok (.iconst 2, 1) := by decide +kernel
theorem dL_law_465 : decode cL_law 465 = .ok (.iadd, 1) := by decide +kernel
theorem dL_law_466 : decode cL_law 466 = .ok (.iaload, 1) := by decide +kernel
theorem dL_law_467 : decode cL_law 467 = .ok (.aload_n 0, 1) := by decide +kernel
theorem dL_law_468 : decode cL_law 468 = .ok (.iload_n 3, 1) := by decide +kernel
theorem dL_law_469 : decode cL_law 469 = .ok (.iconst 3, 1) := by decide +kernel
theorem dL_law_470 : decode cL_law 470 = .ok (.iadd, 1) := by decide +kernel
theorem dL_law_471 : decode cL_law 471 = .ok (.iaload, 1) := by decide +kernel
theorem dL_law_472 : decode cL_law 472 = .ok (.invokevirtual 60, 3) := by decide +kernel
theorem dL_law_475 : decode cL_law 475 = .ok (.pop, 1) := by decide +kernel
theorem dL_law_476 : decode cL_law 476 = .ok (.goto 606, 3) := by decide +kernel
theorem dL_law_479 : decode cL_law 479 = .ok (.aload_n 1, 1) := by decide +kernel
theorem dL_law_480 : decode cL_law 480 = .ok (.aload_n 0, 1) := by decide +kernel
theorem dL_law_481 : decode cL_law 481 = .ok (.iload_n 3, 1) := by decide +kernel
theorem dL_law_482 : decode cL_law 482 = .ok (.iconst 1, 1) := by decide +kernel
theorem dL_law_483 : decode cL_law 483 = .ok (.iadd, 1) := by decide +kernel
theorem dL_law_484 : decode cL_law 484 = .ok (.iaload, 1) := by decide +kernel
theorem dL_law_485 : decode cL_law 485 = .ok (.aload_n 0, 1) := by decide +kernel
theorem dL_law_486 : decode cL_law 486 = .ok (.iload_n 3, 1) := by decide +kernel
theorem dL_law_487 : decode cL_law 487 = .ok (.iconst 2, 1) := by decide +kernel
theorem dL_law_488 : decode cL_law 488 = .ok (.iadd, 1) := by decide +kernel
theorem dL_law_489 : decode cL_law 489 = .ok (.iaload, 1) := by decide +kernel
theorem dL_law_490 : decode cL_law 490 = .ok (.invokevirtual 61, 3) := by decide +kernel
theorem dL_law_493 : decode cL_law 493 = .ok (.pop, 1) := by decide +kernel
theorem dL_law_494 : decode cL_law 494 = .ok (.aload_n 2, 1) := by decide +kernel
theorem dL_law_495 : decode cL_law 495 = .ok (.aload_n 0, 1) := by decide +kernel
theorem dL_law_496 : decode cL_law 496 = .ok (.iload_n 3, 1) := by decide +kernel
theorem dL_law_497 : decode cL_law 497 = .ok (.iconst 1, 1) := by decide +kernel
theorem dL_law_498 : decode cL_law 498 = .ok (.iadd, 1) := by decide +kernel
theorem dL_law_499 : decode cL_law 499 = .ok (.iaload, 1) := by decide +kernel
theorem dL_law_500 : decode cL_law 500 = .ok (.aload_n 0, 1) := by decide +kernel
theorem dL_law_501 : decode cL_law 501 = .ok (.iload_n 3, 1) := by decide +kernel
theorem dL_law_502 : decode cL_law 502 = .ok (.iconst 2, 1) := by decide +kernel
theorem dL_law_503 : decode cL_law 503 = .ok (.iadd, 1) := by decide +kernel
theorem dL_law_504 : decode cL_law 504 = .ok (.iaload, 1) := by decide +kernel
theorem dL_law_505 : decode cL_law 505 = .ok (.invokevirtual 64, 3) := by decide +kernel
theorem dL_law_508 : decode cL_law 508 = .ok (.pop, 1) := by decide +kernel
theorem dL_law_509 : decode cL_law 509 = .ok (.goto 573, 3) := by decide +kernel
theorem dL_law_512 : decode cL_law 512 = .ok (.aload_n 1, 1) := by decide +kernel
theorem dL_law_513 : decode cL_law 513 = .ok (.aload_n 0, 1) := by decide +kernel
theorem dL_law_514 : decode cL_law 514 = .ok (.iload_n 3, 1) := by decide +kernel
theorem dL_law_515 : decode cL_law 515 = .ok (.iconst 1, 1) := by decide +kernel
theorem dL_law_516 : decode cL_law 516 = .ok (.iadd, 1) := by decide +kernel
theorem dL_law_517 : decode cL_law 517 = .ok (.iaload, 1) := by decide +kernel
theorem dL_law_518 : decode cL_law 518 = .ok (.invokevirtual 65, 3) := by decide +kernel
theorem dL_law_521 : decode cL_law 521 = .ok (.pop, 1) := by decide +kernel
theorem dL_law_522 : decode cL_law 522 = .ok (.aload_n 2, 1) := by decide +kernel
theorem dL_law_523 : decode cL_law 523 = .ok (.aload_n 0, 1) := by decide +kernel
theorem dL_law_524 : decode cL_law 524 = .ok (.iload_n 3, 1) := by decide +kernel
theorem dL_law_525 : decode cL_law 525 = .ok (.iconst 1, 1) := by decide +kernel
theorem dL_law_526 : decode cL_law 526 = .ok (.iadd, 1) := by decide +kernel
theorem dL_law_527 : decode cL_law 527 = .ok (.iaload, 1) := by decide +kernel
theorem dL_law_528 : decode cL_law 528 = .ok (.invokevirtual 68, 3) := by decide +kernel
theorem dL_law_531 : decode cL_law 531 = .ok (.pop, 1) := by decide +kernel
theorem dL_law_532 : decode cL_law 532 = .ok (.goto 550, 3) := by decide +kernel
theorem dL_law_535 : decode cL_law 535 = .ok (.aload_n 1, 1) := by decide +kernel
theorem dL_law_536 : decode cL_law 536 = .ok (.aload_n 0, 1) := by decide +kernel
theorem dL_law_537 : decode cL_law 537 = .ok (.iload_n 3, 1) := by decide +kernel
theorem dL_law_538 : decode cL_law 538 = .ok (.iconst 1, 1) := by decide +kernel
theorem dL_law_539 : decode cL_law 539 = .ok (.iadd, 1) := by decide +kernel
theorem dL_law_540 : decode cL_law 540 = .ok (.iaload, 1) := by decide +kernel
theorem dL_law_541 : decode cL_law 541 = .ok (.invokevirtual 69, 3) := by decide +kernel
theorem dL_law_544 : decode cL_law 544 = .ok (.pop, 1) := by decide +kernel
theorem dL_law_545 : decode cL_law 545 = .ok (.aload_n 2, 1) := by decide +kernel
theorem dL_law_546 : decode cL_law 546 = .ok (.aload_n 0, 1) := by decide +kernel
theorem dL_law_547 : decode cL_law 547 = .ok (.iload_n 3, 1) := by decide +kernel
theorem dL_law_548 : decode cL_law 548 = .ok (.iconst 1, 1) := by decide +kernel
theorem dL_law_549 : decode cL_law 549 = .ok (.iadd, 1) := by decide +kernel
theorem dL_law_550 : decode cL_law 550 = .ok (.iaload, 1) := by decide +kernel
theorem dL_law_551 : decode cL_law 551 = .ok (.invokevirtual 72, 3) := by decide +kernel
theorem dL_law_554 : decode cL_law 554 = .ok (.pop, 1) := by decide +kernel
theorem dL_law_555 : decode cL_law 555 = .ok (.goto 527, 3) := by decide +kernel
theorem dL_law_558 : decode cL_law 558 = .ok (.aload_n 1, 1) := by decide +kernel
theorem dL_law_559 : decode cL_law 559 = .ok (.aload_n 0, 1) := by decide +kernel
theorem dL_law_560 : decode cL_law 560 = .ok (.iload_n 3, 1) := by decide +kernel
theorem dL_law_561 : decode cL_law 561 = .ok (.iconst 1, 1) := by decide +kernel
theorem dL_law_562 : decode cL_law 562 = .ok (.iadd, 1) := by decide +kernel
theorem dL_law_563 : decode cL_law 563 = .ok (.iaload, 1) := by decide +kernel
theorem dL_law_564 : decode cL_law 564 = .ok (.invokevirtual 73, 3) := by decide +kernel
theorem dL_law_567 : decode cL_law 567 = .ok (.pop, 1) := by decide +kernel
theorem dL_law_568 : decode cL_law 568 = .ok (.aload_n 2, 1) := by decide +kernel
theorem dL_law_569 : decode cL_law 569 = .ok (.aload_n 0, 1) := by decide +kernel
theorem dL_law_570 : decode cL_law 570 = .ok (.iload_n 3, 1) := by decide +kernel
theorem dL_law_571 : decode cL_law 571 = .ok (.iconst 1, 1) := by decide +kernel
theorem dL_law_572 : decode cL_law 572 = .ok (.iadd, 1) := by decide +kernel
theorem dL_law_573 : decode cL_law 573 = .ok (.iaload, 1) := by decide +kernel
theorem dL_law_574 : decode cL_law 574 = .ok (.invokevirtual 76, 3) := by decide +kernel
theorem dL_law_577 : decode cL_law 577 = .ok (.pop, 1) := by decide +kernel
theorem dL_law_578 : decode cL_law 578 = .ok (.goto 504, 3) := by decide +kernel
theorem dL_law_581 : decode cL_law 581 = .ok (.aload_n 1, 1) := by decide +kernel
theorem dL_law_582 : decode cL_law 582 = .ok (.aload_n 0, 1) := by decide +kernel
theorem dL_law_583 : decode cL_law 583 = .ok (.iload_n 3, 1) := by decide +kernel
theorem dL_law_584 : decode cL_law 584 = .ok (.iconst 1, 1) := by decide +kernel
theorem dL_law_585 : decode cL_law 585 = .ok (.iadd, 1) := by decide +kernel
theorem dL_law_586 : decode cL_law 586 = .ok (.iaload, 1) := by decide +kernel
theorem dL_law_587 : decode cL_law 587 = .ok (.aload_n 0, 1) := by decide +kernel
theorem dL_law_588 : decode cL_law 588 = .ok (.iload_n 3, 1) := by decide +kernel
theorem dL_law_589 : decode cL_law 589 = .ok (.iconst 2, 1) := by decide +kernel
theorem dL_law_590 : decode cL_law 590 = .ok (.iadd, 1) := by decide +kernel
theorem dL_law_591 : decode cL_law 591 = .ok (.iaload, 1) := by decide +kernel
theorem dL_law_592 : decode cL_law 592 = .ok (.invokevirtual 77, 3) := by decide +kernel
theorem dL_law_595 : decode cL_law 595 = .ok (.pop, 1) := by decide +kernel
theorem dL_law_596 : decode cL_law 596 = .ok (.aload_n 2, 1) := by decide +kernel
theorem dL_law_597 : decode cL_law 597 = .ok (.aload_n 0, 1) := by decide +kernel
theorem dL_law_598 : decode cL_law 598 = .ok (.iload_n 3, 1) := by decide +kernel
theorem dL_law_599 : decode cL_law 599 = .ok (.iconst 1, 1) := by decide +kernel
theorem dL_law_600 : decode cL_law 600 = .ok (.iadd, 1) := by decide +kernel
theorem dL_law_601 : decode cL_law 601 = .ok (.iaload, 1) := by decide +kernel
theorem dL_law_602 : decode cL_law 602 = .ok (.aload_n 0, 1) := by decide +kernel
theorem dL_law_603 : decode cL_law 603 = .ok (.iload_n 3, 1) := by decide +kernel
theorem dL_law_604 : decode cL_law 604 = .ok (.iconst 2, 1) := by decide +kernel
theorem dL_law_605 : decode cL_law 605 = .ok (.iadd, 1) := by decide +kernel
theorem dL_law_606 : decode cL_law 606 = .ok (.iaload, 1) := by decide +kernel
theorem dL_law_607 : decode cL_law 607 = .ok (.invokevirtual 80, 3) := by decide +kernel
theorem dL_law_610 : decode cL_law 610 = .ok (.pop, 1) := by decide +kernel
theorem dL_law_611 : decode cL_law 611 = .ok (.goto 471, 3) := by decide +kernel
theorem dL_law_614 : decode cL_law 614 = .ok (.aload_n 1, 1) := by decide +kernel
theorem dL_law_615 : decode cL_law 615 = .ok (.aload_n 0, 1) := by decide +kernel
theorem dL_law_616 : decode cL_law 616 = .ok (.iload_n 3, 1) := by decide +kernel
theorem dL_law_617 : decode cL_law 617 = .ok (.iconst 1, 1) := by decide +kernel
theorem dL_law_618 : decode cL_law 618 = .ok (.iadd, 1) := by decide +kernel
theorem dL_law_619 : decode cL_law 619 = .ok (.iaload, 1) := by decide +kernel
theorem dL_law_620 : decode cL_law 620 = .ok (.aload_n 0, 1) := by decide +kernel
theorem dL_law_621 : decode cL_law 621 = .ok (.iload_n 3, 1) := by decide +kernel
theorem dL_law_622 : decode cL_law 622 = .ok (.iconst 2, 1) := by decide +kernel
theorem dL_law_623 : decode cL_law 623 = .ok (.iadd, 1) := by decide +kernel
theorem dL_law_624 : decode cL_law 624 = .ok (.iaload, 1) := by decide +kernel
theorem dL_law_625 : decode cL_law 625 = .ok (.aload_n 0, 1) := by decide +kernel
theorem dL_law_626 : decode cL_law 626 = .ok (.iload_n 3, 1) := by decide +kernel
theorem dL_law_627 : decode cL_law 627 = .ok (.iconst 3, 1) := by decide +kernel
theorem dL_law_628 : decode cL_law 628 = .ok (.iadd, 1) := by decide +kernel
theorem dL_law_629 : decode cL_law 629 = .ok (.iaload, 1) := by decide +kernel
theorem dL_law_630 : decode cL_law 630 = .ok (.aload_n 0, 1) := by decide +kernel
theorem dL_law_631 : decode cL_law 631 = .ok (.iload_n 3, 1) := by decide +kernel
theorem dL_law_632 : decode cL_law 632 = .ok (.iconst 4, 1) := by decide +kernel
theorem dL_law_633 : decode cL_law 633 = .ok (.iadd, 1) := by decide +kernel
theorem dL_law_634 : decode cL_law 634 = .ok (.iaload, 1) := by decide +kernel
theorem dL_law_635 : decode cL_law 635 = .ok (.invokevirtual 81, 3) := by decide +kernel
theorem dL_law_638 : decode cL_law 638 = .ok (.pop, 1) := by decide +kernel
theorem dL_law_639 : decode cL_law 639 = .ok (.aload_n 2, 1) := by decide +kernel
theorem dL_law_640 : decode cL_law 640 = .ok (.aload_n 0, 1) := by decide +kernel
theorem dL_law_641 : decode cL_law 641 = .ok (.iload_n 3, 1) := by decide +kernel
theorem dL_law_642 : decode cL_law 642 = .ok (.iconst 1, 1) := by decide +kernel
theorem dL_law_643 : decode cL_law 643 = .ok (.iadd, 1) := by decide +kernel
theorem dL_law_644 : decode cL_law 644 = .ok (.iaload, 1) := by decide +kernel
theorem dL_law_645 : decode cL_law 645 = .ok (.aload_n 0, 1) := by decide +kernel
theorem dL_law_646 : decode cL_law 646 = .ok (.iload_n 3, 1) := by decide +kernel
theorem dL_law_647 : decode cL_law 647 = .ok (.iconst 2, 1) := by decide +kernel
theorem dL_law_648 : decode cL_law 648 = .ok (.iadd, 1) := by decide +kernel
theorem dL_law_649 : decode cL_law 649 = .ok (.iaload, 1) := by decide +kernel
theorem dL_law_650 : decode cL_law 650 = .ok (.aload_n 0, 1) := by decide +kernel
theorem dL_law_651 : decode cL_law 651 = .ok (.iload_n 3, 1) := by decide +kernel
theorem dL_law_652 : decode cL_law 652 = .ok (.iconst 3, 1) := by decide +kernel
theorem dL_law_653 : decode cL_law 653 = .ok (.iadd, 1) := by decide +kernel
theorem dL_law_654 : decode cL_law 654 = .ok (.iaload, 1) := by decide +kernel
theorem dL_law_655 : decode cL_law 655 = .ok (.aload_n 0, 1) := by decide +kernel
theorem dL_law_656 : decode cL_law 656 = .ok (.iload_n 3, 1) := by decide +kernel
theorem dL_law_657 : decode cL_law 657 = .ok (.iconst 4, 1) := by decide +kernel
theorem dL_law_658 : decode cL_law 658 = .ok (.iadd, 1) := by decide +kernel
theorem dL_law_659 : decode cL_law 659 = .ok (.iaload, 1) := by decide +kernel
theorem dL_law_660 : decode cL_law 660 = .ok (.invokevirtual 85, 3) := by decide +kernel
theorem dL_law_663 : decode cL_law 663 = .ok (.pop, 1) := by decide +kernel
theorem dL_law_664 : decode cL_law 664 = .ok (.goto 418, 3) := by decide +kernel
theorem dL_law_667 : decode cL_law 667 = .ok (.aload_n 1, 1) := by decide +kernel
theorem dL_law_668 : decode cL_law 668 = .ok (.invokevirtual 86, 3) := by decide +kernel
theorem dL_law_671 : decode cL_law 671 = .ok (.pop, 1) := by decide +kernel
theorem dL_law_672 : decode cL_law 672 = .ok (.aload_n 2, 1) := by decide +kernel
theorem dL_law_673 : decode cL_law 673 = .ok (.invokevirtual 89, 3) := by decide +kernel
theorem dL_law_676 : decode cL_law 676 = .ok (.pop, 1) := by decide +kernel
theorem dL_law_677 : decode cL_law 677 = .ok (.goto 405, 3) := by decide +kernel
theorem dL_law_680 : decode cL_law 680 = .ok (.aload_n 1, 1) := by decide +kernel
theorem dL_law_681 : decode cL_law 681 = .ok (.aload_n 0, 1) := by decide +kernel
theorem dL_law_682 : decode cL_law 682 = .ok (.iload_n 3, 1) := by decide +kernel
theorem dL_law_683 : decode cL_law 683 = .ok (.iconst 1, 1) := by decide +kernel
theorem dL_law_684 : decode cL_law 684 = .ok (.iadd, 1) := by decide +kernel
theorem dL_law_685 : decode cL_law 685 = .ok (.iaload, 1) := by decide +kernel
theorem dL_law_686 : decode cL_law 686 = .ok (.aload_n 0, 1) := by decide +kernel
theorem dL_law_687 : decode cL_law 687 = .ok (.iload_n 3, 1) := by decide +kernel
theorem dL_law_688 : decode cL_law 688 = .ok (.iconst 2, 1) := by decide +kernel
theorem dL_law_689 : decode cL_law 689 = .ok (.iadd, 1) := by decide +kernel
theorem dL_law_690 : decode cL_law 690 = .ok (.iaload, 1) := by decide +kernel
theorem dL_law_691 : decode cL_law 691 = .ok (.aload_n 0, 1) := by decide +kernel
theorem dL_law_692 : decode cL_law 692 = .ok (.iload_n 3, 1) := by decide +kernel
theorem dL_law_693 : decode cL_law 693 = .ok (.iconst 3, 1) := by decide +kernel
theorem dL_law_694 : decode cL_law 694 = .ok (.iadd, 1) := by decide +kernel
theorem dL_law_695 : decode cL_law 695 = .ok (.iaload, 1) := by decide +kernel
theorem dL_law_696 : decode cL_law 696 = .ok (.invokevirtual 90, 3) := by decide +kernel
theorem dL_law_699 : decode cL_law 699 = .ok (.pop, 1) := by decide +kernel
theorem dL_law_700 : decode cL_law 700 = .ok (.aload_n 2, 1) := by decide +kernel
theorem dL_law_701 : decode cL_law 701 = .ok (.aload_n 0, 1) := by decide +kernel
theorem dL_law_702 : decode cL_law 702 = .ok (.iload_n 3, 1) := by decide +kernel
theorem dL_law_703 : decode cL_law 703 = .ok (.iconst 1, 1) := by decide +kernel
theorem dL_law_704 : decode cL_law 704 = .ok (.iadd, 1) := by decide +kernel
theorem dL_law_705 : decode cL_law 705 = .ok (.iaload, 1) := by decide +kernel
theorem dL_law_706 : decode cL_law 706 = .ok (.aload_n 0, 1) := by decide +kernel
theorem dL_law_707 : decode cL_law 707 = .ok (.iload_n 3, 1) := by decide +kernel
theorem dL_law_708 : decode cL_law 708 = .ok (.iconst 2, 1) := by decide +kernel
theorem dL_law_709 : decode cL_law 709 = .ok (.iadd, 1) := by decide +kernel
theorem dL_law_710 : decode cL_law 710 = .ok (.iaload, 1) := by decide +kernel
theorem dL_law_711 : decode cL_law 711 = .ok (.aload_n 0, 1) := by decide +kernel
theorem dL_law_712 : decode cL_law 712 = .ok (.iload_n 3, 1) := by decide +kernel
theorem dL_law_713 : decode cL_law 713 = .ok (.iconst 3, 1) := by decide +kernel
theorem dL_law_714 : decode cL_law 714 = .ok (.iadd, 1) := by decide +kernel
theorem dL_law_715 : decode cL_law 715 = .ok (.iaload, 1) := by decide +kernel
theorem dL_law_716 : decode cL_law 716 = .ok (.invokevirtual 93, 3) := by decide +kernel
theorem dL_law_719 : decode cL_law 719 = .ok (.pop, 1) := by decide +kernel
theorem dL_law_720 : decode cL_law 720 = .ok (.goto 362, 3) := by decide +kernel
theorem dL_law_723 : decode cL_law 723 = .ok (.aload_n 1, 1) := by decide +kernel
theorem dL_law_724 : decode cL_law 724 = .ok (.aload_n 0, 1) := by decide +kernel
theorem dL_law_725 : decode cL_law 725 = .ok (.iload_n 3, 1) := by decide +kernel
theorem dL_law_726 : decode cL_law 726 = .ok (.iconst 1, 1) := by decide +kernel
theorem dL_law_727 : decode cL_law 727 = .ok (.iadd, 1) := by decide +kernel
theorem dL_law_728 : decode cL_law 728 = .ok (.iaload, 1) := by decide +kernel
theorem dL_law_729 : decode cL_law 729 = .ok (.aload_n 0, 1) := by decide +kernel
theorem dL_law_730 : decode cL_law 730 = .ok (.iload_n 3, 1) := by decide +kernel
theorem dL_law_731 : decode cL_law 731 = .ok (.iconst 2, 1) := by decide +kernel
theorem dL_law_732 : decode cL_law 732 = .ok (.iadd, 1) := by decide +kernel
theorem dL_law_733 : decode cL_law 733 = .ok (.iaload, 1) := by decide +kernel
theorem dL_law_734 : decode cL_law 734 = .ok (.invokevirtual 94, 3) := by decide +kernel
theorem dL_law_737 : decode cL_law 737 = .ok (.pop, 1) := by decide +kernel
theorem dL_law_738 : decode cL_law 738 = .ok (.aload_n 2, 1) := by decide +kernel
theorem dL_law_739 : decode cL_law 739 = .ok (.aload_n 0, 1) := by decide +kernel
theorem dL_law_740 : decode cL_law 740 = .ok (.iload_n 3, 1) := by decide +kernel
theorem dL_law_741 : decode cL_law 741 = .ok (.iconst 1, 1) := by decide +kernel
theorem dL_law_742 : decode cL_law 742 = .ok (.iadd, 1) := by decide +kernel
theorem dL_law_743 : decode cL_law 743 = .ok (.iaload, 1) := by decide +kernel
theorem dL_law_744 : decode cL_law 744 = .ok (.aload_n 0, 1) := by decide +kernel
theorem dL_law_745 : decode cL_law 745 = .ok (.iload_n 3, 1) := by decide +kernel
theorem dL_law_746 : decode cL_law 746 = .ok (.iconst 2, 1) := by decide +kernel
theorem dL_law_747 : decode cL_law 747 = .ok (.iadd, 1) := by decide +kernel
theorem dL_law_748 : decode cL_law 748 = .ok (.iaload, 1) := by decide +kernel
theorem dL_law_749 : decode cL_law 749 = .ok (.invokevirtual 97, 3) := by decide +kernel
theorem dL_law_752 : decode cL_law 752 = .ok (.pop, 1) := by decide +kernel
theorem dL_law_753 : decode cL_law 753 = .ok (.goto 329, 3) := by decide +kernel
theorem dL_law_756 : decode cL_law 756 = .ok (.aload_n 1, 1) := by decide +kernel
theorem dL_law_757 : decode cL_law 757 = .ok (.aload_n 0, 1) := by decide +kernel
theorem dL_law_758 : decode cL_law 758 = .ok (.iload_n 3, 1) := by decide +kernel
theorem dL_law_759 : decode cL_law 759 = .ok (.iconst 1, 1) := by decide +kernel
theorem dL_law_760 : decode cL_law 760 = .ok (.iadd, 1) := by decide +kernel
theorem dL_law_761 : decode cL_law 761 = .ok (.iaload, 1) := by decide +kernel
theorem dL_law_762 : decode cL_law 762 = .ok (.invokevirtual 98, 3) := by decide +kernel
theorem dL_law_765 : decode cL_law 765 = .ok (.pop, 1) := by decide +kernel
theorem dL_law_766 : decode cL_law 766 = .ok (.aload_n 2, 1) := by decide +kernel
theorem dL_law_767 : decode cL_law 767 = .ok (.aload_n 0, 1) := by decide +kernel
theorem dL_law_768 : decode cL_law 768 = .ok (.iload_n 3, 1) := by decide +kernel
theorem dL_law_769 : decode cL_law 769 = .ok (.iconst 1, 1) := by decide +kernel
theorem dL_law_770 : decode cL_law 770 = .ok (.iadd, 1) := by decide +kernel
theorem dL_law_771 : decode cL_law 771 = .ok (.iaload, 1) := by decide +kernel
theorem dL_law_772 : decode cL_law 772 = .ok (.invokevirtual 101, 3) := by decide +kernel
theorem dL_law_775 : decode cL_law 775 = .ok (.pop, 1) := by decide +kernel
theorem dL_law_776 : decode cL_law 776 = .ok (.goto 306, 3) := by decide +kernel
theorem dL_law_779 : decode cL_law 779 = .ok (.aload_n 1, 1) := by decide +kernel
theorem dL_law_780 : decode cL_law 780 = .ok (.aload_n 0, 1) := by decide +kernel
theorem dL_law_781 : decode cL_law 781 = .ok (.iload_n 3, 1) := by decide +kernel
theorem dL_law_782 : decode cL_law 782 = .ok (.iconst 1, 1) := by decide +kernel
theorem dL_law_783 : decode cL_law 783 = .ok (.iadd, 1) := by decide +kernel
theorem dL_law_784 : decode cL_law 784 = .ok (.iaload, 1) := by decide +kernel
theorem dL_law_785 : decode cL_law 785 = .ok (.aload_n 0, 1) := by decide +kernel
theorem dL_law_786 : decode cL_law 786 = .ok (.iload_n 3, 1) := by decide +kernel
theorem dL_law_787 : decode cL_law 787 = .ok (.iconst 2, 1) := by decide +kernel
theorem dL_law_788 : decode cL_law 788 = .ok (.iadd, 1) := by decide +kernel
theorem dL_law_789 : decode cL_law 789 = .ok (.iaload, 1) := by decide +kernel
theorem dL_law_790 : decode cL_law 790 = .ok (.invokevirtual 102, 3) := by decide +kernel
theorem dL_law_793 : decode cL_law 793 = .ok (.pop, 1) := by decide +kernel
theorem dL_law_794 : decode cL_law 794 = .ok (.aload_n 2, 1) := by decide +kernel
theorem dL_law_795 : decode cL_law 795 = .ok (.aload_n 0, 1) := by decide +kernel
theorem dL_law_796 : decode cL_law 796 = .ok (.iload_n 3, 1) := by decide +kernel
theorem dL_law_797 : decode cL_law 797 = .ok (.iconst 1, 1) := by decide +kernel
theorem dL_law_798 : decode cL_law 798 = .ok (.iadd, 1) := by decide +kernel
theorem dL_law_799 : decode cL_law 799 = .ok (.iaload, 1) := by decide +kernel
theorem dL_law_800 : decode cL_law 800 = .ok (.aload_n 0, 1) := by decide +kernel
theorem dL_law_801 : decode cL_law 801 = .ok (.iload_n 3, 1) := by decide +kernel
theorem dL_law_802 : decode cL_law 802 = .ok (.iconst 2, 1) := by decide +kernel
theorem dL_law_803 : decode cL_law 803 = .ok (.iadd, 1) := by decide +kernel
theorem dL_law_804 : decode cL_law 804 = .ok (.iaload, 1) := by decide +kernel
theorem dL_law_805 : decode cL_law 805 = .ok (.invokevirtual 105, 3) := by decide +kernel
theorem dL_law_808 : decode cL_law 808 = .ok (.pop, 1) := by decide +kernel
theorem dL_law_809 : decode cL_law 809 = .ok (.goto 273, 3) := by decide +kernel
theorem dL_law_812 : decode cL_law 812 = .ok (.aload_n 1, 1) := by decide +kernel
theorem dL_law_813 : decode cL_law 813 = .ok (.aload_n 0, 1) := by decide +kernel
theorem dL_law_814 : decode cL_law 814 = .ok (.iload_n 3, 1) := by decide +kernel
theorem dL_law_815 : decode cL_law 815 = .ok (.iconst 1, 1) := by decide +kernel
theorem dL_law_816 : decode cL_law 816 = .ok (.iadd, 1) := by decide +kernel
theorem dL_law_817 : decode cL_law 817 = .ok (.iaload, 1) := by decide +kernel
theorem dL_law_818 : decode cL_law 818 = .ok (.invokevirtual 106, 3) := by decide +kernel
theorem dL_law_821 : decode cL_law 821 = .ok (.pop, 1) := by decide +kernel
theorem dL_law_822 : decode cL_law 822 = .ok (.aload_n 2, 1) := by decide +kernel
theorem dL_law_823 : decode cL_law 823 = .ok (.aload_n 0, 1) := by decide +kernel
theorem dL_law_824 : decode cL_law 824 = .ok (.iload_n 3, 1) := by decide +kernel
theorem dL_law_825 : decode cL_law 825 = .ok (.iconst 1, 1) := by decide +kernel
theorem dL_law_826 : decode cL_law 826 = .ok (.iadd, 1) := by decide +kernel
theorem dL_law_827 : decode cL_law 827 = .ok (.iaload, 1) := by decide +kernel
theorem dL_law_828 : decode cL_law 828 = .ok (.invokevirtual 109, 3) := by decide +kernel
theorem dL_law_831 : decode cL_law 831 = .ok (.pop, 1) := by decide +kernel
theorem dL_law_832 : decode cL_law 832 = .ok (.goto 250, 3) := by decide +kernel
theorem dL_law_835 : decode cL_law 835 = .ok (.aload_n 1, 1) := by decide +kernel
theorem dL_law_836 : decode cL_law 836 = .ok (.invokevirtual 110, 3) := by decide +kernel
theorem dL_law_839 : decode cL_law 839 = .ok (.pop, 1) := by decide +kernel
theorem dL_law_840 : decode cL_law 840 = .ok (.aload_n 2, 1) := by decide +kernel
theorem dL_law_841 : decode cL_law 841 = .ok (.invokevirtual 113, 3) := by decide +kernel
theorem dL_law_844 : decode cL_law 844 = .ok (.pop, 1) := by decide +kernel
theorem dL_law_845 : decode cL_law 845 = .ok (.goto 237, 3) := by decide +kernel
theorem dL_law_848 : decode cL_law 848 = .ok (.aload_n 1, 1) := by decide +kernel
theorem dL_law_849 : decode cL_law 849 = .ok (.aload_n 0, 1) := by decide +kernel
theorem dL_law_850 : decode cL_law 850 = .ok (.iload_n 3, 1) := by decide +kernel
theorem dL_law_851 : decode cL_law 851 = .ok (.iconst 1, 1) := by decide +kernel
theorem dL_law_852 : decode cL_law 852 = .ok (.iadd, 1) := by decide +kernel
theorem dL_law_853 : decode cL_law 853 = .ok (.iaload, 1) := by decide +kernel
theorem dL_law_854 : decode cL_law 854 = .ok (.aload_n 0, 1) := by decide +kernel
theorem dL_law_855 : decode cL_law 855 = .ok (.iload_n 3, 1) := by decide +kernel
theorem dL_law_856 : decode cL_law 856 = .ok (.iconst 2, 1) := by decide +kernel
theorem dL_law_857 : decode cL_law 857 = .ok (.iadd, 1) := by decide +kernel
theorem dL_law_858 : decode cL_law 858 = .ok (.iaload, 1) := by decide +kernel
theorem dL_law_859 : decode cL_law 859 = .ok (.aload_n 0, 1) := by decide +kernel
theorem dL_law_860 : decode cL_law 860 = .ok (.iload_n 3, 1) := by decide +kernel
theorem dL_law_861 : decode cL_law 861 = .ok (.iconst 3, 1) := by decide +kernel
theorem dL_law_862 : decode cL_law 862 = .ok (.iadd, 1) := by decide +kernel
theorem dL_law_863 : decode cL_law 863 = .ok (.iaload, 1) := by decide +kernel
theorem dL_law_864 : decode cL_law 864 = .ok (.invokevirtual 114, 3) := by decide +kernel
theorem dL_law_867 : decode cL_law 867 = .ok (.pop, 1) := by decide +kernel
theorem dL_law_868 : decode cL_law 868 = .ok (.aload_n 2, 1) := by decide +kernel
theorem dL_law_869 : decode cL_law 869 = .ok (.aload_n 0, 1) := by decide +kernel
theorem dL_law_870 : decode cL_law 870 = .ok (.iload_n 3, 1) := by decide +kernel
theorem dL_law_871 : decode cL_law 871 = .ok (.iconst 1, 1) := by decide +kernel
theorem dL_law_872 : decode cL_law 872 = .ok (.iadd, 1) := by decide +kernel
theorem dL_law_873 : decode cL_law 873 = .ok (.iaload, 1) := by decide +kernel
theorem dL_law_874 : decode cL_law 874 = .ok (.aload_n 0, 1) := by decide +kernel
theorem dL_law_875 : decode cL_law 875 = .ok (.iload_n 3, 1) := by decide +kernel
theorem dL_law_876 : decode cL_law 876 = .ok (.iconst 2, 1) := by decide +kernel
theorem dL_law_877 : decode cL_law 877 = .ok (.iadd, 1) := by decide +kernel
theorem dL_law_878 : decode cL_law 878 = .ok (.iaload, 1) := by decide +kernel
theorem dL_law_879 : decode cL_law 879 = .ok (.aload_n 0, 1) := by decide +kernel
theorem dL_law_880 : decode cL_law 880 = .ok (.iload_n 3, 1) := by decide +kernel
theorem dL_law_881 : decode cL_law 881 = .ok (.iconst 3, 1) := by decide +kernel
theorem dL_law_882 : decode cL_law 882 = .ok (.iadd, 1) := by decide +kernel
theorem dL_law_883 : decode cL_law 883 = .ok (.iaload, 1) := by decide +kernel
theorem dL_law_884 : decode cL_law 884 = .ok (.invokevirtual 117, 3) := by decide +kernel
theorem dL_law_887 : decode cL_law 887 = .ok (.pop, 1) := by decide +kernel
theorem dL_law_888 : decode cL_law 888 = .ok (.goto 194, 3) := by decide +kernel
theorem dL_law_891 : decode cL_law 891 = .ok (.aload_n 1, 1) := by decide +kernel
theorem dL_law_892 : decode cL_law 892 = .ok (.aload_n 0, 1) := by decide +kernel
theorem dL_law_893 : decode cL_law 893 = .ok (.iload_n 3, 1) := by decide +kernel
theorem dL_law_894 : decode cL_law 894 = .ok (.iconst 1, 1) := by decide +kernel
theorem dL_law_895 : decode cL_law 895 = .ok (.iadd, 1) := by decide +kernel
theorem dL_law_896 : decode cL_law 896 = .ok (.iaload, 1) := by decide +kernel
theorem dL_law_897 : decode cL_law 897 = .ok (.aload_n 0, 1) := by decide +kernel
theorem dL_law_898 : decode cL_law 898 = .ok (.iload_n 3, 1) := by decide +kernel
theorem dL_law_899 : decode cL_law 899 = .ok (.iconst 2, 1) := by decide +kernel
theorem dL_law_900 : decode cL_law 900 = .ok (.iadd, 1) := by decide +kernel
theorem dL_law_901 : decode cL_law 901 = .ok (.iaload, 1) := by decide +kernel
theorem dL_law_902 : decode cL_law 902 = .ok (.invokevirtual 118, 3) := by decide +kernel
theorem dL_law_905 : decode cL_law 905 = .ok (.pop, 1) := by decide +kernel
theorem dL_law_906 : decode cL_law 906 = .ok (.aload_n 2, 1) := by decide +kernel
theorem dL_law_907 : decode cL_law 907 = .ok (.aload_n 0, 1) := by decide +kernel
theorem dL_law_908 : decode cL_law 908 = .ok (.iload_n 3, 1) := by decide +kernel
theorem dL_law_909 : decode cL_law 909 = .ok (.iconst 1, 1) := by decide +kernel
theorem dL_law_910 : decode cL_law 910 = .ok (.iadd, 1) := by decide +kernel
theorem dL_law_911 : decode cL_law 911 = .ok (.iaload, 1) := by decide +kernel
theorem dL_law_912 : decode cL_law 912 = .ok (.aload_n 0, 1) := by decide +kernel
theorem dL_law_913 : decode cL_law 913 = .ok (.iload_n 3, 1) := by decide +kernel
theorem dL_law_914 : decode cL_law 914 = .ok (.iconst 2, 1) := by decide +kernel
theorem dL_law_915 : decode cL_law 915 = .ok (.iadd, 1) := by decide +kernel
theorem dL_law_916 : decode cL_law 916 = .ok (.iaload, 1) := by decide +kernel
theorem dL_law_917 : decode cL_law 917 = .ok (.invokevirtual 121, 3) := by decide +kernel
theorem dL_law_920 : decode cL_law 920 = .ok (.pop, 1) := by decide +kernel
theorem dL_law_921 : decode cL_law 921 = .ok (.goto 161, 3) := by decide +kernel
theorem dL_law_924 : decode cL_law 924 = .ok (.aload_n 1, 1) := by decide +kernel
theorem dL_law_925 : decode cL_law 925 = .ok (.aload_n 0, 1) := by decide +kernel
theorem dL_law_926 : decode cL_law 926 = .ok (.iload_n 3, 1) := by decide +kernel
theorem dL_law_927 : decode cL_law 927 = .ok (.iconst 1, 1) := by decide +kernel
theorem dL_law_928 : decode cL_law 928 = .ok (.iadd, 1) := by decide +kernel
theorem dL_law_929 : decode cL_law 929 = .ok (.iaload, 1) := by decide +kernel
theorem dL_law_930 : decode cL_law 930 = .ok (.aload_n 0, 1) := by decide +kernel
theorem dL_law_931 : decode cL_law 931 = .ok (.iload_n 3, 1) := by decide +kernel
theorem dL_law_932 : decode cL_law 932 = .ok (.iconst 2, 1) := by decide +kernel
theorem dL_law_933 : decode cL_law 933 = .ok (.iadd, 1) := by decide +kernel
theorem dL_law_934 : decode cL_law 934 = .ok (.iaload, 1) := by decide +kernel
theorem dL_law_935 : decode cL_law 935 = .ok (.invokevirtual 122, 3) := by decide +kernel
theorem dL_law_938 : decode cL_law 938 = .ok (.pop, 1) := by decide +kernel
theorem dL_law_939 : decode cL_law 939 = .ok (.aload_n 2, 1) := by decide +kernel
theorem dL_law_940 : decode cL_law 940 = .ok (.aload_n 0, 1) := by decide +kernel
theorem dL_law_941 : decode cL_law 941 = .ok (.iload_n 3, 1) := by decide +kernel
theorem dL_law_942 : decode cL_law 942 = .ok (.iconst 1, 1) := by decide +kernel
theorem dL_law_943 : decode cL_law 943 = .ok (.iadd, 1) := by decide +kernel
theorem dL_law_944 : decode cL_law 944 = .ok (.iaload, 1) := by decide +kernel
theorem dL_law_945 : decode cL_law 945 = .ok (.aload_n 0, 1) := by decide +kernel
theorem dL_law_946 : decode cL_law 946 = .ok (.iload_n 3, 1) := by decide +kernel
theorem dL_law_947 : decode cL_law 947 = .ok (.iconst 2, 1) := by decide +kernel
theorem dL_law_948 : decode cL_law 948 = .ok (.iadd, 1) := by decide +kernel
theorem dL_law_949 : decode cL_law 949 = .ok (.iaload, 1) := by decide +kernel
theorem dL_law_950 : decode cL_law 950 = .ok (.invokevirtual 125, 3) := by decide +kernel
theorem dL_law_953 : decode cL_law 953 = .ok (.pop, 1) := by decide +kernel
theorem dL_law_954 : decode cL_law 954 = .ok (.goto 128, 3) := by decide +kernel
theorem dL_law_957 : decode cL_law 957 = .ok (.aload_n 1, 1) := by decide +kernel
theorem dL_law_958 : decode cL_law 958 = .ok (.aload_n 0, 1) := by decide +kernel
theorem dL_law_959 : decode cL_law 959 = .ok (.iload_n 3, 1) := by decide +kernel
theorem dL_law_960 : decode cL_law 960 = .ok (.iconst 1, 1) := by decide +kernel
theorem dL_law_961 : decode cL_law 961 = .ok (.iadd, 1) := by decide +kernel
theorem dL_law_962 : decode cL_law 962 = .ok (.iaload, 1) := by decide +kernel
theorem dL_law_963 : decode cL_law 963 = .ok (.invokevirtual 126, 3) := by decide +kernel
theorem dL_law_966 : decode cL_law 966 = .ok (.pop, 1) := by decide +kernel
theorem dL_law_967 : decode cL_law 967 = .ok (.aload_n 2, 1) := by decide +kernel
theorem dL_law_968 : decode cL_law 968 = .ok (.aload_n 0, 1) := by decide +kernel
theorem dL_law_969 : decode cL_law 969 = .ok (.iload_n 3, 1) := by decide +kernel
theorem dL_law_970 : decode cL_law 970 = .ok (.iconst 1, 1) := by decide +kernel
theorem dL_law_971 : decode cL_law 971 = .ok (.iadd, 1) := by decide +kernel
theorem dL_law_972 : decode cL_law 972 = .ok (.iaload, 1) := by decide +kernel
theorem dL_law_973 : decode cL_law 973 = .ok (.invokevirtual 129, 3) := by decide +kernel
theorem dL_law_976 : decode cL_law 976 = .ok (.pop, 1) := by decide +kernel
theorem dL_law_977 : decode cL_law 977 = .ok (.goto 105, 3) := by decide +kernel
theorem dL_law_980 : decode cL_law 980 = .ok (.aload_n 1, 1) := by decide +kernel
theorem dL_law_981 : decode cL_law 981 = .ok (.aload_n 0, 1) := by decide +kernel
theorem dL_law_982 : decode cL_law 982 = .ok (.iload_n 3, 1) := by decide +kernel
theorem dL_law_983 : decode cL_law 983 = .ok (.iconst 1, 1) := by decide +kernel
theorem dL_law_984 : decode cL_law 984 = .ok (.iadd, 1) := by decide +kernel
theorem dL_law_985 : decode cL_law 985 = .ok (.iaload, 1) := by decide +kernel
theorem dL_law_986 : decode cL_law 986 = .ok (.aload_n 0, 1) := by decide +kernel
theorem dL_law_987 : decode cL_law 987 = .ok (.iload_n 3, 1) := by decide +kernel
theorem dL_law_988 : decode cL_law 988 = .ok (.iconst 2, 1) := by decide +kernel
theorem dL_law_989 : decode cL_law 989 = .ok (.iadd, 1) := by decide +kernel
theorem dL_law_990 : decode cL_law 990 = .ok (.iaload, 1) := by decide +kernel
theorem dL_law_991 : decode cL_law 991 = .ok (.invokevirtual 130, 3) := by decide +kernel
theorem dL_law_994 : decode cL_law 994 = .ok (.pop, 1) := by decide +kernel
theorem dL_law_995 : decode cL_law 995 = .ok (.aload_n 2, 1) := by decide +kernel
theorem dL_law_996 : decode cL_law 996 = .ok (.aload_n 0, 1) := by decide +kernel
theorem dL_law_997 : decode cL_law 997 = .ok (.iload_n 3, 1) := by decide +kernel
theorem dL_law_998 : decode cL_law 998 = .ok (.iconst 1, 1) := by decide +kernel
theorem dL_law_999 : decode cL_law 999 = .ok (.iadd, 1) := by decide +kernel
theorem dL_law_1000 : decode cL_law 1000 = .ok (.iaload, 1) := by decide +kernel
theorem dL_law_1001 : decode cL_law 1001 = .ok (.aload_n 0, 1) := by decide +kernel
theorem dL_law_1002 : decode cL_law 1002 = .ok (.iload_n 3, 1) := by decide +kernel
theorem dL_law_1003 : decode cL_law 1003 = .ok (.iconst 2, 1) := by decide +kernel
theorem dL_law_1004 : decode cL_law 1004 = .ok (.iadd, 1) := by decide +kernel
theorem dL_law_1005 : decode cL_law 1005 = .ok (.iaload, 1) := by decide +kernel
theorem dL_law_1006 : decode cL_law 1006 = .ok (.invokevirtual 133, 3) := by decide +kernel
theorem dL_law_1009 : decode cL_law 1009 = .ok (.pop, 1) := by decide +kernel
theorem dL_law_1010 : decode cL_law 1010 = .ok (.goto 72, 3) := by decide +kernel
theorem dL_law_1013 : decode cL_law 1013 = .ok (.aload_n 1, 1) := by decide +kernel
theorem dL_law_1014 : decode cL_law 1014 = .ok (.aload_n 0, 1) := by decide +kernel
theorem dL_law_1015 : decode cL_law 1015 = .ok (.iload_n 3, 1) := by decide +kernel
theorem dL_law_1016 : decode cL_law 1016 = .ok (.iconst 1, 1) := by decide +kernel
theorem dL_law_1017 : decode cL_law 1017 = .ok (.iadd, 1) := by decide +kernel
theorem dL_law_1018 : decode cL_law 1018 = .ok (.iaload, 1) := by decide +kernel
theorem dL_law_1019 : decode cL_law 1019 = .ok (.aload_n 0, 1) := by decide +kernel
theorem dL_law_1020 : decode cL_law 1020 = .ok (.iload_n 3, 1) := by decide +kernel
theorem dL_law_1021 : decode cL_law 1021 = .ok (.iconst 2, 1) := by decide +kernel
theorem dL_law_1022 : decode cL_law 1022 = .ok (.iadd, 1) := by decide +kernel
theorem dL_law_1023 : decode cL_law 1023 = .ok (.iaload, 1) := by decide +kernel
theorem dL_law_1024 : decode cL_law 1024 = .ok (.invokevirtual 134, 3) := by decide +kernel
theorem dL_law_1027 : decode cL_law 1027 = .ok (.pop, 1) := by decide +kernel
theorem dL_law_1028 : decode cL_law 1028 = .ok (.aload_n 2, 1) := by decide +kernel
theorem dL_law_1029 : decode cL_law 1029 = .ok (.aload_n 0, 1) := by decide +kernel
theorem dL_law_1030 : decode cL_law 1030 = .ok (.iload_n 3, 1) := by decide +kernel
theorem dL_law_1031 : decode cL_law 1031 = .ok (.iconst 1, 1) := by decide +kernel
theorem dL_law_1032 : decode cL_law 1032 = .ok (.iadd, 1) := by decide +kernel
theorem dL_law_1033 : decode cL_law 1033 = .ok (.iaload, 1) := by decide +kernel
theorem dL_law_1034 : decode cL_law 1034 = .ok (.aload_n 0, 1) := by decide +kernel
theorem dL_law_1035 : decode cL_law 1035 = .ok (.iload_n 3, 1) := by decide +kernel
theorem dL_law_1036 : decode cL_law 1036 = .ok (.iconst 2, 1) := by decide +kernel
theorem dL_law_1037 : decode cL_law 1037 = .ok (.iadd, 1) := by decide +kernel
theorem dL_law_1038 : decode cL_law 1038 = .ok (.iaload, 1) := by decide +kernel
theorem dL_law_1039 : decode cL_law 1039 = .ok (.invokevirtual 137, 3) := by decide +kernel
theorem dL_law_1042 : decode cL_law 1042 = .ok (.pop, 1) := by decide +kernel
theorem dL_law_1043 : decode cL_law 1043 = .ok (.goto 39, 3) := by decide +kernel
theorem dL_law_1046 : decode cL_law 1046 = .ok (.aload_n 1, 1) := by decide +kernel
theorem dL_law_1047 : decode cL_law 1047 = .ok (.aload_n 0, 1) := by decide +kernel
theorem dL_law_1048 : decode cL_law 1048 = .ok (.iload_n 3, 1) := by decide +kernel
theorem dL_law_1049 : decode cL_law 1049 = .ok (.iconst 1, 1) := by decide +kernel
theorem dL_law_1050 : decode cL_law 1050 = .ok (.iadd, 1) := by decide +kernel
theorem dL_law_1051 : decode cL_law 1051 = .ok (.iaload, 1) := by decide +kernel
theorem dL_law_1052 : decode cL_law 1052 = .ok (.invokevirtual 138, 3) := by decide +kernel
theorem dL_law_1055 : decode cL_law 1055 = .ok (.pop, 1) := by decide +kernel
theorem dL_law_1056 : decode cL_law 1056 = .ok (.aload_n 2, 1) := by decide +kernel
theorem dL_law_1057 : decode cL_law 1057 = .ok (.aload_n 0, 1) := by decide +kernel
theorem dL_law_1058 : decode cL_law 1058 = .ok (.iload_n 3, 1) := by decide +kernel
theorem dL_law_1059 : decode cL_law 1059 = .ok (.iconst 1, 1) := by decide +kernel
theorem dL_law_1060 : decode cL_law 1060 = .ok (.iadd, 1) := by decide +kernel
theorem dL_law_1061 : decode cL_law 1061 = .ok (.iaload, 1) := by decide +kernel
theorem dL_law_1062 : decode cL_law 1062 = .ok (.invokevirtual 141, 3) := by decide +kernel
theorem dL_law_1065 : decode cL_law 1065 = .ok (.pop, 1) := by decide +kernel
theorem dL_law_1066 : decode cL_law 1066 = .ok (.goto 16, 3) := by decide +kernel
theorem dL_law_1069 : decode cL_law 1069 = .ok (.aload_n 1, 1) := by decide +kernel
theorem dL_law_1070 : decode cL_law 1070 = .ok (.invokevirtual 142, 3) := by decide +kernel
theorem dL_law_1073 : decode cL_law 1073 = .ok (.pop2, 1) := by decide +kernel
theorem dL_law_1074 : decode cL_law 1074 = .ok (.aload_n 2, 1) := by decide +kernel
theorem dL_law_1075 : decode cL_law 1075 = .ok (.invokevirtual 146, 3) := by decide +kernel
theorem dL_law_1078 : decode cL_law 1078 = .ok (.pop2, 1) := by decide +kernel
theorem dL_law_1079 : decode cL_law 1079 = .ok (.goto 3, 3) := by decide +kernel
theorem dL_law_1082 : decode cL_law 1082 = .ok (.iinc 3 5, 3) := by decide +kernel
theorem dL_law_1085 : decode cL_law 1085 = .ok (.goto (-1067), 3) := by decide +kernel
theorem dL_law_1088 : decode cL_law 1088 = .ok (.iconst 1, 1) := by decide +kernel
theorem dL_law_1089 : decode cL_law 1089 = .ok (.ireturn, 1) := by decide +kernel
end
section
/-! The pure state: ints by number, rows by cell, one long; the world of the 52 cells made of it. -/
abbrev SS : Type := (Nat → Int32) × ((Nat → Nat → Int32) × Int64)
def ac_gi (σ : SS) (k : Nat) : Int32 := σ.1 k
def ac_ga (σ : SS) (c : Nat) : Nat → Int32 := σ.2.1 c
def ac_gl (σ : SS) : Int64 := σ.2.2
def ac_si (σ : SS) (k : Nat) (v : Int32) : SS := (fun j => if j = k then v else σ.1 j, σ.2)
def ac_sa (σ : SS) (c : Nat) (f : Nat → Int32) : SS := (σ.1, (fun d => if d = c then f else σ.2.1 d, σ.2.2))
def ac_sl (σ : SS) (v : Int64) : SS := (σ.1, (σ.2.1, v))
theorem ac_gi_si (σ : SS) (k : Nat) (v : Int32) (j : Nat) : ac_gi (ac_si σ k v) j = if j = k then v else ac_gi σ j := rfl
theorem ac_gi_sa (σ : SS) (c : Nat) (f : Nat → Int32) (j : Nat) : ac_gi (ac_sa σ c f) j = ac_gi σ j := rfl
theorem ac_gi_sl (σ : SS) (v : Int64) (j : Nat) : ac_gi (ac_sl σ v) j = ac_gi σ j := rfl
theorem ac_ga_si (σ : SS) (k : Nat) (v : Int32) (c : Nat) : ac_ga (ac_si σ k v) c = ac_ga σ c := rfl
theorem ac_ga_sa (σ : SS) (c : Nat) (f : Nat → Int32) (d : Nat) : ac_ga (ac_sa σ c f) d = if d = c then f else ac_ga σ d := rfl
theorem ac_ga_sl (σ : SS) (v : Int64) (c : Nat) : ac_ga (ac_sl σ v) c = ac_ga σ c := rfl
def ac_wd (q : Nat → Nat) (cI cZ : ClassId) (σ : SS) : va_W := [
  (q 0, .inr (6, [.ref (q 1), .ref (q 2), .ref (q 3), .ref (q 4), .ref (q 5), .ref (q 6), .ref (q 7)])),
  (q 1, .inr (0, [.int (ac_gi σ 0), .int (ac_gi σ 1), .int (ac_gi σ 2), .int (ac_gi σ 3), .ref (q 8), .ref (q 9)])),
  (q 2, .inr (4, [.int (ac_gi σ 10), .ref (q 1), .int (ac_gi σ 11), .ref (q 10), .ref (q 11), .ref (q 12), .ref (q 13)])),
  (q 3, .inr (3, [.ref (q 1), .ref (q 14), .ref (q 15), .ref (q 16)])),
  (q 4, .inr (1, [.int (ac_gi σ 4), .int (ac_gi σ 5), .int (ac_gi σ 6), .ref (q 17), .ref (q 18), .ref (q 19), .ref (q 20), .ref (q 1), .ref (q 2), .int (ac_gi σ 7), .int (ac_gi σ 8), .int (ac_gi σ 9)])),
  (q 5, .inr (5, [.int (ac_gi σ 12), .int (ac_gi σ 13), .ref (q 21), .ref (q 22), .ref (q 23), .ref (q 24), .ref (q 25), .ref (q 26), .int (ac_gi σ 14)])),
  (q 6, .inr (2, [.ref (q 27), .ref (q 28), .ref (q 1), .ref (q 29)])),
  (q 7, .inl (cI, 16, .inl (ac_ga σ 7))),
  (q 8, .inl (cI, 10, .inl (ac_ga σ 8))),
  (q 9, .inl (cI, 100, .inl (ac_ga σ 9))),
  (q 10, .inl (cI, 10, .inl (ac_ga σ 10))),
  (q 11, .inl (cI, 10, .inl (ac_ga σ 11))),
  (q 12, .inl (cI, 10, .inl (ac_ga σ 12))),
  (q 13, .inl (cI, 1024, .inl (ac_ga σ 13))),
  (q 14, .inl (cI, 10, .inl (ac_ga σ 14))),
  (q 15, .inl (cI, 10, .inl (ac_ga σ 15))),
  (q 16, .inl (cI, 110, .inl (ac_ga σ 16))),
  (q 17, .inl (cI, 10, .inl (ac_ga σ 17))),
  (q 18, .inl (cI, 10, .inl (ac_ga σ 18))),
  (q 19, .inl (cI, 10, .inl (ac_ga σ 19))),
  (q 20, .inl (cI, 10, .inl (ac_ga σ 20))),
  (q 21, .inl (cI, 24, .inl (ac_ga σ 21))),
  (q 22, .inl (cI, 24, .inl (ac_ga σ 22))),
  (q 23, .inl (cI, 24, .inl (ac_ga σ 23))),
  (q 24, .inl (cI, 6, .inl (ac_ga σ 24))),
  (q 25, .inl (cI, 6, .inl (ac_ga σ 25))),
  (q 26, .inl (cI, 4096, .inl (ac_ga σ 26))),
  (q 27, .inl (cI, 10, .inl (ac_ga σ 27))),
  (q 28, .inl (cI, 10, .inl (ac_ga σ 28))),
  (q 29, .inl (cI, 1024, .inl (ac_ga σ 29))),
  (q 30, .inr (7, [.int (ac_gi σ 15), .int (ac_gi σ 16), .int (ac_gi σ 17), .ref (q 31), .ref (q 32), .ref (q 33), .ref (q 34), .int (ac_gi σ 18), .int (ac_gi σ 19), .ref (q 35), .ref (q 36), .ref (q 37), .ref (q 38), .int (ac_gi σ 20), .int (ac_gi σ 21), .int (ac_gi σ 22), .int (ac_gi σ 23), .int (ac_gi σ 24), .ref (q 39), .ref (q 40), .int (ac_gi σ 25), .ref (q 41), .int (ac_gi σ 26), .ref (q 42), .ref (q 43), .ref (q 44), .ref (q 45), .ref (q 46), .int (ac_gi σ 27), .ref (q 47), .ref (q 48), .ref (q 49), .ref (q 50), .ref (q 51), .long (ac_gl σ)])),
  (q 31, .inl (cI, 100, .inl (ac_ga σ 31))),
  (q 32, .inl (cI, 10, .inl (ac_ga σ 32))),
  (q 33, .inl (cI, 10, .inl (ac_ga σ 33))),
  (q 34, .inl (cI, 10, .inl (ac_ga σ 34))),
  (q 35, .inl (cZ, 1024, .inl (ac_ga σ 35))),
  (q 36, .inl (cZ, 10, .inl (ac_ga σ 36))),
  (q 37, .inl (cI, 10, .inl (ac_ga σ 37))),
  (q 38, .inl (cI, 10, .inl (ac_ga σ 38))),
  (q 39, .inl (cI, 10, .inl (ac_ga σ 39))),
  (q 40, .inl (cI, 10, .inl (ac_ga σ 40))),
  (q 41, .inl (cI, 6, .inl (ac_ga σ 41))),
  (q 42, .inl (cI, 24, .inl (ac_ga σ 42))),
  (q 43, .inl (cI, 24, .inl (ac_ga σ 43))),
  (q 44, .inl (cI, 24, .inl (ac_ga σ 44))),
  (q 45, .inl (cI, 6, .inl (ac_ga σ 45))),
  (q 46, .inl (cI, 6, .inl (ac_ga σ 46))),
  (q 47, .inl (cI, 448, .inl (ac_ga σ 47))),
  (q 48, .inl (cI, 10, .inl (ac_ga σ 48))),
  (q 49, .inl (cI, 10, .inl (ac_ga σ 49))),
  (q 50, .inl (cI, 1024, .inl (ac_ga σ 50))),
  (q 51, .inl (cI, 16, .inl (ac_ga σ 51)))]
theorem ac_put_0 (q : Nat → Nat) (cI cZ : ClassId) (σ : SS) (v : Int32) : (ac_wd q cI cZ σ).set 1 (q 1, .inr (0, ([.int (ac_gi σ 0), .int (ac_gi σ 1), .int (ac_gi σ 2), .int (ac_gi σ 3), .ref (q 8), .ref (q 9)]).set 0 (.int v))) = ac_wd q cI cZ (ac_si σ 0 v) := rfl
theorem ac_put_1 (q : Nat → Nat) (cI cZ : ClassId) (σ : SS) (v : Int32) : (ac_wd q cI cZ σ).set 1 (q 1, .inr (0, ([.int (ac_gi σ 0), .int (ac_gi σ 1), .int (ac_gi σ 2), .int (ac_gi σ 3), .ref (q 8), .ref (q 9)]).set 1 (.int v))) = ac_wd q cI cZ (ac_si σ 1 v) := rfl
theorem ac_put_2 (q : Nat → Nat) (cI cZ : ClassId) (σ : SS) (v : Int32) : (ac_wd q cI cZ σ).set 1 (q 1, .inr (0, ([.int (ac_gi σ 0), .int (ac_gi σ 1), .int (ac_gi σ 2), .int (ac_gi σ 3), .ref (q 8), .ref (q 9)]).set 2 (.int v))) = ac_wd q cI cZ (ac_si σ 2 v) := rfl
theorem ac_put_3 (q : Nat → Nat) (cI cZ : ClassId) (σ : SS) (v : Int32) : (ac_wd q cI cZ σ).set 1 (q 1, .inr (0, ([.int (ac_gi σ 0), .int (ac_gi σ 1), .int (ac_gi σ 2), .int (ac_gi σ 3), .ref (q 8), .ref (q 9)]).set 3 (.int v))) = ac_wd q cI cZ (ac_si σ 3 v) := rfl
theorem ac_put_4 (q : Nat → Nat) (cI cZ : ClassId) (σ : SS) (v : Int32) : (ac_wd q cI cZ σ).set 4 (q 4, .inr (1, ([.int (ac_gi σ 4), .int (ac_gi σ 5), .int (ac_gi σ 6), .ref (q 17), .ref (q 18), .ref (q 19), .ref (q 20), .ref (q 1), .ref (q 2), .int (ac_gi σ 7), .int (ac_gi σ 8), .int (ac_gi σ 9)]).set 0 (.int v))) = ac_wd q cI cZ (ac_si σ 4 v) := rfl
theorem ac_put_5 (q : Nat → Nat) (cI cZ : ClassId) (σ : SS) (v : Int32) : (ac_wd q cI cZ σ).set 4 (q 4, .inr (1, ([.int (ac_gi σ 4), .int (ac_gi σ 5), .int (ac_gi σ 6), .ref (q 17), .ref (q 18), .ref (q 19), .ref (q 20), .ref (q 1), .ref (q 2), .int (ac_gi σ 7), .int (ac_gi σ 8), .int (ac_gi σ 9)]).set 1 (.int v))) = ac_wd q cI cZ (ac_si σ 5 v) := rfl
theorem ac_put_6 (q : Nat → Nat) (cI cZ : ClassId) (σ : SS) (v : Int32) : (ac_wd q cI cZ σ).set 4 (q 4, .inr (1, ([.int (ac_gi σ 4), .int (ac_gi σ 5), .int (ac_gi σ 6), .ref (q 17), .ref (q 18), .ref (q 19), .ref (q 20), .ref (q 1), .ref (q 2), .int (ac_gi σ 7), .int (ac_gi σ 8), .int (ac_gi σ 9)]).set 2 (.int v))) = ac_wd q cI cZ (ac_si σ 6 v) := rfl
theorem ac_put_7 (q : Nat → Nat) (cI cZ : ClassId) (σ : SS) (v : Int32) : (ac_wd q cI cZ σ).set 4 (q 4, .inr (1, ([.int (ac_gi σ 4), .int (ac_gi σ 5), .int (ac_gi σ 6), .ref (q 17), .ref (q 18), .ref (q 19), .ref (q 20), .ref (q 1), .ref (q 2), .int (ac_gi σ 7), .int (ac_gi σ 8), .int (ac_gi σ 9)]).set 9 (.int v))) = ac_wd q cI cZ (ac_si σ 7 v) := rfl
theorem ac_put_8 (q : Nat → Nat) (cI cZ : ClassId) (σ : SS) (v : Int32) : (ac_wd q cI cZ σ).set 4 (q 4, .inr (1, ([.int (ac_gi σ 4), .int (ac_gi σ 5), .int (ac_gi σ 6), .ref (q 17), .ref (q 18), .ref (q 19), .ref (q 20), .ref (q 1), .ref (q 2), .int (ac_gi σ 7), .int (ac_gi σ 8), .int (ac_gi σ 9)]).set 10 (.int v))) = ac_wd q cI cZ (ac_si σ 8 v) := rfl
theorem ac_put_9 (q : Nat → Nat) (cI cZ : ClassId) (σ : SS) (v : Int32) : (ac_wd q cI cZ σ).set 4 (q 4, .inr (1, ([.int (ac_gi σ 4), .int (ac_gi σ 5), .int (ac_gi σ 6), .ref (q 17), .ref (q 18), .ref (q 19), .ref (q 20), .ref (q 1), .ref (q 2), .int (ac_gi σ 7), .int (ac_gi σ 8), .int (ac_gi σ 9)]).set 11 (.int v))) = ac_wd q cI cZ (ac_si σ 9 v) := rfl
theorem ac_put_10 (q : Nat → Nat) (cI cZ : ClassId) (σ : SS) (v : Int32) : (ac_wd q cI cZ σ).set 2 (q 2, .inr (4, ([.int (ac_gi σ 10), .ref (q 1), .int (ac_gi σ 11), .ref (q 10), .ref (q 11), .ref (q 12), .ref (q 13)]).set 0 (.int v))) = ac_wd q cI cZ (ac_si σ 10 v) := rfl
theorem ac_put_11 (q : Nat → Nat) (cI cZ : ClassId) (σ : SS) (v : Int32) : (ac_wd q cI cZ σ).set 2 (q 2, .inr (4, ([.int (ac_gi σ 10), .ref (q 1), .int (ac_gi σ 11), .ref (q 10), .ref (q 11), .ref (q 12), .ref (q 13)]).set 2 (.int v))) = ac_wd q cI cZ (ac_si σ 11 v) := rfl
theorem ac_put_12 (q : Nat → Nat) (cI cZ : ClassId) (σ : SS) (v : Int32) : (ac_wd q cI cZ σ).set 5 (q 5, .inr (5, ([.int (ac_gi σ 12), .int (ac_gi σ 13), .ref (q 21), .ref (q 22), .ref (q 23), .ref (q 24), .ref (q 25), .ref (q 26), .int (ac_gi σ 14)]).set 0 (.int v))) = ac_wd q cI cZ (ac_si σ 12 v) := rfl
theorem ac_put_13 (q : Nat → Nat) (cI cZ : ClassId) (σ : SS) (v : Int32) : (ac_wd q cI cZ σ).set 5 (q 5, .inr (5, ([.int (ac_gi σ 12), .int (ac_gi σ 13), .ref (q 21), .ref (q 22), .ref (q 23), .ref (q 24), .ref (q 25), .ref (q 26), .int (ac_gi σ 14)]).set 1 (.int v))) = ac_wd q cI cZ (ac_si σ 13 v) := rfl
theorem ac_put_14 (q : Nat → Nat) (cI cZ : ClassId) (σ : SS) (v : Int32) : (ac_wd q cI cZ σ).set 5 (q 5, .inr (5, ([.int (ac_gi σ 12), .int (ac_gi σ 13), .ref (q 21), .ref (q 22), .ref (q 23), .ref (q 24), .ref (q 25), .ref (q 26), .int (ac_gi σ 14)]).set 8 (.int v))) = ac_wd q cI cZ (ac_si σ 14 v) := rfl
theorem ac_put_15 (q : Nat → Nat) (cI cZ : ClassId) (σ : SS) (v : Int32) : (ac_wd q cI cZ σ).set 30 (q 30, .inr (7, ([.int (ac_gi σ 15), .int (ac_gi σ 16), .int (ac_gi σ 17), .ref (q 31), .ref (q 32), .ref (q 33), .ref (q 34), .int (ac_gi σ 18), .int (ac_gi σ 19), .ref (q 35), .ref (q 36), .ref (q 37), .ref (q 38), .int (ac_gi σ 20), .int (ac_gi σ 21), .int (ac_gi σ 22), .int (ac_gi σ 23), .int (ac_gi σ 24), .ref (q 39), .ref (q 40), .int (ac_gi σ 25), .ref (q 41), .int (ac_gi σ 26), .ref (q 42), .ref (q 43), .ref (q 44), .ref (q 45), .ref (q 46), .int (ac_gi σ 27), .ref (q 47), .ref (q 48), .ref (q 49), .ref (q 50), .ref (q 51), .long (ac_gl σ)]).set 0 (.int v))) = ac_wd q cI cZ (ac_si σ 15 v) := rfl
theorem ac_put_16 (q : Nat → Nat) (cI cZ : ClassId) (σ : SS) (v : Int32) : (ac_wd q cI cZ σ).set 30 (q 30, .inr (7, ([.int (ac_gi σ 15), .int (ac_gi σ 16), .int (ac_gi σ 17), .ref (q 31), .ref (q 32), .ref (q 33), .ref (q 34), .int (ac_gi σ 18), .int (ac_gi σ 19), .ref (q 35), .ref (q 36), .ref (q 37), .ref (q 38), .int (ac_gi σ 20), .int (ac_gi σ 21), .int (ac_gi σ 22), .int (ac_gi σ 23), .int (ac_gi σ 24), .ref (q 39), .ref (q 40), .int (ac_gi σ 25), .ref (q 41), .int (ac_gi σ 26), .ref (q 42), .ref (q 43), .ref (q 44), .ref (q 45), .ref (q 46), .int (ac_gi σ 27), .ref (q 47), .ref (q 48), .ref (q 49), .ref (q 50), .ref (q 51), .long (ac_gl σ)]).set 1 (.int v))) = ac_wd q cI cZ (ac_si σ 16 v) := rfl
theorem ac_put_17 (q : Nat → Nat) (cI cZ : ClassId) (σ : SS) (v : Int32) : (ac_wd q cI cZ σ).set 30 (q 30, .inr (7, ([.int (ac_gi σ 15), .int (ac_gi σ 16), .int (ac_gi σ 17), .ref (q 31), .ref (q 32), .ref (q 33), .ref (q 34), .int (ac_gi σ 18), .int (ac_gi σ 19), .ref (q 35), .ref (q 36), .ref (q 37), .ref (q 38), .int (ac_gi σ 20), .int (ac_gi σ 21), .int (ac_gi σ 22), .int (ac_gi σ 23), .int (ac_gi σ 24), .ref (q 39), .ref (q 40), .int (ac_gi σ 25), .ref (q 41), .int (ac_gi σ 26), .ref (q 42), .ref (q 43), .ref (q 44), .ref (q 45), .ref (q 46), .int (ac_gi σ 27), .ref (q 47), .ref (q 48), .ref (q 49), .ref (q 50), .ref (q 51), .long (ac_gl σ)]).set 2 (.int v))) = ac_wd q cI cZ (ac_si σ 17 v) := rfl
theorem ac_put_18 (q : Nat → Nat) (cI cZ : ClassId) (σ : SS) (v : Int32) : (ac_wd q cI cZ σ).set 30 (q 30, .inr (7, ([.int (ac_gi σ 15), .int (ac_gi σ 16), .int (ac_gi σ 17), .ref (q 31), .ref (q 32), .ref (q 33), .ref (q 34), .int (ac_gi σ 18), .int (ac_gi σ 19), .ref (q 35), .ref (q 36), .ref (q 37), .ref (q 38), .int (ac_gi σ 20), .int (ac_gi σ 21), .int (ac_gi σ 22), .int (ac_gi σ 23), .int (ac_gi σ 24), .ref (q 39), .ref (q 40), .int (ac_gi σ 25), .ref (q 41), .int (ac_gi σ 26), .ref (q 42), .ref (q 43), .ref (q 44), .ref (q 45), .ref (q 46), .int (ac_gi σ 27), .ref (q 47), .ref (q 48), .ref (q 49), .ref (q 50), .ref (q 51), .long (ac_gl σ)]).set 7 (.int v))) = ac_wd q cI cZ (ac_si σ 18 v) := rfl
theorem ac_put_19 (q : Nat → Nat) (cI cZ : ClassId) (σ : SS) (v : Int32) : (ac_wd q cI cZ σ).set 30 (q 30, .inr (7, ([.int (ac_gi σ 15), .int (ac_gi σ 16), .int (ac_gi σ 17), .ref (q 31), .ref (q 32), .ref (q 33), .ref (q 34), .int (ac_gi σ 18), .int (ac_gi σ 19), .ref (q 35), .ref (q 36), .ref (q 37), .ref (q 38), .int (ac_gi σ 20), .int (ac_gi σ 21), .int (ac_gi σ 22), .int (ac_gi σ 23), .int (ac_gi σ 24), .ref (q 39), .ref (q 40), .int (ac_gi σ 25), .ref (q 41), .int (ac_gi σ 26), .ref (q 42), .ref (q 43), .ref (q 44), .ref (q 45), .ref (q 46), .int (ac_gi σ 27), .ref (q 47), .ref (q 48), .ref (q 49), .ref (q 50), .ref (q 51), .long (ac_gl σ)]).set 8 (.int v))) = ac_wd q cI cZ (ac_si σ 19 v) := rfl
theorem ac_put_20 (q : Nat → Nat) (cI cZ : ClassId) (σ : SS) (v : Int32) : (ac_wd q cI cZ σ).set 30 (q 30, .inr (7, ([.int (ac_gi σ 15), .int (ac_gi σ 16), .int (ac_gi σ 17), .ref (q 31), .ref (q 32), .ref (q 33), .ref (q 34), .int (ac_gi σ 18), .int (ac_gi σ 19), .ref (q 35), .ref (q 36), .ref (q 37), .ref (q 38), .int (ac_gi σ 20), .int (ac_gi σ 21), .int (ac_gi σ 22), .int (ac_gi σ 23), .int (ac_gi σ 24), .ref (q 39), .ref (q 40), .int (ac_gi σ 25), .ref (q 41), .int (ac_gi σ 26), .ref (q 42), .ref (q 43), .ref (q 44), .ref (q 45), .ref (q 46), .int (ac_gi σ 27), .ref (q 47), .ref (q 48), .ref (q 49), .ref (q 50), .ref (q 51), .long (ac_gl σ)]).set 13 (.int v))) = ac_wd q cI cZ (ac_si σ 20 v) := rfl
theorem ac_put_21 (q : Nat → Nat) (cI cZ : ClassId) (σ : SS) (v : Int32) : (ac_wd q cI cZ σ).set 30 (q 30, .inr (7, ([.int (ac_gi σ 15), .int (ac_gi σ 16), .int (ac_gi σ 17), .ref (q 31), .ref (q 32), .ref (q 33), .ref (q 34), .int (ac_gi σ 18), .int (ac_gi σ 19), .ref (q 35), .ref (q 36), .ref (q 37), .ref (q 38), .int (ac_gi σ 20), .int (ac_gi σ 21), .int (ac_gi σ 22), .int (ac_gi σ 23), .int (ac_gi σ 24), .ref (q 39), .ref (q 40), .int (ac_gi σ 25), .ref (q 41), .int (ac_gi σ 26), .ref (q 42), .ref (q 43), .ref (q 44), .ref (q 45), .ref (q 46), .int (ac_gi σ 27), .ref (q 47), .ref (q 48), .ref (q 49), .ref (q 50), .ref (q 51), .long (ac_gl σ)]).set 14 (.int v))) = ac_wd q cI cZ (ac_si σ 21 v) := rfl
theorem ac_put_22 (q : Nat → Nat) (cI cZ : ClassId) (σ : SS) (v : Int32) : (ac_wd q cI cZ σ).set 30 (q 30, .inr (7, ([.int (ac_gi σ 15), .int (ac_gi σ 16), .int (ac_gi σ 17), .ref (q 31), .ref (q 32), .ref (q 33), .ref (q 34), .int (ac_gi σ 18), .int (ac_gi σ 19), .ref (q 35), .ref (q 36), .ref (q 37), .ref (q 38), .int (ac_gi σ 20), .int (ac_gi σ 21), .int (ac_gi σ 22), .int (ac_gi σ 23), .int (ac_gi σ 24), .ref (q 39), .ref (q 40), .int (ac_gi σ 25), .ref (q 41), .int (ac_gi σ 26), .ref (q 42), .ref (q 43), .ref (q 44), .ref (q 45), .ref (q 46), .int (ac_gi σ 27), .ref (q 47), .ref (q 48), .ref (q 49), .ref (q 50), .ref (q 51), .long (ac_gl σ)]).set 15 (.int v))) = ac_wd q cI cZ (ac_si σ 22 v) := rfl
theorem ac_put_23 (q : Nat → Nat) (cI cZ : ClassId) (σ : SS) (v : Int32) : (ac_wd q cI cZ σ).set 30 (q 30, .inr (7, ([.int (ac_gi σ 15), .int (ac_gi σ 16), .int (ac_gi σ 17), .ref (q 31), .ref (q 32), .ref (q 33), .ref (q 34), .int (ac_gi σ 18), .int (ac_gi σ 19), .ref (q 35), .ref (q 36), .ref (q 37), .ref (q 38), .int (ac_gi σ 20), .int (ac_gi σ 21), .int (ac_gi σ 22), .int (ac_gi σ 23), .int (ac_gi σ 24), .ref (q 39), .ref (q 40), .int (ac_gi σ 25), .ref (q 41), .int (ac_gi σ 26), .ref (q 42), .ref (q 43), .ref (q 44), .ref (q 45), .ref (q 46), .int (ac_gi σ 27), .ref (q 47), .ref (q 48), .ref (q 49), .ref (q 50), .ref (q 51), .long (ac_gl σ)]).set 16 (.int v))) = ac_wd q cI cZ (ac_si σ 23 v) := rfl
theorem ac_put_24 (q : Nat → Nat) (cI cZ : ClassId) (σ : SS) (v : Int32) : (ac_wd q cI cZ σ).set 30 (q 30, .inr (7, ([.int (ac_gi σ 15), .int (ac_gi σ 16), .int (ac_gi σ 17), .ref (q 31), .ref (q 32), .ref (q 33), .ref (q 34), .int (ac_gi σ 18), .int (ac_gi σ 19), .ref (q 35), .ref (q 36), .ref (q 37), .ref (q 38), .int (ac_gi σ 20), .int (ac_gi σ 21), .int (ac_gi σ 22), .int (ac_gi σ 23), .int (ac_gi σ 24), .ref (q 39), .ref (q 40), .int (ac_gi σ 25), .ref (q 41), .int (ac_gi σ 26), .ref (q 42), .ref (q 43), .ref (q 44), .ref (q 45), .ref (q 46), .int (ac_gi σ 27), .ref (q 47), .ref (q 48), .ref (q 49), .ref (q 50), .ref (q 51), .long (ac_gl σ)]).set 17 (.int v))) = ac_wd q cI cZ (ac_si σ 24 v) := rfl
theorem ac_put_25 (q : Nat → Nat) (cI cZ : ClassId) (σ : SS) (v : Int32) : (ac_wd q cI cZ σ).set 30 (q 30, .inr (7, ([.int (ac_gi σ 15), .int (ac_gi σ 16), .int (ac_gi σ 17), .ref (q 31), .ref (q 32), .ref (q 33), .ref (q 34), .int (ac_gi σ 18), .int (ac_gi σ 19), .ref (q 35), .ref (q 36), .ref (q 37), .ref (q 38), .int (ac_gi σ 20), .int (ac_gi σ 21), .int (ac_gi σ 22), .int (ac_gi σ 23), .int (ac_gi σ 24), .ref (q 39), .ref (q 40), .int (ac_gi σ 25), .ref (q 41), .int (ac_gi σ 26), .ref (q 42), .ref (q 43), .ref (q 44), .ref (q 45), .ref (q 46), .int (ac_gi σ 27), .ref (q 47), .ref (q 48), .ref (q 49), .ref (q 50), .ref (q 51), .long (ac_gl σ)]).set 20 (.int v))) = ac_wd q cI cZ (ac_si σ 25 v) := rfl
theorem ac_put_26 (q : Nat → Nat) (cI cZ : ClassId) (σ : SS) (v : Int32) : (ac_wd q cI cZ σ).set 30 (q 30, .inr (7, ([.int (ac_gi σ 15), .int (ac_gi σ 16), .int (ac_gi σ 17), .ref (q 31), .ref (q 32), .ref (q 33), .ref (q 34), .int (ac_gi σ 18), .int (ac_gi σ 19), .ref (q 35), .ref (q 36), .ref (q 37), .ref (q 38), .int (ac_gi σ 20), .int (ac_gi σ 21), .int (ac_gi σ 22), .int (ac_gi σ 23), .int (ac_gi σ 24), .ref (q 39), .ref (q 40), .int (ac_gi σ 25), .ref (q 41), .int (ac_gi σ 26), .ref (q 42), .ref (q 43), .ref (q 44), .ref (q 45), .ref (q 46), .int (ac_gi σ 27), .ref (q 47), .ref (q 48), .ref (q 49), .ref (q 50), .ref (q 51), .long (ac_gl σ)]).set 22 (.int v))) = ac_wd q cI cZ (ac_si σ 26 v) := rfl
theorem ac_put_27 (q : Nat → Nat) (cI cZ : ClassId) (σ : SS) (v : Int32) : (ac_wd q cI cZ σ).set 30 (q 30, .inr (7, ([.int (ac_gi σ 15), .int (ac_gi σ 16), .int (ac_gi σ 17), .ref (q 31), .ref (q 32), .ref (q 33), .ref (q 34), .int (ac_gi σ 18), .int (ac_gi σ 19), .ref (q 35), .ref (q 36), .ref (q 37), .ref (q 38), .int (ac_gi σ 20), .int (ac_gi σ 21), .int (ac_gi σ 22), .int (ac_gi σ 23), .int (ac_gi σ 24), .ref (q 39), .ref (q 40), .int (ac_gi σ 25), .ref (q 41), .int (ac_gi σ 26), .ref (q 42), .ref (q 43), .ref (q 44), .ref (q 45), .ref (q 46), .int (ac_gi σ 27), .ref (q 47), .ref (q 48), .ref (q 49), .ref (q 50), .ref (q 51), .long (ac_gl σ)]).set 28 (.int v))) = ac_wd q cI cZ (ac_si σ 27 v) := rfl
theorem ac_put_l (q : Nat → Nat) (cI cZ : ClassId) (σ : SS) (v : Int64) : (ac_wd q cI cZ σ).set 30 (q 30, .inr (7, ([.int (ac_gi σ 15), .int (ac_gi σ 16), .int (ac_gi σ 17), .ref (q 31), .ref (q 32), .ref (q 33), .ref (q 34), .int (ac_gi σ 18), .int (ac_gi σ 19), .ref (q 35), .ref (q 36), .ref (q 37), .ref (q 38), .int (ac_gi σ 20), .int (ac_gi σ 21), .int (ac_gi σ 22), .int (ac_gi σ 23), .int (ac_gi σ 24), .ref (q 39), .ref (q 40), .int (ac_gi σ 25), .ref (q 41), .int (ac_gi σ 26), .ref (q 42), .ref (q 43), .ref (q 44), .ref (q 45), .ref (q 46), .int (ac_gi σ 27), .ref (q 47), .ref (q 48), .ref (q 49), .ref (q 50), .ref (q 51), .long (ac_gl σ)]).set 34 (.long v))) = ac_wd q cI cZ (ac_sl σ v) := rfl
theorem ac_ast_7 (q : Nat → Nat) (cI cZ : ClassId) (σ : SS) (f : Nat → Int32) : (ac_wd q cI cZ σ).set 7 (q 7, .inl (cI, 16, .inl f)) = ac_wd q cI cZ (ac_sa σ 7 f) := rfl
theorem ac_ast_8 (q : Nat → Nat) (cI cZ : ClassId) (σ : SS) (f : Nat → Int32) : (ac_wd q cI cZ σ).set 8 (q 8, .inl (cI, 10, .inl f)) = ac_wd q cI cZ (ac_sa σ 8 f) := rfl
theorem ac_ast_9 (q : Nat → Nat) (cI cZ : ClassId) (σ : SS) (f : Nat → Int32) : (ac_wd q cI cZ σ).set 9 (q 9, .inl (cI, 100, .inl f)) = ac_wd q cI cZ (ac_sa σ 9 f) := rfl
theorem ac_ast_10 (q : Nat → Nat) (cI cZ : ClassId) (σ : SS) (f : Nat → Int32) : (ac_wd q cI cZ σ).set 10 (q 10, .inl (cI, 10, .inl f)) = ac_wd q cI cZ (ac_sa σ 10 f) := rfl
theorem ac_ast_11 (q : Nat → Nat) (cI cZ : ClassId) (σ : SS) (f : Nat → Int32) : (ac_wd q cI cZ σ).set 11 (q 11, .inl (cI, 10, .inl f)) = ac_wd q cI cZ (ac_sa σ 11 f) := rfl
theorem ac_ast_12 (q : Nat → Nat) (cI cZ : ClassId) (σ : SS) (f : Nat → Int32) : (ac_wd q cI cZ σ).set 12 (q 12, .inl (cI, 10, .inl f)) = ac_wd q cI cZ (ac_sa σ 12 f) := rfl
theorem ac_ast_13 (q : Nat → Nat) (cI cZ : ClassId) (σ : SS) (f : Nat → Int32) : (ac_wd q cI cZ σ).set 13 (q 13, .inl (cI, 1024, .inl f)) = ac_wd q cI cZ (ac_sa σ 13 f) := rfl
theorem ac_ast_14 (q : Nat → Nat) (cI cZ : ClassId) (σ : SS) (f : Nat → Int32) : (ac_wd q cI cZ σ).set 14 (q 14, .inl (cI, 10, .inl f)) = ac_wd q cI cZ (ac_sa σ 14 f) := rfl
theorem ac_ast_15 (q : Nat → Nat) (cI cZ : ClassId) (σ : SS) (f : Nat → Int32) : (ac_wd q cI cZ σ).set 15 (q 15, .inl (cI, 10, .inl f)) = ac_wd q cI cZ (ac_sa σ 15 f) := rfl
theorem ac_ast_16 (q : Nat → Nat) (cI cZ : ClassId) (σ : SS) (f : Nat → Int32) : (ac_wd q cI cZ σ).set 16 (q 16, .inl (cI, 110, .inl f)) = ac_wd q cI cZ (ac_sa σ 16 f) := rfl
theorem ac_ast_17 (q : Nat → Nat) (cI cZ : ClassId) (σ : SS) (f : Nat → Int32) : (ac_wd q cI cZ σ).set 17 (q 17, .inl (cI, 10, .inl f)) = ac_wd q cI cZ (ac_sa σ 17 f) := rfl
theorem ac_ast_18 (q : Nat → Nat) (cI cZ : ClassId) (σ : SS) (f : Nat → Int32) : (ac_wd q cI cZ σ).set 18 (q 18, .inl (cI, 10, .inl f)) = ac_wd q cI cZ (ac_sa σ 18 f) := rfl
theorem ac_ast_19 (q : Nat → Nat) (cI cZ : ClassId) (σ : SS) (f : Nat → Int32) : (ac_wd q cI cZ σ).set 19 (q 19, .inl (cI, 10, .inl f)) = ac_wd q cI cZ (ac_sa σ 19 f) := rfl
theorem ac_ast_20 (q : Nat → Nat) (cI cZ : ClassId) (σ : SS) (f : Nat → Int32) : (ac_wd q cI cZ σ).set 20 (q 20, .inl (cI, 10, .inl f)) = ac_wd q cI cZ (ac_sa σ 20 f) := rfl
theorem ac_ast_21 (q : Nat → Nat) (cI cZ : ClassId) (σ : SS) (f : Nat → Int32) : (ac_wd q cI cZ σ).set 21 (q 21, .inl (cI, 24, .inl f)) = ac_wd q cI cZ (ac_sa σ 21 f) := rfl
theorem ac_ast_22 (q : Nat → Nat) (cI cZ : ClassId) (σ : SS) (f : Nat → Int32) : (ac_wd q cI cZ σ).set 22 (q 22, .inl (cI, 24, .inl f)) = ac_wd q cI cZ (ac_sa σ 22 f) := rfl
theorem ac_ast_23 (q : Nat → Nat) (cI cZ : ClassId) (σ : SS) (f : Nat → Int32) : (ac_wd q cI cZ σ).set 23 (q 23, .inl (cI, 24, .inl f)) = ac_wd q cI cZ (ac_sa σ 23 f) := rfl
theorem ac_ast_24 (q : Nat → Nat) (cI cZ : ClassId) (σ : SS) (f : Nat → Int32) : (ac_wd q cI cZ σ).set 24 (q 24, .inl (cI, 6, .inl f)) = ac_wd q cI cZ (ac_sa σ 24 f) := rfl
theorem ac_ast_25 (q : Nat → Nat) (cI cZ : ClassId) (σ : SS) (f : Nat → Int32) : (ac_wd q cI cZ σ).set 25 (q 25, .inl (cI, 6, .inl f)) = ac_wd q cI cZ (ac_sa σ 25 f) := rfl
theorem ac_ast_26 (q : Nat → Nat) (cI cZ : ClassId) (σ : SS) (f : Nat → Int32) : (ac_wd q cI cZ σ).set 26 (q 26, .inl (cI, 4096, .inl f)) = ac_wd q cI cZ (ac_sa σ 26 f) := rfl
theorem ac_ast_27 (q : Nat → Nat) (cI cZ : ClassId) (σ : SS) (f : Nat → Int32) : (ac_wd q cI cZ σ).set 27 (q 27, .inl (cI, 10, .inl f)) = ac_wd q cI cZ (ac_sa σ 27 f) := rfl
theorem ac_ast_28 (q : Nat → Nat) (cI cZ : ClassId) (σ : SS) (f : Nat → Int32) : (ac_wd q cI cZ σ).set 28 (q 28, .inl (cI, 10, .inl f)) = ac_wd q cI cZ (ac_sa σ 28 f) := rfl
theorem ac_ast_29 (q : Nat → Nat) (cI cZ : ClassId) (σ : SS) (f : Nat → Int32) : (ac_wd q cI cZ σ).set 29 (q 29, .inl (cI, 1024, .inl f)) = ac_wd q cI cZ (ac_sa σ 29 f) := rfl
theorem ac_ast_31 (q : Nat → Nat) (cI cZ : ClassId) (σ : SS) (f : Nat → Int32) : (ac_wd q cI cZ σ).set 31 (q 31, .inl (cI, 100, .inl f)) = ac_wd q cI cZ (ac_sa σ 31 f) := rfl
theorem ac_ast_32 (q : Nat → Nat) (cI cZ : ClassId) (σ : SS) (f : Nat → Int32) : (ac_wd q cI cZ σ).set 32 (q 32, .inl (cI, 10, .inl f)) = ac_wd q cI cZ (ac_sa σ 32 f) := rfl
theorem ac_ast_33 (q : Nat → Nat) (cI cZ : ClassId) (σ : SS) (f : Nat → Int32) : (ac_wd q cI cZ σ).set 33 (q 33, .inl (cI, 10, .inl f)) = ac_wd q cI cZ (ac_sa σ 33 f) := rfl
theorem ac_ast_34 (q : Nat → Nat) (cI cZ : ClassId) (σ : SS) (f : Nat → Int32) : (ac_wd q cI cZ σ).set 34 (q 34, .inl (cI, 10, .inl f)) = ac_wd q cI cZ (ac_sa σ 34 f) := rfl
theorem ac_ast_35 (q : Nat → Nat) (cI cZ : ClassId) (σ : SS) (f : Nat → Int32) : (ac_wd q cI cZ σ).set 35 (q 35, .inl (cZ, 1024, .inl f)) = ac_wd q cI cZ (ac_sa σ 35 f) := rfl
theorem ac_ast_36 (q : Nat → Nat) (cI cZ : ClassId) (σ : SS) (f : Nat → Int32) : (ac_wd q cI cZ σ).set 36 (q 36, .inl (cZ, 10, .inl f)) = ac_wd q cI cZ (ac_sa σ 36 f) := rfl
theorem ac_ast_37 (q : Nat → Nat) (cI cZ : ClassId) (σ : SS) (f : Nat → Int32) : (ac_wd q cI cZ σ).set 37 (q 37, .inl (cI, 10, .inl f)) = ac_wd q cI cZ (ac_sa σ 37 f) := rfl
theorem ac_ast_38 (q : Nat → Nat) (cI cZ : ClassId) (σ : SS) (f : Nat → Int32) : (ac_wd q cI cZ σ).set 38 (q 38, .inl (cI, 10, .inl f)) = ac_wd q cI cZ (ac_sa σ 38 f) := rfl
theorem ac_ast_39 (q : Nat → Nat) (cI cZ : ClassId) (σ : SS) (f : Nat → Int32) : (ac_wd q cI cZ σ).set 39 (q 39, .inl (cI, 10, .inl f)) = ac_wd q cI cZ (ac_sa σ 39 f) := rfl
theorem ac_ast_40 (q : Nat → Nat) (cI cZ : ClassId) (σ : SS) (f : Nat → Int32) : (ac_wd q cI cZ σ).set 40 (q 40, .inl (cI, 10, .inl f)) = ac_wd q cI cZ (ac_sa σ 40 f) := rfl
theorem ac_ast_41 (q : Nat → Nat) (cI cZ : ClassId) (σ : SS) (f : Nat → Int32) : (ac_wd q cI cZ σ).set 41 (q 41, .inl (cI, 6, .inl f)) = ac_wd q cI cZ (ac_sa σ 41 f) := rfl
theorem ac_ast_42 (q : Nat → Nat) (cI cZ : ClassId) (σ : SS) (f : Nat → Int32) : (ac_wd q cI cZ σ).set 42 (q 42, .inl (cI, 24, .inl f)) = ac_wd q cI cZ (ac_sa σ 42 f) := rfl
theorem ac_ast_43 (q : Nat → Nat) (cI cZ : ClassId) (σ : SS) (f : Nat → Int32) : (ac_wd q cI cZ σ).set 43 (q 43, .inl (cI, 24, .inl f)) = ac_wd q cI cZ (ac_sa σ 43 f) := rfl
theorem ac_ast_44 (q : Nat → Nat) (cI cZ : ClassId) (σ : SS) (f : Nat → Int32) : (ac_wd q cI cZ σ).set 44 (q 44, .inl (cI, 24, .inl f)) = ac_wd q cI cZ (ac_sa σ 44 f) := rfl
theorem ac_ast_45 (q : Nat → Nat) (cI cZ : ClassId) (σ : SS) (f : Nat → Int32) : (ac_wd q cI cZ σ).set 45 (q 45, .inl (cI, 6, .inl f)) = ac_wd q cI cZ (ac_sa σ 45 f) := rfl
theorem ac_ast_46 (q : Nat → Nat) (cI cZ : ClassId) (σ : SS) (f : Nat → Int32) : (ac_wd q cI cZ σ).set 46 (q 46, .inl (cI, 6, .inl f)) = ac_wd q cI cZ (ac_sa σ 46 f) := rfl
theorem ac_ast_47 (q : Nat → Nat) (cI cZ : ClassId) (σ : SS) (f : Nat → Int32) : (ac_wd q cI cZ σ).set 47 (q 47, .inl (cI, 448, .inl f)) = ac_wd q cI cZ (ac_sa σ 47 f) := rfl
theorem ac_ast_48 (q : Nat → Nat) (cI cZ : ClassId) (σ : SS) (f : Nat → Int32) : (ac_wd q cI cZ σ).set 48 (q 48, .inl (cI, 10, .inl f)) = ac_wd q cI cZ (ac_sa σ 48 f) := rfl
theorem ac_ast_49 (q : Nat → Nat) (cI cZ : ClassId) (σ : SS) (f : Nat → Int32) : (ac_wd q cI cZ σ).set 49 (q 49, .inl (cI, 10, .inl f)) = ac_wd q cI cZ (ac_sa σ 49 f) := rfl
theorem ac_ast_50 (q : Nat → Nat) (cI cZ : ClassId) (σ : SS) (f : Nat → Int32) : (ac_wd q cI cZ σ).set 50 (q 50, .inl (cI, 1024, .inl f)) = ac_wd q cI cZ (ac_sa σ 50 f) := rfl
theorem ac_ast_51 (q : Nat → Nat) (cI cZ : ClassId) (σ : SS) (f : Nat → Int32) : (ac_wd q cI cZ σ).set 51 (q 51, .inl (cI, 16, .inl f)) = ac_wd q cI cZ (ac_sa σ 51 f) := rfl
end
section
/-! Words that hold wherever the tables do, and those of nest mates; contracts; calls; fields and rows. -/
def lw_good : List Cond := lw_tbl.filter goodWord
theorem lw_good_ok : ∀ w ∈ lw_good, (w.onTables && w.keeps) = true ∨ ∃ ty, w = .arrayClass ty := fun w h => good_of_word (List.mem_filter.mp h).2
theorem lw_in {w : Cond} (i : Nat) (h : lw_tbl[i]? = some w) (g : goodWord w = true) : w ∈ lw_good := List.mem_filter.mpr ⟨List.mem_of_getElem? h, g⟩
theorem lw_goodIn : GoodIn lw_good lw_good := fun w h => ⟨h, lw_good_ok w h⟩
def lw_isNest : Cond → Bool
  | .methodLinkNest .. => true
  | .fieldLinkNest .. => true
  | _ => false
def lw_nest : List Cond := lw_tbl.filter lw_isNest
theorem lw_nin {w : Cond} (i : Nat) (h : lw_tbl[i]? = some w) (g : lw_isNest w = true) : w ∈ lw_nest := List.mem_filter.mpr ⟨List.mem_of_getElem? h, g⟩
def ac_N (U : State) : Prop := ∀ w ∈ lw_nest, va_Nw w U
theorem ac_N.warm {s U : State} (hW : s.WarmedH U.vm) (h : ac_N s) : ac_N U := by
  intro w hw
  have h1 := h w hw
  have h2 := (List.mem_filter.mp hw).2
  cases w <;> first | exact va_Nw.warmM hW h1 | exact va_Nw.warmF hW h1 | exact absurd (show false = true from h2) Bool.false_ne_true
theorem ac_N.same {u U : State} (hvm : u.vm = U.vm) (h : ac_N u) : ac_N U := by
  intro w hw
  have h1 := h w hw
  have h2 := (List.mem_filter.mp hw).2
  cases w <;> first | exact absurd (show false = true from h2) Bool.false_ne_true | exact va_Nw.same rfl hvm h1
theorem ac_N.use {U : State} (h : ac_N U) {A : Array Value} : ∀ w ∈ lw_nest, w.before A U = true := by
  intro w hw
  have h1 := h w hw
  have h2 := (List.mem_filter.mp hw).2
  cases w <;> first | exact absurd (show false = true from h2) Bool.false_ne_true | exact va_Nw.use rfl h1
end
section
/-! A machine's whole setting as one value, and what it is to stand at a pc with pure locals, stack and state. -/
abbrev EV : Type := (Program × Launch × Env × Room × State) × (MethodId × Array Value × List Frame × Method × Code) × (va_G × (Nat → Nat) × ClassId × ClassId × Nat) × ((Nat → Prop) × (State → Prop) × Nat × Nat × Nat)
abbrev e_p (E : EV) : Program := E.1.1
abbrev e_l (E : EV) : Launch := E.1.2.1
abbrev e_e (E : EV) : Env := E.1.2.2.1
abbrev e_R (E : EV) : Room := E.1.2.2.2.1
abbrev e_s (E : EV) : State := E.1.2.2.2.2
abbrev e_m (E : EV) : MethodId := E.2.1.1
abbrev e_a (E : EV) : Array Value := E.2.1.2.1
abbrev e_b (E : EV) : List Frame := E.2.1.2.2.1
abbrev e_t (E : EV) : Method := E.2.1.2.2.2.1
abbrev e_c (E : EV) : Code := E.2.1.2.2.2.2
abbrev e_D (E : EV) : va_G := E.2.2.1.1
abbrev e_q (E : EV) : Nat → Nat := E.2.2.1.2.1
abbrev e_cI (E : EV) : ClassId := E.2.2.1.2.2.1
abbrev e_cZ (E : EV) : ClassId := E.2.2.1.2.2.2.1
abbrev e_sh (E : EV) : Nat := E.2.2.1.2.2.2.2
abbrev e_A (E : EV) : Nat → Prop := E.2.2.2.1
abbrev e_Q (E : EV) : State → Prop := E.2.2.2.2.1
abbrev e_kc (E : EV) : Nat := E.2.2.2.2.2.1
abbrev e_ks (E : EV) : Nat := E.2.2.2.2.2.2.1
abbrev e_n (E : EV) : Nat := E.2.2.2.2.2.2.2
def ac_shut (j : Nat) : Int32 := ([0, 0, 0, 0, 0, 0, 1, 2, 4, 8, 16, 32, 3, 7, 14, 28, 56, 48] : List Int32).getD j 0
abbrev ac_tys (cI cZ : ClassId) : List (ClassId × FieldType) := [(cI, .int), (cZ, .boolean)]
def AT (E : EV) (pc : Nat) (lv : List (Nat × Value)) (st : List Value) (σ : SS) : Prop :=
  ∀ (H : Heap) (locs : List Loc) (ls : Array Slot), va_P (e_D E) vwCl (ac_wd (e_q E) (e_cI E) (e_cZ E) σ) H → va_D (e_A E) (ac_wd (e_q E) (e_cI E) (e_cZ E) σ) → va_S (e_A E) (e_s E).heap H locs → lv_has ls (e_n E) lv →
    W (e_p E) (e_l E) (e_e E) (e_R E) (e_s E) (e_m E) (e_a E) (e_b E) (e_t E) (e_c E) H locs (e_kc E) (e_ks E) (e_Q E) (F0 (e_m E) pc ls st)
/-- what stays as it is through a method -/
def CX (E : EV) (cc : ByteArray) (own : String) (h : Nat) : Prop :=
  (e_p E).tables.exec = Jvm.exec ∧ (e_c E).code = cc ∧ (e_c E).maxLocals = e_n E ∧ (e_s E).vm.findClass own = some (e_m E).cls ∧ ((∀ w ∈ lw_good, w.before (e_a E) (e_s E) = true) ∧ ac_N (e_s E)) ∧ va_K (e_D E) vwCl (ac_tys (e_cI E) (e_cZ E)) (e_s E) ∧ (∀ x : Nat, (e_s E).heap.size ≤ x → e_A E x) ∧ (e_t E).locks = false ∧
  va_Z "AirClock" "SHUT" "[I" (.ref (e_sh E)) (e_A E) (e_s E) (e_s E).heap ∧ va_T .int (e_sh E) 18 (fun j => .int (ac_shut j)) (e_A E) (e_s E) (e_s E).heap ∧ (h ≤ (e_R E).frames ∧ 64 * h ≤ (e_R E).locals) ∧ e_kc E ≤ (e_R E).cells ∧ e_ks E ≤ (e_R E).slots
section Rules
variable {E : EV} {cc : ByteArray} {own : String} {h pc : Nat} {lv : List (Nat × Value)} {st : List Value} {σ : SS}
theorem CX.exec (C : CX E cc own h) : (e_p E).tables.exec = Jvm.exec := C.1
theorem CX.byt (C : CX E cc own h) : (e_c E).code = cc := C.2.1
theorem CX.mxl (C : CX E cc own h) : (e_c E).maxLocals = e_n E := C.2.2.1
theorem CX.ow (C : CX E cc own h) : (e_s E).vm.findClass own = some (e_m E).cls := C.2.2.2.1
theorem CX.hts (C : CX E cc own h) : ∀ w ∈ lw_good, w.before (e_a E) (e_s E) = true := C.2.2.2.2.1.1
theorem CX.N (C : CX E cc own h) : ac_N (e_s E) := C.2.2.2.2.1.2
theorem CX.K (C : CX E cc own h) : va_K (e_D E) vwCl (ac_tys (e_cI E) (e_cZ E)) (e_s E) := C.2.2.2.2.2.1
theorem CX.A (C : CX E cc own h) : ∀ x : Nat, (e_s E).heap.size ≤ x → e_A E x := C.2.2.2.2.2.2.1
theorem CX.lck (C : CX E cc own h) : (e_t E).locks = false := C.2.2.2.2.2.2.2.1
theorem CX.Z (C : CX E cc own h) : va_Z "AirClock" "SHUT" "[I" (.ref (e_sh E)) (e_A E) (e_s E) (e_s E).heap := C.2.2.2.2.2.2.2.2.1
theorem CX.T (C : CX E cc own h) : va_T .int (e_sh E) 18 (fun j => .int (ac_shut j)) (e_A E) (e_s E) (e_s E).heap := C.2.2.2.2.2.2.2.2.2.1
theorem CX.R (C : CX E cc own h) : h ≤ (e_R E).frames ∧ 64 * h ≤ (e_R E).locals := C.2.2.2.2.2.2.2.2.2.2.1
theorem CX.cs (C : CX E cc own h) : e_kc E ≤ (e_R E).cells ∧ e_ks E ≤ (e_R E).slots := C.2.2.2.2.2.2.2.2.2.2.2
/-- other locals listed, in another order -/
theorem at_sub {lv' : List (Nat × Value)} (ks : List Nat) (hl : lv_pick lv ks = lv') (k : AT E pc lv' st σ) : AT E pc lv st σ := fun H locs ls hP hD hS h => k H locs ls hP hD hS (lv_sub h ks hl)
theorem at_iconst (C : CX E cc own h) {n : Int} (v : Int32) (hd : decode cc pc = .ok (.iconst n, 1)) (hv : Int32.ofInt n = v) (k : AT E (pc + 1) lv (.int v :: st) σ) : AT E pc lv st σ := fun H locs ls hP hD hS h => lv_iconst C.exec C.byt hd hv (k H locs ls hP hD hS h)
theorem at_bipush (C : CX E cc own h) {n : Int} (v : Int32) (hd : decode cc pc = .ok (.bipush n, 2)) (hv : (Int8.ofInt n).toInt32 = v) (k : AT E (pc + 2) lv (.int v :: st) σ) : AT E pc lv st σ := fun H locs ls hP hD hS h => lv_bipush C.exec C.byt hd hv (k H locs ls hP hD hS h)
theorem at_sipush (C : CX E cc own h) {n : Int} (v : Int32) (hd : decode cc pc = .ok (.sipush n, 3)) (hv : (Int16.ofInt n).toInt32 = v) (k : AT E (pc + 3) lv (.int v :: st) σ) : AT E pc lv st σ := fun H locs ls hP hD hS h => lv_sipush C.exec C.byt hd hv (k H locs ls hP hD hS h)
theorem at_lconst (C : CX E cc own h) {n : Fin 2} (v : Int64) (hd : decode cc pc = .ok (.lconst n, 1)) (hv : Int64.ofNat (n : Nat) = v) (k : AT E (pc + 1) lv (.long v :: st) σ) : AT E pc lv st σ := fun H locs ls hP hD hS h => lv_lconst C.exec C.byt hd hv (k H locs ls hP hD hS h)
theorem at_ldc (C : CX E cc own h) {i : Nat} (v : Int32) (hd : decode cc pc = .ok (.ldc i, 2)) (hw : Cond.constant own i v ∈ lw_good) (k : AT E (pc + 2) lv (.int v :: st) σ) : AT E pc lv st σ := fun H locs ls hP hD hS h => lv_ldc C.exec C.byt C.ow (C.hts _ hw) hd (k H locs ls hP hD hS h)
theorem at_ldcw (C : CX E cc own h) {i : Nat} (v : Int32) (hd : decode cc pc = .ok (.ldc_w i, 3)) (hw : Cond.constant own i v ∈ lw_good) (k : AT E (pc + 3) lv (.int v :: st) σ) : AT E pc lv st σ := fun H locs ls hP hD hS h => lv_ldcw C.exec C.byt C.ow (C.hts _ hw) hd (k H locs ls hP hD hS h)
theorem at_ldc2 (C : CX E cc own h) {i : Nat} (v : Int64) (hd : decode cc pc = .ok (.ldc2_w i, 3)) (hw : Cond.constantLong own i v ∈ lw_good) (k : AT E (pc + 3) lv (.long v :: st) σ) : AT E pc lv st σ := fun H locs ls hP hD hS h => lv_ldc2 C.exec C.byt C.ow (C.hts _ hw) hd (k H locs ls hP hD hS h)
theorem at_iload_n (C : CX E cc own h) {n : Fin 4} {x : Int32} (j : Nat) (hd : decode cc pc = .ok (.iload_n n, 1)) (hk : lv[j]? = some ((n : Nat), .int x)) (k : AT E (pc + 1) lv (.int x :: st) σ) : AT E pc lv st σ := fun H locs ls hP hD hS h => lv_iload_n C.exec C.byt hd rfl (lv_at h j hk) (k H locs ls hP hD hS h)
theorem at_iload (C : CX E cc own h) {n : Nat} {x : Int32} (j : Nat) (hd : decode cc pc = .ok (.iload n, 2)) (hk : lv[j]? = some (n, .int x)) (k : AT E (pc + 2) lv (.int x :: st) σ) : AT E pc lv st σ := fun H locs ls hP hD hS h => lv_iload C.exec C.byt hd (lv_at h j hk) (k H locs ls hP hD hS h)
theorem at_lload_n (C : CX E cc own h) {n : Fin 4} {x : Int64} (j : Nat) (hd : decode cc pc = .ok (.lload_n n, 1)) (hk : lv[j]? = some ((n : Nat), .long x)) (k : AT E (pc + 1) lv (.long x :: st) σ) : AT E pc lv st σ := fun H locs ls hP hD hS h => lv_lload_n C.exec C.byt hd rfl (lv_at h j hk) (k H locs ls hP hD hS h)
theorem at_lload (C : CX E cc own h) {n : Nat} {x : Int64} (j : Nat) (hd : decode cc pc = .ok (.lload n, 2)) (hk : lv[j]? = some (n, .long x)) (k : AT E (pc + 2) lv (.long x :: st) σ) : AT E pc lv st σ := fun H locs ls hP hD hS h => lv_lload C.exec C.byt hd (lv_at h j hk) (k H locs ls hP hD hS h)
theorem at_aload_n (C : CX E cc own h) {n : Fin 4} {x : Nat} (j : Nat) (hd : decode cc pc = .ok (.aload_n n, 1)) (hk : lv[j]? = some ((n : Nat), .ref x)) (k : AT E (pc + 1) lv (.ref x :: st) σ) : AT E pc lv st σ := fun H locs ls hP hD hS h => lv_aload_n C.exec C.byt hd rfl (lv_at h j hk) (k H locs ls hP hD hS h)
theorem at_aload (C : CX E cc own h) {n : Nat} {x : Nat} (j : Nat) (hd : decode cc pc = .ok (.aload n, 2)) (hk : lv[j]? = some (n, .ref x)) (k : AT E (pc + 2) lv (.ref x :: st) σ) : AT E pc lv st σ := fun H locs ls hP hD hS h => lv_aload C.exec C.byt hd (lv_at h j hk) (k H locs ls hP hD hS h)
theorem at_istore_n (C : CX E cc own h) {n : Fin 4} {x : Int32} {lv' : List (Nat × Value)} (hd : decode cc pc = .ok (.istore_n n, 1)) (hn : (n : Nat) < e_n E) (hl : ((n : Nat), Value.int x) :: lv.filter (fun q => !(q.1 == (n : Nat)) && !(q.1 + 1 == (n : Nat) && q.2.category == 2)) = lv') (k : AT E (pc + 1) lv' st σ) : AT E pc lv (.int x :: st) σ := fun H locs ls hP hD hS h => lv_istore_n C.exec C.byt hd rfl h hn hl (fun ls' h' => k H locs ls' hP hD hS h')
theorem at_istore (C : CX E cc own h) {n : Nat} {x : Int32} {lv' : List (Nat × Value)} (hd : decode cc pc = .ok (.istore n, 2)) (hn : n < e_n E) (hl : (n, Value.int x) :: lv.filter (fun q => !(q.1 == n) && !(q.1 + 1 == n && q.2.category == 2)) = lv') (k : AT E (pc + 2) lv' st σ) : AT E pc lv (.int x :: st) σ := fun H locs ls hP hD hS h => lv_istore C.exec C.byt hd h hn hl (fun ls' h' => k H locs ls' hP hD hS h')
theorem at_lstore_n (C : CX E cc own h) {n : Fin 4} {x : Int64} {lv' : List (Nat × Value)} (hd : decode cc pc = .ok (.lstore_n n, 1)) (hn : (n : Nat) + 1 < e_n E) (hl : ((n : Nat), Value.long x) :: lv.filter (fun q => !(q.1 == (n : Nat)) && (!(q.1 == (n : Nat) + 1) && !(q.1 + 1 == (n : Nat) && q.2.category == 2))) = lv') (k : AT E (pc + 1) lv' st σ) : AT E pc lv (.long x :: st) σ := fun H locs ls hP hD hS h => lv_lstore_n C.exec C.byt hd rfl h hn hl (fun ls' h' => k H locs ls' hP hD hS h')
theorem at_lstore (C : CX E cc own h) {n : Nat} {x : Int64} {lv' : List (Nat × Value)} (hd : decode cc pc = .ok (.lstore n, 2)) (hn : n + 1 < e_n E) (hl : (n, Value.long x) :: lv.filter (fun q => !(q.1 == n) && (!(q.1 == n + 1) && !(q.1 + 1 == n && q.2.category == 2))) = lv') (k : AT E (pc + 2) lv' st σ) : AT E pc lv (.long x :: st) σ := fun H locs ls hP hD hS h => lv_lstore C.exec C.byt hd h hn hl (fun ls' h' => k H locs ls' hP hD hS h')
theorem at_astore_n (C : CX E cc own h) {n : Fin 4} {x : Nat} {lv' : List (Nat × Value)} (hd : decode cc pc = .ok (.astore_n n, 1)) (hn : (n : Nat) < e_n E) (hl : ((n : Nat), Value.ref x) :: lv.filter (fun q => !(q.1 == (n : Nat)) && !(q.1 + 1 == (n : Nat) && q.2.category == 2)) = lv') (k : AT E (pc + 1) lv' st σ) : AT E pc lv (.ref x :: st) σ := fun H locs ls hP hD hS h => lv_astore_n C.exec C.byt hd rfl h hn hl (fun ls' h' => k H locs ls' hP hD hS h')
theorem at_astore (C : CX E cc own h) {n : Nat} {x : Nat} {lv' : List (Nat × Value)} (hd : decode cc pc = .ok (.astore n, 2)) (hn : n < e_n E) (hl : (n, Value.ref x) :: lv.filter (fun q => !(q.1 == n) && !(q.1 + 1 == n && q.2.category == 2)) = lv') (k : AT E (pc + 2) lv' st σ) : AT E pc lv (.ref x :: st) σ := fun H locs ls hP hD hS h => lv_astore C.exec C.byt hd h hn hl (fun ls' h' => k H locs ls' hP hD hS h')
theorem at_iinc (C : CX E cc own h) {n : Nat} {z : Int} {x v : Int32} {lv' : List (Nat × Value)} (j : Nat) (hd : decode cc pc = .ok (.iinc n z, 3)) (hk : lv[j]? = some (n, .int x)) (hv : x + Int32.ofInt z = v) (hn : n < e_n E) (hl : (n, Value.int v) :: lv.filter (fun q => !(q.1 == n) && !(q.1 + 1 == n && q.2.category == 2)) = lv') (k : AT E (pc + 3) lv' st σ) : AT E pc lv st σ := fun H locs ls hP hD hS h => lv_iinc C.exec C.byt hd h hk hv hn hl (fun ls' h' => k H locs ls' hP hD hS h')
theorem at_iadd (C : CX E cc own h) {x y : Int32} (hd : decode cc pc = .ok (.iadd, 1)) (k : AT E (pc + 1) lv (.int (x + y) :: st) σ) : AT E pc lv (.int y :: .int x :: st) σ := fun H locs ls hP hD hS h => lv_iadd C.exec C.byt hd (k H locs ls hP hD hS h)
theorem at_isub (C : CX E cc own h) {x y : Int32} (hd : decode cc pc = .ok (.isub, 1)) (k : AT E (pc + 1) lv (.int (x - y) :: st) σ) : AT E pc lv (.int y :: .int x :: st) σ := fun H locs ls hP hD hS h => lv_isub C.exec C.byt hd (k H locs ls hP hD hS h)
theorem at_imul (C : CX E cc own h) {x y : Int32} (hd : decode cc pc = .ok (.imul, 1)) (k : AT E (pc + 1) lv (.int (x * y) :: st) σ) : AT E pc lv (.int y :: .int x :: st) σ := fun H locs ls hP hD hS h => lv_imul C.exec C.byt hd (k H locs ls hP hD hS h)
theorem at_iand (C : CX E cc own h) {x y : Int32} (hd : decode cc pc = .ok (.iand, 1)) (k : AT E (pc + 1) lv (.int (x &&& y) :: st) σ) : AT E pc lv (.int y :: .int x :: st) σ := fun H locs ls hP hD hS h => lv_iand C.exec C.byt hd (k H locs ls hP hD hS h)
theorem at_ior (C : CX E cc own h) {x y : Int32} (hd : decode cc pc = .ok (.ior, 1)) (k : AT E (pc + 1) lv (.int (x ||| y) :: st) σ) : AT E pc lv (.int y :: .int x :: st) σ := fun H locs ls hP hD hS h => lv_ior C.exec C.byt hd (k H locs ls hP hD hS h)
theorem at_ixor (C : CX E cc own h) {x y : Int32} (hd : decode cc pc = .ok (.ixor, 1)) (k : AT E (pc + 1) lv (.int (x ^^^ y) :: st) σ) : AT E pc lv (.int y :: .int x :: st) σ := fun H locs ls hP hD hS h => lv_ixor C.exec C.byt hd (k H locs ls hP hD hS h)
theorem at_idiv (C : CX E cc own h) {x y : Int32} (hd : decode cc pc = .ok (.idiv, 1)) (hne : ¬ y = 0) (k : AT E (pc + 1) lv (.int (x / y) :: st) σ) : AT E pc lv (.int y :: .int x :: st) σ := fun H locs ls hP hD hS h => lv_idiv C.exec C.byt hd hne (k H locs ls hP hD hS h)
theorem at_ishl (C : CX E cc own h) {x y : Int32} (hd : decode cc pc = .ok (.ishl, 1)) (k : AT E (pc + 1) lv (.int (x <<< (y &&& 31)) :: st) σ) : AT E pc lv (.int y :: .int x :: st) σ := fun H locs ls hP hD hS h => lv_ishl C.exec C.byt hd (k H locs ls hP hD hS h)
theorem at_ishr (C : CX E cc own h) {x y : Int32} (hd : decode cc pc = .ok (.ishr, 1)) (k : AT E (pc + 1) lv (.int (x >>> (y &&& 31)) :: st) σ) : AT E pc lv (.int y :: .int x :: st) σ := fun H locs ls hP hD hS h => lv_ishr C.exec C.byt hd (k H locs ls hP hD hS h)
def ac_ushr (x y : Int32) : Int32 := (x.toUInt32 >>> (y.toUInt32 &&& Int32.toUInt32 31)).toInt32
theorem at_iushr (C : CX E cc own h) {x y : Int32} (hd : decode cc pc = .ok (.iushr, 1)) (k : AT E (pc + 1) lv (.int (ac_ushr x y) :: st) σ) : AT E pc lv (.int y :: .int x :: st) σ := fun H locs ls hP hD hS h => lv_iushr C.exec C.byt hd rfl (k H locs ls hP hD hS h)
theorem at_i2l (C : CX E cc own h) {x : Int32} (hd : decode cc pc = .ok (.i2l, 1)) (k : AT E (pc + 1) lv (.long x.toInt64 :: st) σ) : AT E pc lv (.int x :: st) σ := fun H locs ls hP hD hS h => lv_i2l C.exec C.byt hd rfl (k H locs ls hP hD hS h)
theorem at_ladd (C : CX E cc own h) {x y : Int64} (hd : decode cc pc = .ok (.ladd, 1)) (k : AT E (pc + 1) lv (.long (x + y) :: st) σ) : AT E pc lv (.long y :: .long x :: st) σ := fun H locs ls hP hD hS h => lv_ladd C.exec C.byt hd (k H locs ls hP hD hS h)
theorem at_lmul (C : CX E cc own h) {x y : Int64} (hd : decode cc pc = .ok (.lmul, 1)) (k : AT E (pc + 1) lv (.long (x * y) :: st) σ) : AT E pc lv (.long y :: .long x :: st) σ := fun H locs ls hP hD hS h => lv_lmul C.exec C.byt hd (k H locs ls hP hD hS h)
theorem at_dup (C : CX E cc own h) {v : Value} (hd : decode cc pc = .ok (.dup, 1)) (hc : v.category = 1) (k : AT E (pc + 1) lv (v :: v :: st) σ) : AT E pc lv (v :: st) σ := fun H locs ls hP hD hS h => lv_dup C.exec C.byt hd hc (k H locs ls hP hD hS h)
theorem at_pop (C : CX E cc own h) {v : Value} (hd : decode cc pc = .ok (.pop, 1)) (hc : v.category = 1) (k : AT E (pc + 1) lv st σ) : AT E pc lv (v :: st) σ := fun H locs ls hP hD hS h => lv_pop C.exec C.byt hd hc (k H locs ls hP hD hS h)
theorem at_goto (C : CX E cc own h) {off : Int} (tgt : Nat) (hd : decode cc pc = .ok (.goto off, 3)) (ht : (pc : Int) + off = (tgt : Int)) (k : AT E tgt lv st σ) : AT E pc lv st σ := fun H locs ls hP hD hS h => lv_goto C.exec C.byt hd ht (k H locs ls hP hD hS h)
theorem at_if_eq (C : CX E cc own h) {x : Int32} {off : Int} (tgt : Nat) (hd : decode cc pc = .ok (.ifCond .eq off, 3)) (ht : (pc : Int) + off = (tgt : Int)) (kt : x = 0 → AT E tgt lv st σ) (kf : ¬ x = 0 → AT E (pc + 3) lv st σ) : AT E pc lv (.int x :: st) σ := fun H locs ls hP hD hS h => lv_if_eq C.exec C.byt hd ht (fun z => kt z H locs ls hP hD hS h) (fun z => kf z H locs ls hP hD hS h)
theorem at_if_ne (C : CX E cc own h) {x : Int32} {off : Int} (tgt : Nat) (hd : decode cc pc = .ok (.ifCond .ne off, 3)) (ht : (pc : Int) + off = (tgt : Int)) (kt : ¬ x = 0 → AT E tgt lv st σ) (kf : x = 0 → AT E (pc + 3) lv st σ) : AT E pc lv (.int x :: st) σ := fun H locs ls hP hD hS h => lv_if_ne C.exec C.byt hd ht (fun z => kt z H locs ls hP hD hS h) (fun z => kf (by first | exact z | exact Classical.not_not.mp z) H locs ls hP hD hS h)
theorem at_if_lt (C : CX E cc own h) {x : Int32} {off : Int} (tgt : Nat) (hd : decode cc pc = .ok (.ifCond .lt off, 3)) (ht : (pc : Int) + off = (tgt : Int)) (kt : x < 0 → AT E tgt lv st σ) (kf : ¬ x < 0 → AT E (pc + 3) lv st σ) : AT E pc lv (.int x :: st) σ := fun H locs ls hP hD hS h => lv_if_lt C.exec C.byt hd ht (fun z => kt z H locs ls hP hD hS h) (fun z => kf z H locs ls hP hD hS h)
theorem at_if_ge (C : CX E cc own h) {x : Int32} {off : Int} (tgt : Nat) (hd : decode cc pc = .ok (.ifCond .ge off, 3)) (ht : (pc : Int) + off = (tgt : Int)) (kt : 0 ≤ x → AT E tgt lv st σ) (kf : ¬ 0 ≤ x → AT E (pc + 3) lv st σ) : AT E pc lv (.int x :: st) σ := fun H locs ls hP hD hS h => lv_if_ge C.exec C.byt hd ht (fun z => kt z H locs ls hP hD hS h) (fun z => kf z H locs ls hP hD hS h)
theorem at_if_gt (C : CX E cc own h) {x : Int32} {off : Int} (tgt : Nat) (hd : decode cc pc = .ok (.ifCond .gt off, 3)) (ht : (pc : Int) + off = (tgt : Int)) (kt : 0 < x → AT E tgt lv st σ) (kf : ¬ 0 < x → AT E (pc + 3) lv st σ) : AT E pc lv (.int x :: st) σ := fun H locs ls hP hD hS h => lv_if_gt C.exec C.byt hd ht (fun z => kt z H locs ls hP hD hS h) (fun z => kf z H locs ls hP hD hS h)
theorem at_if_le (C : CX E cc own h) {x : Int32} {off : Int} (tgt : Nat) (hd : decode cc pc = .ok (.ifCond .le off, 3)) (ht : (pc : Int) + off = (tgt : Int)) (kt : x ≤ 0 → AT E tgt lv st σ) (kf : ¬ x ≤ 0 → AT E (pc + 3) lv st σ) : AT E pc lv (.int x :: st) σ := fun H locs ls hP hD hS h => lv_if_le C.exec C.byt hd ht (fun z => kt z H locs ls hP hD hS h) (fun z => kf z H locs ls hP hD hS h)
theorem at_icmp_eq (C : CX E cc own h) {x y : Int32} {off : Int} (tgt : Nat) (hd : decode cc pc = .ok (.if_icmp .eq off, 3)) (ht : (pc : Int) + off = (tgt : Int)) (kt : x = y → AT E tgt lv st σ) (kf : ¬ x = y → AT E (pc + 3) lv st σ) : AT E pc lv (.int y :: .int x :: st) σ := fun H locs ls hP hD hS h => lv_icmp_eq C.exec C.byt hd ht (fun z => kt z H locs ls hP hD hS h) (fun z => kf z H locs ls hP hD hS h)
theorem at_icmp_ne (C : CX E cc own h) {x y : Int32} {off : Int} (tgt : Nat) (hd : decode cc pc = .ok (.if_icmp .ne off, 3)) (ht : (pc : Int) + off = (tgt : Int)) (kt : ¬ x = y → AT E tgt lv st σ) (kf : x = y → AT E (pc + 3) lv st σ) : AT E pc lv (.int y :: .int x :: st) σ := fun H locs ls hP hD hS h => lv_icmp_ne C.exec C.byt hd ht (fun z => kt z H locs ls hP hD hS h) (fun z => kf (by first | exact z | exact Classical.not_not.mp z) H locs ls hP hD hS h)
theorem at_icmp_lt (C : CX E cc own h) {x y : Int32} {off : Int} (tgt : Nat) (hd : decode cc pc = .ok (.if_icmp .lt off, 3)) (ht : (pc : Int) + off = (tgt : Int)) (kt : x < y → AT E tgt lv st σ) (kf : ¬ x < y → AT E (pc + 3) lv st σ) : AT E pc lv (.int y :: .int x :: st) σ := fun H locs ls hP hD hS h => lv_icmp_lt C.exec C.byt hd ht (fun z => kt z H locs ls hP hD hS h) (fun z => kf z H locs ls hP hD hS h)
theorem at_icmp_ge (C : CX E cc own h) {x y : Int32} {off : Int} (tgt : Nat) (hd : decode cc pc = .ok (.if_icmp .ge off, 3)) (ht : (pc : Int) + off = (tgt : Int)) (kt : y ≤ x → AT E tgt lv st σ) (kf : ¬ y ≤ x → AT E (pc + 3) lv st σ) : AT E pc lv (.int y :: .int x :: st) σ := fun H locs ls hP hD hS h => lv_icmp_ge C.exec C.byt hd ht (fun z => kt z H locs ls hP hD hS h) (fun z => kf z H locs ls hP hD hS h)
theorem at_icmp_gt (C : CX E cc own h) {x y : Int32} {off : Int} (tgt : Nat) (hd : decode cc pc = .ok (.if_icmp .gt off, 3)) (ht : (pc : Int) + off = (tgt : Int)) (kt : y < x → AT E tgt lv st σ) (kf : ¬ y < x → AT E (pc + 3) lv st σ) : AT E pc lv (.int y :: .int x :: st) σ := fun H locs ls hP hD hS h => lv_icmp_gt C.exec C.byt hd ht (fun z => kt z H locs ls hP hD hS h) (fun z => kf z H locs ls hP hD hS h)
theorem at_icmp_le (C : CX E cc own h) {x y : Int32} {off : Int} (tgt : Nat) (hd : decode cc pc = .ok (.if_icmp .le off, 3)) (ht : (pc : Int) + off = (tgt : Int)) (kt : x ≤ y → AT E tgt lv st σ) (kf : ¬ x ≤ y → AT E (pc + 3) lv st σ) : AT E pc lv (.int y :: .int x :: st) σ := fun H locs ls hP hD hS h => lv_icmp_le C.exec C.byt hd ht (fun z => kt z H locs ls hP hD hS h) (fun z => kf z H locs ls hP hD hS h)
theorem at_tabIn (C : CX E cc own h) {dflt lo hi : Int} {offs : Array Int} {len : Nat} {x : Int32} {off : Int} (tgt : Nat) (hd : decode cc pc = .ok (.tableswitch dflt lo hi offs, len)) (h1 : ¬ x.toInt < lo) (h2 : ¬ hi < x.toInt) (ho : offs[(x.toInt - lo).toNat]? = some off) (ht : (pc : Int) + off = (tgt : Int)) (k : AT E tgt lv st σ) : AT E pc lv (.int x :: st) σ := fun H locs ls hP hD hS h => lv_tableIn C.exec C.byt hd h1 h2 ho ht (k H locs ls hP hD hS h)
theorem at_tabOut (C : CX E cc own h) {dflt lo hi : Int} {offs : Array Int} {len : Nat} {x : Int32} (tgt : Nat) (hd : decode cc pc = .ok (.tableswitch dflt lo hi offs, len)) (hh : x.toInt < lo ∨ hi < x.toInt) (ht : (pc : Int) + dflt = (tgt : Int)) (k : AT E tgt lv st σ) : AT E pc lv (.int x :: st) σ := fun H locs ls hP hD hS h => lv_tableOut C.exec C.byt hd hh ht (k H locs ls hP hD hS h)
theorem at_lcmp (C : CX E cc own h) {x y : Int64} (hd : decode cc pc = .ok (.lcmp, 1)) (k : AT E (pc + 1) lv (.int (lg_cmp x y) :: st) σ) : AT E pc lv (.long y :: .long x :: st) σ := fun H locs ls hP hD hS h => W.lcmp C.exec C.byt hd (k H locs ls hP hD hS h)
theorem at_dup2 (C : CX E cc own h) {v w : Value} (hd : decode cc pc = .ok (.dup2, 1)) (hc : v.category = 1) (hc2 : w.category = 1) (k : AT E (pc + 1) lv (v :: w :: v :: w :: st) σ) : AT E pc lv (v :: w :: st) σ := fun H locs ls hP hD hS h => lv_dup2_11 C.exec C.byt hd hc hc2 (k H locs ls hP hD hS h)
theorem at_pop2 (C : CX E cc own h) {v : Value} (hd : decode cc pc = .ok (.pop2, 1)) (hc : v.category = 2) (k : AT E (pc + 1) lv st σ) : AT E pc lv (v :: st) σ := fun H locs ls hP hD hS h => lv_pop2_2 C.exec C.byt hd hc (k H locs ls hP hD hS h)
theorem at_shut (C : CX E cc own h) {i : Nat} (hd : decode cc pc = .ok (.getstatic i, 3)) (hw : Cond.fieldLinkNest own i "AirClock" "SHUT" "[I" "AirClock" ∈ lw_nest) (k : AT E (pc + 3) lv (.ref (e_sh E) :: st) σ) : AT E pc lv st σ := fun H locs ls hP hD hS h => va_getsN C.exec C.byt C.Z hS C.ow (C.N.use _ hw) (fun _ h9 => h9) hd (k H locs ls hP hD hS h)
theorem at_shld (C : CX E cc own h) {i : Int32} (hin : vp_in i 18) (hd : decode cc pc = .ok (.iaload, 1)) (k : AT E (pc + 1) lv (.int (ac_shut i.toNatClampNeg) :: st) σ) : AT E pc lv (.int i :: .ref (e_sh E) :: st) σ := fun H locs ls hP hD hS h => va_ti C.exec C.byt C.T hS hin rfl hd (k H locs ls hP hD hS h)
/-- fields -/
theorem at_get (C : CX E cc own h) {c ci k i : Nat} {ref Cn : String} {T : u_T} {N : Nat} {fs : List Value} {v : Value} (he : (ac_wd (e_q E) (e_cI E) (e_cZ E) σ)[c]? = some (e_q E c, .inr (ci, fs))) (hc : vwCl[ci]? = some (Cn, T, N)) (hin : ∀ w ∈ u_ws Cn T N, w ∈ lw_good) (hk : k < N) (hw : Cond.fieldLink own i ref (T k).2.1 (T k).2.2.1 ∈ lw_good) (hr : ref = (T k).1) (hv : fs[k]? = some v) (hd : decode cc pc = .ok (.getfield i, 3)) (kk : AT E (pc + 3) lv (v :: st) σ) : AT E pc lv (.ref (e_q E c) :: st) σ := fun H locs ls hP hD hS h => va_get C.exec C.byt C.hts hin C.ow C.K hP c he hc k hk (C.hts _ hw) (fun _ h9 => by rw [hr]; exact h9) hv hd (kk H locs ls hP hD hS h)
theorem at_put (C : CX E cc own h) {c ci k i : Nat} {ref Cn : String} {T : u_T} {N : Nat} {fs : List Value} {v : Value} {ty0 : Nat → FieldType} {σ' : SS} (hty : ∀ k, k < N → parseFieldDescriptor (T k).2.2.1 = some (ty0 k)) (hnm : ∀ a, a < N → ∀ b, b < N → a ≠ b → (T a).2.1 ≠ (T b).2.1) (he : (ac_wd (e_q E) (e_cI E) (e_cZ E) σ)[c]? = some (e_q E c, .inr (ci, fs))) (hc : vwCl[ci]? = some (Cn, T, N)) (hin : ∀ w ∈ u_ws Cn T N, w ∈ lw_good) (hk : k < N) (hw : Cond.fieldLink own i ref (T k).2.1 (T k).2.2.1 ∈ lw_good) (hr : ref = (T k).1) (hfin : (T k).2.2.2 = false) (hn : narrow (ty0 k) v = v) (hfit : fits (ty0 k) v = true) (hl : k < fs.length) (hs : (ac_wd (e_q E) (e_cI E) (e_cZ E) σ).set c (e_q E c, .inr (ci, fs.set k v)) = ac_wd (e_q E) (e_cI E) (e_cZ E) σ') (hd : decode cc pc = .ok (.putfield i, 3)) (kk : AT E (pc + 3) lv st σ') : AT E pc lv (v :: .ref (e_q E c) :: st) σ := fun H locs ls hP hD hS h => va_put C.exec C.byt C.hts hin ty0 hty hnm C.ow C.K hP hD hS c he hc k hk (C.hts _ hw) (fun _ h9 => by rw [hr]; exact h9) hfin (hty k hk) hn hfit hl hd (fun H1 locs1 hP1 hD1 hS1 => kk H1 locs1 ls (hs ▸ hP1) (hs ▸ hD1) hS1 h)
/-- rows -/
theorem at_iald (C : CX E cc own h) {c n : Nat} {i : Int32} (he : (ac_wd (e_q E) (e_cI E) (e_cZ E) σ)[c]? = some (e_q E c, .inl (e_cI E, n, .inl (ac_ga σ c)))) (hin : vp_in i n) (hd : decode cc pc = .ok (.iaload, 1)) (k : AT E (pc + 1) lv (.int (ac_ga σ c i.toNatClampNeg) :: st) σ) : AT E pc lv (.int i :: .ref (e_q E c) :: st) σ := fun H locs ls hP hD hS h => va_iald C.exec C.byt C.K hP c 0 he rfl hin hd (k H locs ls hP hD hS h)
theorem at_zald (C : CX E cc own h) {c n : Nat} {i : Int32} (he : (ac_wd (e_q E) (e_cI E) (e_cZ E) σ)[c]? = some (e_q E c, .inl (e_cZ E, n, .inl (ac_ga σ c)))) (hin : vp_in i n) (hd : decode cc pc = .ok (.baload, 1)) (k : AT E (pc + 1) lv (.int (ac_ga σ c i.toNatClampNeg) :: st) σ) : AT E pc lv (.int i :: .ref (e_q E c) :: st) σ := fun H locs ls hP hD hS h => va_zald C.exec C.byt C.K hP c 1 he rfl hin hd (k H locs ls hP hD hS h)
theorem at_iast (C : CX E cc own h) {c n : Nat} {i x : Int32} (he : (ac_wd (e_q E) (e_cI E) (e_cZ E) σ)[c]? = some (e_q E c, .inl (e_cI E, n, .inl (ac_ga σ c)))) (hs : ∀ f, (ac_wd (e_q E) (e_cI E) (e_cZ E) σ).set c (e_q E c, .inl (e_cI E, n, .inl f)) = ac_wd (e_q E) (e_cI E) (e_cZ E) (ac_sa σ c f)) (hin : vp_in i n) (hd : decode cc pc = .ok (.iastore, 1)) (k : AT E (pc + 1) lv st (ac_sa σ c (upd (ac_ga σ c) i.toNatClampNeg x))) : AT E pc lv (.int x :: .int i :: .ref (e_q E c) :: st) σ := fun H locs ls hP hD hS h => va_iast C.exec C.byt C.K hP hD hS c 0 he rfl hin hd (fun H1 locs1 hP1 hD1 hS1 => k H1 locs1 ls (hs _ ▸ hP1) (hs _ ▸ hD1) hS1 h)
theorem at_zast (C : CX E cc own h) {c n : Nat} {i x : Int32} (he : (ac_wd (e_q E) (e_cI E) (e_cZ E) σ)[c]? = some (e_q E c, .inl (e_cZ E, n, .inl (ac_ga σ c)))) (hs : ∀ f, (ac_wd (e_q E) (e_cI E) (e_cZ E) σ).set c (e_q E c, .inl (e_cZ E, n, .inl f)) = ac_wd (e_q E) (e_cI E) (e_cZ E) (ac_sa σ c f)) (hin : vp_in i n) (hd : decode cc pc = .ok (.bastore, 1)) (k : AT E (pc + 1) lv st (ac_sa σ c (upd (ac_ga σ c) i.toNatClampNeg (vp_nar .boolean x)))) : AT E pc lv (.int x :: .int i :: .ref (e_q E c) :: st) σ := fun H locs ls hP hD hS h => va_zast C.exec C.byt C.K hP hD hS c 1 he rfl hin hd (fun H1 locs1 hP1 hD1 hS1 => k H1 locs1 ls (hs _ ▸ hP1) (hs _ ▸ hD1) hS1 h)
theorem at_alen (C : CX E cc own h) {c n : Nat} {f : Nat → Int32} {cA : ClassId} {ty : FieldType} (j : Nat) (v : Int32) (he : (ac_wd (e_q E) (e_cI E) (e_cZ E) σ)[c]? = some (e_q E c, .inl (cA, n, .inl f))) (ht : (ac_tys (e_cI E) (e_cZ E))[j]? = some (cA, ty)) (hv : Int32.ofNat n = v) (hd : decode cc pc = .ok (.arraylength, 1)) (k : AT E (pc + 1) lv (.int v :: st) σ) : AT E pc lv (.ref (e_q E c) :: st) σ := fun H locs ls hP hD hS h => va_alen C.exec C.byt C.K hP c j he ht hv hd (k H locs ls hP hD hS h)
theorem at_copy (C : CX E cc own h) {c n i : Nat} {sp dp z : Int32} (he : (ac_wd (e_q E) (e_cI E) (e_cZ E) σ)[c]? = some (e_q E c, .inl (e_cI E, n, .inl (ac_ga σ c)))) (hs : ∀ f, (ac_wd (e_q E) (e_cI E) (e_cZ E) σ).set c (e_q E c, .inl (e_cI E, n, .inl f)) = ac_wd (e_q E) (e_cI E) (e_cZ E) (ac_sa σ c f)) (hw : Cond.methodLink own i arraycopyName ∈ lw_good) (hw2 : Cond.native arraycopyName ∈ lw_good) (hw3 : Cond.static arraycopyName ∈ lw_good) (hw4 : Cond.initialized "java/lang/System" ∈ lw_good)
    (h1 : ¬ sp < 0) (h2 : ¬ dp < 0) (h3 : ¬ z < 0) (h4 : sp.toNatClampNeg + z.toNatClampNeg ≤ n) (h5 : dp.toNatClampNeg + z.toNatClampNeg ≤ n) (h6 : 1 ≤ h) (hst : (st.map fun v => v.category).sum ≤ 8) (hd : decode cc pc = .ok (.invokestatic i, 3)) (k : AT E (pc + 3) lv st (ac_sa σ c (va_cpy (ac_ga σ c) (ac_ga σ c) sp.toNatClampNeg dp.toNatClampNeg z.toNatClampNeg))) : AT E pc lv (.int z :: .int dp :: .ref (e_q E c) :: .int sp :: .ref (e_q E c) :: st) σ := fun H locs ls hP hD hS hl => va_copyi C.exec C.byt (by rw [C.mxl, hl.1]) C.ow (C.hts _ hw) (C.hts _ hw2) (C.hts _ hw3) (C.hts _ hw4) C.K hP hD hS c c 0 0 he he rfl rfl rfl h1 h2 h3 h4 h5 (fun _ _ => rfl) (Nat.le_trans h6 C.R.1) (by have h9 := C.R.2; have h8 : nativeFrameWords "java/lang/System" "arraycopy" 5 + 11 ≤ 40 := (by decide); omega) hd (fun H1 locs1 hP1 hD1 hS1 => k H1 locs1 ls (hs _ ▸ hP1) (hs _ ▸ hD1) hS1 hl)
end Rules
end
section
/-! Contracts over the pure state; a method's walk gives its contract; calls. -/
abbrev ac_UW (y : MethodName) (cy : ByteArray) (nl : Nat) (ret : Option FieldType) : List Cond := Cond.code y cy nl ret :: lw_good
abbrev ac_rm (h : Nat) : Room := { frames := h, cells := 0, slots := 0, locals := 64 * h }
def ac_WB (D : va_G) (q : Nat → Nat) (cI cZ : ClassId) (t : Nat) (A : Nat → Prop) (σ : SS) (U : State) : Prop :=
  va_P D vwCl (ac_wd q cI cZ σ) U.heap ∧ va_K D vwCl (ac_tys cI cZ) U ∧ va_D A (ac_wd q cI cZ σ) ∧ va_Z "AirClock" "SHUT" "[I" (.ref t) A U U.heap ∧ va_T .int t 18 (fun j => .int (ac_shut j)) A U U.heap ∧ ac_N U
def ac_as (q : Nat → Nat) (th : Option Nat) (As : List Value) : List Value := match th with
  | some b => .ref (q b) :: As
  | none => As
def ac_pre (D : va_G) (q : Nat → Nat) (cI cZ : ClassId) (t sz : Nat) (th : Option Nat) (As : List Value) (σ : SS) : Array Value → State → Prop :=
  va_Pc (ac_as q th As) (fun U => U.heap.size = sz ∧ ac_WB D q cI cZ t (va_A (ac_wd q cI cZ σ) sz) σ U)
def ConI (y : MethodName) (cy : ByteArray) (nl : Nat) (ret : Option FieldType) (h : Nat) (th : Option Nat) (As : List Value) (σ : SS) (post : Int32 → SS → Prop) : Prop :=
  ∀ (l : Launch) (D : va_G) (q : Nat → Nat) (cI cZ : ClassId) (t sz : Nat), Met l y (ac_UW y cy nl ret) (ac_rm h) (ac_pre D q cI cZ t sz th As σ) (va_Qi post (ac_WB D q cI cZ t (va_A (ac_wd q cI cZ σ) sz)) (va_A (ac_wd q cI cZ σ) sz)) 0 0 (va_A (ac_wd q cI cZ σ) sz)
def ConL (y : MethodName) (cy : ByteArray) (nl : Nat) (ret : Option FieldType) (h : Nat) (th : Option Nat) (As : List Value) (σ : SS) (post : Int64 → SS → Prop) : Prop :=
  ∀ (l : Launch) (D : va_G) (q : Nat → Nat) (cI cZ : ClassId) (t sz : Nat), Met l y (ac_UW y cy nl ret) (ac_rm h) (ac_pre D q cI cZ t sz th As σ) (va_Ql post (ac_WB D q cI cZ t (va_A (ac_wd q cI cZ σ) sz)) (va_A (ac_wd q cI cZ σ) sz)) 0 0 (va_A (ac_wd q cI cZ σ) sz)
def ConV (y : MethodName) (cy : ByteArray) (nl : Nat) (ret : Option FieldType) (h : Nat) (th : Option Nat) (As : List Value) (σ : SS) (post : SS → Prop) : Prop :=
  ∀ (l : Launch) (D : va_G) (q : Nat → Nat) (cI cZ : ClassId) (t sz : Nat), Met l y (ac_UW y cy nl ret) (ac_rm h) (ac_pre D q cI cZ t sz th As σ) (va_Qv post (ac_WB D q cI cZ t (va_A (ac_wd q cI cZ σ) sz)) (va_A (ac_wd q cI cZ σ) sz)) 0 0 (va_A (ac_wd q cI cZ σ) sz)
/-- how a method's walk may end -/
def IRet (E : EV) (cc : ByteArray) (post : Int32 → SS → Prop) : Prop := ∀ (pc : Nat) (lv : List (Nat × Value)) (σ : SS) (r : Int32), decode cc pc = .ok (.ireturn, 1) → post r σ → AT E pc lv [.int r] σ
def LRet (E : EV) (cc : ByteArray) (post : Int64 → SS → Prop) : Prop := ∀ (pc : Nat) (lv : List (Nat × Value)) (σ : SS) (r : Int64), decode cc pc = .ok (.lreturn, 1) → post r σ → AT E pc lv [.long r] σ
def VRet (E : EV) (cc : ByteArray) (post : SS → Prop) : Prop := ∀ (pc : Nat) (lv : List (Nat × Value)) (σ : SS), decode cc pc = .ok (.return_, 1) → post σ → AT E pc lv [] σ
theorem ac_pre_blind {D : va_G} {q : Nat → Nat} {cI cZ : ClassId} {t sz : Nat} {th : Option Nat} {As : List Value} {σ : SS} : FrameBlind (ac_pre D q cI cZ t sz th As σ) := by
  intro a U g mk hp
  obtain ⟨h1, h2, h3, h4, h5, h6, h7, h8⟩ := hp
  exact ⟨h1, h2, h3, va_K.moved (u := U) (U := U.calling g mk a) (Vm.Alike.refl U.vm) h4, h5, va_Z.moved (u := U) (U := U.calling g mk a) (Vm.Alike.refl U.vm) h6, va_T.moved (u := U) (U := U.calling g mk a) (Vm.Alike.refl U.vm) h7, ac_N.same (u := U) (U := U.calling g mk a) rfl h8⟩
section FromWalk
variable {y : MethodName} {cy : ByteArray} {nl h : Nat} {th : Option Nat} {As : List Value} {σ : SS}
theorem ac_open {ret : Option FieldType} {l : Launch} {D : va_G} {q : Nat → Nat} {cI cZ : ClassId} {t sz : Nat} {Qc : Array Value → State → Outcome → State → Prop} (hy : plainName y.cls = true) (hln : ∀ q, (lg_sl (ac_as q th As)).length ≤ nl)
    (core : ∀ E : EV, CX E cy y.cls h → e_n E = nl → e_q E = q → e_cI E = cI → e_cZ E = cZ → e_D E = D → e_sh E = t → e_A E = va_A (ac_wd q cI cZ σ) sz → (e_t E).sig.returnType = ret → e_kc E = 0 → e_ks E = 0 → e_Q E = MQ (e_b E) Qc (e_a E) (e_s E) 0 0 (va_A (ac_wd q cI cZ σ) sz) → AT E 0 (lv_args 0 (ac_as q th As)) [] σ) :
    Met l y (ac_UW y cy nl ret) (ac_rm h) (ac_pre D q cI cZ t sz th As σ) Qc 0 0 (va_A (ac_wd q cI cZ σ) sz) := by
  refine Met.ofW (cc := cy) (maxL := nl) (ret := ret) hy rfl ?_
  intro p e s m args below meth c s₁ B hml hv
  obtain ⟨rfl, hsz, hP, hK, hD, hZ, hT, hN⟩ := hv
  have hts := atoms_spec (ws := ac_UW y cy nl ret) B.pre
  have hl := lv_entry (ac_as q th As) (n := nl) (hln q)
  rw [lg_entry_eq]
  exact core ((p, l, e, ac_rm h, s), (m, (ac_as q th As).toArray, below, meth, c), (D, q, cI, cZ, t), (va_A (ac_wd q cI cZ σ) sz, MQ below Qc (ac_as q th As).toArray s 0 0 (va_A (ac_wd q cI cZ σ) sz), 0, 0, nl)) ⟨B.exec, B.bytes, hml, findClass_of_methodNamed B.named, ⟨fun w hw => hts w (List.mem_cons_of_mem _ hw), hN⟩, hK, fun x hx => Or.inr (by rw [← hsz]; exact hx), B.notSynchronized, hZ, hT, ⟨Nat.le_refl _, Nat.le_refl _⟩, Nat.le_refl _, Nat.le_refl _⟩ rfl rfl rfl rfl rfl rfl rfl B.returns rfl rfl rfl s.heap [] _ hP hD va_S.rf hl
theorem ac_close {E : EV} {q : Nat → Nat} {cI cZ : ClassId} {D : va_G} {t sz : Nat} {u σ0 : SS} {H : Heap} {locs : List Loc} {st : State} (C : CX E cy y.cls h) (e1 : e_q E = q) (e2 : e_cI E = cI) (e3 : e_cZ E = cZ) (e4 : e_D E = D) (e5 : e_sh E = t) (e6 : e_A E = va_A (ac_wd q cI cZ σ0) sz)
    (hP : va_P (e_D E) vwCl (ac_wd (e_q E) (e_cI E) (e_cZ E) u) H) (hD : va_D (e_A E) (ac_wd (e_q E) (e_cI E) (e_cZ E) u)) (hS : va_S (e_A E) (e_s E).heap H locs) (ht : st.heap = H) (hW : (e_s E).WarmedH st.vm) : ac_WB D q cI cZ t (va_A (ac_wd q cI cZ σ0) sz) u st := by
  subst e1; subst e2; subst e3; subst e4; subst e5; subst ht
  rw [← e6]
  exact ⟨hP, va_K.moved hW.alike C.K, hD, va_Z.moved hW.alike (C.Z.kept (fun a h1 h2 => hS.2.1 a h1 h2)), va_T.moved hW.alike (C.T.kept (fun a h1 h2 => hS.2.1 a h1 h2)), C.N.warm hW⟩
theorem conI_of {post : Int32 → SS → Prop} (hy : plainName y.cls = true) (hln : ∀ q, (lg_sl (ac_as q th As)).length ≤ nl) (core : ∀ E : EV, CX E cy y.cls h → e_n E = nl → IRet E cy post → AT E 0 (lv_args 0 (ac_as (e_q E) th As)) [] σ) : ConI y cy nl (some .int) h th As σ post := by
  intro l D q cI cZ t sz
  refine ac_open hy hln (fun E C en e1 e2 e3 e4 e5 e6 er ek es eQ => ?_)
  rw [← e1]
  refine core E C en (fun pc lv u r hd hp H locs ls hP hD hS hl => ?_)
  have w := W.iret (p := e_p E) (l := e_l E) (e := e_e E) (R := e_R E) (m := e_m E) (below := e_b E) (meth := e_t E) (c := e_c E) (H := H) (locs := locs) (cells := 0) (slots := 0) (s := e_s E) (args := e_a E) (Qc := va_Qi post (ac_WB D q cI cZ t (va_A (ac_wd q cI cZ σ) sz)) (va_A (ac_wd q cI cZ σ) sz)) (free := va_A (ac_wd q cI cZ σ) sz) (v := r) (ls := ls) C.exec C.byt er (fun st ht hW => ⟨⟨r, u, rfl, hp, ac_close C e1 e2 e3 e4 e5 e6 hP hD hS ht hW⟩, by rw [← e6]; exact hS.F ht⟩) (by rw [← e6]; exact hS.2.2) hd C.lck
  rw [ek, es, eQ]
  exact w
theorem conZ_of {post : Int32 → SS → Prop} (hy : plainName y.cls = true) (hln : ∀ q, (lg_sl (ac_as q th As)).length ≤ nl) (hz : ∀ r u, post r u → r = 0 ∨ r = 1) (core : ∀ E : EV, CX E cy y.cls h → e_n E = nl → IRet E cy post → AT E 0 (lv_args 0 (ac_as (e_q E) th As)) [] σ) : ConI y cy nl (some .boolean) h th As σ post := by
  intro l D q cI cZ t sz
  refine ac_open hy hln (fun E C en e1 e2 e3 e4 e5 e6 er ek es eQ => ?_)
  rw [← e1]
  refine core E C en (fun pc lv u r hd hp H locs ls hP hD hS hl => ?_)
  have w := W.zret (p := e_p E) (l := e_l E) (e := e_e E) (R := e_R E) (m := e_m E) (below := e_b E) (meth := e_t E) (c := e_c E) (H := H) (locs := locs) (cells := 0) (slots := 0) (s := e_s E) (args := e_a E) (Qc := va_Qi post (ac_WB D q cI cZ t (va_A (ac_wd q cI cZ σ) sz)) (va_A (ac_wd q cI cZ σ) sz)) (free := va_A (ac_wd q cI cZ σ) sz) (v := r) (ty := .boolean) (ls := ls) C.exec C.byt er (by rcases hz r u hp with e | e <;> rw [e] <;> rfl) (fun st ht hW => ⟨⟨r, u, rfl, hp, ac_close C e1 e2 e3 e4 e5 e6 hP hD hS ht hW⟩, by rw [← e6]; exact hS.F ht⟩) (by rw [← e6]; exact hS.2.2) hd C.lck
  rw [ek, es, eQ]
  exact w
theorem conL_of {post : Int64 → SS → Prop} (hy : plainName y.cls = true) (hln : ∀ q, (lg_sl (ac_as q th As)).length ≤ nl) (core : ∀ E : EV, CX E cy y.cls h → e_n E = nl → LRet E cy post → AT E 0 (lv_args 0 (ac_as (e_q E) th As)) [] σ) : ConL y cy nl (some .long) h th As σ post := by
  intro l D q cI cZ t sz
  refine ac_open hy hln (fun E C en e1 e2 e3 e4 e5 e6 er ek es eQ => ?_)
  rw [← e1]
  refine core E C en (fun pc lv u r hd hp H locs ls hP hD hS hl => ?_)
  have w := W.lret (p := e_p E) (l := e_l E) (e := e_e E) (R := e_R E) (m := e_m E) (below := e_b E) (meth := e_t E) (c := e_c E) (H := H) (locs := locs) (cells := 0) (slots := 0) (s := e_s E) (args := e_a E) (Qc := va_Ql post (ac_WB D q cI cZ t (va_A (ac_wd q cI cZ σ) sz)) (va_A (ac_wd q cI cZ σ) sz)) (free := va_A (ac_wd q cI cZ σ) sz) (v := r) (ls := ls) C.exec C.byt er (fun st ht hW => ⟨⟨r, u, rfl, hp, ac_close C e1 e2 e3 e4 e5 e6 hP hD hS ht hW⟩, by rw [← e6]; exact hS.F ht⟩) (by rw [← e6]; exact hS.2.2) hd C.lck
  rw [ek, es, eQ]
  exact w
theorem conV_of {post : SS → Prop} (hy : plainName y.cls = true) (hln : ∀ q, (lg_sl (ac_as q th As)).length ≤ nl) (core : ∀ E : EV, CX E cy y.cls h → e_n E = nl → VRet E cy post → AT E 0 (lv_args 0 (ac_as (e_q E) th As)) [] σ) : ConV y cy nl none h th As σ post := by
  intro l D q cI cZ t sz
  refine ac_open hy hln (fun E C en e1 e2 e3 e4 e5 e6 er ek es eQ => ?_)
  rw [← e1]
  refine core E C en (fun pc lv u hd hp H locs ls hP hD hS hl => ?_)
  have w := W.vret (p := e_p E) (l := e_l E) (e := e_e E) (R := e_R E) (m := e_m E) (below := e_b E) (meth := e_t E) (c := e_c E) (H := H) (locs := locs) (cells := 0) (slots := 0) (s := e_s E) (args := e_a E) (Qc := va_Qv post (ac_WB D q cI cZ t (va_A (ac_wd q cI cZ σ) sz)) (va_A (ac_wd q cI cZ σ) sz)) (free := va_A (ac_wd q cI cZ σ) sz) (ls := ls) C.exec C.byt er (fun st ht hW => ⟨⟨u, rfl, hp, ac_close C e1 e2 e3 e4 e5 e6 hP hD hS ht hW⟩, by rw [← e6]; exact hS.F ht⟩) (by rw [← e6]; exact hS.2.2) hd C.lck
  rw [ek, es, eQ]
  exact w
end FromWalk
section Calls
variable {E : EV} {cc : ByteArray} {own : String} {h pc : Nat} {lv : List (Nat × Value)} {st : List Value} {σ : SS}
variable {y : MethodName} {cy : ByteArray} {nl h2 n i : Nat} {ret : Option FieldType} {As : List Value}
def ac_MB (y : MethodName) (cy : ByteArray) (nl : Nat) (ret : Option FieldType) (n : Nat) : Prop := Cond.code y cy nl ret ∈ lw_good ∧ Cond.initialized y.cls ∈ lw_good ∧ (y.cls ≠ "java/lang/invoke/MethodHandle" ∧ y.cls ≠ "java/lang/invoke/VarHandle" ∧ (parseMethodDescriptor y.desc).map (fun d => d.parameters.length) = some n) ∧ nl ≤ 45
def ac_MV (y : MethodName) (cy : ByteArray) (nl : Nat) (ret : Option FieldType) (n : Nat) : Prop := ac_MB y cy nl ret n ∧ Cond.instanceMethod y ∈ lw_good ∧ Cond.selects y.cls y y ∈ lw_good
def ac_MS (y : MethodName) (cy : ByteArray) (nl : Nat) (ret : Option FieldType) (n : Nat) : Prop := ac_MB y cy nl ret n ∧ Cond.static y ∈ lw_good
theorem ac_UWin (hc : Cond.code y cy nl ret ∈ lw_good) : GoodIn lw_good (ac_UW y cy nl ret) := by
  intro w hw
  rcases List.mem_cons.mp hw with e | e
  · rw [e]; exact ⟨hc, lw_good_ok _ hc⟩
  · exact ⟨e, lw_good_ok _ e⟩
theorem ac_room (C : CX E cc own h) (hh : h2 < h) (hn : nl ≤ 45) : (ac_rm h2).frames + 1 ≤ (e_R E).frames ∧ 8 + (nl + 11) + (ac_rm h2).locals ≤ (e_R E).locals := by
  have h1 := C.R.1
  have h3 := C.R.2
  constructor
  · show h2 + 1 ≤ _
    omega
  · show 8 + (nl + 11) + 64 * h2 ≤ _
    omega
theorem ac_cb (C : CX E cc own h) (hm : ac_MB y cy nl ret n) (hw : Cond.methodLink own i y ∈ lw_good) (hh : h2 < h) : CallB (e_R E) (e_s E) (e_a E) own i y cy nl ret (ac_UW y cy nl ret) (ac_rm h2) 0 0 n :=
  callB_of n C.hts (ac_UWin hm.1) rfl rfl rfl (C.hts _ hm.2.1) (C.hts _ hw) hm.2.2.1 (ac_room C hh hm.2.2.2)
theorem ac_prein {D : va_G} {q : Nat → Nat} {cI cZ : ClassId} {t : Nat} {th : Option Nat} {s U : State} {A : Nat → Prop} {H : Heap} {locs : List Loc} (hK : va_K D vwCl (ac_tys cI cZ) s) (hZ : va_Z "AirClock" "SHUT" "[I" (.ref t) A s s.heap) (hT : va_T .int t 18 (fun j => .int (ac_shut j)) A s s.heap) (hN : ac_N s) (hA : ∀ x : Nat, s.heap.size ≤ x → A x) (hP : va_P D vwCl (ac_wd q cI cZ σ) H) (hD : va_D A (ac_wd q cI cZ σ)) (hS : va_S A s.heap H locs) (hU : U.heap = H) (hW : s.WarmedH U.vm) : ac_pre D q cI cZ t H.size th As σ (ac_as q th As).toArray U := by
  have hF : ∀ x, va_A (ac_wd q cI cZ σ) H.size x → A x := by
    intro x hx
    rcases hx with ⟨k, e, hk⟩ | hx
    · exact hD.2 k (x, e) hk
    · exact hA x (Nat.le_trans hS.1 hx)
  subst hU
  exact ⟨rfl, rfl, hP, va_K.moved hW.alike hK, hD.self, va_Z.moved hW.alike ((hZ.kept (fun a h1 h2 => hS.2.1 a h1 h2)).narrow hF), va_T.moved hW.alike ((hT.kept (fun a h1 h2 => hS.2.1 a h1 h2)).narrow hF), hN.warm hW⟩
theorem ac_backin {H H1 : Heap} {t' : State} {u : SS} {locs : List Loc} (C : CX E cc own h) (hD : va_D (e_A E) (ac_wd (e_q E) (e_cI E) (e_cZ E) σ)) (hS : va_S (e_A E) (e_s E).heap H locs) (ht : t'.heap = H1) (hB : ac_WB (e_D E) (e_q E) (e_cI E) (e_cZ E) (e_sh E) (va_A (ac_wd (e_q E) (e_cI E) (e_cZ E) σ) H.size) u t') : va_P (e_D E) vwCl (ac_wd (e_q E) (e_cI E) (e_cZ E) u) H1 ∧ va_D (e_A E) (ac_wd (e_q E) (e_cI E) (e_cZ E) u) := by
  obtain ⟨h1, -, h3, -⟩ := hB
  rw [ht] at h1
  refine ⟨h1, h3.weaken (fun k q _ hx => ?_)⟩
  rcases hx with ⟨k, e, hk⟩ | hx
  · exact hD.2 k (q.1, e) hk
  · exact C.A q.1 (Nat.le_trans hS.1 hx)
theorem ac_fr {H : Heap} {locs : List Loc} (C : CX E cc own h) (hD : va_D (e_A E) (ac_wd (e_q E) (e_cI E) (e_cZ E) σ)) (hS : va_S (e_A E) (e_s E).heap H locs) : ∀ x, va_A (ac_wd (e_q E) (e_cI E) (e_cZ E) σ) H.size x → e_A E x := by
  intro x hx
  rcases hx with ⟨k, e, hk⟩ | hx
  · exact hD.2 k (x, e) hk
  · exact C.A x (Nat.le_trans hS.1 hx)
theorem at_ci {post : Int32 → SS → Prop} {th : Option Nat} {st0 : List Value} (C : CX E cc own h) (hr : ∀ (H : Heap) (locs : List Loc) (ls : Array Slot), va_P (e_D E) vwCl (ac_wd (e_q E) (e_cI E) (e_cZ E) σ) H → va_D (e_A E) (ac_wd (e_q E) (e_cI E) (e_cZ E) σ) → va_S (e_A E) (e_s E).heap H locs → lv_has ls (e_n E) lv → va_Run (e_p E) (e_l E) (e_e E) (e_R E) (e_s E) (e_m E) (e_a E) (e_b E) (e_t E) (e_c E) H locs (e_kc E) (e_ks E) 0 0 (F0 (e_m E) pc ls st0) st (va_Qi post (ac_WB (e_D E) (e_q E) (e_cI E) (e_cZ E) (e_sh E) (va_A (ac_wd (e_q E) (e_cI E) (e_cZ E) σ) H.size)) (va_A (ac_wd (e_q E) (e_cI E) (e_cZ E) σ) H.size) (ac_as (e_q E) th As).toArray) (va_A (ac_wd (e_q E) (e_cI E) (e_cZ E) σ) H.size)) (k : ∀ (r : Int32) (σ' : SS), post r σ' → AT E (pc + 3) lv (.int r :: st) σ') : AT E pc lv st0 σ := by
  intro H locs ls hP hD hS hl
  refine va_calli (hr H locs ls hP hD hS hl) hS (fun x _ hx => ac_fr C hD hS x hx) (ac_fr C hD hS) (fun r u t H1 locs1 ht hvm hw hB hz1 hk1 hS1 => ?_)
  obtain ⟨hP1, hD1⟩ := ac_backin C hD hS ht hB
  exact k r u hw H1 locs1 ls hP1 hD1 hS1 hl
theorem at_cl {post : Int64 → SS → Prop} {th : Option Nat} {st0 : List Value} (C : CX E cc own h) (hr : ∀ (H : Heap) (locs : List Loc) (ls : Array Slot), va_P (e_D E) vwCl (ac_wd (e_q E) (e_cI E) (e_cZ E) σ) H → va_D (e_A E) (ac_wd (e_q E) (e_cI E) (e_cZ E) σ) → va_S (e_A E) (e_s E).heap H locs → lv_has ls (e_n E) lv → va_Run (e_p E) (e_l E) (e_e E) (e_R E) (e_s E) (e_m E) (e_a E) (e_b E) (e_t E) (e_c E) H locs (e_kc E) (e_ks E) 0 0 (F0 (e_m E) pc ls st0) st (va_Ql post (ac_WB (e_D E) (e_q E) (e_cI E) (e_cZ E) (e_sh E) (va_A (ac_wd (e_q E) (e_cI E) (e_cZ E) σ) H.size)) (va_A (ac_wd (e_q E) (e_cI E) (e_cZ E) σ) H.size) (ac_as (e_q E) th As).toArray) (va_A (ac_wd (e_q E) (e_cI E) (e_cZ E) σ) H.size)) (k : ∀ (r : Int64) (σ' : SS), post r σ' → AT E (pc + 3) lv (.long r :: st) σ') : AT E pc lv st0 σ := by
  intro H locs ls hP hD hS hl
  refine va_calll (hr H locs ls hP hD hS hl) hS (fun x _ hx => ac_fr C hD hS x hx) (ac_fr C hD hS) (fun r u t H1 locs1 ht hvm hw hB hz1 hk1 hS1 => ?_)
  obtain ⟨hP1, hD1⟩ := ac_backin C hD hS ht hB
  exact k r u hw H1 locs1 ls hP1 hD1 hS1 hl
theorem at_cv {post : SS → Prop} {th : Option Nat} {st0 : List Value} (C : CX E cc own h) (hr : ∀ (H : Heap) (locs : List Loc) (ls : Array Slot), va_P (e_D E) vwCl (ac_wd (e_q E) (e_cI E) (e_cZ E) σ) H → va_D (e_A E) (ac_wd (e_q E) (e_cI E) (e_cZ E) σ) → va_S (e_A E) (e_s E).heap H locs → lv_has ls (e_n E) lv → va_Run (e_p E) (e_l E) (e_e E) (e_R E) (e_s E) (e_m E) (e_a E) (e_b E) (e_t E) (e_c E) H locs (e_kc E) (e_ks E) 0 0 (F0 (e_m E) pc ls st0) st (va_Qv post (ac_WB (e_D E) (e_q E) (e_cI E) (e_cZ E) (e_sh E) (va_A (ac_wd (e_q E) (e_cI E) (e_cZ E) σ) H.size)) (va_A (ac_wd (e_q E) (e_cI E) (e_cZ E) σ) H.size) (ac_as (e_q E) th As).toArray) (va_A (ac_wd (e_q E) (e_cI E) (e_cZ E) σ) H.size)) (k : ∀ (σ' : SS), post σ' → AT E (pc + 3) lv st σ') : AT E pc lv st0 σ := by
  intro H locs ls hP hD hS hl
  refine va_callv (hr H locs ls hP hD hS hl) hS (fun x _ hx => ac_fr C hD hS x hx) (ac_fr C hD hS) (fun u t H1 locs1 ht hvm hw hB hz1 hk1 hS1 => ?_)
  obtain ⟨hP1, hD1⟩ := ac_backin C hD hS ht hB
  exact k u hw H1 locs1 ls hP1 hD1 hS1 hl
/-- the three ways to call, over any contract -/
theorem ac_rV {Qc : Array Value → State → Outcome → State → Prop} {b ci : Nat} {fs : List Value} {T : u_T} {N : Nat} {st0 : List Value} {H : Heap} {locs : List Loc} {ls : Array Slot} (C : CX E cc own h) (hM : Met (e_l E) y (ac_UW y cy nl ret) (ac_rm h2) (ac_pre (e_D E) (e_q E) (e_cI E) (e_cZ E) (e_sh E) H.size (some b) As σ) Qc 0 0 (va_A (ac_wd (e_q E) (e_cI E) (e_cZ E) σ) H.size)) (hm : ac_MV y cy nl ret n) (hw : Cond.methodLink own i y ∈ lw_good) (he : (ac_wd (e_q E) (e_cI E) (e_cZ E) σ)[b]? = some (e_q E b, .inr (ci, fs))) (hc : vwCl[ci]? = some (y.cls, T, N)) (hn : As.length = n) (hh : h2 < h) (hst : st0 = As.reverse ++ .ref (e_q E b) :: st) (hcat : (st.map fun v => v.category).sum ≤ 8) (hd : decode cc pc = .ok (.invokevirtual i, 3))
    (hP : va_P (e_D E) vwCl (ac_wd (e_q E) (e_cI E) (e_cZ E) σ) H) (hD : va_D (e_A E) (ac_wd (e_q E) (e_cI E) (e_cZ E) σ)) (hS : va_S (e_A E) (e_s E).heap H locs) (hl : lv_has ls (e_n E) lv) : va_Run (e_p E) (e_l E) (e_e E) (e_R E) (e_s E) (e_m E) (e_a E) (e_b E) (e_t E) (e_c E) H locs (e_kc E) (e_ks E) 0 0 (F0 (e_m E) pc ls st0) st (Qc (ac_as (e_q E) (some b) As).toArray) (va_A (ac_wd (e_q E) (e_cI E) (e_cZ E) σ) H.size) := by
  subst hst
  exact va_runV (As := As) (rest := st) (C := y.cls) ⟨C.exec, C.byt, C.mxl, C.ow, C.hts⟩ hM ⟨ac_cb C hm.1 hw hh, C.hts _ hm.2.1, C.hts _ hm.2.2⟩ ⟨ac_pre_blind, va_recv C.K hP hc he, fun U hU hW => ac_prein C.K C.Z C.T C.N C.A hP hD hS hU hW⟩ rfl hn hl.1 rfl (lv_room hcat) hd ⟨C.cs.1, C.cs.2⟩
theorem ac_rS {Qc : Array Value → State → Outcome → State → Prop} {st0 : List Value} {H : Heap} {locs : List Loc} {ls : Array Slot} (C : CX E cc own h) (hM : Met (e_l E) y (ac_UW y cy nl ret) (ac_rm h2) (ac_pre (e_D E) (e_q E) (e_cI E) (e_cZ E) (e_sh E) H.size none As σ) Qc 0 0 (va_A (ac_wd (e_q E) (e_cI E) (e_cZ E) σ) H.size)) (hm : ac_MS y cy nl ret n) (hw : Cond.methodLink own i y ∈ lw_good) (hn : As.length = n) (hh : h2 < h) (hst : st0 = As.reverse ++ st) (hcat : (st.map fun v => v.category).sum ≤ 8) (hd : decode cc pc = .ok (.invokestatic i, 3))
    (hP : va_P (e_D E) vwCl (ac_wd (e_q E) (e_cI E) (e_cZ E) σ) H) (hD : va_D (e_A E) (ac_wd (e_q E) (e_cI E) (e_cZ E) σ)) (hS : va_S (e_A E) (e_s E).heap H locs) (hl : lv_has ls (e_n E) lv) : va_Run (e_p E) (e_l E) (e_e E) (e_R E) (e_s E) (e_m E) (e_a E) (e_b E) (e_t E) (e_c E) H locs (e_kc E) (e_ks E) 0 0 (F0 (e_m E) pc ls st0) st (Qc (ac_as (e_q E) none As).toArray) (va_A (ac_wd (e_q E) (e_cI E) (e_cZ E) σ) H.size) := by
  subst hst
  exact va_runS (As := As) (rest := st) ⟨C.exec, C.byt, C.mxl, C.ow, C.hts⟩ hM ⟨ac_cb C hm.1 hw hh, C.hts _ hm.2⟩ ⟨ac_pre_blind, fun U hU hW => ac_prein (th := none) C.K C.Z C.T C.N C.A hP hD hS hU hW⟩ rfl hn hl.1 rfl (lv_room hcat) hd ⟨C.cs.1, C.cs.2⟩
theorem ac_rN {Qc : Array Value → State → Outcome → State → Prop} {host : String} {st0 : List Value} {H : Heap} {locs : List Loc} {ls : Array Slot} (C : CX E cc own h) (hM : Met (e_l E) y (ac_UW y cy nl ret) (ac_rm h2) (ac_pre (e_D E) (e_q E) (e_cI E) (e_cZ E) (e_sh E) H.size none As σ) Qc 0 0 (va_A (ac_wd (e_q E) (e_cI E) (e_cZ E) σ) H.size)) (hm : ac_MS y cy nl ret n) (hw : Cond.methodLinkNest own i y host ∈ lw_nest) (hn : As.length = n) (hh : h2 < h) (hst : st0 = As.reverse ++ st) (hcat : (st.map fun v => v.category).sum ≤ 8) (hd : decode cc pc = .ok (.invokestatic i, 3))
    (hP : va_P (e_D E) vwCl (ac_wd (e_q E) (e_cI E) (e_cZ E) σ) H) (hD : va_D (e_A E) (ac_wd (e_q E) (e_cI E) (e_cZ E) σ)) (hS : va_S (e_A E) (e_s E).heap H locs) (hl : lv_has ls (e_n E) lv) : va_Run (e_p E) (e_l E) (e_e E) (e_R E) (e_s E) (e_m E) (e_a E) (e_b E) (e_t E) (e_c E) H locs (e_kc E) (e_ks E) 0 0 (F0 (e_m E) pc ls st0) st (Qc (ac_as (e_q E) none As).toArray) (va_A (ac_wd (e_q E) (e_cI E) (e_cZ E) σ) H.size) := by
  subst hst
  exact va_runSN (As := As) (rest := st) (host := host) ⟨C.exec, C.byt, C.mxl, C.ow, C.hts⟩ hM ⟨va_cnB n C.hts (ac_UWin hm.1.1) rfl rfl rfl (C.N _ hw) (C.hts _ hm.1.2.1) hm.1.2.2.1 (ac_room C hh hm.1.2.2.2), C.hts _ hm.2, trivial⟩ ⟨ac_pre_blind, fun U hU hW => ac_prein (th := none) C.K C.Z C.T C.N C.A hP hD hS hU hW⟩ rfl hn hl.1 rfl (lv_room hcat) hd ⟨C.cs.1, C.cs.2⟩
theorem at_Vi {post : Int32 → SS → Prop} {b ci : Nat} {fs : List Value} {T : u_T} {N : Nat} {st0 : List Value} (C : CX E cc own h) (hc : ConI y cy nl ret h2 (some b) As σ post) (hm : ac_MV y cy nl ret n) (hw : Cond.methodLink own i y ∈ lw_good) (he : (ac_wd (e_q E) (e_cI E) (e_cZ E) σ)[b]? = some (e_q E b, .inr (ci, fs))) (hcl : vwCl[ci]? = some (y.cls, T, N)) (hn : As.length = n) (hh : h2 < h) (hst : st0 = As.reverse ++ .ref (e_q E b) :: st) (hcat : (st.map fun v => v.category).sum ≤ 8) (hd : decode cc pc = .ok (.invokevirtual i, 3)) (k : ∀ (r : Int32) (σ' : SS), post r σ' → AT E (pc + 3) lv (.int r :: st) σ') : AT E pc lv st0 σ :=
  at_ci (th := some b) (As := As) C (fun H locs ls hP hD hS hl => ac_rV C (hc _ _ _ _ _ _ _) hm hw he hcl hn hh hst hcat hd hP hD hS hl) k
theorem at_Vl {post : Int64 → SS → Prop} {b ci : Nat} {fs : List Value} {T : u_T} {N : Nat} {st0 : List Value} (C : CX E cc own h) (hc : ConL y cy nl ret h2 (some b) As σ post) (hm : ac_MV y cy nl ret n) (hw : Cond.methodLink own i y ∈ lw_good) (he : (ac_wd (e_q E) (e_cI E) (e_cZ E) σ)[b]? = some (e_q E b, .inr (ci, fs))) (hcl : vwCl[ci]? = some (y.cls, T, N)) (hn : As.length = n) (hh : h2 < h) (hst : st0 = As.reverse ++ .ref (e_q E b) :: st) (hcat : (st.map fun v => v.category).sum ≤ 8) (hd : decode cc pc = .ok (.invokevirtual i, 3)) (k : ∀ (r : Int64) (σ' : SS), post r σ' → AT E (pc + 3) lv (.long r :: st) σ') : AT E pc lv st0 σ :=
  at_cl (th := some b) (As := As) C (fun H locs ls hP hD hS hl => ac_rV C (hc _ _ _ _ _ _ _) hm hw he hcl hn hh hst hcat hd hP hD hS hl) k
theorem at_Vv {post : SS → Prop} {b ci : Nat} {fs : List Value} {T : u_T} {N : Nat} {st0 : List Value} (C : CX E cc own h) (hc : ConV y cy nl ret h2 (some b) As σ post) (hm : ac_MV y cy nl ret n) (hw : Cond.methodLink own i y ∈ lw_good) (he : (ac_wd (e_q E) (e_cI E) (e_cZ E) σ)[b]? = some (e_q E b, .inr (ci, fs))) (hcl : vwCl[ci]? = some (y.cls, T, N)) (hn : As.length = n) (hh : h2 < h) (hst : st0 = As.reverse ++ .ref (e_q E b) :: st) (hcat : (st.map fun v => v.category).sum ≤ 8) (hd : decode cc pc = .ok (.invokevirtual i, 3)) (k : ∀ (σ' : SS), post σ' → AT E (pc + 3) lv st σ') : AT E pc lv st0 σ :=
  at_cv (th := some b) (As := As) C (fun H locs ls hP hD hS hl => ac_rV C (hc _ _ _ _ _ _ _) hm hw he hcl hn hh hst hcat hd hP hD hS hl) k
theorem at_Si {post : Int32 → SS → Prop} {st0 : List Value} (C : CX E cc own h) (hc : ConI y cy nl ret h2 none As σ post) (hm : ac_MS y cy nl ret n) (hw : Cond.methodLink own i y ∈ lw_good) (hn : As.length = n) (hh : h2 < h) (hst : st0 = As.reverse ++ st) (hcat : (st.map fun v => v.category).sum ≤ 8) (hd : decode cc pc = .ok (.invokestatic i, 3)) (k : ∀ (r : Int32) (σ' : SS), post r σ' → AT E (pc + 3) lv (.int r :: st) σ') : AT E pc lv st0 σ :=
  at_ci (th := none) (As := As) C (fun H locs ls hP hD hS hl => ac_rS C (hc _ _ _ _ _ _ _) hm hw hn hh hst hcat hd hP hD hS hl) k
theorem at_Sl {post : Int64 → SS → Prop} {st0 : List Value} (C : CX E cc own h) (hc : ConL y cy nl ret h2 none As σ post) (hm : ac_MS y cy nl ret n) (hw : Cond.methodLink own i y ∈ lw_good) (hn : As.length = n) (hh : h2 < h) (hst : st0 = As.reverse ++ st) (hcat : (st.map fun v => v.category).sum ≤ 8) (hd : decode cc pc = .ok (.invokestatic i, 3)) (k : ∀ (r : Int64) (σ' : SS), post r σ' → AT E (pc + 3) lv (.long r :: st) σ') : AT E pc lv st0 σ :=
  at_cl (th := none) (As := As) C (fun H locs ls hP hD hS hl => ac_rS C (hc _ _ _ _ _ _ _) hm hw hn hh hst hcat hd hP hD hS hl) k
theorem at_Ni {post : Int32 → SS → Prop} {host : String} {st0 : List Value} (C : CX E cc own h) (hc : ConI y cy nl ret h2 none As σ post) (hm : ac_MS y cy nl ret n) (hw : Cond.methodLinkNest own i y host ∈ lw_nest) (hn : As.length = n) (hh : h2 < h) (hst : st0 = As.reverse ++ st) (hcat : (st.map fun v => v.category).sum ≤ 8) (hd : decode cc pc = .ok (.invokestatic i, 3)) (k : ∀ (r : Int32) (σ' : SS), post r σ' → AT E (pc + 3) lv (.int r :: st) σ') : AT E pc lv st0 σ :=
  at_ci (th := none) (As := As) C (fun H locs ls hP hD hS hl => ac_rN C (hc _ _ _ _ _ _ _) hm hw hn hh hst hcat hd hP hD hS hl) k
end Calls
end
section
/-! Intervals of ints. -/
def iv (lo hi : Int) (x : Int32) : Prop := lo ≤ x.toInt ∧ x.toInt ≤ hi
theorem iv_any (x : Int32) : iv (-2147483648) 2147483647 x := ⟨x.minValue_le_toInt, by have := x.toInt_lt; omega⟩
theorem iv_wk {a b c d : Int} {x : Int32} (h : iv a b x) (h1 : c ≤ a) (h2 : b ≤ d) : iv c d x := ⟨Int.le_trans h1 h.1, Int.le_trans h.2 h2⟩
theorem iv_c {c : Int} {x : Int32} (h : x.toInt = c) : iv c c x := ⟨by rw [h]; exact Int.le_refl _, by rw [h]; exact Int.le_refl _⟩
theorem iv_meet {a b c d : Int} {x : Int32} (h : iv a b x) (g : iv c d x) : iv (max a c) (min b d) x := ⟨by have := h.1; have := g.1; omega, by have := h.2; have := g.2; omega⟩
theorem iv_lo {a b c : Int} {x : Int32} (h : iv a b x) (g : c ≤ x.toInt) : iv c b x := ⟨g, h.2⟩
theorem iv_hi {a b c : Int} {x : Int32} (h : iv a b x) (g : x.toInt ≤ c) : iv a c x := ⟨h.1, g⟩
theorem bm32 {z : Int} (h1 : -2147483648 ≤ z) (h2 : z ≤ 2147483647) : z.bmod (2 ^ 32) = z := by
  rw [Int.bmod_eq_of_le] <;> omega
theorem ti_add {a b c d : Int} {x y : Int32} (hx : iv a b x) (hy : iv c d y) (h1 : -2147483648 ≤ a + c) (h2 : b + d ≤ 2147483647) : (x + y).toInt = x.toInt + y.toInt := by
  rw [Int32.toInt_add]
  exact bm32 (by have := hx.1; have := hy.1; omega) (by have := hx.2; have := hy.2; omega)
theorem ti_sub {a b c d : Int} {x y : Int32} (hx : iv a b x) (hy : iv c d y) (h1 : -2147483648 ≤ a - d) (h2 : b - c ≤ 2147483647) : (x - y).toInt = x.toInt - y.toInt := by
  rw [Int32.toInt_sub]
  exact bm32 (by have := hx.1; have := hy.2; omega) (by have := hx.2; have := hy.1; omega)
theorem iv_add {a b c d : Int} {x y : Int32} (hx : iv a b x) (hy : iv c d y) (h1 : -2147483648 ≤ a + c) (h2 : b + d ≤ 2147483647) : iv (a + c) (b + d) (x + y) := by
  have e := ti_add hx hy h1 h2
  exact ⟨by rw [e]; have := hx.1; have := hy.1; omega, by rw [e]; have := hx.2; have := hy.2; omega⟩
theorem iv_sub {a b c d : Int} {x y : Int32} (hx : iv a b x) (hy : iv c d y) (h1 : -2147483648 ≤ a - d) (h2 : b - c ≤ 2147483647) : iv (a - d) (b - c) (x - y) := by
  have e := ti_sub hx hy h1 h2
  exact ⟨by rw [e]; have := hx.1; have := hy.2; omega, by rw [e]; have := hx.2; have := hy.1; omega⟩
theorem ti_mul {b d : Int} {x y : Int32} (hx : iv 0 b x) (hy : iv 0 d y) (h2 : b * d ≤ 2147483647) : (x * y).toInt = x.toInt * y.toInt ∧ 0 ≤ x.toInt * y.toInt ∧ x.toInt * y.toInt ≤ b * d := by
  have h0 : 0 ≤ x.toInt * y.toInt := Int.mul_nonneg hx.1 hy.1
  have h1 : x.toInt * y.toInt ≤ b * d := Int.mul_le_mul hx.2 hy.2 hy.1 (Int.le_trans hx.1 hx.2)
  refine ⟨?_, h0, h1⟩
  rw [Int32.toInt_mul]
  exact bm32 (by omega) (by omega)
theorem iv_mul {b d : Int} {x y : Int32} (hx : iv 0 b x) (hy : iv 0 d y) (h2 : b * d ≤ 2147483647) : iv 0 (b * d) (x * y) := by
  obtain ⟨e, h0, h1⟩ := ti_mul hx hy h2
  exact ⟨by rw [e]; exact h0, by rw [e]; exact h1⟩
theorem nI_all (x : Int32) : x = nI x.toBitVec.toNat := by
  apply Int32.toBitVec_inj.mp
  apply BitVec.eq_of_toNat_eq
  simp [nI]
theorem nI_iv {b : Int} {x : Int32} (h : iv 0 b x) : ∃ n : Nat, x = nI n ∧ (n : Int) = x.toInt ∧ n < 2 ^ 31 := by
  obtain ⟨j, hj, e⟩ := nI_of (x := x) (by rw [Int32.lt_iff_toInt_lt]; have := h.1; simp; omega)
  exact ⟨j, e, by rw [e, nI_toInt hj], hj⟩
theorem iv_nI {b : Int} {n : Nat} (h : (n : Int) ≤ b) (h2 : n < 2 ^ 31) : iv 0 b (nI n) := ⟨by rw [nI_toInt h2]; omega, by rw [nI_toInt h2]; exact h⟩
theorem nI_and (a b : Nat) : nI a &&& nI b = nI (a &&& b) := by
  apply Int32.toBitVec_inj.mp
  apply BitVec.eq_of_toNat_eq
  simp [nI]
theorem nI_or (a b : Nat) : nI a ||| nI b = nI (a ||| b) := by
  apply Int32.toBitVec_inj.mp
  apply BitVec.eq_of_toNat_eq
  simp [nI]
theorem iv_andr {b : Int} {x y : Int32} (hy : iv 0 b y) : iv 0 b (x &&& y) := by
  obtain ⟨n, e, e2, hn⟩ := nI_iv hy
  rw [nI_all x, e, nI_and]
  have h1 : x.toBitVec.toNat &&& n ≤ n := Nat.and_le_right
  have := hy.2
  exact iv_nI (by omega) (by omega)
theorem iv_andl {b : Int} {x y : Int32} (hx : iv 0 b x) : iv 0 b (x &&& y) := by
  obtain ⟨n, e, e2, hn⟩ := nI_iv hx
  rw [nI_all y, e, nI_and]
  have h1 : n &&& y.toBitVec.toNat ≤ n := Nat.and_le_left
  have := hx.2
  exact iv_nI (by omega) (by omega)
theorem ti_andl {b : Int} {x y : Int32} (hx : iv 0 b x) : (x &&& y).toInt ≤ x.toInt := by
  have h := iv_andl (y := y) (b := x.toInt) (x := x) ⟨hx.1, Int.le_refl _⟩
  exact h.2
theorem iv_or {b d : Int} {x y : Int32} (k : Nat) (hx : iv 0 b x) (hy : iv 0 d y) (hk : k ≤ 31) (h1 : b < 2 ^ k) (h2 : d < 2 ^ k) : iv 0 (2 ^ k - 1) (x ||| y) := by
  obtain ⟨n, e, e2, hn⟩ := nI_iv hx
  obtain ⟨m, f, f2, hm⟩ := nI_iv hy
  rw [e, f, nI_or]
  have h3 : n < 2 ^ k := by have := hx.2; have h9 : ((2 ^ k : Nat) : Int) = (2 : Int) ^ k := by norm_cast
                            omega
  have h4 : m < 2 ^ k := by have := hy.2; have h9 : ((2 ^ k : Nat) : Int) = (2 : Int) ^ k := by norm_cast
                            omega
  have h5 : n ||| m < 2 ^ k := Nat.or_lt_two_pow h3 h4
  have h6 : (2 : Nat) ^ k ≤ 2 ^ 31 := Nat.pow_le_pow_right (by decide) hk
  have h9 : ((2 ^ k : Nat) : Int) = (2 : Int) ^ k := by norm_cast
  exact iv_nI (by omega) (by omega)
theorem ti_not (x : Int32) : (x ^^^ (-1)).toInt = - x.toInt - 1 := by
  have h : x ^^^ (-1) = ~~~ x := by
    apply Int32.toBitVec_inj.mp
    show x.toBitVec ^^^ BitVec.allOnes 32 = ~~~ x.toBitVec
    exact BitVec.xor_allOnes
  rw [h, Int32.toInt_not]
  have h1 := (iv_any x).1
  have h2 := (iv_any x).2
  exact bm32 (by omega) (by omega)
theorem iv_not {a b : Int} {x : Int32} (h : iv a b x) : iv (-b - 1) (-a - 1) (x ^^^ (-1)) := by
  rw [iv, ti_not]; have := h.1; have := h.2; omega
theorem iv_in {a b : Int} {x : Int32} {n : Nat} (h : iv a b x) (h1 : 0 ≤ a) (h2 : b < n) : vp_in x n := vp_in_iff.mpr ⟨Int.le_trans h1 h.1, Int.lt_of_le_of_lt h.2 h2⟩
theorem iv_lt {x y : Int32} (h : x < y) : x.toInt < y.toInt := Int32.lt_iff_toInt_lt.mp h
theorem iv_le {x y : Int32} (h : x ≤ y) : x.toInt ≤ y.toInt := Int32.le_iff_toInt_le.mp h
theorem iv_nlt {x y : Int32} (h : ¬ x < y) : y.toInt ≤ x.toInt := by rw [Int32.lt_iff_toInt_lt] at h; omega
theorem iv_nle {x y : Int32} (h : ¬ x ≤ y) : y.toInt < x.toInt := by rw [Int32.le_iff_toInt_le] at h; omega
theorem iv_ne {x y : Int32} (h : ¬ x = y) : x.toInt ≠ y.toInt := fun e => h (Int32.toInt_inj.mp e)
theorem iv_shr {b : Int} {x y : Int32} (hx : iv 0 b x) : iv 0 b (x >>> (y &&& 31)) := by
  obtain ⟨n, e, e2, hn⟩ := nI_iv hx
  rw [e, pk_shrN hn (y &&& 31) _ rfl]
  have h1 := Nat.div_le_self n (2 ^ ((y &&& 31).toBitVec.smod 32).toNat)
  have := hx.2
  exact iv_nI (by omega) (by omega)
theorem sm31 : ∀ m, m < 31 → ((nI m &&& 31).toBitVec.smod 32).toNat = m := by decide +kernel
theorem nI_shl1 {m : Nat} (h : m < 31) : (1 : Int32) <<< (nI m &&& 31) = nI (2 ^ m) := by
  have h1 := pk_shlN (n := 1) (nI m &&& 31) m (sm31 m h) (by rw [Nat.one_mul]; exact Nat.pow_lt_pow_right (by decide) (by omega))
  rw [Nat.one_mul] at h1
  exact h1
theorem iv_shl1 {a b : Nat} {y : Int32} (hy : iv (a : Int) (b : Int) y) (hb : b ≤ 30) : iv ((2 ^ a : Nat) : Int) ((2 ^ b : Nat) : Int) (1 <<< (y &&& 31)) := by
  obtain ⟨n, e, e2, hn⟩ := nI_iv (b := b) (x := y) ⟨by have := hy.1; omega, hy.2⟩
  have g1 := hy.1
  have g2 := hy.2
  have h1 : a ≤ n := by omega
  have h2 : n ≤ b := by omega
  rw [e, nI_shl1 (by omega)]
  have h3 : (2 : Nat) ^ n < 2 ^ 31 := Nat.pow_lt_pow_right (by decide) (by omega)
  have h4 : (2 : Nat) ^ a ≤ 2 ^ n := Nat.pow_le_pow_right (by decide) h1
  have h5 : (2 : Nat) ^ n ≤ 2 ^ b := Nat.pow_le_pow_right (by decide) h2
  exact ⟨by rw [nI_toInt h3]; exact Int.ofNat_le.mpr h4, by rw [nI_toInt h3]; exact Int.ofNat_le.mpr h5⟩
theorem iv_div {b d : Int} {x y : Int32} (hx : iv 0 b x) (hy : iv 1 d y) : iv 0 b (x / y) := by
  obtain ⟨n, e, e2, hn⟩ := nI_iv hx
  obtain ⟨m, f, f2, hm⟩ := nI_iv (b := d) (x := y) ⟨by have := hy.1; omega, hy.2⟩
  have := hy.1
  have := hx.2
  rw [e, f, pk_div hn (by omega) hm]
  have h1 := Nat.div_le_self n m
  exact iv_nI (by omega) (by omega)
/-! The bounds that every state keeps, and what a question leaves as it was. -/
def ac_il (k : Nat) : Int := match k with
  | 0 => 0
  | 1 => 1
  | 2 => 1
  | 4 => 0
  | 5 => 1
  | 6 => 1
  | 7 => 0
  | 8 => 0
  | 11 => 0
  | 12 => 0
  | 13 => 0
  | 14 => 0
  | 15 => 0
  | 16 => 1
  | 17 => 1
  | 18 => 0
  | 20 => 1
  | 21 => 1
  | 22 => 0
  | 23 => 0
  | 25 => 0
  | 26 => 0
  | _ => -2147483648
def ac_ih (k : Nat) : Int := match k with
  | 0 => 10
  | 1 => 6
  | 2 => 2000
  | 4 => 1023
  | 5 => 1000
  | 6 => 100
  | 7 => 1023
  | 8 => 1023
  | 11 => 10
  | 12 => 6
  | 13 => 24
  | 14 => 1
  | 15 => 10
  | 16 => 6
  | 17 => 2000
  | 18 => 10
  | 20 => 1000
  | 21 => 100
  | 22 => 1023
  | 23 => 1023
  | 25 => 6
  | 26 => 24
  | _ => 2147483647
def ac_al (k : Nat) : Int := match k with
  | 9 => 0
  | 10 => 0
  | 22 => 0
  | 25 => -1
  | 33 => 0
  | 46 => -1
  | _ => -2147483648
def ac_ah (k : Nat) : Int := match k with
  | 9 => 2
  | 10 => 9
  | 22 => 63
  | 25 => 23
  | 33 => 9
  | 46 => 23
  | _ => 2147483647
def Inv (σ : SS) : Prop := (∀ k, iv (ac_il k) (ac_ih k) (ac_gi σ k)) ∧ ∀ c j, iv (ac_al c) (ac_ah c) (ac_ga σ c j)
theorem Inv.si {σ : SS} (h : Inv σ) {k : Nat} {v : Int32} (hv : iv (ac_il k) (ac_ih k) v) : Inv (ac_si σ k v) := by
  refine ⟨fun j => ?_, h.2⟩
  rw [ac_gi_si]
  split
  · rename_i e; rw [e]; exact hv
  · exact h.1 j
theorem Inv.sa {σ : SS} (h : Inv σ) {c i : Nat} {v : Int32} (hv : iv (ac_al c) (ac_ah c) v) : Inv (ac_sa σ c (upd (ac_ga σ c) i v)) := by
  refine ⟨h.1, fun d j => ?_⟩
  rw [ac_ga_sa]
  split
  · rename_i e
    rw [e]
    unfold upd
    split
    · exact hv
    · exact h.2 c j
  · exact h.2 d j
theorem Inv.sf {σ : SS} (h : Inv σ) {c : Nat} {f : Nat → Int32} (hv : ∀ j, iv (ac_al c) (ac_ah c) (f j)) : Inv (ac_sa σ c f) := by
  refine ⟨h.1, fun d j => ?_⟩
  rw [ac_ga_sa]
  split
  · rename_i e
    rw [e]
    exact hv j
  · exact h.2 d j
theorem Inv.sl {σ : SS} (h : Inv σ) {v : Int64} : Inv (ac_sl σ v) := ⟨h.1, h.2⟩
def ac_scI (k : Nat) : Bool := k == 7 || k == 8 || k == 9 || k == 10 || k == 11 || k == 14 || k == 18 || k == 19 || k == 22 || k == 23 || k == 24 || k == 27
def ac_scA (c : Nat) : Bool := c == 10 || c == 11 || c == 12 || c == 13 || c == 14 || c == 15 || c == 16 || c == 19 || c == 20 || c == 25 || c == 26 || c == 29 || c == 33 || c == 34 || c == 35 || c == 39 || c == 40 || c == 45 || c == 46 || c == 47 || c == 50
def Keep (σ τ : SS) : Prop := (∀ k, ac_scI k = false → ac_gi τ k = ac_gi σ k) ∧ ∀ c, ac_scA c = false → ac_ga τ c = ac_ga σ c
theorem Keep.rf {σ : SS} : Keep σ σ := ⟨fun _ _ => rfl, fun _ _ => rfl⟩
theorem Keep.tr {σ τ υ : SS} (h : Keep σ τ) (g : Keep τ υ) : Keep σ υ := ⟨fun k e => (g.1 k e).trans (h.1 k e), fun c e => (g.2 c e).trans (h.2 c e)⟩
theorem Keep.si {σ τ : SS} (h : Keep σ τ) {k : Nat} {v : Int32} (hk : ac_scI k = true) : Keep σ (ac_si τ k v) := ⟨fun j e => by
  rw [ac_gi_si, if_neg (fun e2 => by rw [e2, hk] at e; cases e)]; exact h.1 j e, h.2⟩
theorem Keep.sa {σ τ : SS} (h : Keep σ τ) {c : Nat} {f : Nat → Int32} (hk : ac_scA c = true) : Keep σ (ac_sa τ c f) := ⟨h.1, fun d e => by
  rw [ac_ga_sa, if_neg (fun e2 => by rw [e2, hk] at e; cases e)]; exact h.2 d e⟩
theorem Keep.sl {σ τ : SS} (h : Keep σ τ) {v : Int64} : Keep σ (ac_sl τ v) := ⟨h.1, h.2⟩
/-- a question: the bounds hold still, what is told is as it was -/
def Gd (σ τ : SS) : Prop := Inv τ ∧ Keep σ τ
theorem Gd.rf {σ : SS} (h : Inv σ) : Gd σ σ := ⟨h, Keep.rf⟩
theorem Gd.tr {σ τ υ : SS} (h : Gd σ τ) (g : Gd τ υ) : Gd σ υ := ⟨g.1, h.2.tr g.2⟩
theorem Gd.si {σ τ : SS} (h : Gd σ τ) {k : Nat} {v : Int32} (hk : ac_scI k = true) (hv : iv (ac_il k) (ac_ih k) v) : Gd σ (ac_si τ k v) := ⟨h.1.si hv, h.2.si hk⟩
theorem Gd.sa {σ τ : SS} (h : Gd σ τ) {c i : Nat} {v : Int32} (hk : ac_scA c = true) (hv : iv (ac_al c) (ac_ah c) v) : Gd σ (ac_sa τ c (upd (ac_ga τ c) i v)) := ⟨h.1.sa hv, h.2.sa hk⟩
theorem Gd.sl {σ τ : SS} (h : Gd σ τ) {v : Int64} : Gd σ (ac_sl τ v) := ⟨h.1.sl, h.2.sl⟩
theorem mz_up {n : Nat} {hi c : Int} {x y : Int32} (h : (hi - x.toInt).toNat < n + 1) (e : y.toInt = x.toInt + c) (hc : 0 < c) (hy : y.toInt ≤ hi) : (hi - y.toInt).toNat < n := by omega
theorem mz_dn {n : Nat} {lo : Int} {x y : Int32} (h : (x.toInt - lo).toNat < n + 1) (e : y.toInt < x.toInt) (hy : lo ≤ y.toInt) : (y.toInt - lo).toNat < n := by omega
end
section
theorem inw_X0 : ∀ w ∈ u_ws RX0 TX0 6, w ∈ lw_good := by decide +kernel
theorem inw_X1 : ∀ w ∈ u_ws RX1 TX1 12, w ∈ lw_good := by decide +kernel
theorem inw_X2 : ∀ w ∈ u_ws RX2 TX2 4, w ∈ lw_good := by decide +kernel
theorem inw_X3 : ∀ w ∈ u_ws RX3 TX3 4, w ∈ lw_good := by decide +kernel
theorem inw_X4 : ∀ w ∈ u_ws RX4 TX4 7, w ∈ lw_good := by decide +kernel
theorem inw_X5 : ∀ w ∈ u_ws RX5 TX5 9, w ∈ lw_good := by decide +kernel
theorem inw_X6 : ∀ w ∈ u_ws RX6 TX6 7, w ∈ lw_good := by decide +kernel
theorem inw_X7 : ∀ w ∈ u_ws RX7 TX7 35, w ∈ lw_good := by decide +kernel
theorem fl_X0_9 : Cond.fieldLink RX0 9 "AirClock$Air" "masts" "I" ∈ lw_good := lw_in 74 (by decide +kernel) rfl
theorem gf_X0_9 {E : EV} {cc : ByteArray} {h pc : Nat} {lv : List (Nat × Value)} {st : List Value} {σ : SS} (C : CX E cc RX0 h) (hd : decode cc pc = .ok (.getfield 9, 3)) (k : AT E (pc + 3) lv (.int (ac_gi σ 0) :: st) σ) : AT E pc lv (.ref (e_q E 1) :: st) σ := at_get C (c := 1) (ci := 0) (k := 0) rfl rfl inw_X0 (by decide) fl_X0_9 rfl rfl hd k
theorem pf_X0_9 {E : EV} {cc : ByteArray} {h pc : Nat} {lv : List (Nat × Value)} {st : List Value} {σ : SS} {x : Int32} (C : CX E cc RX0 h) (hd : decode cc pc = .ok (.putfield 9, 3)) (k : AT E (pc + 3) lv st (ac_si σ 0 x)) : AT E pc lv (.int x :: .ref (e_q E 1) :: st) σ := at_put C (c := 1) (ci := 0) (k := 0) tyX0_ok nmX0 rfl rfl inw_X0 (by decide) fl_X0_9 rfl rfl rfl rfl (Nat.le_of_ble_eq_true rfl) (ac_put_0 _ _ _ _ _) hd k
theorem fl_X6_59 : Cond.fieldLink RX6 59 "AirClock$Air" "masts" "I" ∈ lw_good := lw_in 75 (by decide +kernel) rfl
theorem gf_X6_59 {E : EV} {cc : ByteArray} {h pc : Nat} {lv : List (Nat × Value)} {st : List Value} {σ : SS} (C : CX E cc RX6 h) (hd : decode cc pc = .ok (.getfield 59, 3)) (k : AT E (pc + 3) lv (.int (ac_gi σ 0) :: st) σ) : AT E pc lv (.ref (e_q E 1) :: st) σ := at_get C (c := 1) (ci := 0) (k := 0) rfl rfl inw_X0 (by decide) fl_X6_59 rfl rfl hd k
theorem pf_X6_59 {E : EV} {cc : ByteArray} {h pc : Nat} {lv : List (Nat × Value)} {st : List Value} {σ : SS} {x : Int32} (C : CX E cc RX6 h) (hd : decode cc pc = .ok (.putfield 59, 3)) (k : AT E (pc + 3) lv st (ac_si σ 0 x)) : AT E pc lv (.int x :: .ref (e_q E 1) :: st) σ := at_put C (c := 1) (ci := 0) (k := 0) tyX0_ok nmX0 rfl rfl inw_X0 (by decide) fl_X6_59 rfl rfl rfl rfl (Nat.le_of_ble_eq_true rfl) (ac_put_0 _ _ _ _ _) hd k
theorem fl_X4_35 : Cond.fieldLink RX4 35 "AirClock$Air" "masts" "I" ∈ lw_good := lw_in 76 (by decide +kernel) rfl
theorem gf_X4_35 {E : EV} {cc : ByteArray} {h pc : Nat} {lv : List (Nat × Value)} {st : List Value} {σ : SS} (C : CX E cc RX4 h) (hd : decode cc pc = .ok (.getfield 35, 3)) (k : AT E (pc + 3) lv (.int (ac_gi σ 0) :: st) σ) : AT E pc lv (.ref (e_q E 1) :: st) σ := at_get C (c := 1) (ci := 0) (k := 0) rfl rfl inw_X0 (by decide) fl_X4_35 rfl rfl hd k
theorem pf_X4_35 {E : EV} {cc : ByteArray} {h pc : Nat} {lv : List (Nat × Value)} {st : List Value} {σ : SS} {x : Int32} (C : CX E cc RX4 h) (hd : decode cc pc = .ok (.putfield 35, 3)) (k : AT E (pc + 3) lv st (ac_si σ 0 x)) : AT E pc lv (.int x :: .ref (e_q E 1) :: st) σ := at_put C (c := 1) (ci := 0) (k := 0) tyX0_ok nmX0 rfl rfl inw_X0 (by decide) fl_X4_35 rfl rfl rfl rfl (Nat.le_of_ble_eq_true rfl) (ac_put_0 _ _ _ _ _) hd k
theorem fl_X2_40 : Cond.fieldLink RX2 40 "AirClock$Air" "masts" "I" ∈ lw_good := lw_in 77 (by decide +kernel) rfl
theorem gf_X2_40 {E : EV} {cc : ByteArray} {h pc : Nat} {lv : List (Nat × Value)} {st : List Value} {σ : SS} (C : CX E cc RX2 h) (hd : decode cc pc = .ok (.getfield 40, 3)) (k : AT E (pc + 3) lv (.int (ac_gi σ 0) :: st) σ) : AT E pc lv (.ref (e_q E 1) :: st) σ := at_get C (c := 1) (ci := 0) (k := 0) rfl rfl inw_X0 (by decide) fl_X2_40 rfl rfl hd k
theorem pf_X2_40 {E : EV} {cc : ByteArray} {h pc : Nat} {lv : List (Nat × Value)} {st : List Value} {σ : SS} {x : Int32} (C : CX E cc RX2 h) (hd : decode cc pc = .ok (.putfield 40, 3)) (k : AT E (pc + 3) lv st (ac_si σ 0 x)) : AT E pc lv (.int x :: .ref (e_q E 1) :: st) σ := at_put C (c := 1) (ci := 0) (k := 0) tyX0_ok nmX0 rfl rfl inw_X0 (by decide) fl_X2_40 rfl rfl rfl rfl (Nat.le_of_ble_eq_true rfl) (ac_put_0 _ _ _ _ _) hd k
theorem fl_X1_61 : Cond.fieldLink RX1 61 "AirClock$Air" "masts" "I" ∈ lw_good := lw_in 78 (by decide +kernel) rfl
theorem gf_X1_61 {E : EV} {cc : ByteArray} {h pc : Nat} {lv : List (Nat × Value)} {st : List Value} {σ : SS} (C : CX E cc RX1 h) (hd : decode cc pc = .ok (.getfield 61, 3)) (k : AT E (pc + 3) lv (.int (ac_gi σ 0) :: st) σ) : AT E pc lv (.ref (e_q E 1) :: st) σ := at_get C (c := 1) (ci := 0) (k := 0) rfl rfl inw_X0 (by decide) fl_X1_61 rfl rfl hd k
theorem pf_X1_61 {E : EV} {cc : ByteArray} {h pc : Nat} {lv : List (Nat × Value)} {st : List Value} {σ : SS} {x : Int32} (C : CX E cc RX1 h) (hd : decode cc pc = .ok (.putfield 61, 3)) (k : AT E (pc + 3) lv st (ac_si σ 0 x)) : AT E pc lv (.int x :: .ref (e_q E 1) :: st) σ := at_put C (c := 1) (ci := 0) (k := 0) tyX0_ok nmX0 rfl rfl inw_X0 (by decide) fl_X1_61 rfl rfl rfl rfl (Nat.le_of_ble_eq_true rfl) (ac_put_0 _ _ _ _ _) hd k
theorem fl_X3_57 : Cond.fieldLink RX3 57 "AirClock$Air" "masts" "I" ∈ lw_good := lw_in 79 (by decide +kernel) rfl
theorem gf_X3_57 {E : EV} {cc : ByteArray} {h pc : Nat} {lv : List (Nat × Value)} {st : List Value} {σ : SS} (C : CX E cc RX3 h) (hd : decode cc pc = .ok (.getfield 57, 3)) (k : AT E (pc + 3) lv (.int (ac_gi σ 0) :: st) σ) : AT E pc lv (.ref (e_q E 1) :: st) σ := at_get C (c := 1) (ci := 0) (k := 0) rfl rfl inw_X0 (by decide) fl_X3_57 rfl rfl hd k
theorem pf_X3_57 {E : EV} {cc : ByteArray} {h pc : Nat} {lv : List (Nat × Value)} {st : List Value} {σ : SS} {x : Int32} (C : CX E cc RX3 h) (hd : decode cc pc = .ok (.putfield 57, 3)) (k : AT E (pc + 3) lv st (ac_si σ 0 x)) : AT E pc lv (.int x :: .ref (e_q E 1) :: st) σ := at_put C (c := 1) (ci := 0) (k := 0) tyX0_ok nmX0 rfl rfl inw_X0 (by decide) fl_X3_57 rfl rfl rfl rfl (Nat.le_of_ble_eq_true rfl) (ac_put_0 _ _ _ _ _) hd k
theorem fl_X0_15 : Cond.fieldLink RX0 15 "AirClock$Air" "channels" "I" ∈ lw_good := lw_in 80 (by decide +kernel) rfl
theorem gf_X0_15 {E : EV} {cc : ByteArray} {h pc : Nat} {lv : List (Nat × Value)} {st : List Value} {σ : SS} (C : CX E cc RX0 h) (hd : decode cc pc = .ok (.getfield 15, 3)) (k : AT E (pc + 3) lv (.int (ac_gi σ 1) :: st) σ) : AT E pc lv (.ref (e_q E 1) :: st) σ := at_get C (c := 1) (ci := 0) (k := 1) rfl rfl inw_X0 (by decide) fl_X0_15 rfl rfl hd k
theorem pf_X0_15 {E : EV} {cc : ByteArray} {h pc : Nat} {lv : List (Nat × Value)} {st : List Value} {σ : SS} {x : Int32} (C : CX E cc RX0 h) (hd : decode cc pc = .ok (.putfield 15, 3)) (k : AT E (pc + 3) lv st (ac_si σ 1 x)) : AT E pc lv (.int x :: .ref (e_q E 1) :: st) σ := at_put C (c := 1) (ci := 0) (k := 1) tyX0_ok nmX0 rfl rfl inw_X0 (by decide) fl_X0_15 rfl rfl rfl rfl (Nat.le_of_ble_eq_true rfl) (ac_put_1 _ _ _ _ _) hd k
theorem fl_X6_70 : Cond.fieldLink RX6 70 "AirClock$Air" "channels" "I" ∈ lw_good := lw_in 81 (by decide +kernel) rfl
theorem gf_X6_70 {E : EV} {cc : ByteArray} {h pc : Nat} {lv : List (Nat × Value)} {st : List Value} {σ : SS} (C : CX E cc RX6 h) (hd : decode cc pc = .ok (.getfield 70, 3)) (k : AT E (pc + 3) lv (.int (ac_gi σ 1) :: st) σ) : AT E pc lv (.ref (e_q E 1) :: st) σ := at_get C (c := 1) (ci := 0) (k := 1) rfl rfl inw_X0 (by decide) fl_X6_70 rfl rfl hd k
theorem pf_X6_70 {E : EV} {cc : ByteArray} {h pc : Nat} {lv : List (Nat × Value)} {st : List Value} {σ : SS} {x : Int32} (C : CX E cc RX6 h) (hd : decode cc pc = .ok (.putfield 70, 3)) (k : AT E (pc + 3) lv st (ac_si σ 1 x)) : AT E pc lv (.int x :: .ref (e_q E 1) :: st) σ := at_put C (c := 1) (ci := 0) (k := 1) tyX0_ok nmX0 rfl rfl inw_X0 (by decide) fl_X6_70 rfl rfl rfl rfl (Nat.le_of_ble_eq_true rfl) (ac_put_1 _ _ _ _ _) hd k
theorem fl_X4_65 : Cond.fieldLink RX4 65 "AirClock$Air" "channels" "I" ∈ lw_good := lw_in 82 (by decide +kernel) rfl
theorem gf_X4_65 {E : EV} {cc : ByteArray} {h pc : Nat} {lv : List (Nat × Value)} {st : List Value} {σ : SS} (C : CX E cc RX4 h) (hd : decode cc pc = .ok (.getfield 65, 3)) (k : AT E (pc + 3) lv (.int (ac_gi σ 1) :: st) σ) : AT E pc lv (.ref (e_q E 1) :: st) σ := at_get C (c := 1) (ci := 0) (k := 1) rfl rfl inw_X0 (by decide) fl_X4_65 rfl rfl hd k
theorem pf_X4_65 {E : EV} {cc : ByteArray} {h pc : Nat} {lv : List (Nat × Value)} {st : List Value} {σ : SS} {x : Int32} (C : CX E cc RX4 h) (hd : decode cc pc = .ok (.putfield 65, 3)) (k : AT E (pc + 3) lv st (ac_si σ 1 x)) : AT E pc lv (.int x :: .ref (e_q E 1) :: st) σ := at_put C (c := 1) (ci := 0) (k := 1) tyX0_ok nmX0 rfl rfl inw_X0 (by decide) fl_X4_65 rfl rfl rfl rfl (Nat.le_of_ble_eq_true rfl) (ac_put_1 _ _ _ _ _) hd k
theorem fl_X3_64 : Cond.fieldLink RX3 64 "AirClock$Air" "channels" "I" ∈ lw_good := lw_in 83 (by decide +kernel) rfl
theorem gf_X3_64 {E : EV} {cc : ByteArray} {h pc : Nat} {lv : List (Nat × Value)} {st : List Value} {σ : SS} (C : CX E cc RX3 h) (hd : decode cc pc = .ok (.getfield 64, 3)) (k : AT E (pc + 3) lv (.int (ac_gi σ 1) :: st) σ) : AT E pc lv (.ref (e_q E 1) :: st) σ := at_get C (c := 1) (ci := 0) (k := 1) rfl rfl inw_X0 (by decide) fl_X3_64 rfl rfl hd k
theorem pf_X3_64 {E : EV} {cc : ByteArray} {h pc : Nat} {lv : List (Nat × Value)} {st : List Value} {σ : SS} {x : Int32} (C : CX E cc RX3 h) (hd : decode cc pc = .ok (.putfield 64, 3)) (k : AT E (pc + 3) lv st (ac_si σ 1 x)) : AT E pc lv (.int x :: .ref (e_q E 1) :: st) σ := at_put C (c := 1) (ci := 0) (k := 1) tyX0_ok nmX0 rfl rfl inw_X0 (by decide) fl_X3_64 rfl rfl rfl rfl (Nat.le_of_ble_eq_true rfl) (ac_put_1 _ _ _ _ _) hd k
theorem fl_X0_18 : Cond.fieldLink RX0 18 "AirClock$Air" "limit" "I" ∈ lw_good := lw_in 84 (by decide +kernel) rfl
theorem gf_X0_18 {E : EV} {cc : ByteArray} {h pc : Nat} {lv : List (Nat × Value)} {st : List Value} {σ : SS} (C : CX E cc RX0 h) (hd : decode cc pc = .ok (.getfield 18, 3)) (k : AT E (pc + 3) lv (.int (ac_gi σ 2) :: st) σ) : AT E pc lv (.ref (e_q E 1) :: st) σ := at_get C (c := 1) (ci := 0) (k := 2) rfl rfl inw_X0 (by decide) fl_X0_18 rfl rfl hd k
theorem pf_X0_18 {E : EV} {cc : ByteArray} {h pc : Nat} {lv : List (Nat × Value)} {st : List Value} {σ : SS} {x : Int32} (C : CX E cc RX0 h) (hd : decode cc pc = .ok (.putfield 18, 3)) (k : AT E (pc + 3) lv st (ac_si σ 2 x)) : AT E pc lv (.int x :: .ref (e_q E 1) :: st) σ := at_put C (c := 1) (ci := 0) (k := 2) tyX0_ok nmX0 rfl rfl inw_X0 (by decide) fl_X0_18 rfl rfl rfl rfl (Nat.le_of_ble_eq_true rfl) (ac_put_2 _ _ _ _ _) hd k
theorem fl_X4_68 : Cond.fieldLink RX4 68 "AirClock$Air" "limit" "I" ∈ lw_good := lw_in 85 (by decide +kernel) rfl
theorem gf_X4_68 {E : EV} {cc : ByteArray} {h pc : Nat} {lv : List (Nat × Value)} {st : List Value} {σ : SS} (C : CX E cc RX4 h) (hd : decode cc pc = .ok (.getfield 68, 3)) (k : AT E (pc + 3) lv (.int (ac_gi σ 2) :: st) σ) : AT E pc lv (.ref (e_q E 1) :: st) σ := at_get C (c := 1) (ci := 0) (k := 2) rfl rfl inw_X0 (by decide) fl_X4_68 rfl rfl hd k
theorem pf_X4_68 {E : EV} {cc : ByteArray} {h pc : Nat} {lv : List (Nat × Value)} {st : List Value} {σ : SS} {x : Int32} (C : CX E cc RX4 h) (hd : decode cc pc = .ok (.putfield 68, 3)) (k : AT E (pc + 3) lv st (ac_si σ 2 x)) : AT E pc lv (.int x :: .ref (e_q E 1) :: st) σ := at_put C (c := 1) (ci := 0) (k := 2) tyX0_ok nmX0 rfl rfl inw_X0 (by decide) fl_X4_68 rfl rfl rfl rfl (Nat.le_of_ble_eq_true rfl) (ac_put_2 _ _ _ _ _) hd k
theorem fl_X6_92 : Cond.fieldLink RX6 92 "AirClock$Air" "limit" "I" ∈ lw_good := lw_in 86 (by decide +kernel) rfl
theorem gf_X6_92 {E : EV} {cc : ByteArray} {h pc : Nat} {lv : List (Nat × Value)} {st : List Value} {σ : SS} (C : CX E cc RX6 h) (hd : decode cc pc = .ok (.getfield 92, 3)) (k : AT E (pc + 3) lv (.int (ac_gi σ 2) :: st) σ) : AT E pc lv (.ref (e_q E 1) :: st) σ := at_get C (c := 1) (ci := 0) (k := 2) rfl rfl inw_X0 (by decide) fl_X6_92 rfl rfl hd k
theorem pf_X6_92 {E : EV} {cc : ByteArray} {h pc : Nat} {lv : List (Nat × Value)} {st : List Value} {σ : SS} {x : Int32} (C : CX E cc RX6 h) (hd : decode cc pc = .ok (.putfield 92, 3)) (k : AT E (pc + 3) lv st (ac_si σ 2 x)) : AT E pc lv (.int x :: .ref (e_q E 1) :: st) σ := at_put C (c := 1) (ci := 0) (k := 2) tyX0_ok nmX0 rfl rfl inw_X0 (by decide) fl_X6_92 rfl rfl rfl rfl (Nat.le_of_ble_eq_true rfl) (ac_put_2 _ _ _ _ _) hd k
theorem fl_X0_21 : Cond.fieldLink RX0 21 "AirClock$Air" "changes" "I" ∈ lw_good := lw_in 87 (by decide +kernel) rfl
theorem gf_X0_21 {E : EV} {cc : ByteArray} {h pc : Nat} {lv : List (Nat × Value)} {st : List Value} {σ : SS} (C : CX E cc RX0 h) (hd : decode cc pc = .ok (.getfield 21, 3)) (k : AT E (pc + 3) lv (.int (ac_gi σ 3) :: st) σ) : AT E pc lv (.ref (e_q E 1) :: st) σ := at_get C (c := 1) (ci := 0) (k := 3) rfl rfl inw_X0 (by decide) fl_X0_21 rfl rfl hd k
theorem pf_X0_21 {E : EV} {cc : ByteArray} {h pc : Nat} {lv : List (Nat × Value)} {st : List Value} {σ : SS} {x : Int32} (C : CX E cc RX0 h) (hd : decode cc pc = .ok (.putfield 21, 3)) (k : AT E (pc + 3) lv st (ac_si σ 3 x)) : AT E pc lv (.int x :: .ref (e_q E 1) :: st) σ := at_put C (c := 1) (ci := 0) (k := 3) tyX0_ok nmX0 rfl rfl inw_X0 (by decide) fl_X0_21 rfl rfl rfl rfl (Nat.le_of_ble_eq_true rfl) (ac_put_3 _ _ _ _ _) hd k
theorem fl_X6_63 : Cond.fieldLink RX6 63 "AirClock$Air" "changes" "I" ∈ lw_good := lw_in 88 (by decide +kernel) rfl
theorem gf_X6_63 {E : EV} {cc : ByteArray} {h pc : Nat} {lv : List (Nat × Value)} {st : List Value} {σ : SS} (C : CX E cc RX6 h) (hd : decode cc pc = .ok (.getfield 63, 3)) (k : AT E (pc + 3) lv (.int (ac_gi σ 3) :: st) σ) : AT E pc lv (.ref (e_q E 1) :: st) σ := at_get C (c := 1) (ci := 0) (k := 3) rfl rfl inw_X0 (by decide) fl_X6_63 rfl rfl hd k
theorem pf_X6_63 {E : EV} {cc : ByteArray} {h pc : Nat} {lv : List (Nat × Value)} {st : List Value} {σ : SS} {x : Int32} (C : CX E cc RX6 h) (hd : decode cc pc = .ok (.putfield 63, 3)) (k : AT E (pc + 3) lv st (ac_si σ 3 x)) : AT E pc lv (.int x :: .ref (e_q E 1) :: st) σ := at_put C (c := 1) (ci := 0) (k := 3) tyX0_ok nmX0 rfl rfl inw_X0 (by decide) fl_X6_63 rfl rfl rfl rfl (Nat.le_of_ble_eq_true rfl) (ac_put_3 _ _ _ _ _) hd k
theorem fl_X4_55 : Cond.fieldLink RX4 55 "AirClock$Air" "changes" "I" ∈ lw_good := lw_in 89 (by decide +kernel) rfl
theorem gf_X4_55 {E : EV} {cc : ByteArray} {h pc : Nat} {lv : List (Nat × Value)} {st : List Value} {σ : SS} (C : CX E cc RX4 h) (hd : decode cc pc = .ok (.getfield 55, 3)) (k : AT E (pc + 3) lv (.int (ac_gi σ 3) :: st) σ) : AT E pc lv (.ref (e_q E 1) :: st) σ := at_get C (c := 1) (ci := 0) (k := 3) rfl rfl inw_X0 (by decide) fl_X4_55 rfl rfl hd k
theorem pf_X4_55 {E : EV} {cc : ByteArray} {h pc : Nat} {lv : List (Nat × Value)} {st : List Value} {σ : SS} {x : Int32} (C : CX E cc RX4 h) (hd : decode cc pc = .ok (.putfield 55, 3)) (k : AT E (pc + 3) lv st (ac_si σ 3 x)) : AT E pc lv (.int x :: .ref (e_q E 1) :: st) σ := at_put C (c := 1) (ci := 0) (k := 3) tyX0_ok nmX0 rfl rfl inw_X0 (by decide) fl_X4_55 rfl rfl rfl rfl (Nat.le_of_ble_eq_true rfl) (ac_put_3 _ _ _ _ _) hd k
theorem fl_X0_24 : Cond.fieldLink RX0 24 "AirClock$Air" "bars" "[I" ∈ lw_good := lw_in 90 (by decide +kernel) rfl
theorem gf_X0_24 {E : EV} {cc : ByteArray} {h pc : Nat} {lv : List (Nat × Value)} {st : List Value} {σ : SS} (C : CX E cc RX0 h) (hd : decode cc pc = .ok (.getfield 24, 3)) (k : AT E (pc + 3) lv (.ref (e_q E 8) :: st) σ) : AT E pc lv (.ref (e_q E 1) :: st) σ := at_get C (c := 1) (ci := 0) (k := 4) rfl rfl inw_X0 (by decide) fl_X0_24 rfl rfl hd k
theorem fl_X6_89 : Cond.fieldLink RX6 89 "AirClock$Air" "bars" "[I" ∈ lw_good := lw_in 91 (by decide +kernel) rfl
theorem gf_X6_89 {E : EV} {cc : ByteArray} {h pc : Nat} {lv : List (Nat × Value)} {st : List Value} {σ : SS} (C : CX E cc RX6 h) (hd : decode cc pc = .ok (.getfield 89, 3)) (k : AT E (pc + 3) lv (.ref (e_q E 8) :: st) σ) : AT E pc lv (.ref (e_q E 1) :: st) σ := at_get C (c := 1) (ci := 0) (k := 4) rfl rfl inw_X0 (by decide) fl_X6_89 rfl rfl hd k
theorem fl_X0_28 : Cond.fieldLink RX0 28 "AirClock$Air" "pairs" "[I" ∈ lw_good := lw_in 92 (by decide +kernel) rfl
theorem gf_X0_28 {E : EV} {cc : ByteArray} {h pc : Nat} {lv : List (Nat × Value)} {st : List Value} {σ : SS} (C : CX E cc RX0 h) (hd : decode cc pc = .ok (.getfield 28, 3)) (k : AT E (pc + 3) lv (.ref (e_q E 9) :: st) σ) : AT E pc lv (.ref (e_q E 1) :: st) σ := at_get C (c := 1) (ci := 0) (k := 5) rfl rfl inw_X0 (by decide) fl_X0_28 rfl rfl hd k
theorem fl_X4_9 : Cond.fieldLink RX4 9 "AirClock$Search" "made" "I" ∈ lw_good := lw_in 113 (by decide +kernel) rfl
theorem gf_X4_9 {E : EV} {cc : ByteArray} {h pc : Nat} {lv : List (Nat × Value)} {st : List Value} {σ : SS} (C : CX E cc RX4 h) (hd : decode cc pc = .ok (.getfield 9, 3)) (k : AT E (pc + 3) lv (.int (ac_gi σ 10) :: st) σ) : AT E pc lv (.ref (e_q E 2) :: st) σ := at_get C (c := 2) (ci := 4) (k := 0) rfl rfl inw_X4 (by decide) fl_X4_9 rfl rfl hd k
theorem pf_X4_9 {E : EV} {cc : ByteArray} {h pc : Nat} {lv : List (Nat × Value)} {st : List Value} {σ : SS} {x : Int32} (C : CX E cc RX4 h) (hd : decode cc pc = .ok (.putfield 9, 3)) (k : AT E (pc + 3) lv st (ac_si σ 10 x)) : AT E pc lv (.int x :: .ref (e_q E 2) :: st) σ := at_put C (c := 2) (ci := 4) (k := 0) tyX4_ok nmX4 rfl rfl inw_X4 (by decide) fl_X4_9 rfl rfl rfl rfl (Nat.le_of_ble_eq_true rfl) (ac_put_10 _ _ _ _ _) hd k
theorem fl_X6_102 : Cond.fieldLink RX6 102 "AirClock$Search" "made" "I" ∈ lw_good := lw_in 114 (by decide +kernel) rfl
theorem gf_X6_102 {E : EV} {cc : ByteArray} {h pc : Nat} {lv : List (Nat × Value)} {st : List Value} {σ : SS} (C : CX E cc RX6 h) (hd : decode cc pc = .ok (.getfield 102, 3)) (k : AT E (pc + 3) lv (.int (ac_gi σ 10) :: st) σ) : AT E pc lv (.ref (e_q E 2) :: st) σ := at_get C (c := 2) (ci := 4) (k := 0) rfl rfl inw_X4 (by decide) fl_X6_102 rfl rfl hd k
theorem pf_X6_102 {E : EV} {cc : ByteArray} {h pc : Nat} {lv : List (Nat × Value)} {st : List Value} {σ : SS} {x : Int32} (C : CX E cc RX6 h) (hd : decode cc pc = .ok (.putfield 102, 3)) (k : AT E (pc + 3) lv st (ac_si σ 10 x)) : AT E pc lv (.int x :: .ref (e_q E 2) :: st) σ := at_put C (c := 2) (ci := 4) (k := 0) tyX4_ok nmX4 rfl rfl inw_X4 (by decide) fl_X6_102 rfl rfl rfl rfl (Nat.le_of_ble_eq_true rfl) (ac_put_10 _ _ _ _ _) hd k
theorem fl_X4_31 : Cond.fieldLink RX4 31 "AirClock$Search" "air" "LAirClock$Air;" ∈ lw_good := lw_in 115 (by decide +kernel) rfl
theorem gf_X4_31 {E : EV} {cc : ByteArray} {h pc : Nat} {lv : List (Nat × Value)} {st : List Value} {σ : SS} (C : CX E cc RX4 h) (hd : decode cc pc = .ok (.getfield 31, 3)) (k : AT E (pc + 3) lv (.ref (e_q E 1) :: st) σ) : AT E pc lv (.ref (e_q E 2) :: st) σ := at_get C (c := 2) (ci := 4) (k := 1) rfl rfl inw_X4 (by decide) fl_X4_31 rfl rfl hd k
theorem fl_X4_15 : Cond.fieldLink RX4 15 "AirClock$Search" "size" "I" ∈ lw_good := lw_in 116 (by decide +kernel) rfl
theorem gf_X4_15 {E : EV} {cc : ByteArray} {h pc : Nat} {lv : List (Nat × Value)} {st : List Value} {σ : SS} (C : CX E cc RX4 h) (hd : decode cc pc = .ok (.getfield 15, 3)) (k : AT E (pc + 3) lv (.int (ac_gi σ 11) :: st) σ) : AT E pc lv (.ref (e_q E 2) :: st) σ := at_get C (c := 2) (ci := 4) (k := 2) rfl rfl inw_X4 (by decide) fl_X4_15 rfl rfl hd k
theorem pf_X4_15 {E : EV} {cc : ByteArray} {h pc : Nat} {lv : List (Nat × Value)} {st : List Value} {σ : SS} {x : Int32} (C : CX E cc RX4 h) (hd : decode cc pc = .ok (.putfield 15, 3)) (k : AT E (pc + 3) lv st (ac_si σ 11 x)) : AT E pc lv (.int x :: .ref (e_q E 2) :: st) σ := at_put C (c := 2) (ci := 4) (k := 2) tyX4_ok nmX4 rfl rfl inw_X4 (by decide) fl_X4_15 rfl rfl rfl rfl (Nat.le_of_ble_eq_true rfl) (ac_put_11 _ _ _ _ _) hd k
theorem fl_X4_18 : Cond.fieldLink RX4 18 "AirClock$Search" "row" "[I" ∈ lw_good := lw_in 117 (by decide +kernel) rfl
theorem gf_X4_18 {E : EV} {cc : ByteArray} {h pc : Nat} {lv : List (Nat × Value)} {st : List Value} {σ : SS} (C : CX E cc RX4 h) (hd : decode cc pc = .ok (.getfield 18, 3)) (k : AT E (pc + 3) lv (.ref (e_q E 10) :: st) σ) : AT E pc lv (.ref (e_q E 2) :: st) σ := at_get C (c := 2) (ci := 4) (k := 3) rfl rfl inw_X4 (by decide) fl_X4_18 rfl rfl hd k
theorem fl_X4_22 : Cond.fieldLink RX4 22 "AirClock$Search" "may" "[I" ∈ lw_good := lw_in 118 (by decide +kernel) rfl
theorem gf_X4_22 {E : EV} {cc : ByteArray} {h pc : Nat} {lv : List (Nat × Value)} {st : List Value} {σ : SS} (C : CX E cc RX4 h) (hd : decode cc pc = .ok (.getfield 22, 3)) (k : AT E (pc + 3) lv (.ref (e_q E 11) :: st) σ) : AT E pc lv (.ref (e_q E 2) :: st) σ := at_get C (c := 2) (ci := 4) (k := 4) rfl rfl inw_X4 (by decide) fl_X4_22 rfl rfl hd k
theorem fl_X4_25 : Cond.fieldLink RX4 25 "AirClock$Search" "given" "[I" ∈ lw_good := lw_in 119 (by decide +kernel) rfl
theorem gf_X4_25 {E : EV} {cc : ByteArray} {h pc : Nat} {lv : List (Nat × Value)} {st : List Value} {σ : SS} (C : CX E cc RX4 h) (hd : decode cc pc = .ok (.getfield 25, 3)) (k : AT E (pc + 3) lv (.ref (e_q E 12) :: st) σ) : AT E pc lv (.ref (e_q E 2) :: st) σ := at_get C (c := 2) (ci := 4) (k := 5) rfl rfl inw_X4 (by decide) fl_X4_25 rfl rfl hd k
theorem fl_X4_28 : Cond.fieldLink RX4 28 "AirClock$Search" "found" "[I" ∈ lw_good := lw_in 120 (by decide +kernel) rfl
theorem gf_X4_28 {E : EV} {cc : ByteArray} {h pc : Nat} {lv : List (Nat × Value)} {st : List Value} {σ : SS} (C : CX E cc RX4 h) (hd : decode cc pc = .ok (.getfield 28, 3)) (k : AT E (pc + 3) lv (.ref (e_q E 13) :: st) σ) : AT E pc lv (.ref (e_q E 2) :: st) σ := at_get C (c := 2) (ci := 4) (k := 6) rfl rfl inw_X4 (by decide) fl_X4_28 rfl rfl hd k
theorem fl_X3_21 : Cond.fieldLink RX3 21 "AirClock$Packer" "air" "LAirClock$Air;" ∈ lw_good := lw_in 142 (by decide +kernel) rfl
theorem gf_X3_21 {E : EV} {cc : ByteArray} {h pc : Nat} {lv : List (Nat × Value)} {st : List Value} {σ : SS} (C : CX E cc RX3 h) (hd : decode cc pc = .ok (.getfield 21, 3)) (k : AT E (pc + 3) lv (.ref (e_q E 1) :: st) σ) : AT E pc lv (.ref (e_q E 3) :: st) σ := at_get C (c := 3) (ci := 3) (k := 0) rfl rfl inw_X3 (by decide) fl_X3_21 rfl rfl hd k
theorem fl_X3_9 : Cond.fieldLink RX3 9 "AirClock$Packer" "allowed" "[I" ∈ lw_good := lw_in 143 (by decide +kernel) rfl
theorem gf_X3_9 {E : EV} {cc : ByteArray} {h pc : Nat} {lv : List (Nat × Value)} {st : List Value} {σ : SS} (C : CX E cc RX3 h) (hd : decode cc pc = .ok (.getfield 9, 3)) (k : AT E (pc + 3) lv (.ref (e_q E 14) :: st) σ) : AT E pc lv (.ref (e_q E 3) :: st) σ := at_get C (c := 3) (ci := 3) (k := 1) rfl rfl inw_X3 (by decide) fl_X3_9 rfl rfl hd k
theorem fl_X3_15 : Cond.fieldLink RX3 15 "AirClock$Packer" "crowd" "[I" ∈ lw_good := lw_in 144 (by decide +kernel) rfl
theorem gf_X3_15 {E : EV} {cc : ByteArray} {h pc : Nat} {lv : List (Nat × Value)} {st : List Value} {σ : SS} (C : CX E cc RX3 h) (hd : decode cc pc = .ok (.getfield 15, 3)) (k : AT E (pc + 3) lv (.ref (e_q E 15) :: st) σ) : AT E pc lv (.ref (e_q E 3) :: st) σ := at_get C (c := 3) (ci := 3) (k := 2) rfl rfl inw_X3 (by decide) fl_X3_15 rfl rfl hd k
theorem fl_X3_18 : Cond.fieldLink RX3 18 "AirClock$Packer" "open" "[I" ∈ lw_good := lw_in 145 (by decide +kernel) rfl
theorem gf_X3_18 {E : EV} {cc : ByteArray} {h pc : Nat} {lv : List (Nat × Value)} {st : List Value} {σ : SS} (C : CX E cc RX3 h) (hd : decode cc pc = .ok (.getfield 18, 3)) (k : AT E (pc + 3) lv (.ref (e_q E 16) :: st) σ) : AT E pc lv (.ref (e_q E 3) :: st) σ := at_get C (c := 3) (ci := 3) (k := 3) rfl rfl inw_X3 (by decide) fl_X3_18 rfl rfl hd k
theorem fl_X1_9 : Cond.fieldLink RX1 9 "AirClock$Fall" "olds" "I" ∈ lw_good := lw_in 161 (by decide +kernel) rfl
theorem gf_X1_9 {E : EV} {cc : ByteArray} {h pc : Nat} {lv : List (Nat × Value)} {st : List Value} {σ : SS} (C : CX E cc RX1 h) (hd : decode cc pc = .ok (.getfield 9, 3)) (k : AT E (pc + 3) lv (.int (ac_gi σ 4) :: st) σ) : AT E pc lv (.ref (e_q E 4) :: st) σ := at_get C (c := 4) (ci := 1) (k := 0) rfl rfl inw_X1 (by decide) fl_X1_9 rfl rfl hd k
theorem pf_X1_9 {E : EV} {cc : ByteArray} {h pc : Nat} {lv : List (Nat × Value)} {st : List Value} {σ : SS} {x : Int32} (C : CX E cc RX1 h) (hd : decode cc pc = .ok (.putfield 9, 3)) (k : AT E (pc + 3) lv st (ac_si σ 4 x)) : AT E pc lv (.int x :: .ref (e_q E 4) :: st) σ := at_put C (c := 4) (ci := 1) (k := 0) tyX1_ok nmX1 rfl rfl inw_X1 (by decide) fl_X1_9 rfl rfl rfl rfl (Nat.le_of_ble_eq_true rfl) (ac_put_4 _ _ _ _ _) hd k
theorem fl_X6_121 : Cond.fieldLink RX6 121 "AirClock$Fall" "olds" "I" ∈ lw_good := lw_in 162 (by decide +kernel) rfl
theorem gf_X6_121 {E : EV} {cc : ByteArray} {h pc : Nat} {lv : List (Nat × Value)} {st : List Value} {σ : SS} (C : CX E cc RX6 h) (hd : decode cc pc = .ok (.getfield 121, 3)) (k : AT E (pc + 3) lv (.int (ac_gi σ 4) :: st) σ) : AT E pc lv (.ref (e_q E 4) :: st) σ := at_get C (c := 4) (ci := 1) (k := 0) rfl rfl inw_X1 (by decide) fl_X6_121 rfl rfl hd k
theorem pf_X6_121 {E : EV} {cc : ByteArray} {h pc : Nat} {lv : List (Nat × Value)} {st : List Value} {σ : SS} {x : Int32} (C : CX E cc RX6 h) (hd : decode cc pc = .ok (.putfield 121, 3)) (k : AT E (pc + 3) lv st (ac_si σ 4 x)) : AT E pc lv (.int x :: .ref (e_q E 4) :: st) σ := at_put C (c := 4) (ci := 1) (k := 0) tyX1_ok nmX1 rfl rfl inw_X1 (by decide) fl_X6_121 rfl rfl rfl rfl (Nat.le_of_ble_eq_true rfl) (ac_put_4 _ _ _ _ _) hd k
theorem fl_X1_15 : Cond.fieldLink RX1 15 "AirClock$Fall" "start" "I" ∈ lw_good := lw_in 163 (by decide +kernel) rfl
theorem gf_X1_15 {E : EV} {cc : ByteArray} {h pc : Nat} {lv : List (Nat × Value)} {st : List Value} {σ : SS} (C : CX E cc RX1 h) (hd : decode cc pc = .ok (.getfield 15, 3)) (k : AT E (pc + 3) lv (.int (ac_gi σ 5) :: st) σ) : AT E pc lv (.ref (e_q E 4) :: st) σ := at_get C (c := 4) (ci := 1) (k := 1) rfl rfl inw_X1 (by decide) fl_X1_15 rfl rfl hd k
theorem pf_X1_15 {E : EV} {cc : ByteArray} {h pc : Nat} {lv : List (Nat × Value)} {st : List Value} {σ : SS} {x : Int32} (C : CX E cc RX1 h) (hd : decode cc pc = .ok (.putfield 15, 3)) (k : AT E (pc + 3) lv st (ac_si σ 5 x)) : AT E pc lv (.int x :: .ref (e_q E 4) :: st) σ := at_put C (c := 4) (ci := 1) (k := 1) tyX1_ok nmX1 rfl rfl inw_X1 (by decide) fl_X1_15 rfl rfl rfl rfl (Nat.le_of_ble_eq_true rfl) (ac_put_5 _ _ _ _ _) hd k
theorem fl_X6_127 : Cond.fieldLink RX6 127 "AirClock$Fall" "start" "I" ∈ lw_good := lw_in 164 (by decide +kernel) rfl
theorem gf_X6_127 {E : EV} {cc : ByteArray} {h pc : Nat} {lv : List (Nat × Value)} {st : List Value} {σ : SS} (C : CX E cc RX6 h) (hd : decode cc pc = .ok (.getfield 127, 3)) (k : AT E (pc + 3) lv (.int (ac_gi σ 5) :: st) σ) : AT E pc lv (.ref (e_q E 4) :: st) σ := at_get C (c := 4) (ci := 1) (k := 1) rfl rfl inw_X1 (by decide) fl_X6_127 rfl rfl hd k
theorem pf_X6_127 {E : EV} {cc : ByteArray} {h pc : Nat} {lv : List (Nat × Value)} {st : List Value} {σ : SS} {x : Int32} (C : CX E cc RX6 h) (hd : decode cc pc = .ok (.putfield 127, 3)) (k : AT E (pc + 3) lv st (ac_si σ 5 x)) : AT E pc lv (.int x :: .ref (e_q E 4) :: st) σ := at_put C (c := 4) (ci := 1) (k := 1) tyX1_ok nmX1 rfl rfl inw_X1 (by decide) fl_X6_127 rfl rfl rfl rfl (Nat.le_of_ble_eq_true rfl) (ac_put_5 _ _ _ _ _) hd k
theorem fl_X1_18 : Cond.fieldLink RX1 18 "AirClock$Fall" "step" "I" ∈ lw_good := lw_in 165 (by decide +kernel) rfl
theorem gf_X1_18 {E : EV} {cc : ByteArray} {h pc : Nat} {lv : List (Nat × Value)} {st : List Value} {σ : SS} (C : CX E cc RX1 h) (hd : decode cc pc = .ok (.getfield 18, 3)) (k : AT E (pc + 3) lv (.int (ac_gi σ 6) :: st) σ) : AT E pc lv (.ref (e_q E 4) :: st) σ := at_get C (c := 4) (ci := 1) (k := 2) rfl rfl inw_X1 (by decide) fl_X1_18 rfl rfl hd k
theorem pf_X1_18 {E : EV} {cc : ByteArray} {h pc : Nat} {lv : List (Nat × Value)} {st : List Value} {σ : SS} {x : Int32} (C : CX E cc RX1 h) (hd : decode cc pc = .ok (.putfield 18, 3)) (k : AT E (pc + 3) lv st (ac_si σ 6 x)) : AT E pc lv (.int x :: .ref (e_q E 4) :: st) σ := at_put C (c := 4) (ci := 1) (k := 2) tyX1_ok nmX1 rfl rfl inw_X1 (by decide) fl_X1_18 rfl rfl rfl rfl (Nat.le_of_ble_eq_true rfl) (ac_put_6 _ _ _ _ _) hd k
theorem fl_X6_130 : Cond.fieldLink RX6 130 "AirClock$Fall" "step" "I" ∈ lw_good := lw_in 166 (by decide +kernel) rfl
theorem gf_X6_130 {E : EV} {cc : ByteArray} {h pc : Nat} {lv : List (Nat × Value)} {st : List Value} {σ : SS} (C : CX E cc RX6 h) (hd : decode cc pc = .ok (.getfield 130, 3)) (k : AT E (pc + 3) lv (.int (ac_gi σ 6) :: st) σ) : AT E pc lv (.ref (e_q E 4) :: st) σ := at_get C (c := 4) (ci := 1) (k := 2) rfl rfl inw_X1 (by decide) fl_X6_130 rfl rfl hd k
theorem pf_X6_130 {E : EV} {cc : ByteArray} {h pc : Nat} {lv : List (Nat × Value)} {st : List Value} {σ : SS} {x : Int32} (C : CX E cc RX6 h) (hd : decode cc pc = .ok (.putfield 130, 3)) (k : AT E (pc + 3) lv st (ac_si σ 6 x)) : AT E pc lv (.int x :: .ref (e_q E 4) :: st) σ := at_put C (c := 4) (ci := 1) (k := 2) tyX1_ok nmX1 rfl rfl inw_X1 (by decide) fl_X6_130 rfl rfl rfl rfl (Nat.le_of_ble_eq_true rfl) (ac_put_6 _ _ _ _ _) hd k
theorem fl_X1_21 : Cond.fieldLink RX1 21 "AirClock$Fall" "values" "[I" ∈ lw_good := lw_in 167 (by decide +kernel) rfl
theorem gf_X1_21 {E : EV} {cc : ByteArray} {h pc : Nat} {lv : List (Nat × Value)} {st : List Value} {σ : SS} (C : CX E cc RX1 h) (hd : decode cc pc = .ok (.getfield 21, 3)) (k : AT E (pc + 3) lv (.ref (e_q E 17) :: st) σ) : AT E pc lv (.ref (e_q E 4) :: st) σ := at_get C (c := 4) (ci := 1) (k := 3) rfl rfl inw_X1 (by decide) fl_X1_21 rfl rfl hd k
theorem fl_X6_153 : Cond.fieldLink RX6 153 "AirClock$Fall" "values" "[I" ∈ lw_good := lw_in 168 (by decide +kernel) rfl
theorem gf_X6_153 {E : EV} {cc : ByteArray} {h pc : Nat} {lv : List (Nat × Value)} {st : List Value} {σ : SS} (C : CX E cc RX6 h) (hd : decode cc pc = .ok (.getfield 153, 3)) (k : AT E (pc + 3) lv (.ref (e_q E 17) :: st) σ) : AT E pc lv (.ref (e_q E 4) :: st) σ := at_get C (c := 4) (ci := 1) (k := 3) rfl rfl inw_X1 (by decide) fl_X6_153 rfl rfl hd k
theorem fl_X1_25 : Cond.fieldLink RX1 25 "AirClock$Fall" "weights" "[I" ∈ lw_good := lw_in 169 (by decide +kernel) rfl
theorem gf_X1_25 {E : EV} {cc : ByteArray} {h pc : Nat} {lv : List (Nat × Value)} {st : List Value} {σ : SS} (C : CX E cc RX1 h) (hd : decode cc pc = .ok (.getfield 25, 3)) (k : AT E (pc + 3) lv (.ref (e_q E 18) :: st) σ) : AT E pc lv (.ref (e_q E 4) :: st) σ := at_get C (c := 4) (ci := 1) (k := 4) rfl rfl inw_X1 (by decide) fl_X1_25 rfl rfl hd k
theorem fl_X6_245 : Cond.fieldLink RX6 245 "AirClock$Fall" "weights" "[I" ∈ lw_good := lw_in 170 (by decide +kernel) rfl
theorem gf_X6_245 {E : EV} {cc : ByteArray} {h pc : Nat} {lv : List (Nat × Value)} {st : List Value} {σ : SS} (C : CX E cc RX6 h) (hd : decode cc pc = .ok (.getfield 245, 3)) (k : AT E (pc + 3) lv (.ref (e_q E 18) :: st) σ) : AT E pc lv (.ref (e_q E 4) :: st) σ := at_get C (c := 4) (ci := 1) (k := 4) rfl rfl inw_X1 (by decide) fl_X6_245 rfl rfl hd k
theorem fl_X1_28 : Cond.fieldLink RX1 28 "AirClock$Fall" "paidTo" "[I" ∈ lw_good := lw_in 171 (by decide +kernel) rfl
theorem gf_X1_28 {E : EV} {cc : ByteArray} {h pc : Nat} {lv : List (Nat × Value)} {st : List Value} {σ : SS} (C : CX E cc RX1 h) (hd : decode cc pc = .ok (.getfield 28, 3)) (k : AT E (pc + 3) lv (.ref (e_q E 19) :: st) σ) : AT E pc lv (.ref (e_q E 4) :: st) σ := at_get C (c := 4) (ci := 1) (k := 5) rfl rfl inw_X1 (by decide) fl_X1_28 rfl rfl hd k
theorem fl_X6_143 : Cond.fieldLink RX6 143 "AirClock$Fall" "paidTo" "[I" ∈ lw_good := lw_in 172 (by decide +kernel) rfl
theorem gf_X6_143 {E : EV} {cc : ByteArray} {h pc : Nat} {lv : List (Nat × Value)} {st : List Value} {σ : SS} (C : CX E cc RX6 h) (hd : decode cc pc = .ok (.getfield 143, 3)) (k : AT E (pc + 3) lv (.ref (e_q E 19) :: st) σ) : AT E pc lv (.ref (e_q E 4) :: st) σ := at_get C (c := 4) (ci := 1) (k := 5) rfl rfl inw_X1 (by decide) fl_X6_143 rfl rfl hd k
theorem fl_X1_31 : Cond.fieldLink RX1 31 "AirClock$Fall" "endedIn" "[I" ∈ lw_good := lw_in 173 (by decide +kernel) rfl
theorem gf_X1_31 {E : EV} {cc : ByteArray} {h pc : Nat} {lv : List (Nat × Value)} {st : List Value} {σ : SS} (C : CX E cc RX1 h) (hd : decode cc pc = .ok (.getfield 31, 3)) (k : AT E (pc + 3) lv (.ref (e_q E 20) :: st) σ) : AT E pc lv (.ref (e_q E 4) :: st) σ := at_get C (c := 4) (ci := 1) (k := 6) rfl rfl inw_X1 (by decide) fl_X1_31 rfl rfl hd k
theorem fl_X6_146 : Cond.fieldLink RX6 146 "AirClock$Fall" "endedIn" "[I" ∈ lw_good := lw_in 174 (by decide +kernel) rfl
theorem gf_X6_146 {E : EV} {cc : ByteArray} {h pc : Nat} {lv : List (Nat × Value)} {st : List Value} {σ : SS} (C : CX E cc RX6 h) (hd : decode cc pc = .ok (.getfield 146, 3)) (k : AT E (pc + 3) lv (.ref (e_q E 20) :: st) σ) : AT E pc lv (.ref (e_q E 4) :: st) σ := at_get C (c := 4) (ci := 1) (k := 6) rfl rfl inw_X1 (by decide) fl_X6_146 rfl rfl hd k
theorem fl_X1_43 : Cond.fieldLink RX1 43 "AirClock$Fall" "air" "LAirClock$Air;" ∈ lw_good := lw_in 175 (by decide +kernel) rfl
theorem gf_X1_43 {E : EV} {cc : ByteArray} {h pc : Nat} {lv : List (Nat × Value)} {st : List Value} {σ : SS} (C : CX E cc RX1 h) (hd : decode cc pc = .ok (.getfield 43, 3)) (k : AT E (pc + 3) lv (.ref (e_q E 1) :: st) σ) : AT E pc lv (.ref (e_q E 4) :: st) σ := at_get C (c := 4) (ci := 1) (k := 7) rfl rfl inw_X1 (by decide) fl_X1_43 rfl rfl hd k
theorem fl_X1_47 : Cond.fieldLink RX1 47 "AirClock$Fall" "search" "LAirClock$Search;" ∈ lw_good := lw_in 176 (by decide +kernel) rfl
theorem gf_X1_47 {E : EV} {cc : ByteArray} {h pc : Nat} {lv : List (Nat × Value)} {st : List Value} {σ : SS} (C : CX E cc RX1 h) (hd : decode cc pc = .ok (.getfield 47, 3)) (k : AT E (pc + 3) lv (.ref (e_q E 2) :: st) σ) : AT E pc lv (.ref (e_q E 4) :: st) σ := at_get C (c := 4) (ci := 1) (k := 8) rfl rfl inw_X1 (by decide) fl_X1_47 rfl rfl hd k
theorem fl_X1_34 : Cond.fieldLink RX1 34 "AirClock$Fall" "back" "I" ∈ lw_good := lw_in 177 (by decide +kernel) rfl
theorem gf_X1_34 {E : EV} {cc : ByteArray} {h pc : Nat} {lv : List (Nat × Value)} {st : List Value} {σ : SS} (C : CX E cc RX1 h) (hd : decode cc pc = .ok (.getfield 34, 3)) (k : AT E (pc + 3) lv (.int (ac_gi σ 7) :: st) σ) : AT E pc lv (.ref (e_q E 4) :: st) σ := at_get C (c := 4) (ci := 1) (k := 9) rfl rfl inw_X1 (by decide) fl_X1_34 rfl rfl hd k
theorem pf_X1_34 {E : EV} {cc : ByteArray} {h pc : Nat} {lv : List (Nat × Value)} {st : List Value} {σ : SS} {x : Int32} (C : CX E cc RX1 h) (hd : decode cc pc = .ok (.putfield 34, 3)) (k : AT E (pc + 3) lv st (ac_si σ 7 x)) : AT E pc lv (.int x :: .ref (e_q E 4) :: st) σ := at_put C (c := 4) (ci := 1) (k := 9) tyX1_ok nmX1 rfl rfl inw_X1 (by decide) fl_X1_34 rfl rfl rfl rfl (Nat.le_of_ble_eq_true rfl) (ac_put_7 _ _ _ _ _) hd k
theorem fl_X1_37 : Cond.fieldLink RX1 37 "AirClock$Fall" "frozen" "I" ∈ lw_good := lw_in 178 (by decide +kernel) rfl
theorem gf_X1_37 {E : EV} {cc : ByteArray} {h pc : Nat} {lv : List (Nat × Value)} {st : List Value} {σ : SS} (C : CX E cc RX1 h) (hd : decode cc pc = .ok (.getfield 37, 3)) (k : AT E (pc + 3) lv (.int (ac_gi σ 8) :: st) σ) : AT E pc lv (.ref (e_q E 4) :: st) σ := at_get C (c := 4) (ci := 1) (k := 10) rfl rfl inw_X1 (by decide) fl_X1_37 rfl rfl hd k
theorem pf_X1_37 {E : EV} {cc : ByteArray} {h pc : Nat} {lv : List (Nat × Value)} {st : List Value} {σ : SS} {x : Int32} (C : CX E cc RX1 h) (hd : decode cc pc = .ok (.putfield 37, 3)) (k : AT E (pc + 3) lv st (ac_si σ 8 x)) : AT E pc lv (.int x :: .ref (e_q E 4) :: st) σ := at_put C (c := 4) (ci := 1) (k := 10) tyX1_ok nmX1 rfl rfl inw_X1 (by decide) fl_X1_37 rfl rfl rfl rfl (Nat.le_of_ble_eq_true rfl) (ac_put_8 _ _ _ _ _) hd k
theorem fl_X1_40 : Cond.fieldLink RX1 40 "AirClock$Fall" "rounds" "I" ∈ lw_good := lw_in 179 (by decide +kernel) rfl
theorem gf_X1_40 {E : EV} {cc : ByteArray} {h pc : Nat} {lv : List (Nat × Value)} {st : List Value} {σ : SS} (C : CX E cc RX1 h) (hd : decode cc pc = .ok (.getfield 40, 3)) (k : AT E (pc + 3) lv (.int (ac_gi σ 9) :: st) σ) : AT E pc lv (.ref (e_q E 4) :: st) σ := at_get C (c := 4) (ci := 1) (k := 11) rfl rfl inw_X1 (by decide) fl_X1_40 rfl rfl hd k
theorem pf_X1_40 {E : EV} {cc : ByteArray} {h pc : Nat} {lv : List (Nat × Value)} {st : List Value} {σ : SS} {x : Int32} (C : CX E cc RX1 h) (hd : decode cc pc = .ok (.putfield 40, 3)) (k : AT E (pc + 3) lv st (ac_si σ 9 x)) : AT E pc lv (.int x :: .ref (e_q E 4) :: st) σ := at_put C (c := 4) (ci := 1) (k := 11) tyX1_ok nmX1 rfl rfl inw_X1 (by decide) fl_X1_40 rfl rfl rfl rfl (Nat.le_of_ble_eq_true rfl) (ac_put_9 _ _ _ _ _) hd k
theorem fl_X5_9 : Cond.fieldLink RX5 9 "AirClock$Trade" "houses" "I" ∈ lw_good := lw_in 211 (by decide +kernel) rfl
theorem gf_X5_9 {E : EV} {cc : ByteArray} {h pc : Nat} {lv : List (Nat × Value)} {st : List Value} {σ : SS} (C : CX E cc RX5 h) (hd : decode cc pc = .ok (.getfield 9, 3)) (k : AT E (pc + 3) lv (.int (ac_gi σ 12) :: st) σ) : AT E pc lv (.ref (e_q E 5) :: st) σ := at_get C (c := 5) (ci := 5) (k := 0) rfl rfl inw_X5 (by decide) fl_X5_9 rfl rfl hd k
theorem pf_X5_9 {E : EV} {cc : ByteArray} {h pc : Nat} {lv : List (Nat × Value)} {st : List Value} {σ : SS} {x : Int32} (C : CX E cc RX5 h) (hd : decode cc pc = .ok (.putfield 9, 3)) (k : AT E (pc + 3) lv st (ac_si σ 12 x)) : AT E pc lv (.int x :: .ref (e_q E 5) :: st) σ := at_put C (c := 5) (ci := 5) (k := 0) tyX5_ok nmX5 rfl rfl inw_X5 (by decide) fl_X5_9 rfl rfl rfl rfl (Nat.le_of_ble_eq_true rfl) (ac_put_12 _ _ _ _ _) hd k
theorem fl_X6_156 : Cond.fieldLink RX6 156 "AirClock$Trade" "houses" "I" ∈ lw_good := lw_in 212 (by decide +kernel) rfl
theorem gf_X6_156 {E : EV} {cc : ByteArray} {h pc : Nat} {lv : List (Nat × Value)} {st : List Value} {σ : SS} (C : CX E cc RX6 h) (hd : decode cc pc = .ok (.getfield 156, 3)) (k : AT E (pc + 3) lv (.int (ac_gi σ 12) :: st) σ) : AT E pc lv (.ref (e_q E 5) :: st) σ := at_get C (c := 5) (ci := 5) (k := 0) rfl rfl inw_X5 (by decide) fl_X6_156 rfl rfl hd k
theorem pf_X6_156 {E : EV} {cc : ByteArray} {h pc : Nat} {lv : List (Nat × Value)} {st : List Value} {σ : SS} {x : Int32} (C : CX E cc RX6 h) (hd : decode cc pc = .ok (.putfield 156, 3)) (k : AT E (pc + 3) lv st (ac_si σ 12 x)) : AT E pc lv (.int x :: .ref (e_q E 5) :: st) σ := at_put C (c := 5) (ci := 5) (k := 0) tyX5_ok nmX5 rfl rfl inw_X5 (by decide) fl_X6_156 rfl rfl rfl rfl (Nat.le_of_ble_eq_true rfl) (ac_put_12 _ _ _ _ _) hd k
theorem fl_X5_15 : Cond.fieldLink RX5 15 "AirClock$Trade" "sentences" "I" ∈ lw_good := lw_in 213 (by decide +kernel) rfl
theorem gf_X5_15 {E : EV} {cc : ByteArray} {h pc : Nat} {lv : List (Nat × Value)} {st : List Value} {σ : SS} (C : CX E cc RX5 h) (hd : decode cc pc = .ok (.getfield 15, 3)) (k : AT E (pc + 3) lv (.int (ac_gi σ 13) :: st) σ) : AT E pc lv (.ref (e_q E 5) :: st) σ := at_get C (c := 5) (ci := 5) (k := 1) rfl rfl inw_X5 (by decide) fl_X5_15 rfl rfl hd k
theorem pf_X5_15 {E : EV} {cc : ByteArray} {h pc : Nat} {lv : List (Nat × Value)} {st : List Value} {σ : SS} {x : Int32} (C : CX E cc RX5 h) (hd : decode cc pc = .ok (.putfield 15, 3)) (k : AT E (pc + 3) lv st (ac_si σ 13 x)) : AT E pc lv (.int x :: .ref (e_q E 5) :: st) σ := at_put C (c := 5) (ci := 5) (k := 1) tyX5_ok nmX5 rfl rfl inw_X5 (by decide) fl_X5_15 rfl rfl rfl rfl (Nat.le_of_ble_eq_true rfl) (ac_put_13 _ _ _ _ _) hd k
theorem fl_X6_166 : Cond.fieldLink RX6 166 "AirClock$Trade" "sentences" "I" ∈ lw_good := lw_in 214 (by decide +kernel) rfl
theorem gf_X6_166 {E : EV} {cc : ByteArray} {h pc : Nat} {lv : List (Nat × Value)} {st : List Value} {σ : SS} (C : CX E cc RX6 h) (hd : decode cc pc = .ok (.getfield 166, 3)) (k : AT E (pc + 3) lv (.int (ac_gi σ 13) :: st) σ) : AT E pc lv (.ref (e_q E 5) :: st) σ := at_get C (c := 5) (ci := 5) (k := 1) rfl rfl inw_X5 (by decide) fl_X6_166 rfl rfl hd k
theorem pf_X6_166 {E : EV} {cc : ByteArray} {h pc : Nat} {lv : List (Nat × Value)} {st : List Value} {σ : SS} {x : Int32} (C : CX E cc RX6 h) (hd : decode cc pc = .ok (.putfield 166, 3)) (k : AT E (pc + 3) lv st (ac_si σ 13 x)) : AT E pc lv (.int x :: .ref (e_q E 5) :: st) σ := at_put C (c := 5) (ci := 5) (k := 1) tyX5_ok nmX5 rfl rfl inw_X5 (by decide) fl_X6_166 rfl rfl rfl rfl (Nat.le_of_ble_eq_true rfl) (ac_put_13 _ _ _ _ _) hd k
theorem fl_X5_18 : Cond.fieldLink RX5 18 "AirClock$Trade" "houseOf" "[I" ∈ lw_good := lw_in 215 (by decide +kernel) rfl
theorem gf_X5_18 {E : EV} {cc : ByteArray} {h pc : Nat} {lv : List (Nat × Value)} {st : List Value} {σ : SS} (C : CX E cc RX5 h) (hd : decode cc pc = .ok (.getfield 18, 3)) (k : AT E (pc + 3) lv (.ref (e_q E 21) :: st) σ) : AT E pc lv (.ref (e_q E 5) :: st) σ := at_get C (c := 5) (ci := 5) (k := 2) rfl rfl inw_X5 (by decide) fl_X5_18 rfl rfl hd k
theorem fl_X6_236 : Cond.fieldLink RX6 236 "AirClock$Trade" "houseOf" "[I" ∈ lw_good := lw_in 216 (by decide +kernel) rfl
theorem gf_X6_236 {E : EV} {cc : ByteArray} {h pc : Nat} {lv : List (Nat × Value)} {st : List Value} {σ : SS} (C : CX E cc RX6 h) (hd : decode cc pc = .ok (.getfield 236, 3)) (k : AT E (pc + 3) lv (.ref (e_q E 21) :: st) σ) : AT E pc lv (.ref (e_q E 5) :: st) σ := at_get C (c := 5) (ci := 5) (k := 2) rfl rfl inw_X5 (by decide) fl_X6_236 rfl rfl hd k
theorem fl_X5_22 : Cond.fieldLink RX5 22 "AirClock$Trade" "bandsOf" "[I" ∈ lw_good := lw_in 217 (by decide +kernel) rfl
theorem gf_X5_22 {E : EV} {cc : ByteArray} {h pc : Nat} {lv : List (Nat × Value)} {st : List Value} {σ : SS} (C : CX E cc RX5 h) (hd : decode cc pc = .ok (.getfield 22, 3)) (k : AT E (pc + 3) lv (.ref (e_q E 22) :: st) σ) : AT E pc lv (.ref (e_q E 5) :: st) σ := at_get C (c := 5) (ci := 5) (k := 3) rfl rfl inw_X5 (by decide) fl_X5_22 rfl rfl hd k
theorem fl_X6_239 : Cond.fieldLink RX6 239 "AirClock$Trade" "bandsOf" "[I" ∈ lw_good := lw_in 218 (by decide +kernel) rfl
theorem gf_X6_239 {E : EV} {cc : ByteArray} {h pc : Nat} {lv : List (Nat × Value)} {st : List Value} {σ : SS} (C : CX E cc RX6 h) (hd : decode cc pc = .ok (.getfield 239, 3)) (k : AT E (pc + 3) lv (.ref (e_q E 22) :: st) σ) : AT E pc lv (.ref (e_q E 5) :: st) σ := at_get C (c := 5) (ci := 5) (k := 3) rfl rfl inw_X5 (by decide) fl_X6_239 rfl rfl hd k
theorem fl_X5_25 : Cond.fieldLink RX5 25 "AirClock$Trade" "sumOf" "[I" ∈ lw_good := lw_in 219 (by decide +kernel) rfl
theorem gf_X5_25 {E : EV} {cc : ByteArray} {h pc : Nat} {lv : List (Nat × Value)} {st : List Value} {σ : SS} (C : CX E cc RX5 h) (hd : decode cc pc = .ok (.getfield 25, 3)) (k : AT E (pc + 3) lv (.ref (e_q E 23) :: st) σ) : AT E pc lv (.ref (e_q E 5) :: st) σ := at_get C (c := 5) (ci := 5) (k := 4) rfl rfl inw_X5 (by decide) fl_X5_25 rfl rfl hd k
theorem fl_X6_242 : Cond.fieldLink RX6 242 "AirClock$Trade" "sumOf" "[I" ∈ lw_good := lw_in 220 (by decide +kernel) rfl
theorem gf_X6_242 {E : EV} {cc : ByteArray} {h pc : Nat} {lv : List (Nat × Value)} {st : List Value} {σ : SS} (C : CX E cc RX6 h) (hd : decode cc pc = .ok (.getfield 242, 3)) (k : AT E (pc + 3) lv (.ref (e_q E 23) :: st) σ) : AT E pc lv (.ref (e_q E 5) :: st) σ := at_get C (c := 5) (ci := 5) (k := 4) rfl rfl inw_X5 (by decide) fl_X6_242 rfl rfl hd k
theorem fl_X5_28 : Cond.fieldLink RX5 28 "AirClock$Trade" "prices" "[I" ∈ lw_good := lw_in 221 (by decide +kernel) rfl
theorem gf_X5_28 {E : EV} {cc : ByteArray} {h pc : Nat} {lv : List (Nat × Value)} {st : List Value} {σ : SS} (C : CX E cc RX5 h) (hd : decode cc pc = .ok (.getfield 28, 3)) (k : AT E (pc + 3) lv (.ref (e_q E 24) :: st) σ) : AT E pc lv (.ref (e_q E 5) :: st) σ := at_get C (c := 5) (ci := 5) (k := 5) rfl rfl inw_X5 (by decide) fl_X5_28 rfl rfl hd k
theorem fl_X6_189 : Cond.fieldLink RX6 189 "AirClock$Trade" "prices" "[I" ∈ lw_good := lw_in 222 (by decide +kernel) rfl
theorem gf_X6_189 {E : EV} {cc : ByteArray} {h pc : Nat} {lv : List (Nat × Value)} {st : List Value} {σ : SS} (C : CX E cc RX6 h) (hd : decode cc pc = .ok (.getfield 189, 3)) (k : AT E (pc + 3) lv (.ref (e_q E 24) :: st) σ) : AT E pc lv (.ref (e_q E 5) :: st) σ := at_get C (c := 5) (ci := 5) (k := 5) rfl rfl inw_X5 (by decide) fl_X6_189 rfl rfl hd k
theorem fl_X5_31 : Cond.fieldLink RX5 31 "AirClock$Trade" "won" "[I" ∈ lw_good := lw_in 223 (by decide +kernel) rfl
theorem gf_X5_31 {E : EV} {cc : ByteArray} {h pc : Nat} {lv : List (Nat × Value)} {st : List Value} {σ : SS} (C : CX E cc RX5 h) (hd : decode cc pc = .ok (.getfield 31, 3)) (k : AT E (pc + 3) lv (.ref (e_q E 25) :: st) σ) : AT E pc lv (.ref (e_q E 5) :: st) σ := at_get C (c := 5) (ci := 5) (k := 6) rfl rfl inw_X5 (by decide) fl_X5_31 rfl rfl hd k
theorem fl_X6_183 : Cond.fieldLink RX6 183 "AirClock$Trade" "won" "[I" ∈ lw_good := lw_in 224 (by decide +kernel) rfl
theorem gf_X6_183 {E : EV} {cc : ByteArray} {h pc : Nat} {lv : List (Nat × Value)} {st : List Value} {σ : SS} (C : CX E cc RX6 h) (hd : decode cc pc = .ok (.getfield 183, 3)) (k : AT E (pc + 3) lv (.ref (e_q E 25) :: st) σ) : AT E pc lv (.ref (e_q E 5) :: st) σ := at_get C (c := 5) (ci := 5) (k := 6) rfl rfl inw_X5 (by decide) fl_X6_183 rfl rfl hd k
theorem fl_X5_34 : Cond.fieldLink RX5 34 "AirClock$Trade" "sums" "[I" ∈ lw_good := lw_in 225 (by decide +kernel) rfl
theorem gf_X5_34 {E : EV} {cc : ByteArray} {h pc : Nat} {lv : List (Nat × Value)} {st : List Value} {σ : SS} (C : CX E cc RX5 h) (hd : decode cc pc = .ok (.getfield 34, 3)) (k : AT E (pc + 3) lv (.ref (e_q E 26) :: st) σ) : AT E pc lv (.ref (e_q E 5) :: st) σ := at_get C (c := 5) (ci := 5) (k := 7) rfl rfl inw_X5 (by decide) fl_X5_34 rfl rfl hd k
theorem fl_X5_37 : Cond.fieldLink RX5 37 "AirClock$Trade" "stale" "Z" ∈ lw_good := lw_in 226 (by decide +kernel) rfl
theorem gf_X5_37 {E : EV} {cc : ByteArray} {h pc : Nat} {lv : List (Nat × Value)} {st : List Value} {σ : SS} (C : CX E cc RX5 h) (hd : decode cc pc = .ok (.getfield 37, 3)) (k : AT E (pc + 3) lv (.int (ac_gi σ 14) :: st) σ) : AT E pc lv (.ref (e_q E 5) :: st) σ := at_get C (c := 5) (ci := 5) (k := 8) rfl rfl inw_X5 (by decide) fl_X5_37 rfl rfl hd k
theorem pf_X5_37 {E : EV} {cc : ByteArray} {h pc : Nat} {lv : List (Nat × Value)} {st : List Value} {σ : SS} {x : Int32} (C : CX E cc RX5 h) (hn : narrow .boolean (.int x) = .int x) (hf : fits .boolean (.int x) = true) (hd : decode cc pc = .ok (.putfield 37, 3)) (k : AT E (pc + 3) lv st (ac_si σ 14 x)) : AT E pc lv (.int x :: .ref (e_q E 5) :: st) σ := at_put C (c := 5) (ci := 5) (k := 8) tyX5_ok nmX5 rfl rfl inw_X5 (by decide) fl_X5_37 rfl rfl hn hf (Nat.le_of_ble_eq_true rfl) (ac_put_14 _ _ _ _ _) hd k
theorem fl_X2_9 : Cond.fieldLink RX2 9 "AirClock$Moves" "before" "[I" ∈ lw_good := lw_in 252 (by decide +kernel) rfl
theorem gf_X2_9 {E : EV} {cc : ByteArray} {h pc : Nat} {lv : List (Nat × Value)} {st : List Value} {σ : SS} (C : CX E cc RX2 h) (hd : decode cc pc = .ok (.getfield 9, 3)) (k : AT E (pc + 3) lv (.ref (e_q E 27) :: st) σ) : AT E pc lv (.ref (e_q E 6) :: st) σ := at_get C (c := 6) (ci := 2) (k := 0) rfl rfl inw_X2 (by decide) fl_X2_9 rfl rfl hd k
theorem fl_X6_201 : Cond.fieldLink RX6 201 "AirClock$Moves" "before" "[I" ∈ lw_good := lw_in 253 (by decide +kernel) rfl
theorem gf_X6_201 {E : EV} {cc : ByteArray} {h pc : Nat} {lv : List (Nat × Value)} {st : List Value} {σ : SS} (C : CX E cc RX6 h) (hd : decode cc pc = .ok (.getfield 201, 3)) (k : AT E (pc + 3) lv (.ref (e_q E 27) :: st) σ) : AT E pc lv (.ref (e_q E 6) :: st) σ := at_get C (c := 6) (ci := 2) (k := 0) rfl rfl inw_X2 (by decide) fl_X6_201 rfl rfl hd k
theorem fl_X2_15 : Cond.fieldLink RX2 15 "AirClock$Moves" "after" "[I" ∈ lw_good := lw_in 254 (by decide +kernel) rfl
theorem gf_X2_15 {E : EV} {cc : ByteArray} {h pc : Nat} {lv : List (Nat × Value)} {st : List Value} {σ : SS} (C : CX E cc RX2 h) (hd : decode cc pc = .ok (.getfield 15, 3)) (k : AT E (pc + 3) lv (.ref (e_q E 28) :: st) σ) : AT E pc lv (.ref (e_q E 6) :: st) σ := at_get C (c := 6) (ci := 2) (k := 1) rfl rfl inw_X2 (by decide) fl_X2_15 rfl rfl hd k
theorem fl_X6_204 : Cond.fieldLink RX6 204 "AirClock$Moves" "after" "[I" ∈ lw_good := lw_in 255 (by decide +kernel) rfl
theorem gf_X6_204 {E : EV} {cc : ByteArray} {h pc : Nat} {lv : List (Nat × Value)} {st : List Value} {σ : SS} (C : CX E cc RX6 h) (hd : decode cc pc = .ok (.getfield 204, 3)) (k : AT E (pc + 3) lv (.ref (e_q E 28) :: st) σ) : AT E pc lv (.ref (e_q E 6) :: st) σ := at_get C (c := 6) (ci := 2) (k := 1) rfl rfl inw_X2 (by decide) fl_X6_204 rfl rfl hd k
theorem fl_X2_21 : Cond.fieldLink RX2 21 "AirClock$Moves" "air" "LAirClock$Air;" ∈ lw_good := lw_in 256 (by decide +kernel) rfl
theorem gf_X2_21 {E : EV} {cc : ByteArray} {h pc : Nat} {lv : List (Nat × Value)} {st : List Value} {σ : SS} (C : CX E cc RX2 h) (hd : decode cc pc = .ok (.getfield 21, 3)) (k : AT E (pc + 3) lv (.ref (e_q E 1) :: st) σ) : AT E pc lv (.ref (e_q E 6) :: st) σ := at_get C (c := 6) (ci := 2) (k := 2) rfl rfl inw_X2 (by decide) fl_X2_21 rfl rfl hd k
theorem fl_X2_18 : Cond.fieldLink RX2 18 "AirClock$Moves" "needed" "[I" ∈ lw_good := lw_in 257 (by decide +kernel) rfl
theorem gf_X2_18 {E : EV} {cc : ByteArray} {h pc : Nat} {lv : List (Nat × Value)} {st : List Value} {σ : SS} (C : CX E cc RX2 h) (hd : decode cc pc = .ok (.getfield 18, 3)) (k : AT E (pc + 3) lv (.ref (e_q E 29) :: st) σ) : AT E pc lv (.ref (e_q E 6) :: st) σ := at_get C (c := 6) (ci := 2) (k := 3) rfl rfl inw_X2 (by decide) fl_X2_18 rfl rfl hd k
theorem fl_X6_12 : Cond.fieldLink RX6 12 "AirClock" "air" "LAirClock$Air;" ∈ lw_good := lw_in 267 (by decide +kernel) rfl
theorem gf_X6_12 {E : EV} {cc : ByteArray} {h pc : Nat} {lv : List (Nat × Value)} {st : List Value} {σ : SS} (C : CX E cc RX6 h) (hd : decode cc pc = .ok (.getfield 12, 3)) (k : AT E (pc + 3) lv (.ref (e_q E 1) :: st) σ) : AT E pc lv (.ref (e_q E 0) :: st) σ := at_get C (c := 0) (ci := 6) (k := 0) rfl rfl inw_X6 (by decide) fl_X6_12 rfl rfl hd k
theorem fl_X6_21 : Cond.fieldLink RX6 21 "AirClock" "search" "LAirClock$Search;" ∈ lw_good := lw_in 268 (by decide +kernel) rfl
theorem gf_X6_21 {E : EV} {cc : ByteArray} {h pc : Nat} {lv : List (Nat × Value)} {st : List Value} {σ : SS} (C : CX E cc RX6 h) (hd : decode cc pc = .ok (.getfield 21, 3)) (k : AT E (pc + 3) lv (.ref (e_q E 2) :: st) σ) : AT E pc lv (.ref (e_q E 0) :: st) σ := at_get C (c := 0) (ci := 6) (k := 1) rfl rfl inw_X6 (by decide) fl_X6_21 rfl rfl hd k
theorem fl_X6_28 : Cond.fieldLink RX6 28 "AirClock" "packer" "LAirClock$Packer;" ∈ lw_good := lw_in 269 (by decide +kernel) rfl
theorem gf_X6_28 {E : EV} {cc : ByteArray} {h pc : Nat} {lv : List (Nat × Value)} {st : List Value} {σ : SS} (C : CX E cc RX6 h) (hd : decode cc pc = .ok (.getfield 28, 3)) (k : AT E (pc + 3) lv (.ref (e_q E 3) :: st) σ) : AT E pc lv (.ref (e_q E 0) :: st) σ := at_get C (c := 0) (ci := 6) (k := 2) rfl rfl inw_X6 (by decide) fl_X6_28 rfl rfl hd k
theorem fl_X6_37 : Cond.fieldLink RX6 37 "AirClock" "fall" "LAirClock$Fall;" ∈ lw_good := lw_in 270 (by decide +kernel) rfl
theorem gf_X6_37 {E : EV} {cc : ByteArray} {h pc : Nat} {lv : List (Nat × Value)} {st : List Value} {σ : SS} (C : CX E cc RX6 h) (hd : decode cc pc = .ok (.getfield 37, 3)) (k : AT E (pc + 3) lv (.ref (e_q E 4) :: st) σ) : AT E pc lv (.ref (e_q E 0) :: st) σ := at_get C (c := 0) (ci := 6) (k := 3) rfl rfl inw_X6 (by decide) fl_X6_37 rfl rfl hd k
theorem fl_X6_44 : Cond.fieldLink RX6 44 "AirClock" "trade" "LAirClock$Trade;" ∈ lw_good := lw_in 271 (by decide +kernel) rfl
theorem gf_X6_44 {E : EV} {cc : ByteArray} {h pc : Nat} {lv : List (Nat × Value)} {st : List Value} {σ : SS} (C : CX E cc RX6 h) (hd : decode cc pc = .ok (.getfield 44, 3)) (k : AT E (pc + 3) lv (.ref (e_q E 5) :: st) σ) : AT E pc lv (.ref (e_q E 0) :: st) σ := at_get C (c := 0) (ci := 6) (k := 4) rfl rfl inw_X6 (by decide) fl_X6_44 rfl rfl hd k
theorem fl_X6_51 : Cond.fieldLink RX6 51 "AirClock" "moves" "LAirClock$Moves;" ∈ lw_good := lw_in 272 (by decide +kernel) rfl
theorem gf_X6_51 {E : EV} {cc : ByteArray} {h pc : Nat} {lv : List (Nat × Value)} {st : List Value} {σ : SS} (C : CX E cc RX6 h) (hd : decode cc pc = .ok (.getfield 51, 3)) (k : AT E (pc + 3) lv (.ref (e_q E 6) :: st) σ) : AT E pc lv (.ref (e_q E 0) :: st) σ := at_get C (c := 0) (ci := 6) (k := 5) rfl rfl inw_X6 (by decide) fl_X6_51 rfl rfl hd k
theorem fl_X6_55 : Cond.fieldLink RX6 55 "AirClock" "hearers" "[I" ∈ lw_good := lw_in 273 (by decide +kernel) rfl
theorem gf_X6_55 {E : EV} {cc : ByteArray} {h pc : Nat} {lv : List (Nat × Value)} {st : List Value} {σ : SS} (C : CX E cc RX6 h) (hd : decode cc pc = .ok (.getfield 55, 3)) (k : AT E (pc + 3) lv (.ref (e_q E 7) :: st) σ) : AT E pc lv (.ref (e_q E 0) :: st) σ := at_get C (c := 0) (ci := 6) (k := 6) rfl rfl inw_X6 (by decide) fl_X6_55 rfl rfl hd k
theorem fl_X0_35 : Cond.fieldLinkNest RX0 35 "AirClock" "SHUT" "[I" "AirClock" ∈ lw_nest := lw_nin 356 (by decide +kernel) rfl
theorem fl_X7_87 : Cond.fieldLink RX7 87 "AirClockModel" "masts" "I" ∈ lw_good := lw_in 702 (by decide +kernel) rfl
theorem gf_X7_87 {E : EV} {cc : ByteArray} {h pc : Nat} {lv : List (Nat × Value)} {st : List Value} {σ : SS} (C : CX E cc RX7 h) (hd : decode cc pc = .ok (.getfield 87, 3)) (k : AT E (pc + 3) lv (.int (ac_gi σ 15) :: st) σ) : AT E pc lv (.ref (e_q E 30) :: st) σ := at_get C (c := 30) (ci := 7) (k := 0) rfl rfl inw_X7 (by decide) fl_X7_87 rfl rfl hd k
theorem pf_X7_87 {E : EV} {cc : ByteArray} {h pc : Nat} {lv : List (Nat × Value)} {st : List Value} {σ : SS} {x : Int32} (C : CX E cc RX7 h) (hd : decode cc pc = .ok (.putfield 87, 3)) (k : AT E (pc + 3) lv st (ac_si σ 15 x)) : AT E pc lv (.int x :: .ref (e_q E 30) :: st) σ := at_put C (c := 30) (ci := 7) (k := 0) tyX7_ok nmX7 rfl rfl inw_X7 (by decide) fl_X7_87 rfl rfl rfl rfl (Nat.le_of_ble_eq_true rfl) (ac_put_15 _ _ _ _ _) hd k
theorem fl_X7_7 : Cond.fieldLink RX7 7 "AirClockModel" "channels" "I" ∈ lw_good := lw_in 703 (by decide +kernel) rfl
theorem gf_X7_7 {E : EV} {cc : ByteArray} {h pc : Nat} {lv : List (Nat × Value)} {st : List Value} {σ : SS} (C : CX E cc RX7 h) (hd : decode cc pc = .ok (.getfield 7, 3)) (k : AT E (pc + 3) lv (.int (ac_gi σ 16) :: st) σ) : AT E pc lv (.ref (e_q E 30) :: st) σ := at_get C (c := 30) (ci := 7) (k := 1) rfl rfl inw_X7 (by decide) fl_X7_7 rfl rfl hd k
theorem pf_X7_7 {E : EV} {cc : ByteArray} {h pc : Nat} {lv : List (Nat × Value)} {st : List Value} {σ : SS} {x : Int32} (C : CX E cc RX7 h) (hd : decode cc pc = .ok (.putfield 7, 3)) (k : AT E (pc + 3) lv st (ac_si σ 16 x)) : AT E pc lv (.int x :: .ref (e_q E 30) :: st) σ := at_put C (c := 30) (ci := 7) (k := 1) tyX7_ok nmX7 rfl rfl inw_X7 (by decide) fl_X7_7 rfl rfl rfl rfl (Nat.le_of_ble_eq_true rfl) (ac_put_16 _ _ _ _ _) hd k
theorem fl_X7_13 : Cond.fieldLink RX7 13 "AirClockModel" "limit" "I" ∈ lw_good := lw_in 704 (by decide +kernel) rfl
theorem gf_X7_13 {E : EV} {cc : ByteArray} {h pc : Nat} {lv : List (Nat × Value)} {st : List Value} {σ : SS} (C : CX E cc RX7 h) (hd : decode cc pc = .ok (.getfield 13, 3)) (k : AT E (pc + 3) lv (.int (ac_gi σ 17) :: st) σ) : AT E pc lv (.ref (e_q E 30) :: st) σ := at_get C (c := 30) (ci := 7) (k := 2) rfl rfl inw_X7 (by decide) fl_X7_13 rfl rfl hd k
theorem pf_X7_13 {E : EV} {cc : ByteArray} {h pc : Nat} {lv : List (Nat × Value)} {st : List Value} {σ : SS} {x : Int32} (C : CX E cc RX7 h) (hd : decode cc pc = .ok (.putfield 13, 3)) (k : AT E (pc + 3) lv st (ac_si σ 17 x)) : AT E pc lv (.int x :: .ref (e_q E 30) :: st) σ := at_put C (c := 30) (ci := 7) (k := 2) tyX7_ok nmX7 rfl rfl inw_X7 (by decide) fl_X7_13 rfl rfl rfl rfl (Nat.le_of_ble_eq_true rfl) (ac_put_17 _ _ _ _ _) hd k
theorem fl_X7_16 : Cond.fieldLink RX7 16 "AirClockModel" "pair" "[I" ∈ lw_good := lw_in 705 (by decide +kernel) rfl
theorem gf_X7_16 {E : EV} {cc : ByteArray} {h pc : Nat} {lv : List (Nat × Value)} {st : List Value} {σ : SS} (C : CX E cc RX7 h) (hd : decode cc pc = .ok (.getfield 16, 3)) (k : AT E (pc + 3) lv (.ref (e_q E 31) :: st) σ) : AT E pc lv (.ref (e_q E 30) :: st) σ := at_get C (c := 30) (ci := 7) (k := 3) rfl rfl inw_X7 (by decide) fl_X7_16 rfl rfl hd k
theorem fl_X7_20 : Cond.fieldLink RX7 20 "AirClockModel" "bars" "[I" ∈ lw_good := lw_in 706 (by decide +kernel) rfl
theorem gf_X7_20 {E : EV} {cc : ByteArray} {h pc : Nat} {lv : List (Nat × Value)} {st : List Value} {σ : SS} (C : CX E cc RX7 h) (hd : decode cc pc = .ok (.getfield 20, 3)) (k : AT E (pc + 3) lv (.ref (e_q E 32) :: st) σ) : AT E pc lv (.ref (e_q E 30) :: st) σ := at_get C (c := 30) (ci := 7) (k := 4) rfl rfl inw_X7 (by decide) fl_X7_20 rfl rfl hd k
theorem fl_X7_23 : Cond.fieldLink RX7 23 "AirClockModel" "row" "[I" ∈ lw_good := lw_in 707 (by decide +kernel) rfl
theorem gf_X7_23 {E : EV} {cc : ByteArray} {h pc : Nat} {lv : List (Nat × Value)} {st : List Value} {σ : SS} (C : CX E cc RX7 h) (hd : decode cc pc = .ok (.getfield 23, 3)) (k : AT E (pc + 3) lv (.ref (e_q E 33) :: st) σ) : AT E pc lv (.ref (e_q E 30) :: st) σ := at_get C (c := 30) (ci := 7) (k := 5) rfl rfl inw_X7 (by decide) fl_X7_23 rfl rfl hd k
theorem fl_X7_26 : Cond.fieldLink RX7 26 "AirClockModel" "has" "[I" ∈ lw_good := lw_in 708 (by decide +kernel) rfl
theorem gf_X7_26 {E : EV} {cc : ByteArray} {h pc : Nat} {lv : List (Nat × Value)} {st : List Value} {σ : SS} (C : CX E cc RX7 h) (hd : decode cc pc = .ok (.getfield 26, 3)) (k : AT E (pc + 3) lv (.ref (e_q E 34) :: st) σ) : AT E pc lv (.ref (e_q E 30) :: st) σ := at_get C (c := 30) (ci := 7) (k := 6) rfl rfl inw_X7 (by decide) fl_X7_26 rfl rfl hd k
theorem fl_X7_106 : Cond.fieldLink RX7 106 "AirClockModel" "rowSize" "I" ∈ lw_good := lw_in 709 (by decide +kernel) rfl
theorem gf_X7_106 {E : EV} {cc : ByteArray} {h pc : Nat} {lv : List (Nat × Value)} {st : List Value} {σ : SS} (C : CX E cc RX7 h) (hd : decode cc pc = .ok (.getfield 106, 3)) (k : AT E (pc + 3) lv (.int (ac_gi σ 18) :: st) σ) : AT E pc lv (.ref (e_q E 30) :: st) σ := at_get C (c := 30) (ci := 7) (k := 7) rfl rfl inw_X7 (by decide) fl_X7_106 rfl rfl hd k
theorem pf_X7_106 {E : EV} {cc : ByteArray} {h pc : Nat} {lv : List (Nat × Value)} {st : List Value} {σ : SS} {x : Int32} (C : CX E cc RX7 h) (hd : decode cc pc = .ok (.putfield 106, 3)) (k : AT E (pc + 3) lv st (ac_si σ 18 x)) : AT E pc lv (.int x :: .ref (e_q E 30) :: st) σ := at_put C (c := 30) (ci := 7) (k := 7) tyX7_ok nmX7 rfl rfl inw_X7 (by decide) fl_X7_106 rfl rfl rfl rfl (Nat.le_of_ble_eq_true rfl) (ac_put_18 _ _ _ _ _) hd k
theorem fl_X7_117 : Cond.fieldLink RX7 117 "AirClockModel" "tries" "I" ∈ lw_good := lw_in 710 (by decide +kernel) rfl
theorem gf_X7_117 {E : EV} {cc : ByteArray} {h pc : Nat} {lv : List (Nat × Value)} {st : List Value} {σ : SS} (C : CX E cc RX7 h) (hd : decode cc pc = .ok (.getfield 117, 3)) (k : AT E (pc + 3) lv (.int (ac_gi σ 19) :: st) σ) : AT E pc lv (.ref (e_q E 30) :: st) σ := at_get C (c := 30) (ci := 7) (k := 8) rfl rfl inw_X7 (by decide) fl_X7_117 rfl rfl hd k
theorem pf_X7_117 {E : EV} {cc : ByteArray} {h pc : Nat} {lv : List (Nat × Value)} {st : List Value} {σ : SS} {x : Int32} (C : CX E cc RX7 h) (hd : decode cc pc = .ok (.putfield 117, 3)) (k : AT E (pc + 3) lv st (ac_si σ 19 x)) : AT E pc lv (.int x :: .ref (e_q E 30) :: st) σ := at_put C (c := 30) (ci := 7) (k := 8) tyX7_ok nmX7 rfl rfl inw_X7 (by decide) fl_X7_117 rfl rfl rfl rfl (Nat.le_of_ble_eq_true rfl) (ac_put_19 _ _ _ _ _) hd k
theorem fl_X7_29 : Cond.fieldLink RX7 29 "AirClockModel" "isGood" "[Z" ∈ lw_good := lw_in 711 (by decide +kernel) rfl
theorem gf_X7_29 {E : EV} {cc : ByteArray} {h pc : Nat} {lv : List (Nat × Value)} {st : List Value} {σ : SS} (C : CX E cc RX7 h) (hd : decode cc pc = .ok (.getfield 29, 3)) (k : AT E (pc + 3) lv (.ref (e_q E 35) :: st) σ) : AT E pc lv (.ref (e_q E 30) :: st) σ := at_get C (c := 30) (ci := 7) (k := 9) rfl rfl inw_X7 (by decide) fl_X7_29 rfl rfl hd k
theorem fl_X7_33 : Cond.fieldLink RX7 33 "AirClockModel" "isOld" "[Z" ∈ lw_good := lw_in 712 (by decide +kernel) rfl
theorem gf_X7_33 {E : EV} {cc : ByteArray} {h pc : Nat} {lv : List (Nat × Value)} {st : List Value} {σ : SS} (C : CX E cc RX7 h) (hd : decode cc pc = .ok (.getfield 33, 3)) (k : AT E (pc + 3) lv (.ref (e_q E 36) :: st) σ) : AT E pc lv (.ref (e_q E 30) :: st) σ := at_get C (c := 30) (ci := 7) (k := 10) rfl rfl inw_X7 (by decide) fl_X7_33 rfl rfl hd k
theorem fl_X7_36 : Cond.fieldLink RX7 36 "AirClockModel" "value" "[I" ∈ lw_good := lw_in 713 (by decide +kernel) rfl
theorem gf_X7_36 {E : EV} {cc : ByteArray} {h pc : Nat} {lv : List (Nat × Value)} {st : List Value} {σ : SS} (C : CX E cc RX7 h) (hd : decode cc pc = .ok (.getfield 36, 3)) (k : AT E (pc + 3) lv (.ref (e_q E 37) :: st) σ) : AT E pc lv (.ref (e_q E 30) :: st) σ := at_get C (c := 30) (ci := 7) (k := 11) rfl rfl inw_X7 (by decide) fl_X7_36 rfl rfl hd k
theorem fl_X7_39 : Cond.fieldLink RX7 39 "AirClockModel" "weight" "[I" ∈ lw_good := lw_in 714 (by decide +kernel) rfl
theorem gf_X7_39 {E : EV} {cc : ByteArray} {h pc : Nat} {lv : List (Nat × Value)} {st : List Value} {σ : SS} (C : CX E cc RX7 h) (hd : decode cc pc = .ok (.getfield 39, 3)) (k : AT E (pc + 3) lv (.ref (e_q E 38) :: st) σ) : AT E pc lv (.ref (e_q E 30) :: st) σ := at_get C (c := 30) (ci := 7) (k := 12) rfl rfl inw_X7 (by decide) fl_X7_39 rfl rfl hd k
theorem fl_X7_42 : Cond.fieldLink RX7 42 "AirClockModel" "start" "I" ∈ lw_good := lw_in 715 (by decide +kernel) rfl
theorem gf_X7_42 {E : EV} {cc : ByteArray} {h pc : Nat} {lv : List (Nat × Value)} {st : List Value} {σ : SS} (C : CX E cc RX7 h) (hd : decode cc pc = .ok (.getfield 42, 3)) (k : AT E (pc + 3) lv (.int (ac_gi σ 20) :: st) σ) : AT E pc lv (.ref (e_q E 30) :: st) σ := at_get C (c := 30) (ci := 7) (k := 13) rfl rfl inw_X7 (by decide) fl_X7_42 rfl rfl hd k
theorem pf_X7_42 {E : EV} {cc : ByteArray} {h pc : Nat} {lv : List (Nat × Value)} {st : List Value} {σ : SS} {x : Int32} (C : CX E cc RX7 h) (hd : decode cc pc = .ok (.putfield 42, 3)) (k : AT E (pc + 3) lv st (ac_si σ 20 x)) : AT E pc lv (.int x :: .ref (e_q E 30) :: st) σ := at_put C (c := 30) (ci := 7) (k := 13) tyX7_ok nmX7 rfl rfl inw_X7 (by decide) fl_X7_42 rfl rfl rfl rfl (Nat.le_of_ble_eq_true rfl) (ac_put_20 _ _ _ _ _) hd k
theorem fl_X7_45 : Cond.fieldLink RX7 45 "AirClockModel" "step" "I" ∈ lw_good := lw_in 716 (by decide +kernel) rfl
theorem gf_X7_45 {E : EV} {cc : ByteArray} {h pc : Nat} {lv : List (Nat × Value)} {st : List Value} {σ : SS} (C : CX E cc RX7 h) (hd : decode cc pc = .ok (.getfield 45, 3)) (k : AT E (pc + 3) lv (.int (ac_gi σ 21) :: st) σ) : AT E pc lv (.ref (e_q E 30) :: st) σ := at_get C (c := 30) (ci := 7) (k := 14) rfl rfl inw_X7 (by decide) fl_X7_45 rfl rfl hd k
theorem pf_X7_45 {E : EV} {cc : ByteArray} {h pc : Nat} {lv : List (Nat × Value)} {st : List Value} {σ : SS} {x : Int32} (C : CX E cc RX7 h) (hd : decode cc pc = .ok (.putfield 45, 3)) (k : AT E (pc + 3) lv st (ac_si σ 21 x)) : AT E pc lv (.int x :: .ref (e_q E 30) :: st) σ := at_put C (c := 30) (ci := 7) (k := 14) tyX7_ok nmX7 rfl rfl inw_X7 (by decide) fl_X7_45 rfl rfl rfl rfl (Nat.le_of_ble_eq_true rfl) (ac_put_21 _ _ _ _ _) hd k
theorem fl_X7_157 : Cond.fieldLink RX7 157 "AirClockModel" "back" "I" ∈ lw_good := lw_in 717 (by decide +kernel) rfl
theorem gf_X7_157 {E : EV} {cc : ByteArray} {h pc : Nat} {lv : List (Nat × Value)} {st : List Value} {σ : SS} (C : CX E cc RX7 h) (hd : decode cc pc = .ok (.getfield 157, 3)) (k : AT E (pc + 3) lv (.int (ac_gi σ 22) :: st) σ) : AT E pc lv (.ref (e_q E 30) :: st) σ := at_get C (c := 30) (ci := 7) (k := 15) rfl rfl inw_X7 (by decide) fl_X7_157 rfl rfl hd k
theorem pf_X7_157 {E : EV} {cc : ByteArray} {h pc : Nat} {lv : List (Nat × Value)} {st : List Value} {σ : SS} {x : Int32} (C : CX E cc RX7 h) (hd : decode cc pc = .ok (.putfield 157, 3)) (k : AT E (pc + 3) lv st (ac_si σ 22 x)) : AT E pc lv (.int x :: .ref (e_q E 30) :: st) σ := at_put C (c := 30) (ci := 7) (k := 15) tyX7_ok nmX7 rfl rfl inw_X7 (by decide) fl_X7_157 rfl rfl rfl rfl (Nat.le_of_ble_eq_true rfl) (ac_put_22 _ _ _ _ _) hd k
theorem fl_X7_160 : Cond.fieldLink RX7 160 "AirClockModel" "frozen" "I" ∈ lw_good := lw_in 718 (by decide +kernel) rfl
theorem gf_X7_160 {E : EV} {cc : ByteArray} {h pc : Nat} {lv : List (Nat × Value)} {st : List Value} {σ : SS} (C : CX E cc RX7 h) (hd : decode cc pc = .ok (.getfield 160, 3)) (k : AT E (pc + 3) lv (.int (ac_gi σ 23) :: st) σ) : AT E pc lv (.ref (e_q E 30) :: st) σ := at_get C (c := 30) (ci := 7) (k := 16) rfl rfl inw_X7 (by decide) fl_X7_160 rfl rfl hd k
theorem pf_X7_160 {E : EV} {cc : ByteArray} {h pc : Nat} {lv : List (Nat × Value)} {st : List Value} {σ : SS} {x : Int32} (C : CX E cc RX7 h) (hd : decode cc pc = .ok (.putfield 160, 3)) (k : AT E (pc + 3) lv st (ac_si σ 23 x)) : AT E pc lv (.int x :: .ref (e_q E 30) :: st) σ := at_put C (c := 30) (ci := 7) (k := 16) tyX7_ok nmX7 rfl rfl inw_X7 (by decide) fl_X7_160 rfl rfl rfl rfl (Nat.le_of_ble_eq_true rfl) (ac_put_23 _ _ _ _ _) hd k
theorem fl_X7_163 : Cond.fieldLink RX7 163 "AirClockModel" "rounds" "I" ∈ lw_good := lw_in 719 (by decide +kernel) rfl
theorem gf_X7_163 {E : EV} {cc : ByteArray} {h pc : Nat} {lv : List (Nat × Value)} {st : List Value} {σ : SS} (C : CX E cc RX7 h) (hd : decode cc pc = .ok (.getfield 163, 3)) (k : AT E (pc + 3) lv (.int (ac_gi σ 24) :: st) σ) : AT E pc lv (.ref (e_q E 30) :: st) σ := at_get C (c := 30) (ci := 7) (k := 17) rfl rfl inw_X7 (by decide) fl_X7_163 rfl rfl hd k
theorem pf_X7_163 {E : EV} {cc : ByteArray} {h pc : Nat} {lv : List (Nat × Value)} {st : List Value} {σ : SS} {x : Int32} (C : CX E cc RX7 h) (hd : decode cc pc = .ok (.putfield 163, 3)) (k : AT E (pc + 3) lv st (ac_si σ 24 x)) : AT E pc lv (.int x :: .ref (e_q E 30) :: st) σ := at_put C (c := 30) (ci := 7) (k := 17) tyX7_ok nmX7 rfl rfl inw_X7 (by decide) fl_X7_163 rfl rfl rfl rfl (Nat.le_of_ble_eq_true rfl) (ac_put_24 _ _ _ _ _) hd k
theorem fl_X7_48 : Cond.fieldLink RX7 48 "AirClockModel" "paid" "[I" ∈ lw_good := lw_in 720 (by decide +kernel) rfl
theorem gf_X7_48 {E : EV} {cc : ByteArray} {h pc : Nat} {lv : List (Nat × Value)} {st : List Value} {σ : SS} (C : CX E cc RX7 h) (hd : decode cc pc = .ok (.getfield 48, 3)) (k : AT E (pc + 3) lv (.ref (e_q E 39) :: st) σ) : AT E pc lv (.ref (e_q E 30) :: st) σ := at_get C (c := 30) (ci := 7) (k := 18) rfl rfl inw_X7 (by decide) fl_X7_48 rfl rfl hd k
theorem fl_X7_51 : Cond.fieldLink RX7 51 "AirClockModel" "settled" "[I" ∈ lw_good := lw_in 721 (by decide +kernel) rfl
theorem gf_X7_51 {E : EV} {cc : ByteArray} {h pc : Nat} {lv : List (Nat × Value)} {st : List Value} {σ : SS} (C : CX E cc RX7 h) (hd : decode cc pc = .ok (.getfield 51, 3)) (k : AT E (pc + 3) lv (.ref (e_q E 40) :: st) σ) : AT E pc lv (.ref (e_q E 30) :: st) σ := at_get C (c := 30) (ci := 7) (k := 19) rfl rfl inw_X7 (by decide) fl_X7_51 rfl rfl hd k
theorem fl_X7_183 : Cond.fieldLink RX7 183 "AirClockModel" "houses" "I" ∈ lw_good := lw_in 722 (by decide +kernel) rfl
theorem gf_X7_183 {E : EV} {cc : ByteArray} {h pc : Nat} {lv : List (Nat × Value)} {st : List Value} {σ : SS} (C : CX E cc RX7 h) (hd : decode cc pc = .ok (.getfield 183, 3)) (k : AT E (pc + 3) lv (.int (ac_gi σ 25) :: st) σ) : AT E pc lv (.ref (e_q E 30) :: st) σ := at_get C (c := 30) (ci := 7) (k := 20) rfl rfl inw_X7 (by decide) fl_X7_183 rfl rfl hd k
theorem pf_X7_183 {E : EV} {cc : ByteArray} {h pc : Nat} {lv : List (Nat × Value)} {st : List Value} {σ : SS} {x : Int32} (C : CX E cc RX7 h) (hd : decode cc pc = .ok (.putfield 183, 3)) (k : AT E (pc + 3) lv st (ac_si σ 25 x)) : AT E pc lv (.int x :: .ref (e_q E 30) :: st) σ := at_put C (c := 30) (ci := 7) (k := 20) tyX7_ok nmX7 rfl rfl inw_X7 (by decide) fl_X7_183 rfl rfl rfl rfl (Nat.le_of_ble_eq_true rfl) (ac_put_25 _ _ _ _ _) hd k
theorem fl_X7_54 : Cond.fieldLink RX7 54 "AirClockModel" "price" "[I" ∈ lw_good := lw_in 723 (by decide +kernel) rfl
theorem gf_X7_54 {E : EV} {cc : ByteArray} {h pc : Nat} {lv : List (Nat × Value)} {st : List Value} {σ : SS} (C : CX E cc RX7 h) (hd : decode cc pc = .ok (.getfield 54, 3)) (k : AT E (pc + 3) lv (.ref (e_q E 41) :: st) σ) : AT E pc lv (.ref (e_q E 30) :: st) σ := at_get C (c := 30) (ci := 7) (k := 21) rfl rfl inw_X7 (by decide) fl_X7_54 rfl rfl hd k
theorem fl_X7_191 : Cond.fieldLink RX7 191 "AirClockModel" "sentences" "I" ∈ lw_good := lw_in 724 (by decide +kernel) rfl
theorem gf_X7_191 {E : EV} {cc : ByteArray} {h pc : Nat} {lv : List (Nat × Value)} {st : List Value} {σ : SS} (C : CX E cc RX7 h) (hd : decode cc pc = .ok (.getfield 191, 3)) (k : AT E (pc + 3) lv (.int (ac_gi σ 26) :: st) σ) : AT E pc lv (.ref (e_q E 30) :: st) σ := at_get C (c := 30) (ci := 7) (k := 22) rfl rfl inw_X7 (by decide) fl_X7_191 rfl rfl hd k
theorem pf_X7_191 {E : EV} {cc : ByteArray} {h pc : Nat} {lv : List (Nat × Value)} {st : List Value} {σ : SS} {x : Int32} (C : CX E cc RX7 h) (hd : decode cc pc = .ok (.putfield 191, 3)) (k : AT E (pc + 3) lv st (ac_si σ 26 x)) : AT E pc lv (.int x :: .ref (e_q E 30) :: st) σ := at_put C (c := 30) (ci := 7) (k := 22) tyX7_ok nmX7 rfl rfl inw_X7 (by decide) fl_X7_191 rfl rfl rfl rfl (Nat.le_of_ble_eq_true rfl) (ac_put_26 _ _ _ _ _) hd k
theorem fl_X7_57 : Cond.fieldLink RX7 57 "AirClockModel" "houseOf" "[I" ∈ lw_good := lw_in 725 (by decide +kernel) rfl
theorem gf_X7_57 {E : EV} {cc : ByteArray} {h pc : Nat} {lv : List (Nat × Value)} {st : List Value} {σ : SS} (C : CX E cc RX7 h) (hd : decode cc pc = .ok (.getfield 57, 3)) (k : AT E (pc + 3) lv (.ref (e_q E 42) :: st) σ) : AT E pc lv (.ref (e_q E 30) :: st) σ := at_get C (c := 30) (ci := 7) (k := 23) rfl rfl inw_X7 (by decide) fl_X7_57 rfl rfl hd k
theorem fl_X7_60 : Cond.fieldLink RX7 60 "AirClockModel" "bandsOf" "[I" ∈ lw_good := lw_in 726 (by decide +kernel) rfl
theorem gf_X7_60 {E : EV} {cc : ByteArray} {h pc : Nat} {lv : List (Nat × Value)} {st : List Value} {σ : SS} (C : CX E cc RX7 h) (hd : decode cc pc = .ok (.getfield 60, 3)) (k : AT E (pc + 3) lv (.ref (e_q E 43) :: st) σ) : AT E pc lv (.ref (e_q E 30) :: st) σ := at_get C (c := 30) (ci := 7) (k := 24) rfl rfl inw_X7 (by decide) fl_X7_60 rfl rfl hd k
theorem fl_X7_63 : Cond.fieldLink RX7 63 "AirClockModel" "sumOf" "[I" ∈ lw_good := lw_in 727 (by decide +kernel) rfl
theorem gf_X7_63 {E : EV} {cc : ByteArray} {h pc : Nat} {lv : List (Nat × Value)} {st : List Value} {σ : SS} (C : CX E cc RX7 h) (hd : decode cc pc = .ok (.getfield 63, 3)) (k : AT E (pc + 3) lv (.ref (e_q E 44) :: st) σ) : AT E pc lv (.ref (e_q E 30) :: st) σ := at_get C (c := 30) (ci := 7) (k := 25) rfl rfl inw_X7 (by decide) fl_X7_63 rfl rfl hd k
theorem fl_X7_66 : Cond.fieldLink RX7 66 "AirClockModel" "pick" "[I" ∈ lw_good := lw_in 728 (by decide +kernel) rfl
theorem gf_X7_66 {E : EV} {cc : ByteArray} {h pc : Nat} {lv : List (Nat × Value)} {st : List Value} {σ : SS} (C : CX E cc RX7 h) (hd : decode cc pc = .ok (.getfield 66, 3)) (k : AT E (pc + 3) lv (.ref (e_q E 45) :: st) σ) : AT E pc lv (.ref (e_q E 30) :: st) σ := at_get C (c := 30) (ci := 7) (k := 26) rfl rfl inw_X7 (by decide) fl_X7_66 rfl rfl hd k
theorem fl_X7_69 : Cond.fieldLink RX7 69 "AirClockModel" "bestPick" "[I" ∈ lw_good := lw_in 729 (by decide +kernel) rfl
theorem gf_X7_69 {E : EV} {cc : ByteArray} {h pc : Nat} {lv : List (Nat × Value)} {st : List Value} {σ : SS} (C : CX E cc RX7 h) (hd : decode cc pc = .ok (.getfield 69, 3)) (k : AT E (pc + 3) lv (.ref (e_q E 46) :: st) σ) : AT E pc lv (.ref (e_q E 30) :: st) σ := at_get C (c := 30) (ci := 7) (k := 27) rfl rfl inw_X7 (by decide) fl_X7_69 rfl rfl hd k
theorem fl_X7_197 : Cond.fieldLink RX7 197 "AirClockModel" "bestSum" "I" ∈ lw_good := lw_in 730 (by decide +kernel) rfl
theorem gf_X7_197 {E : EV} {cc : ByteArray} {h pc : Nat} {lv : List (Nat × Value)} {st : List Value} {σ : SS} (C : CX E cc RX7 h) (hd : decode cc pc = .ok (.getfield 197, 3)) (k : AT E (pc + 3) lv (.int (ac_gi σ 27) :: st) σ) : AT E pc lv (.ref (e_q E 30) :: st) σ := at_get C (c := 30) (ci := 7) (k := 28) rfl rfl inw_X7 (by decide) fl_X7_197 rfl rfl hd k
theorem pf_X7_197 {E : EV} {cc : ByteArray} {h pc : Nat} {lv : List (Nat × Value)} {st : List Value} {σ : SS} {x : Int32} (C : CX E cc RX7 h) (hd : decode cc pc = .ok (.putfield 197, 3)) (k : AT E (pc + 3) lv st (ac_si σ 27 x)) : AT E pc lv (.int x :: .ref (e_q E 30) :: st) σ := at_put C (c := 30) (ci := 7) (k := 28) tyX7_ok nmX7 rfl rfl inw_X7 (by decide) fl_X7_197 rfl rfl rfl rfl (Nat.le_of_ble_eq_true rfl) (ac_put_27 _ _ _ _ _) hd k
theorem fl_X7_72 : Cond.fieldLink RX7 72 "AirClockModel" "worth" "[I" ∈ lw_good := lw_in 731 (by decide +kernel) rfl
theorem gf_X7_72 {E : EV} {cc : ByteArray} {h pc : Nat} {lv : List (Nat × Value)} {st : List Value} {σ : SS} (C : CX E cc RX7 h) (hd : decode cc pc = .ok (.getfield 72, 3)) (k : AT E (pc + 3) lv (.ref (e_q E 47) :: st) σ) : AT E pc lv (.ref (e_q E 30) :: st) σ := at_get C (c := 30) (ci := 7) (k := 29) rfl rfl inw_X7 (by decide) fl_X7_72 rfl rfl hd k
theorem fl_X7_75 : Cond.fieldLink RX7 75 "AirClockModel" "from" "[I" ∈ lw_good := lw_in 732 (by decide +kernel) rfl
theorem gf_X7_75 {E : EV} {cc : ByteArray} {h pc : Nat} {lv : List (Nat × Value)} {st : List Value} {σ : SS} (C : CX E cc RX7 h) (hd : decode cc pc = .ok (.getfield 75, 3)) (k : AT E (pc + 3) lv (.ref (e_q E 48) :: st) σ) : AT E pc lv (.ref (e_q E 30) :: st) σ := at_get C (c := 30) (ci := 7) (k := 30) rfl rfl inw_X7 (by decide) fl_X7_75 rfl rfl hd k
theorem fl_X7_78 : Cond.fieldLink RX7 78 "AirClockModel" "to" "[I" ∈ lw_good := lw_in 733 (by decide +kernel) rfl
theorem gf_X7_78 {E : EV} {cc : ByteArray} {h pc : Nat} {lv : List (Nat × Value)} {st : List Value} {σ : SS} (C : CX E cc RX7 h) (hd : decode cc pc = .ok (.getfield 78, 3)) (k : AT E (pc + 3) lv (.ref (e_q E 49) :: st) σ) : AT E pc lv (.ref (e_q E 30) :: st) σ := at_get C (c := 30) (ci := 7) (k := 31) rfl rfl inw_X7 (by decide) fl_X7_78 rfl rfl hd k
theorem fl_X7_81 : Cond.fieldLink RX7 81 "AirClockModel" "far" "[I" ∈ lw_good := lw_in 734 (by decide +kernel) rfl
theorem gf_X7_81 {E : EV} {cc : ByteArray} {h pc : Nat} {lv : List (Nat × Value)} {st : List Value} {σ : SS} (C : CX E cc RX7 h) (hd : decode cc pc = .ok (.getfield 81, 3)) (k : AT E (pc + 3) lv (.ref (e_q E 50) :: st) σ) : AT E pc lv (.ref (e_q E 30) :: st) σ := at_get C (c := 30) (ci := 7) (k := 32) rfl rfl inw_X7 (by decide) fl_X7_81 rfl rfl hd k
theorem fl_X7_84 : Cond.fieldLink RX7 84 "AirClockModel" "heardBy" "[I" ∈ lw_good := lw_in 735 (by decide +kernel) rfl
theorem gf_X7_84 {E : EV} {cc : ByteArray} {h pc : Nat} {lv : List (Nat × Value)} {st : List Value} {σ : SS} (C : CX E cc RX7 h) (hd : decode cc pc = .ok (.getfield 84, 3)) (k : AT E (pc + 3) lv (.ref (e_q E 51) :: st) σ) : AT E pc lv (.ref (e_q E 30) :: st) σ := at_get C (c := 30) (ci := 7) (k := 33) rfl rfl inw_X7 (by decide) fl_X7_84 rfl rfl hd k
theorem fl_X7_235 : Cond.fieldLink RX7 235 "AirClockModel" "h" "J" ∈ lw_good := lw_in 736 (by decide +kernel) rfl
theorem gf_X7_235 {E : EV} {cc : ByteArray} {h pc : Nat} {lv : List (Nat × Value)} {st : List Value} {σ : SS} (C : CX E cc RX7 h) (hd : decode cc pc = .ok (.getfield 235, 3)) (k : AT E (pc + 3) lv (.long (ac_gl σ) :: st) σ) : AT E pc lv (.ref (e_q E 30) :: st) σ := at_get C (c := 30) (ci := 7) (k := 34) rfl rfl inw_X7 (by decide) fl_X7_235 rfl rfl hd k
theorem pf_X7_235 {E : EV} {cc : ByteArray} {h pc : Nat} {lv : List (Nat × Value)} {st : List Value} {σ : SS} {x : Int64} (C : CX E cc RX7 h) (hd : decode cc pc = .ok (.putfield 235, 3)) (k : AT E (pc + 3) lv st (ac_sl σ x)) : AT E pc lv (.long x :: .ref (e_q E 30) :: st) σ := at_put C (c := 30) (ci := 7) (k := 34) tyX7_ok nmX7 rfl rfl inw_X7 (by decide) fl_X7_235 rfl rfl rfl rfl (Nat.le_of_ble_eq_true rfl) (ac_put_l _ _ _ _ _) hd k
theorem mb_X6_mast : ac_MV yX6_mast cX6_mast 1 (some .int) 0 := ⟨⟨lw_in 292 (by decide +kernel) rfl, lw_in 49 (by decide +kernel) rfl, by decide +kernel, by decide⟩, lw_in 290 (by decide +kernel) rfl, lw_in 291 (by decide +kernel) rfl⟩
theorem mb_X6_channels : ac_MV yX6_channels cX6_channels 3 (some .int) 1 := ⟨⟨lw_in 296 (by decide +kernel) rfl, lw_in 49 (by decide +kernel) rfl, by decide +kernel, by decide⟩, lw_in 294 (by decide +kernel) rfl, lw_in 295 (by decide +kernel) rfl⟩
theorem mb_X6_within : ac_MS yX6_within cX6_within 3 (some .boolean) 3 := ⟨⟨lw_in 299 (by decide +kernel) rfl, lw_in 49 (by decide +kernel) rfl, by decide +kernel, by decide⟩, lw_in 298 (by decide +kernel) rfl⟩
theorem mb_X6_pair : ac_MV yX6_pair cX6_pair 5 (some .int) 3 := ⟨⟨lw_in 303 (by decide +kernel) rfl, lw_in 49 (by decide +kernel) rfl, by decide +kernel, by decide⟩, lw_in 301 (by decide +kernel) rfl, lw_in 302 (by decide +kernel) rfl⟩
theorem mb_X0_isMast : ac_MV yX0_isMast cX0_isMast 2 (some .boolean) 1 := ⟨⟨lw_in 307 (by decide +kernel) rfl, lw_in 50 (by decide +kernel) rfl, by decide +kernel, by decide⟩, lw_in 305 (by decide +kernel) rfl, lw_in 306 (by decide +kernel) rfl⟩
theorem mb_X0_pairOf : ac_MV yX0_pairOf cX0_pairOf 3 (some .int) 2 := ⟨⟨lw_in 311 (by decide +kernel) rfl, lw_in 50 (by decide +kernel) rfl, by decide +kernel, by decide⟩, lw_in 309 (by decide +kernel) rfl, lw_in 310 (by decide +kernel) rfl⟩
theorem mb_X0_setPair : ac_MV yX0_setPair cX0_setPair 4 none 3 := ⟨⟨lw_in 316 (by decide +kernel) rfl, lw_in 50 (by decide +kernel) rfl, by decide +kernel, by decide⟩, lw_in 314 (by decide +kernel) rfl, lw_in 315 (by decide +kernel) rfl⟩
theorem mb_X6_bar : ac_MV yX6_bar cX6_bar 4 (some .int) 2 := ⟨⟨lw_in 320 (by decide +kernel) rfl, lw_in 49 (by decide +kernel) rfl, by decide +kernel, by decide⟩, lw_in 318 (by decide +kernel) rfl, lw_in 319 (by decide +kernel) rfl⟩
theorem mb_X0_allChannels : ac_MV yX0_allChannels cX0_allChannels 1 (some .int) 0 := ⟨⟨lw_in 324 (by decide +kernel) rfl, lw_in 50 (by decide +kernel) rfl, by decide +kernel, by decide⟩, lw_in 322 (by decide +kernel) rfl, lw_in 323 (by decide +kernel) rfl⟩
theorem mb_X6_limit : ac_MV yX6_limit cX6_limit 3 (some .int) 1 := ⟨⟨lw_in 328 (by decide +kernel) rfl, lw_in 49 (by decide +kernel) rfl, by decide +kernel, by decide⟩, lw_in 326 (by decide +kernel) rfl, lw_in 327 (by decide +kernel) rfl⟩
theorem mb_X6_fits : ac_MV yX6_fits cX6_fits 2 (some .int) 1 := ⟨⟨lw_in 332 (by decide +kernel) rfl, lw_in 49 (by decide +kernel) rfl, by decide +kernel, by decide⟩, lw_in 330 (by decide +kernel) rfl, lw_in 331 (by decide +kernel) rfl⟩
theorem mb_X0_isSet : ac_MV yX0_isSet cX0_isSet 2 (some .boolean) 1 := ⟨⟨lw_in 336 (by decide +kernel) rfl, lw_in 50 (by decide +kernel) rfl, by decide +kernel, by decide⟩, lw_in 334 (by decide +kernel) rfl, lw_in 335 (by decide +kernel) rfl⟩
theorem mb_X4_lookFor : ac_MV yX4_lookFor cX4_lookFor 3 (some .int) 1 := ⟨⟨lw_in 340 (by decide +kernel) rfl, lw_in 51 (by decide +kernel) rfl, by decide +kernel, by decide⟩, lw_in 338 (by decide +kernel) rfl, lw_in 339 (by decide +kernel) rfl⟩
theorem mb_X6_has : ac_MS yX6_has cX6_has 2 (some .boolean) 2 := ⟨⟨lw_in 343 (by decide +kernel) rfl, lw_in 49 (by decide +kernel) rfl, by decide +kernel, by decide⟩, lw_in 342 (by decide +kernel) rfl⟩
theorem mb_X0_mayHave : ac_MV yX0_mayHave cX0_mayHave 2 (some .int) 1 := ⟨⟨lw_in 347 (by decide +kernel) rfl, lw_in 50 (by decide +kernel) rfl, by decide +kernel, by decide⟩, lw_in 345 (by decide +kernel) rfl, lw_in 346 (by decide +kernel) rfl⟩
theorem mb_X4_goOn : ac_MV yX4_goOn cX4_goOn 5 (some .int) 1 := ⟨⟨lw_in 351 (by decide +kernel) rfl, lw_in 51 (by decide +kernel) rfl, by decide +kernel, by decide⟩, lw_in 350 (by decide +kernel) rfl, lw_in 0 (by decide +kernel) rfl⟩
theorem mb_X0_shutFor : ac_MV yX0_shutFor cX0_shutFor 5 (some .int) 3 := ⟨⟨lw_in 355 (by decide +kernel) rfl, lw_in 50 (by decide +kernel) rfl, by decide +kernel, by decide⟩, lw_in 353 (by decide +kernel) rfl, lw_in 354 (by decide +kernel) rfl⟩
theorem mb_X6_tries : ac_MV yX6_tries cX6_tries 2 (some .int) 1 := ⟨⟨lw_in 361 (by decide +kernel) rfl, lw_in 49 (by decide +kernel) rfl, by decide +kernel, by decide⟩, lw_in 359 (by decide +kernel) rfl, lw_in 360 (by decide +kernel) rfl⟩
theorem mb_X6_packing : ac_MV yX6_packing cX6_packing 3 (some .int) 2 := ⟨⟨lw_in 365 (by decide +kernel) rfl, lw_in 49 (by decide +kernel) rfl, by decide +kernel, by decide⟩, lw_in 363 (by decide +kernel) rfl, lw_in 364 (by decide +kernel) rfl⟩
theorem mb_X3_firstChannel : ac_MV yX3_firstChannel cX3_firstChannel 4 (some .int) 2 := ⟨⟨lw_in 370 (by decide +kernel) rfl, lw_in 52 (by decide +kernel) rfl, by decide +kernel, by decide⟩, lw_in 368 (by decide +kernel) rfl, lw_in 369 (by decide +kernel) rfl⟩
theorem mb_X3_canPack : ac_MV yX3_canPack cX3_canPack 2 (some .boolean) 1 := ⟨⟨lw_in 375 (by decide +kernel) rfl, lw_in 52 (by decide +kernel) rfl, by decide +kernel, by decide⟩, lw_in 373 (by decide +kernel) rfl, lw_in 374 (by decide +kernel) rfl⟩
theorem mb_X3_allowAll : ac_MV yX3_allowAll cX3_allowAll 2 none 0 := ⟨⟨lw_in 379 (by decide +kernel) rfl, lw_in 52 (by decide +kernel) rfl, by decide +kernel, by decide⟩, lw_in 378 (by decide +kernel) rfl, lw_in 1 (by decide +kernel) rfl⟩
theorem mb_X3_packs : ac_MV yX3_packs cX3_packs 4 (some .boolean) 1 := ⟨⟨lw_in 384 (by decide +kernel) rfl, lw_in 52 (by decide +kernel) rfl, by decide +kernel, by decide⟩, lw_in 383 (by decide +kernel) rfl, lw_in 2 (by decide +kernel) rfl⟩
theorem mb_X3_hardPart : ac_MV yX3_hardPart cX3_hardPart 6 (some .int) 1 := ⟨⟨lw_in 388 (by decide +kernel) rfl, lw_in 52 (by decide +kernel) rfl, by decide +kernel, by decide⟩, lw_in 387 (by decide +kernel) rfl, lw_in 3 (by decide +kernel) rfl⟩
theorem mb_X3_mostShut : ac_MV yX3_mostShut cX3_mostShut 6 (some .int) 2 := ⟨⟨lw_in 393 (by decide +kernel) rfl, lw_in 52 (by decide +kernel) rfl, by decide +kernel, by decide⟩, lw_in 392 (by decide +kernel) rfl, lw_in 4 (by decide +kernel) rfl⟩
theorem mb_J6_bitCount_0f7a4 : ac_MS yJ6_bitCount_0f7a4 cJ6_bitCount_0f7a4 1 (some .int) 1 := ⟨⟨lw_in 397 (by decide +kernel) rfl, lw_in 57 (by decide +kernel) rfl, by decide +kernel, by decide⟩, lw_in 396 (by decide +kernel) rfl⟩
theorem mb_X3_packRest : ac_MV yX3_packRest cX3_packRest 7 (some .boolean) 2 := ⟨⟨lw_in 404 (by decide +kernel) rfl, lw_in 52 (by decide +kernel) rfl, by decide +kernel, by decide⟩, lw_in 403 (by decide +kernel) rfl, lw_in 5 (by decide +kernel) rfl⟩
theorem mb_X3_tightest : ac_MV yX3_tightest cX3_tightest 7 (some .int) 2 := ⟨⟨lw_in 408 (by decide +kernel) rfl, lw_in 52 (by decide +kernel) rfl, by decide +kernel, by decide⟩, lw_in 407 (by decide +kernel) rfl, lw_in 6 (by decide +kernel) rfl⟩
theorem mb_X3_narrow : ac_MV yX3_narrow cX3_narrow 7 (some .boolean) 4 := ⟨⟨lw_in 412 (by decide +kernel) rfl, lw_in 52 (by decide +kernel) rfl, by decide +kernel, by decide⟩, lw_in 411 (by decide +kernel) rfl, lw_in 7 (by decide +kernel) rfl⟩
theorem mb_X3_fixFirst : ac_MV yX3_fixFirst cX3_fixFirst 5 none 2 := ⟨⟨lw_in 417 (by decide +kernel) rfl, lw_in 52 (by decide +kernel) rfl, by decide +kernel, by decide⟩, lw_in 416 (by decide +kernel) rfl, lw_in 8 (by decide +kernel) rfl⟩
theorem mb_X6_placeOf : ac_MS yX6_placeOf cX6_placeOf 1 (some .int) 1 := ⟨⟨lw_in 420 (by decide +kernel) rfl, lw_in 49 (by decide +kernel) rfl, by decide +kernel, by decide⟩, lw_in 419 (by decide +kernel) rfl⟩
theorem mb_X6_reason : ac_MV yX6_reason cX6_reason 2 (some .int) 1 := ⟨⟨lw_in 425 (by decide +kernel) rfl, lw_in 49 (by decide +kernel) rfl, by decide +kernel, by decide⟩, lw_in 423 (by decide +kernel) rfl, lw_in 424 (by decide +kernel) rfl⟩
theorem mb_X3_leastPartThatFails : ac_MV yX3_leastPartThatFails cX3_leastPartThatFails 4 (some .int) 1 := ⟨⟨lw_in 430 (by decide +kernel) rfl, lw_in 52 (by decide +kernel) rfl, by decide +kernel, by decide⟩, lw_in 428 (by decide +kernel) rfl, lw_in 429 (by decide +kernel) rfl⟩
theorem mb_X6_spare : ac_MV yX6_spare cX6_spare 2 (some .int) 1 := ⟨⟨lw_in 434 (by decide +kernel) rfl, lw_in 49 (by decide +kernel) rfl, by decide +kernel, by decide⟩, lw_in 432 (by decide +kernel) rfl, lw_in 433 (by decide +kernel) rfl⟩
theorem mb_X3_couldJoin : ac_MV yX3_couldJoin cX3_couldJoin 4 (some .int) 1 := ⟨⟨lw_in 438 (by decide +kernel) rfl, lw_in 52 (by decide +kernel) rfl, by decide +kernel, by decide⟩, lw_in 436 (by decide +kernel) rfl, lw_in 437 (by decide +kernel) rfl⟩
theorem mb_X6_old : ac_MV yX6_old cX6_old 4 (some .int) 3 := ⟨⟨lw_in 442 (by decide +kernel) rfl, lw_in 49 (by decide +kernel) rfl, by decide +kernel, by decide⟩, lw_in 440 (by decide +kernel) rfl, lw_in 441 (by decide +kernel) rfl⟩
theorem mb_X1_addStation : ac_MV yX1_addStation cX1_addStation 4 none 3 := ⟨⟨lw_in 446 (by decide +kernel) rfl, lw_in 53 (by decide +kernel) rfl, by decide +kernel, by decide⟩, lw_in 444 (by decide +kernel) rfl, lw_in 445 (by decide +kernel) rfl⟩
theorem mb_X6_clock : ac_MV yX6_clock cX6_clock 3 (some .int) 2 := ⟨⟨lw_in 451 (by decide +kernel) rfl, lw_in 49 (by decide +kernel) rfl, by decide +kernel, by decide⟩, lw_in 449 (by decide +kernel) rfl, lw_in 450 (by decide +kernel) rfl⟩
theorem mb_X6_run : ac_MV yX6_run cX6_run 2 (some .int) 1 := ⟨⟨lw_in 455 (by decide +kernel) rfl, lw_in 49 (by decide +kernel) rfl, by decide +kernel, by decide⟩, lw_in 453 (by decide +kernel) rfl, lw_in 454 (by decide +kernel) rfl⟩
theorem mb_X1_letFall : ac_MV yX1_letFall cX1_letFall 5 none 2 := ⟨⟨lw_in 459 (by decide +kernel) rfl, lw_in 53 (by decide +kernel) rfl, by decide +kernel, by decide⟩, lw_in 457 (by decide +kernel) rfl, lw_in 458 (by decide +kernel) rfl⟩
theorem mb_X1_offer : ac_MV yX1_offer cX1_offer 5 none 3 := ⟨⟨lw_in 464 (by decide +kernel) rfl, lw_in 53 (by decide +kernel) rfl, by decide +kernel, by decide⟩, lw_in 463 (by decide +kernel) rfl, lw_in 9 (by decide +kernel) rfl⟩
theorem mb_X1_priceIn : ac_MV yX1_priceIn cX1_priceIn 2 (some .int) 1 := ⟨⟨lw_in 468 (by decide +kernel) rfl, lw_in 53 (by decide +kernel) rfl, by decide +kernel, by decide⟩, lw_in 467 (by decide +kernel) rfl, lw_in 10 (by decide +kernel) rfl⟩
theorem mb_J9_max_7cf53 : ac_MS yJ9_max_7cf53 cJ9_max_7cf53 2 (some .int) 2 := ⟨⟨lw_in 471 (by decide +kernel) rfl, lw_in 58 (by decide +kernel) rfl, by decide +kernel, by decide⟩, lw_in 470 (by decide +kernel) rfl⟩
theorem mb_X4_finds : ac_MV yX4_finds cX4_finds 2 (some .boolean) 1 := ⟨⟨lw_in 475 (by decide +kernel) rfl, lw_in 51 (by decide +kernel) rfl, by decide +kernel, by decide⟩, lw_in 473 (by decide +kernel) rfl, lw_in 474 (by decide +kernel) rfl⟩
theorem mb_X1_ending : ac_MV yX1_ending cX1_ending 2 (some .int) 1 := ⟨⟨lw_in 481 (by decide +kernel) rfl, lw_in 53 (by decide +kernel) rfl, by decide +kernel, by decide⟩, lw_in 479 (by decide +kernel) rfl, lw_in 480 (by decide +kernel) rfl⟩
theorem mb_X1_allPaid : ac_MV yX1_allPaid cX1_allPaid 3 (some .int) 0 := ⟨⟨lw_in 485 (by decide +kernel) rfl, lw_in 53 (by decide +kernel) rfl, by decide +kernel, by decide⟩, lw_in 484 (by decide +kernel) rfl, lw_in 11 (by decide +kernel) rfl⟩
theorem mb_X6_paid : ac_MV yX6_paid cX6_paid 2 (some .int) 1 := ⟨⟨lw_in 489 (by decide +kernel) rfl, lw_in 49 (by decide +kernel) rfl, by decide +kernel, by decide⟩, lw_in 487 (by decide +kernel) rfl, lw_in 488 (by decide +kernel) rfl⟩
theorem mb_X1_isOld : ac_MV yX1_isOld cX1_isOld 2 (some .boolean) 1 := ⟨⟨lw_in 493 (by decide +kernel) rfl, lw_in 53 (by decide +kernel) rfl, by decide +kernel, by decide⟩, lw_in 491 (by decide +kernel) rfl, lw_in 492 (by decide +kernel) rfl⟩
theorem mb_X6_round : ac_MV yX6_round cX6_round 2 (some .int) 1 := ⟨⟨lw_in 497 (by decide +kernel) rfl, lw_in 49 (by decide +kernel) rfl, by decide +kernel, by decide⟩, lw_in 495 (by decide +kernel) rfl, lw_in 496 (by decide +kernel) rfl⟩
theorem mb_X6_gain : ac_MV yX6_gain cX6_gain 3 (some .int) 2 := ⟨⟨lw_in 501 (by decide +kernel) rfl, lw_in 49 (by decide +kernel) rfl, by decide +kernel, by decide⟩, lw_in 499 (by decide +kernel) rfl, lw_in 500 (by decide +kernel) rfl⟩
theorem mb_X1_profit : ac_MV yX1_profit cX1_profit 3 (some .int) 2 := ⟨⟨lw_in 506 (by decide +kernel) rfl, lw_in 53 (by decide +kernel) rfl, by decide +kernel, by decide⟩, lw_in 504 (by decide +kernel) rfl, lw_in 505 (by decide +kernel) rfl⟩
theorem mb_X6_most : ac_MV yX6_most cX6_most 10 (some .int) 4 := ⟨⟨lw_in 512 (by decide +kernel) rfl, lw_in 49 (by decide +kernel) rfl, by decide +kernel, by decide⟩, lw_in 510 (by decide +kernel) rfl, lw_in 511 (by decide +kernel) rfl⟩
theorem mb_X6_house : ac_MV yX6_house cX6_house 1 (some .int) 0 := ⟨⟨lw_in 516 (by decide +kernel) rfl, lw_in 49 (by decide +kernel) rfl, by decide +kernel, by decide⟩, lw_in 514 (by decide +kernel) rfl, lw_in 515 (by decide +kernel) rfl⟩
theorem mb_X5_addHouse : ac_MV yX5_addHouse cX5_addHouse 1 (some .int) 0 := ⟨⟨lw_in 520 (by decide +kernel) rfl, lw_in 54 (by decide +kernel) rfl, by decide +kernel, by decide⟩, lw_in 518 (by decide +kernel) rfl, lw_in 519 (by decide +kernel) rfl⟩
theorem mb_X6_ask : ac_MV yX6_ask cX6_ask 4 (some .int) 3 := ⟨⟨lw_in 524 (by decide +kernel) rfl, lw_in 49 (by decide +kernel) rfl, by decide +kernel, by decide⟩, lw_in 522 (by decide +kernel) rfl, lw_in 523 (by decide +kernel) rfl⟩
theorem mb_X5_isHouse : ac_MV yX5_isHouse cX5_isHouse 2 (some .boolean) 1 := ⟨⟨lw_in 528 (by decide +kernel) rfl, lw_in 54 (by decide +kernel) rfl, by decide +kernel, by decide⟩, lw_in 526 (by decide +kernel) rfl, lw_in 527 (by decide +kernel) rfl⟩
theorem mb_X5_addSentence : ac_MV yX5_addSentence cX5_addSentence 4 (some .int) 3 := ⟨⟨lw_in 533 (by decide +kernel) rfl, lw_in 54 (by decide +kernel) rfl, by decide +kernel, by decide⟩, lw_in 531 (by decide +kernel) rfl, lw_in 532 (by decide +kernel) rfl⟩
theorem mb_X6_best : ac_MV yX6_best cX6_best 3 (some .int) 2 := ⟨⟨lw_in 537 (by decide +kernel) rfl, lw_in 49 (by decide +kernel) rfl, by decide +kernel, by decide⟩, lw_in 535 (by decide +kernel) rfl, lw_in 536 (by decide +kernel) rfl⟩
theorem mb_X5_isGroup : ac_MV yX5_isGroup cX5_isGroup 2 (some .boolean) 1 := ⟨⟨lw_in 541 (by decide +kernel) rfl, lw_in 54 (by decide +kernel) rfl, by decide +kernel, by decide⟩, lw_in 539 (by decide +kernel) rfl, lw_in 540 (by decide +kernel) rfl⟩
theorem mb_X5_allHouses : ac_MV yX5_allHouses cX5_allHouses 1 (some .int) 0 := ⟨⟨lw_in 545 (by decide +kernel) rfl, lw_in 54 (by decide +kernel) rfl, by decide +kernel, by decide⟩, lw_in 543 (by decide +kernel) rfl, lw_in 544 (by decide +kernel) rfl⟩
theorem mb_X5_greatest : ac_MV yX5_greatest cX5_greatest 2 (some .int) 1 := ⟨⟨lw_in 549 (by decide +kernel) rfl, lw_in 54 (by decide +kernel) rfl, by decide +kernel, by decide⟩, lw_in 547 (by decide +kernel) rfl, lw_in 548 (by decide +kernel) rfl⟩
theorem mb_X5_weigh : ac_MV yX5_weigh cX5_weigh 5 none 0 := ⟨⟨lw_in 554 (by decide +kernel) rfl, lw_in 54 (by decide +kernel) rfl, by decide +kernel, by decide⟩, lw_in 553 (by decide +kernel) rfl, lw_in 12 (by decide +kernel) rfl⟩
theorem mb_X5_raise : ac_MV yX5_raise cX5_raise 8 none 4 := ⟨⟨lw_in 562 (by decide +kernel) rfl, lw_in 54 (by decide +kernel) rfl, by decide +kernel, by decide⟩, lw_in 561 (by decide +kernel) rfl, lw_in 13 (by decide +kernel) rfl⟩
theorem mb_X5_share : ac_MV yX5_share cX5_share 6 none 1 := ⟨⟨lw_in 567 (by decide +kernel) rfl, lw_in 54 (by decide +kernel) rfl, by decide +kernel, by decide⟩, lw_in 565 (by decide +kernel) rfl, lw_in 566 (by decide +kernel) rfl⟩
theorem mb_X5_firstToReach : ac_MV yX5_firstToReach cX5_firstToReach 7 (some .int) 4 := ⟨⟨lw_in 572 (by decide +kernel) rfl, lw_in 54 (by decide +kernel) rfl, by decide +kernel, by decide⟩, lw_in 571 (by decide +kernel) rfl, lw_in 14 (by decide +kernel) rfl⟩
theorem mb_X6_takes : ac_MV yX6_takes cX6_takes 2 (some .int) 1 := ⟨⟨lw_in 576 (by decide +kernel) rfl, lw_in 49 (by decide +kernel) rfl, by decide +kernel, by decide⟩, lw_in 574 (by decide +kernel) rfl, lw_in 575 (by decide +kernel) rfl⟩
theorem mb_X5_takenBy : ac_MV yX5_takenBy cX5_takenBy 4 (some .int) 1 := ⟨⟨lw_in 580 (by decide +kernel) rfl, lw_in 54 (by decide +kernel) rfl, by decide +kernel, by decide⟩, lw_in 578 (by decide +kernel) rfl, lw_in 579 (by decide +kernel) rfl⟩
theorem mb_X5_winOf : ac_MV yX5_winOf cX5_winOf 2 (some .int) 1 := ⟨⟨lw_in 586 (by decide +kernel) rfl, lw_in 54 (by decide +kernel) rfl, by decide +kernel, by decide⟩, lw_in 585 (by decide +kernel) rfl, lw_in 15 (by decide +kernel) rfl⟩
theorem mb_X6_price : ac_MV yX6_price cX6_price 4 (some .int) 2 := ⟨⟨lw_in 591 (by decide +kernel) rfl, lw_in 49 (by decide +kernel) rfl, by decide +kernel, by decide⟩, lw_in 589 (by decide +kernel) rfl, lw_in 590 (by decide +kernel) rfl⟩
theorem mb_X6_blocks : ac_MV yX6_blocks cX6_blocks 2 (some .int) 1 := ⟨⟨lw_in 595 (by decide +kernel) rfl, lw_in 49 (by decide +kernel) rfl, by decide +kernel, by decide⟩, lw_in 593 (by decide +kernel) rfl, lw_in 594 (by decide +kernel) rfl⟩
theorem mb_X5_wouldLeave : ac_MV yX5_wouldLeave cX5_wouldLeave 4 (some .boolean) 1 := ⟨⟨lw_in 600 (by decide +kernel) rfl, lw_in 54 (by decide +kernel) rfl, by decide +kernel, by decide⟩, lw_in 598 (by decide +kernel) rfl, lw_in 599 (by decide +kernel) rfl⟩
theorem mb_X6_alone : ac_MV yX6_alone cX6_alone 1 (some .int) 0 := ⟨⟨lw_in 604 (by decide +kernel) rfl, lw_in 49 (by decide +kernel) rfl, by decide +kernel, by decide⟩, lw_in 602 (by decide +kernel) rfl, lw_in 603 (by decide +kernel) rfl⟩
theorem mb_X5_firstToLeave : ac_MV yX5_firstToLeave cX5_firstToLeave 2 (some .int) 0 := ⟨⟨lw_in 608 (by decide +kernel) rfl, lw_in 54 (by decide +kernel) rfl, by decide +kernel, by decide⟩, lw_in 606 (by decide +kernel) rfl, lw_in 607 (by decide +kernel) rfl⟩
theorem mb_X6_tell : ac_MV yX6_tell cX6_tell 6 (some .int) 3 := ⟨⟨lw_in 613 (by decide +kernel) rfl, lw_in 49 (by decide +kernel) rfl, by decide +kernel, by decide⟩, lw_in 611 (by decide +kernel) rfl, lw_in 612 (by decide +kernel) rfl⟩
theorem mb_X6_weeks : ac_MV yX6_weeks cX6_weeks 4 (some .int) 2 := ⟨⟨lw_in 617 (by decide +kernel) rfl, lw_in 49 (by decide +kernel) rfl, by decide +kernel, by decide⟩, lw_in 615 (by decide +kernel) rfl, lw_in 616 (by decide +kernel) rfl⟩
theorem mb_X2_fewestWeeks : ac_MV yX2_fewestWeeks cX2_fewestWeeks 4 (some .int) 1 := ⟨⟨lw_in 621 (by decide +kernel) rfl, lw_in 55 (by decide +kernel) rfl, by decide +kernel, by decide⟩, lw_in 619 (by decide +kernel) rfl, lw_in 620 (by decide +kernel) rfl⟩
theorem mb_X2_toMove : ac_MV yX2_toMove cX2_toMove 3 (some .int) 0 := ⟨⟨lw_in 625 (by decide +kernel) rfl, lw_in 55 (by decide +kernel) rfl, by decide +kernel, by decide⟩, lw_in 624 (by decide +kernel) rfl, lw_in 16 (by decide +kernel) rfl⟩
theorem mb_X2_nobodyIsHeard : ac_MV yX2_nobodyIsHeard cX2_nobodyIsHeard 5 (some .boolean) 1 := ⟨⟨lw_in 629 (by decide +kernel) rfl, lw_in 55 (by decide +kernel) rfl, by decide +kernel, by decide⟩, lw_in 628 (by decide +kernel) rfl, lw_in 17 (by decide +kernel) rfl⟩
theorem mb_X2_channelOf : ac_MV yX2_channelOf cX2_channelOf 3 (some .int) 2 := ⟨⟨lw_in 633 (by decide +kernel) rfl, lw_in 55 (by decide +kernel) rfl, by decide +kernel, by decide⟩, lw_in 632 (by decide +kernel) rfl, lw_in 18 (by decide +kernel) rfl⟩
theorem mb_X2_weeksFrom : ac_MV yX2_weeksFrom cX2_weeksFrom 7 (some .int) 3 := ⟨⟨lw_in 640 (by decide +kernel) rfl, lw_in 55 (by decide +kernel) rfl, by decide +kernel, by decide⟩, lw_in 639 (by decide +kernel) rfl, lw_in 19 (by decide +kernel) rfl⟩
theorem mb_J9_min_7cf53 : ac_MS yJ9_min_7cf53 cJ9_min_7cf53 2 (some .int) 2 := ⟨⟨lw_in 644 (by decide +kernel) rfl, lw_in 58 (by decide +kernel) rfl, by decide +kernel, by decide⟩, lw_in 643 (by decide +kernel) rfl⟩
theorem mb_X2_movedIn : ac_MV yX2_movedIn cX2_movedIn 7 (some .int) 2 := ⟨⟨lw_in 648 (by decide +kernel) rfl, lw_in 55 (by decide +kernel) rfl, by decide +kernel, by decide⟩, lw_in 646 (by decide +kernel) rfl, lw_in 647 (by decide +kernel) rfl⟩
theorem mb_X2_firstStep : ac_MV yX2_firstStep cX2_firstStep 5 (some .int) 3 := ⟨⟨lw_in 652 (by decide +kernel) rfl, lw_in 55 (by decide +kernel) rfl, by decide +kernel, by decide⟩, lw_in 651 (by decide +kernel) rfl, lw_in 20 (by decide +kernel) rfl⟩
theorem mb_X6_tower : ac_MV yX6_tower cX6_tower 3 (some .int) 2 := ⟨⟨lw_in 656 (by decide +kernel) rfl, lw_in 49 (by decide +kernel) rfl, by decide +kernel, by decide⟩, lw_in 654 (by decide +kernel) rfl, lw_in 655 (by decide +kernel) rfl⟩
theorem mb_X2_brokenBy : ac_MV yX2_brokenBy cX2_brokenBy 5 (some .int) 2 := ⟨⟨lw_in 660 (by decide +kernel) rfl, lw_in 55 (by decide +kernel) rfl, by decide +kernel, by decide⟩, lw_in 658 (by decide +kernel) rfl, lw_in 659 (by decide +kernel) rfl⟩
theorem mb_X6_free : ac_MV yX6_free cX6_free 2 (some .int) 1 := ⟨⟨lw_in 664 (by decide +kernel) rfl, lw_in 49 (by decide +kernel) rfl, by decide +kernel, by decide⟩, lw_in 662 (by decide +kernel) rfl, lw_in 663 (by decide +kernel) rfl⟩
theorem mb_X2_freeFor : ac_MV yX2_freeFor cX2_freeFor 4 (some .int) 1 := ⟨⟨lw_in 668 (by decide +kernel) rfl, lw_in 55 (by decide +kernel) rfl, by decide +kernel, by decide⟩, lw_in 666 (by decide +kernel) rfl, lw_in 667 (by decide +kernel) rfl⟩
theorem mb_X6_heard : ac_MV yX6_heard cX6_heard 4 (some .int) 2 := ⟨⟨lw_in 673 (by decide +kernel) rfl, lw_in 49 (by decide +kernel) rfl, by decide +kernel, by decide⟩, lw_in 671 (by decide +kernel) rfl, lw_in 672 (by decide +kernel) rfl⟩
theorem mb_X6_could : ac_MV yX6_could cX6_could 5 (some .int) 2 := ⟨⟨lw_in 677 (by decide +kernel) rfl, lw_in 49 (by decide +kernel) rfl, by decide +kernel, by decide⟩, lw_in 675 (by decide +kernel) rfl, lw_in 676 (by decide +kernel) rfl⟩
theorem mb_X6_count : ac_MV yX6_count cX6_count 2 (some .int) 1 := ⟨⟨lw_in 681 (by decide +kernel) rfl, lw_in 49 (by decide +kernel) rfl, by decide +kernel, by decide⟩, lw_in 679 (by decide +kernel) rfl, lw_in 680 (by decide +kernel) rfl⟩
theorem mb_X6_digest : ac_MV yX6_digest cX6_digest 4 (some .long) 0 := ⟨⟨lw_in 685 (by decide +kernel) rfl, lw_in 49 (by decide +kernel) rfl, by decide +kernel, by decide⟩, lw_in 683 (by decide +kernel) rfl, lw_in 684 (by decide +kernel) rfl⟩
theorem mb_X6_mix : ac_MS yX6_mix cX6_mix 3 (some .long) 2 := ⟨⟨lw_in 690 (by decide +kernel) rfl, lw_in 49 (by decide +kernel) rfl, by decide +kernel, by decide⟩, lw_in 689 (by decide +kernel) rfl⟩
theorem mb_X6_mixMast : ac_MV yX6_mixMast cX6_mixMast 7 (some .long) 2 := ⟨⟨lw_in 695 (by decide +kernel) rfl, lw_in 49 (by decide +kernel) rfl, by decide +kernel, by decide⟩, lw_in 694 (by decide +kernel) rfl, lw_in 21 (by decide +kernel) rfl⟩
theorem mb_X7_mast : ac_MV yX7_mast cX7_mast 1 (some .int) 0 := ⟨⟨lw_in 812 (by decide +kernel) rfl, lw_in 56 (by decide +kernel) rfl, by decide +kernel, by decide⟩, lw_in 810 (by decide +kernel) rfl, lw_in 811 (by decide +kernel) rfl⟩
theorem mb_X7_channels : ac_MV yX7_channels cX7_channels 3 (some .int) 1 := ⟨⟨lw_in 816 (by decide +kernel) rfl, lw_in 56 (by decide +kernel) rfl, by decide +kernel, by decide⟩, lw_in 814 (by decide +kernel) rfl, lw_in 815 (by decide +kernel) rfl⟩
theorem mb_X7_in : ac_MS yX7_in cX7_in 6 (some .boolean) 3 := ⟨⟨lw_in 820 (by decide +kernel) rfl, lw_in 56 (by decide +kernel) rfl, by decide +kernel, by decide⟩, lw_in 819 (by decide +kernel) rfl⟩
theorem mb_X7_pair : ac_MV yX7_pair cX7_pair 5 (some .int) 3 := ⟨⟨lw_in 824 (by decide +kernel) rfl, lw_in 56 (by decide +kernel) rfl, by decide +kernel, by decide⟩, lw_in 822 (by decide +kernel) rfl, lw_in 823 (by decide +kernel) rfl⟩
theorem mb_X7_noMast : ac_MV yX7_noMast cX7_noMast 2 (some .boolean) 1 := ⟨⟨lw_in 828 (by decide +kernel) rfl, lw_in 56 (by decide +kernel) rfl, by decide +kernel, by decide⟩, lw_in 827 (by decide +kernel) rfl, lw_in 22 (by decide +kernel) rfl⟩
theorem mb_X7_bar : ac_MV yX7_bar cX7_bar 4 (some .int) 2 := ⟨⟨lw_in 833 (by decide +kernel) rfl, lw_in 56 (by decide +kernel) rfl, by decide +kernel, by decide⟩, lw_in 831 (by decide +kernel) rfl, lw_in 832 (by decide +kernel) rfl⟩
theorem mb_X7_limit : ac_MV yX7_limit cX7_limit 3 (some .int) 1 := ⟨⟨lw_in 838 (by decide +kernel) rfl, lw_in 56 (by decide +kernel) rfl, by decide +kernel, by decide⟩, lw_in 836 (by decide +kernel) rfl, lw_in 837 (by decide +kernel) rfl⟩
theorem mb_X7_fits : ac_MV yX7_fits cX7_fits 2 (some .int) 1 := ⟨⟨lw_in 843 (by decide +kernel) rfl, lw_in 56 (by decide +kernel) rfl, by decide +kernel, by decide⟩, lw_in 841 (by decide +kernel) rfl, lw_in 842 (by decide +kernel) rfl⟩
theorem mb_X7_noSet : ac_MV yX7_noSet cX7_noSet 2 (some .boolean) 1 := ⟨⟨lw_in 847 (by decide +kernel) rfl, lw_in 56 (by decide +kernel) rfl, by decide +kernel, by decide⟩, lw_in 846 (by decide +kernel) rfl, lw_in 23 (by decide +kernel) rfl⟩
theorem mb_X7_search : ac_MV yX7_search cX7_search 3 (some .int) 1 := ⟨⟨lw_in 851 (by decide +kernel) rfl, lw_in 56 (by decide +kernel) rfl, by decide +kernel, by decide⟩, lw_in 850 (by decide +kernel) rfl, lw_in 24 (by decide +kernel) rfl⟩
theorem mb_X7_layRow : ac_MV yX7_layRow cX7_layRow 3 none 1 := ⟨⟨lw_in 855 (by decide +kernel) rfl, lw_in 56 (by decide +kernel) rfl, by decide +kernel, by decide⟩, lw_in 854 (by decide +kernel) rfl, lw_in 25 (by decide +kernel) rfl⟩
theorem mb_X7_mayHave : ac_MV yX7_mayHave cX7_mayHave 5 (some .boolean) 2 := ⟨⟨lw_in 859 (by decide +kernel) rfl, lw_in 56 (by decide +kernel) rfl, by decide +kernel, by decide⟩, lw_in 858 (by decide +kernel) rfl, lw_in 26 (by decide +kernel) rfl⟩
theorem mb_X7_breaks : ac_MV yX7_breaks cX7_breaks 6 (some .boolean) 4 := ⟨⟨lw_in 863 (by decide +kernel) rfl, lw_in 56 (by decide +kernel) rfl, by decide +kernel, by decide⟩, lw_in 862 (by decide +kernel) rfl, lw_in 27 (by decide +kernel) rfl⟩
theorem mb_X7_one : ac_MS yX7_one cX7_one 1 (some .int) 1 := ⟨⟨lw_in 866 (by decide +kernel) rfl, lw_in 56 (by decide +kernel) rfl, by decide +kernel, by decide⟩, lw_in 865 (by decide +kernel) rfl⟩
theorem mb_X7_tries : ac_MV yX7_tries cX7_tries 3 (some .int) 1 := ⟨⟨lw_in 870 (by decide +kernel) rfl, lw_in 56 (by decide +kernel) rfl, by decide +kernel, by decide⟩, lw_in 868 (by decide +kernel) rfl, lw_in 869 (by decide +kernel) rfl⟩
theorem mb_X7_packing : ac_MV yX7_packing cX7_packing 5 (some .int) 2 := ⟨⟨lw_in 874 (by decide +kernel) rfl, lw_in 56 (by decide +kernel) rfl, by decide +kernel, by decide⟩, lw_in 872 (by decide +kernel) rfl, lw_in 873 (by decide +kernel) rfl⟩
theorem mb_X7_packs : ac_MV yX7_packs cX7_packs 3 (some .boolean) 1 := ⟨⟨lw_in 878 (by decide +kernel) rfl, lw_in 56 (by decide +kernel) rfl, by decide +kernel, by decide⟩, lw_in 877 (by decide +kernel) rfl, lw_in 28 (by decide +kernel) rfl⟩
theorem mb_X7_looksGood : ac_MV yX7_looksGood cX7_looksGood 7 (some .boolean) 1 := ⟨⟨lw_in 882 (by decide +kernel) rfl, lw_in 56 (by decide +kernel) rfl, by decide +kernel, by decide⟩, lw_in 881 (by decide +kernel) rfl, lw_in 29 (by decide +kernel) rfl⟩
theorem mb_X7_reason : ac_MV yX7_reason cX7_reason 5 (some .int) 1 := ⟨⟨lw_in 886 (by decide +kernel) rfl, lw_in 56 (by decide +kernel) rfl, by decide +kernel, by decide⟩, lw_in 884 (by decide +kernel) rfl, lw_in 885 (by decide +kernel) rfl⟩
theorem mb_X7_findGood : ac_MV yX7_findGood cX7_findGood 5 none 1 := ⟨⟨lw_in 890 (by decide +kernel) rfl, lw_in 56 (by decide +kernel) rfl, by decide +kernel, by decide⟩, lw_in 889 (by decide +kernel) rfl, lw_in 30 (by decide +kernel) rfl⟩
theorem mb_X7_ones : ac_MS yX7_ones cX7_ones 3 (some .int) 1 := ⟨⟨lw_in 893 (by decide +kernel) rfl, lw_in 56 (by decide +kernel) rfl, by decide +kernel, by decide⟩, lw_in 892 (by decide +kernel) rfl⟩
theorem mb_X7_spare : ac_MV yX7_spare cX7_spare 4 (some .int) 1 := ⟨⟨lw_in 897 (by decide +kernel) rfl, lw_in 56 (by decide +kernel) rfl, by decide +kernel, by decide⟩, lw_in 895 (by decide +kernel) rfl, lw_in 896 (by decide +kernel) rfl⟩
theorem mb_X7_old : ac_MV yX7_old cX7_old 4 (some .int) 3 := ⟨⟨lw_in 901 (by decide +kernel) rfl, lw_in 56 (by decide +kernel) rfl, by decide +kernel, by decide⟩, lw_in 899 (by decide +kernel) rfl, lw_in 900 (by decide +kernel) rfl⟩
theorem mb_X7_clock : ac_MV yX7_clock cX7_clock 3 (some .int) 2 := ⟨⟨lw_in 907 (by decide +kernel) rfl, lw_in 56 (by decide +kernel) rfl, by decide +kernel, by decide⟩, lw_in 905 (by decide +kernel) rfl, lw_in 906 (by decide +kernel) rfl⟩
theorem mb_X7_run : ac_MV yX7_run cX7_run 2 (some .int) 1 := ⟨⟨lw_in 912 (by decide +kernel) rfl, lw_in 56 (by decide +kernel) rfl, by decide +kernel, by decide⟩, lw_in 910 (by decide +kernel) rfl, lw_in 911 (by decide +kernel) rfl⟩
theorem mb_X7_goDown : ac_MV yX7_goDown cX7_goDown 8 none 2 := ⟨⟨lw_in 917 (by decide +kernel) rfl, lw_in 56 (by decide +kernel) rfl, by decide +kernel, by decide⟩, lw_in 916 (by decide +kernel) rfl, lw_in 31 (by decide +kernel) rfl⟩
theorem mb_X7_olds : ac_MV yX7_olds cX7_olds 3 (some .int) 0 := ⟨⟨lw_in 921 (by decide +kernel) rfl, lw_in 56 (by decide +kernel) rfl, by decide +kernel, by decide⟩, lw_in 920 (by decide +kernel) rfl, lw_in 32 (by decide +kernel) rfl⟩
theorem mb_X7_paidAll : ac_MV yX7_paidAll cX7_paidAll 3 (some .int) 0 := ⟨⟨lw_in 925 (by decide +kernel) rfl, lw_in 56 (by decide +kernel) rfl, by decide +kernel, by decide⟩, lw_in 924 (by decide +kernel) rfl, lw_in 33 (by decide +kernel) rfl⟩
theorem mb_X7_paid : ac_MV yX7_paid cX7_paid 2 (some .int) 1 := ⟨⟨lw_in 929 (by decide +kernel) rfl, lw_in 56 (by decide +kernel) rfl, by decide +kernel, by decide⟩, lw_in 927 (by decide +kernel) rfl, lw_in 928 (by decide +kernel) rfl⟩
theorem mb_X7_noOld : ac_MV yX7_noOld cX7_noOld 2 (some .boolean) 1 := ⟨⟨lw_in 933 (by decide +kernel) rfl, lw_in 56 (by decide +kernel) rfl, by decide +kernel, by decide⟩, lw_in 932 (by decide +kernel) rfl, lw_in 34 (by decide +kernel) rfl⟩
theorem mb_X7_round : ac_MV yX7_round cX7_round 2 (some .int) 1 := ⟨⟨lw_in 937 (by decide +kernel) rfl, lw_in 56 (by decide +kernel) rfl, by decide +kernel, by decide⟩, lw_in 935 (by decide +kernel) rfl, lw_in 936 (by decide +kernel) rfl⟩
theorem mb_X7_gain : ac_MV yX7_gain cX7_gain 3 (some .int) 2 := ⟨⟨lw_in 941 (by decide +kernel) rfl, lw_in 56 (by decide +kernel) rfl, by decide +kernel, by decide⟩, lw_in 939 (by decide +kernel) rfl, lw_in 940 (by decide +kernel) rfl⟩
theorem mb_X7_wins : ac_MV yX7_wins cX7_wins 3 (some .int) 2 := ⟨⟨lw_in 946 (by decide +kernel) rfl, lw_in 56 (by decide +kernel) rfl, by decide +kernel, by decide⟩, lw_in 945 (by decide +kernel) rfl, lw_in 35 (by decide +kernel) rfl⟩
theorem mb_X7_most : ac_MV yX7_most cX7_most 10 (some .int) 4 := ⟨⟨lw_in 950 (by decide +kernel) rfl, lw_in 56 (by decide +kernel) rfl, by decide +kernel, by decide⟩, lw_in 948 (by decide +kernel) rfl, lw_in 949 (by decide +kernel) rfl⟩
theorem mb_X7_house : ac_MV yX7_house cX7_house 1 (some .int) 0 := ⟨⟨lw_in 954 (by decide +kernel) rfl, lw_in 56 (by decide +kernel) rfl, by decide +kernel, by decide⟩, lw_in 952 (by decide +kernel) rfl, lw_in 953 (by decide +kernel) rfl⟩
theorem mb_X7_ask : ac_MV yX7_ask cX7_ask 4 (some .int) 3 := ⟨⟨lw_in 958 (by decide +kernel) rfl, lw_in 56 (by decide +kernel) rfl, by decide +kernel, by decide⟩, lw_in 956 (by decide +kernel) rfl, lw_in 957 (by decide +kernel) rfl⟩
theorem mb_X7_noHouse : ac_MV yX7_noHouse cX7_noHouse 2 (some .boolean) 1 := ⟨⟨lw_in 962 (by decide +kernel) rfl, lw_in 56 (by decide +kernel) rfl, by decide +kernel, by decide⟩, lw_in 961 (by decide +kernel) rfl, lw_in 36 (by decide +kernel) rfl⟩
theorem mb_X7_best : ac_MV yX7_best cX7_best 3 (some .int) 2 := ⟨⟨lw_in 967 (by decide +kernel) rfl, lw_in 56 (by decide +kernel) rfl, by decide +kernel, by decide⟩, lw_in 965 (by decide +kernel) rfl, lw_in 966 (by decide +kernel) rfl⟩
theorem mb_X7_noGroup : ac_MV yX7_noGroup cX7_noGroup 2 (some .boolean) 1 := ⟨⟨lw_in 971 (by decide +kernel) rfl, lw_in 56 (by decide +kernel) rfl, by decide +kernel, by decide⟩, lw_in 970 (by decide +kernel) rfl, lw_in 37 (by decide +kernel) rfl⟩
theorem mb_X7_findBest : ac_MV yX7_findBest cX7_findBest 9 none 1 := ⟨⟨lw_in 975 (by decide +kernel) rfl, lw_in 56 (by decide +kernel) rfl, by decide +kernel, by decide⟩, lw_in 974 (by decide +kernel) rfl, lw_in 38 (by decide +kernel) rfl⟩
theorem mb_X7_findWorths : ac_MV yX7_findWorths cX7_findWorths 8 none 1 := ⟨⟨lw_in 979 (by decide +kernel) rfl, lw_in 56 (by decide +kernel) rfl, by decide +kernel, by decide⟩, lw_in 978 (by decide +kernel) rfl, lw_in 39 (by decide +kernel) rfl⟩
theorem mb_X7_takes : ac_MV yX7_takes cX7_takes 3 (some .int) 1 := ⟨⟨lw_in 983 (by decide +kernel) rfl, lw_in 56 (by decide +kernel) rfl, by decide +kernel, by decide⟩, lw_in 981 (by decide +kernel) rfl, lw_in 982 (by decide +kernel) rfl⟩
theorem mb_X7_allHouses : ac_MV yX7_allHouses cX7_allHouses 1 (some .int) 0 := ⟨⟨lw_in 987 (by decide +kernel) rfl, lw_in 56 (by decide +kernel) rfl, by decide +kernel, by decide⟩, lw_in 986 (by decide +kernel) rfl, lw_in 40 (by decide +kernel) rfl⟩
theorem mb_X7_wonBy : ac_MV yX7_wonBy cX7_wonBy 2 (some .int) 1 := ⟨⟨lw_in 991 (by decide +kernel) rfl, lw_in 56 (by decide +kernel) rfl, by decide +kernel, by decide⟩, lw_in 990 (by decide +kernel) rfl, lw_in 41 (by decide +kernel) rfl⟩
theorem mb_X7_price : ac_MV yX7_price cX7_price 4 (some .int) 2 := ⟨⟨lw_in 995 (by decide +kernel) rfl, lw_in 56 (by decide +kernel) rfl, by decide +kernel, by decide⟩, lw_in 993 (by decide +kernel) rfl, lw_in 994 (by decide +kernel) rfl⟩
theorem mb_X7_blocks : ac_MV yX7_blocks cX7_blocks 2 (some .int) 1 := ⟨⟨lw_in 999 (by decide +kernel) rfl, lw_in 56 (by decide +kernel) rfl, by decide +kernel, by decide⟩, lw_in 997 (by decide +kernel) rfl, lw_in 998 (by decide +kernel) rfl⟩
theorem mb_X7_isBlocking : ac_MV yX7_isBlocking cX7_isBlocking 6 (some .boolean) 1 := ⟨⟨lw_in 1003 (by decide +kernel) rfl, lw_in 56 (by decide +kernel) rfl, by decide +kernel, by decide⟩, lw_in 1002 (by decide +kernel) rfl, lw_in 42 (by decide +kernel) rfl⟩
theorem mb_X7_alone : ac_MV yX7_alone cX7_alone 2 (some .int) 0 := ⟨⟨lw_in 1007 (by decide +kernel) rfl, lw_in 56 (by decide +kernel) rfl, by decide +kernel, by decide⟩, lw_in 1005 (by decide +kernel) rfl, lw_in 1006 (by decide +kernel) rfl⟩
theorem mb_X7_tell : ac_MV yX7_tell cX7_tell 5 (some .int) 3 := ⟨⟨lw_in 1011 (by decide +kernel) rfl, lw_in 56 (by decide +kernel) rfl, by decide +kernel, by decide⟩, lw_in 1009 (by decide +kernel) rfl, lw_in 1010 (by decide +kernel) rfl⟩
theorem mb_X7_weeks : ac_MV yX7_weeks cX7_weeks 9 (some .int) 2 := ⟨⟨lw_in 1017 (by decide +kernel) rfl, lw_in 56 (by decide +kernel) rfl, by decide +kernel, by decide⟩, lw_in 1015 (by decide +kernel) rfl, lw_in 1016 (by decide +kernel) rfl⟩
theorem mb_X7_findFar : ac_MV yX7_findFar cX7_findFar 7 none 2 := ⟨⟨lw_in 1021 (by decide +kernel) rfl, lw_in 56 (by decide +kernel) rfl, by decide +kernel, by decide⟩, lw_in 1020 (by decide +kernel) rfl, lw_in 43 (by decide +kernel) rfl⟩
theorem mb_X7_isQuiet : ac_MV yX7_isQuiet cX7_isQuiet 7 (some .boolean) 1 := ⟨⟨lw_in 1025 (by decide +kernel) rfl, lw_in 56 (by decide +kernel) rfl, by decide +kernel, by decide⟩, lw_in 1024 (by decide +kernel) rfl, lw_in 44 (by decide +kernel) rfl⟩
theorem mb_X7_at : ac_MV yX7_at cX7_at 3 (some .int) 2 := ⟨⟨lw_in 1029 (by decide +kernel) rfl, lw_in 56 (by decide +kernel) rfl, by decide +kernel, by decide⟩, lw_in 1028 (by decide +kernel) rfl, lw_in 45 (by decide +kernel) rfl⟩
theorem mb_X7_tower : ac_MV yX7_tower cX7_tower 3 (some .int) 2 := ⟨⟨lw_in 1033 (by decide +kernel) rfl, lw_in 56 (by decide +kernel) rfl, by decide +kernel, by decide⟩, lw_in 1031 (by decide +kernel) rfl, lw_in 1032 (by decide +kernel) rfl⟩
theorem mb_X7_broken : ac_MV yX7_broken cX7_broken 5 (some .int) 2 := ⟨⟨lw_in 1037 (by decide +kernel) rfl, lw_in 56 (by decide +kernel) rfl, by decide +kernel, by decide⟩, lw_in 1036 (by decide +kernel) rfl, lw_in 46 (by decide +kernel) rfl⟩
theorem mb_X7_free : ac_MV yX7_free cX7_free 4 (some .int) 1 := ⟨⟨lw_in 1041 (by decide +kernel) rfl, lw_in 56 (by decide +kernel) rfl, by decide +kernel, by decide⟩, lw_in 1039 (by decide +kernel) rfl, lw_in 1040 (by decide +kernel) rfl⟩
theorem mb_X7_heard : ac_MV yX7_heard cX7_heard 4 (some .int) 2 := ⟨⟨lw_in 1045 (by decide +kernel) rfl, lw_in 56 (by decide +kernel) rfl, by decide +kernel, by decide⟩, lw_in 1043 (by decide +kernel) rfl, lw_in 1044 (by decide +kernel) rfl⟩
theorem mb_X7_could : ac_MV yX7_could cX7_could 5 (some .int) 2 := ⟨⟨lw_in 1050 (by decide +kernel) rfl, lw_in 56 (by decide +kernel) rfl, by decide +kernel, by decide⟩, lw_in 1048 (by decide +kernel) rfl, lw_in 1049 (by decide +kernel) rfl⟩
theorem mb_X7_count : ac_MV yX7_count cX7_count 2 (some .int) 1 := ⟨⟨lw_in 1054 (by decide +kernel) rfl, lw_in 56 (by decide +kernel) rfl, by decide +kernel, by decide⟩, lw_in 1052 (by decide +kernel) rfl, lw_in 1053 (by decide +kernel) rfl⟩
theorem mb_X7_digest : ac_MV yX7_digest cX7_digest 3 (some .long) 0 := ⟨⟨lw_in 1058 (by decide +kernel) rfl, lw_in 56 (by decide +kernel) rfl, by decide +kernel, by decide⟩, lw_in 1056 (by decide +kernel) rfl, lw_in 1057 (by decide +kernel) rfl⟩
theorem mb_X7_add : ac_MV yX7_add cX7_add 2 none 1 := ⟨⟨lw_in 1064 (by decide +kernel) rfl, lw_in 56 (by decide +kernel) rfl, by decide +kernel, by decide⟩, lw_in 1063 (by decide +kernel) rfl, lw_in 47 (by decide +kernel) rfl⟩
theorem ml_L_13 : Cond.methodLink RL 13 yX6_mast ∈ lw_good := lw_in 289 (by decide +kernel) rfl
theorem ml_L_18 : Cond.methodLink RL 18 yX6_channels ∈ lw_good := lw_in 293 (by decide +kernel) rfl
theorem ml_X6_66 : Cond.methodLink RX6 66 yX6_within ∈ lw_good := lw_in 297 (by decide +kernel) rfl
theorem ml_L_23 : Cond.methodLink RL 23 yX6_pair ∈ lw_good := lw_in 300 (by decide +kernel) rfl
theorem ml_X6_73 : Cond.methodLink RX6 73 yX0_isMast ∈ lw_good := lw_in 304 (by decide +kernel) rfl
theorem ml_X6_77 : Cond.methodLink RX6 77 yX0_pairOf ∈ lw_good := lw_in 308 (by decide +kernel) rfl
theorem ml_X0_31 : Cond.methodLink RX0 31 yX0_isMast ∈ lw_good := lw_in 312 (by decide +kernel) rfl
theorem ml_X6_81 : Cond.methodLink RX6 81 yX0_setPair ∈ lw_good := lw_in 313 (by decide +kernel) rfl
theorem ml_L_28 : Cond.methodLink RL 28 yX6_bar ∈ lw_good := lw_in 317 (by decide +kernel) rfl
theorem ml_X6_85 : Cond.methodLink RX6 85 yX0_allChannels ∈ lw_good := lw_in 321 (by decide +kernel) rfl
theorem ml_L_33 : Cond.methodLink RL 33 yX6_limit ∈ lw_good := lw_in 325 (by decide +kernel) rfl
theorem ml_L_37 : Cond.methodLink RL 37 yX6_fits ∈ lw_good := lw_in 329 (by decide +kernel) rfl
theorem ml_X6_95 : Cond.methodLink RX6 95 yX0_isSet ∈ lw_good := lw_in 333 (by decide +kernel) rfl
theorem ml_X6_98 : Cond.methodLink RX6 98 yX4_lookFor ∈ lw_good := lw_in 337 (by decide +kernel) rfl
theorem ml_X4_40 : Cond.methodLinkNest RX4 40 yX6_has "AirClock" ∈ lw_nest := lw_nin 341 (by decide +kernel) rfl
theorem ml_X4_44 : Cond.methodLink RX4 44 yX0_mayHave ∈ lw_good := lw_in 344 (by decide +kernel) rfl
theorem ml_X4_48 : Cond.methodLink RX4 48 yX4_goOn ∈ lw_good := lw_in 348 (by decide +kernel) rfl
theorem ml_X4_61 : Cond.methodLink RX4 61 yX0_shutFor ∈ lw_good := lw_in 352 (by decide +kernel) rfl
theorem ml_L_41 : Cond.methodLink RL 41 yX6_tries ∈ lw_good := lw_in 358 (by decide +kernel) rfl
theorem ml_L_45 : Cond.methodLink RL 45 yX6_packing ∈ lw_good := lw_in 362 (by decide +kernel) rfl
theorem ml_X6_105 : Cond.methodLink RX6 105 yX6_has ∈ lw_good := lw_in 366 (by decide +kernel) rfl
theorem ml_X6_109 : Cond.methodLink RX6 109 yX3_firstChannel ∈ lw_good := lw_in 367 (by decide +kernel) rfl
theorem ml_X3_32 : Cond.methodLink RX3 32 yX0_isMast ∈ lw_good := lw_in 371 (by decide +kernel) rfl
theorem ml_X3_37 : Cond.methodLink RX3 37 yX3_canPack ∈ lw_good := lw_in 372 (by decide +kernel) rfl
theorem ml_X3_25 : Cond.methodLink RX3 25 yX3_allowAll ∈ lw_good := lw_in 376 (by decide +kernel) rfl
theorem ml_X3_61 : Cond.methodLink RX3 61 yX0_mayHave ∈ lw_good := lw_in 380 (by decide +kernel) rfl
theorem ml_X3_28 : Cond.methodLink RX3 28 yX3_packs ∈ lw_good := lw_in 381 (by decide +kernel) rfl
theorem ml_X3_67 : Cond.methodLink RX3 67 yX3_hardPart ∈ lw_good := lw_in 385 (by decide +kernel) rfl
theorem ml_X3_40 : Cond.methodLinkNest RX3 40 yX6_has "AirClock" ∈ lw_nest := lw_nin 389 (by decide +kernel) rfl
theorem ml_X3_73 : Cond.methodLink RX3 73 yX3_mostShut ∈ lw_good := lw_in 390 (by decide +kernel) rfl
theorem ml_X3_77 : Cond.methodLink RX3 77 yX0_pairOf ∈ lw_good := lw_in 394 (by decide +kernel) rfl
theorem ml_X3_52 : Cond.methodLink RX3 52 yJ6_bitCount_0f7a4 ∈ lw_good := lw_in 395 (by decide +kernel) rfl
theorem ml_X3_70 : Cond.methodLink RX3 70 yX3_packRest ∈ lw_good := lw_in 401 (by decide +kernel) rfl
theorem ml_X3_80 : Cond.methodLink RX3 80 yX3_tightest ∈ lw_good := lw_in 405 (by decide +kernel) rfl
theorem ml_X3_83 : Cond.methodLink RX3 83 yX3_narrow ∈ lw_good := lw_in 409 (by decide +kernel) rfl
theorem ml_X3_87 : Cond.methodLink RX3 87 yX0_shutFor ∈ lw_good := lw_in 413 (by decide +kernel) rfl
theorem ml_X3_44 : Cond.methodLink RX3 44 yX3_fixFirst ∈ lw_good := lw_in 414 (by decide +kernel) rfl
theorem ml_X3_48 : Cond.methodLinkNest RX3 48 yX6_placeOf "AirClock" ∈ lw_nest := lw_nin 418 (by decide +kernel) rfl
theorem ml_X6_219 : Cond.methodLink RX6 219 yJ6_bitCount_0f7a4 ∈ lw_good := lw_in 421 (by decide +kernel) rfl
theorem ml_L_49 : Cond.methodLink RL 49 yX6_reason ∈ lw_good := lw_in 422 (by decide +kernel) rfl
theorem ml_X6_112 : Cond.methodLink RX6 112 yX3_canPack ∈ lw_good := lw_in 426 (by decide +kernel) rfl
theorem ml_X6_115 : Cond.methodLink RX6 115 yX3_leastPartThatFails ∈ lw_good := lw_in 427 (by decide +kernel) rfl
theorem ml_L_53 : Cond.methodLink RL 53 yX6_spare ∈ lw_good := lw_in 431 (by decide +kernel) rfl
theorem ml_X6_118 : Cond.methodLink RX6 118 yX3_couldJoin ∈ lw_good := lw_in 435 (by decide +kernel) rfl
theorem ml_L_57 : Cond.methodLink RL 57 yX6_old ∈ lw_good := lw_in 439 (by decide +kernel) rfl
theorem ml_X6_124 : Cond.methodLink RX6 124 yX1_addStation ∈ lw_good := lw_in 443 (by decide +kernel) rfl
theorem ml_X1_51 : Cond.methodLink RX1 51 yX0_isMast ∈ lw_good := lw_in 447 (by decide +kernel) rfl
theorem ml_L_61 : Cond.methodLink RL 61 yX6_clock ∈ lw_good := lw_in 448 (by decide +kernel) rfl
theorem ml_L_65 : Cond.methodLink RL 65 yX6_run ∈ lw_good := lw_in 452 (by decide +kernel) rfl
theorem ml_X6_133 : Cond.methodLink RX6 133 yX1_letFall ∈ lw_good := lw_in 456 (by decide +kernel) rfl
theorem ml_X1_57 : Cond.methodLinkNest RX1 57 yX6_has "AirClock" ∈ lw_nest := lw_nin 460 (by decide +kernel) rfl
theorem ml_X1_64 : Cond.methodLink RX1 64 yX1_offer ∈ lw_good := lw_in 461 (by decide +kernel) rfl
theorem ml_X1_79 : Cond.methodLink RX1 79 yX1_priceIn ∈ lw_good := lw_in 465 (by decide +kernel) rfl
theorem ml_X1_88 : Cond.methodLink RX1 88 yJ9_max_7cf53 ∈ lw_good := lw_in 469 (by decide +kernel) rfl
theorem ml_X1_83 : Cond.methodLink RX1 83 yX4_finds ∈ lw_good := lw_in 472 (by decide +kernel) rfl
theorem ml_X4_51 : Cond.methodLink RX4 51 yX0_isSet ∈ lw_good := lw_in 476 (by decide +kernel) rfl
theorem ml_X4_58 : Cond.methodLink RX4 58 yX4_lookFor ∈ lw_good := lw_in 477 (by decide +kernel) rfl
theorem ml_X6_137 : Cond.methodLink RX6 137 yX1_ending ∈ lw_good := lw_in 478 (by decide +kernel) rfl
theorem ml_X1_68 : Cond.methodLink RX1 68 yX1_allPaid ∈ lw_good := lw_in 482 (by decide +kernel) rfl
theorem ml_L_69 : Cond.methodLink RL 69 yX6_paid ∈ lw_good := lw_in 486 (by decide +kernel) rfl
theorem ml_X6_140 : Cond.methodLink RX6 140 yX1_isOld ∈ lw_good := lw_in 490 (by decide +kernel) rfl
theorem ml_L_73 : Cond.methodLink RL 73 yX6_round ∈ lw_good := lw_in 494 (by decide +kernel) rfl
theorem ml_L_77 : Cond.methodLink RL 77 yX6_gain ∈ lw_good := lw_in 498 (by decide +kernel) rfl
theorem ml_X6_150 : Cond.methodLink RX6 150 yX1_profit ∈ lw_good := lw_in 503 (by decide +kernel) rfl
theorem ml_X1_72 : Cond.methodLink RX1 72 yX1_isOld ∈ lw_good := lw_in 507 (by decide +kernel) rfl
theorem ml_X1_75 : Cond.methodLink RX1 75 yX1_letFall ∈ lw_good := lw_in 508 (by decide +kernel) rfl
theorem ml_L_81 : Cond.methodLink RL 81 yX6_most ∈ lw_good := lw_in 509 (by decide +kernel) rfl
theorem ml_L_86 : Cond.methodLink RL 86 yX6_house ∈ lw_good := lw_in 513 (by decide +kernel) rfl
theorem ml_X6_159 : Cond.methodLink RX6 159 yX5_addHouse ∈ lw_good := lw_in 517 (by decide +kernel) rfl
theorem ml_L_90 : Cond.methodLink RL 90 yX6_ask ∈ lw_good := lw_in 521 (by decide +kernel) rfl
theorem ml_X6_162 : Cond.methodLink RX6 162 yX5_isHouse ∈ lw_good := lw_in 525 (by decide +kernel) rfl
theorem ml_X6_169 : Cond.methodLink RX6 169 yX5_addSentence ∈ lw_good := lw_in 530 (by decide +kernel) rfl
theorem ml_L_94 : Cond.methodLink RL 94 yX6_best ∈ lw_good := lw_in 534 (by decide +kernel) rfl
theorem ml_X6_173 : Cond.methodLink RX6 173 yX5_isGroup ∈ lw_good := lw_in 538 (by decide +kernel) rfl
theorem ml_X5_41 : Cond.methodLink RX5 41 yX5_allHouses ∈ lw_good := lw_in 542 (by decide +kernel) rfl
theorem ml_X6_176 : Cond.methodLink RX6 176 yX5_greatest ∈ lw_good := lw_in 546 (by decide +kernel) rfl
theorem ml_X5_45 : Cond.methodLink RX5 45 yX5_isGroup ∈ lw_good := lw_in 550 (by decide +kernel) rfl
theorem ml_X5_49 : Cond.methodLink RX5 49 yX5_weigh ∈ lw_good := lw_in 551 (by decide +kernel) rfl
theorem ml_X5_83 : Cond.methodLinkNest RX5 83 yX6_placeOf "AirClock" ∈ lw_nest := lw_nin 555 (by decide +kernel) rfl
theorem ml_X5_86 : Cond.methodLink RX5 86 arraycopyName ∈ lw_good := lw_in 556 (by decide +kernel) rfl
theorem ml_X5_92 : Cond.methodLink RX5 92 yX5_raise ∈ lw_good := lw_in 559 (by decide +kernel) rfl
theorem ml_X5_71 : Cond.methodLink RX5 71 yJ9_max_7cf53 ∈ lw_good := lw_in 563 (by decide +kernel) rfl
theorem ml_X6_179 : Cond.methodLink RX6 179 yX5_share ∈ lw_good := lw_in 564 (by decide +kernel) rfl
theorem ml_X5_52 : Cond.methodLinkNest RX5 52 yX6_has "AirClock" ∈ lw_nest := lw_nin 568 (by decide +kernel) rfl
theorem ml_X5_56 : Cond.methodLink RX5 56 yX5_firstToReach ∈ lw_good := lw_in 569 (by decide +kernel) rfl
theorem ml_L_98 : Cond.methodLink RL 98 yX6_takes ∈ lw_good := lw_in 573 (by decide +kernel) rfl
theorem ml_X6_186 : Cond.methodLink RX6 186 yX5_takenBy ∈ lw_good := lw_in 577 (by decide +kernel) rfl
theorem ml_X5_60 : Cond.methodLink RX5 60 yX5_share ∈ lw_good := lw_in 581 (by decide +kernel) rfl
theorem ml_X5_64 : Cond.methodLink RX5 64 yX5_greatest ∈ lw_good := lw_in 582 (by decide +kernel) rfl
theorem ml_X5_68 : Cond.methodLink RX5 68 yX5_winOf ∈ lw_good := lw_in 583 (by decide +kernel) rfl
theorem ml_X5_80 : Cond.methodLink RX5 80 yX5_isHouse ∈ lw_good := lw_in 587 (by decide +kernel) rfl
theorem ml_L_102 : Cond.methodLink RL 102 yX6_price ∈ lw_good := lw_in 588 (by decide +kernel) rfl
theorem ml_L_106 : Cond.methodLink RL 106 yX6_blocks ∈ lw_good := lw_in 592 (by decide +kernel) rfl
theorem ml_X6_192 : Cond.methodLink RX6 192 yX5_allHouses ∈ lw_good := lw_in 596 (by decide +kernel) rfl
theorem ml_X6_195 : Cond.methodLink RX6 195 yX5_wouldLeave ∈ lw_good := lw_in 597 (by decide +kernel) rfl
theorem ml_L_110 : Cond.methodLink RL 110 yX6_alone ∈ lw_good := lw_in 601 (by decide +kernel) rfl
theorem ml_X6_198 : Cond.methodLink RX6 198 yX5_firstToLeave ∈ lw_good := lw_in 605 (by decide +kernel) rfl
theorem ml_X5_77 : Cond.methodLink RX5 77 yX5_wouldLeave ∈ lw_good := lw_in 609 (by decide +kernel) rfl
theorem ml_L_114 : Cond.methodLink RL 114 yX6_tell ∈ lw_good := lw_in 610 (by decide +kernel) rfl
theorem ml_L_118 : Cond.methodLink RL 118 yX6_weeks ∈ lw_good := lw_in 614 (by decide +kernel) rfl
theorem ml_X6_207 : Cond.methodLink RX6 207 yX2_fewestWeeks ∈ lw_good := lw_in 618 (by decide +kernel) rfl
theorem ml_X2_25 : Cond.methodLink RX2 25 yX2_toMove ∈ lw_good := lw_in 622 (by decide +kernel) rfl
theorem ml_X2_29 : Cond.methodLink RX2 29 yX2_nobodyIsHeard ∈ lw_good := lw_in 626 (by decide +kernel) rfl
theorem ml_X2_57 : Cond.methodLink RX2 57 yX2_channelOf ∈ lw_good := lw_in 630 (by decide +kernel) rfl
theorem ml_X2_61 : Cond.methodLink RX2 61 yX0_isMast ∈ lw_good := lw_in 634 (by decide +kernel) rfl
theorem ml_X2_49 : Cond.methodLinkNest RX2 49 yX6_has "AirClock" ∈ lw_nest := lw_nin 635 (by decide +kernel) rfl
theorem ml_X2_46 : Cond.methodLink RX2 46 yX0_shutFor ∈ lw_good := lw_in 636 (by decide +kernel) rfl
theorem ml_X2_33 : Cond.methodLink RX2 33 yX2_weeksFrom ∈ lw_good := lw_in 637 (by decide +kernel) rfl
theorem ml_X2_64 : Cond.methodLink RX2 64 yJ6_bitCount_0f7a4 ∈ lw_good := lw_in 641 (by decide +kernel) rfl
theorem ml_X2_69 : Cond.methodLink RX2 69 yJ9_min_7cf53 ∈ lw_good := lw_in 642 (by decide +kernel) rfl
theorem ml_X6_210 : Cond.methodLink RX6 210 yX2_movedIn ∈ lw_good := lw_in 645 (by decide +kernel) rfl
theorem ml_X2_37 : Cond.methodLink RX2 37 yX2_firstStep ∈ lw_good := lw_in 649 (by decide +kernel) rfl
theorem ml_L_122 : Cond.methodLink RL 122 yX6_tower ∈ lw_good := lw_in 653 (by decide +kernel) rfl
theorem ml_X6_213 : Cond.methodLink RX6 213 yX2_brokenBy ∈ lw_good := lw_in 657 (by decide +kernel) rfl
theorem ml_L_126 : Cond.methodLink RL 126 yX6_free ∈ lw_good := lw_in 661 (by decide +kernel) rfl
theorem ml_X6_216 : Cond.methodLink RX6 216 yX2_freeFor ∈ lw_good := lw_in 665 (by decide +kernel) rfl
theorem ml_X2_53 : Cond.methodLink RX2 53 yX0_mayHave ∈ lw_good := lw_in 669 (by decide +kernel) rfl
theorem ml_L_130 : Cond.methodLink RL 130 yX6_heard ∈ lw_good := lw_in 670 (by decide +kernel) rfl
theorem ml_L_134 : Cond.methodLink RL 134 yX6_could ∈ lw_good := lw_in 674 (by decide +kernel) rfl
theorem ml_L_138 : Cond.methodLink RL 138 yX6_count ∈ lw_good := lw_in 678 (by decide +kernel) rfl
theorem ml_L_142 : Cond.methodLink RL 142 yX6_digest ∈ lw_good := lw_in 682 (by decide +kernel) rfl
theorem ml_X6_226 : Cond.methodLink RX6 226 yX6_count ∈ lw_good := lw_in 687 (by decide +kernel) rfl
theorem ml_X6_229 : Cond.methodLink RX6 229 yX6_mix ∈ lw_good := lw_in 688 (by decide +kernel) rfl
theorem ml_X6_233 : Cond.methodLink RX6 233 yX6_mixMast ∈ lw_good := lw_in 692 (by decide +kernel) rfl
theorem ml_L_17 : Cond.methodLink RL 17 yX7_mast ∈ lw_good := lw_in 809 (by decide +kernel) rfl
theorem ml_L_22 : Cond.methodLink RL 22 yX7_channels ∈ lw_good := lw_in 813 (by decide +kernel) rfl
theorem ml_X7_90 : Cond.methodLink RX7 90 yX7_in ∈ lw_good := lw_in 818 (by decide +kernel) rfl
theorem ml_L_27 : Cond.methodLink RL 27 yX7_pair ∈ lw_good := lw_in 821 (by decide +kernel) rfl
theorem ml_X7_96 : Cond.methodLink RX7 96 yX7_noMast ∈ lw_good := lw_in 825 (by decide +kernel) rfl
theorem ml_L_32 : Cond.methodLink RL 32 yX7_bar ∈ lw_good := lw_in 830 (by decide +kernel) rfl
theorem ml_L_36 : Cond.methodLink RL 36 yX7_limit ∈ lw_good := lw_in 835 (by decide +kernel) rfl
theorem ml_L_40 : Cond.methodLink RL 40 yX7_fits ∈ lw_good := lw_in 840 (by decide +kernel) rfl
theorem ml_X7_131 : Cond.methodLink RX7 131 yX7_noSet ∈ lw_good := lw_in 844 (by decide +kernel) rfl
theorem ml_X7_134 : Cond.methodLink RX7 134 yX7_search ∈ lw_good := lw_in 848 (by decide +kernel) rfl
theorem ml_X7_113 : Cond.methodLink RX7 113 yX7_layRow ∈ lw_good := lw_in 852 (by decide +kernel) rfl
theorem ml_X7_120 : Cond.methodLink RX7 120 yX7_mayHave ∈ lw_good := lw_in 856 (by decide +kernel) rfl
theorem ml_X7_109 : Cond.methodLink RX7 109 yX7_breaks ∈ lw_good := lw_in 860 (by decide +kernel) rfl
theorem ml_X7_124 : Cond.methodLink RX7 124 yX7_one ∈ lw_good := lw_in 864 (by decide +kernel) rfl
theorem ml_L_44 : Cond.methodLink RL 44 yX7_tries ∈ lw_good := lw_in 867 (by decide +kernel) rfl
theorem ml_L_48 : Cond.methodLink RL 48 yX7_packing ∈ lw_good := lw_in 871 (by decide +kernel) rfl
theorem ml_X7_138 : Cond.methodLink RX7 138 yX7_packs ∈ lw_good := lw_in 875 (by decide +kernel) rfl
theorem ml_X7_128 : Cond.methodLink RX7 128 yX7_looksGood ∈ lw_good := lw_in 879 (by decide +kernel) rfl
theorem ml_L_52 : Cond.methodLink RL 52 yX7_reason ∈ lw_good := lw_in 883 (by decide +kernel) rfl
theorem ml_X7_141 : Cond.methodLink RX7 141 yX7_findGood ∈ lw_good := lw_in 887 (by decide +kernel) rfl
theorem ml_X7_144 : Cond.methodLink RX7 144 yX7_ones ∈ lw_good := lw_in 891 (by decide +kernel) rfl
theorem ml_L_56 : Cond.methodLink RL 56 yX7_spare ∈ lw_good := lw_in 894 (by decide +kernel) rfl
theorem ml_L_60 : Cond.methodLink RL 60 yX7_old ∈ lw_good := lw_in 898 (by decide +kernel) rfl
theorem ml_L_64 : Cond.methodLink RL 64 yX7_clock ∈ lw_good := lw_in 904 (by decide +kernel) rfl
theorem ml_L_68 : Cond.methodLink RL 68 yX7_run ∈ lw_good := lw_in 909 (by decide +kernel) rfl
theorem ml_X7_168 : Cond.methodLink RX7 168 yX7_goDown ∈ lw_good := lw_in 914 (by decide +kernel) rfl
theorem ml_X7_153 : Cond.methodLink RX7 153 yX7_olds ∈ lw_good := lw_in 918 (by decide +kernel) rfl
theorem ml_X7_172 : Cond.methodLink RX7 172 yX7_paidAll ∈ lw_good := lw_in 922 (by decide +kernel) rfl
theorem ml_L_72 : Cond.methodLink RL 72 yX7_paid ∈ lw_good := lw_in 926 (by decide +kernel) rfl
theorem ml_X7_175 : Cond.methodLink RX7 175 yX7_noOld ∈ lw_good := lw_in 930 (by decide +kernel) rfl
theorem ml_L_76 : Cond.methodLink RL 76 yX7_round ∈ lw_good := lw_in 934 (by decide +kernel) rfl
theorem ml_L_80 : Cond.methodLink RL 80 yX7_gain ∈ lw_good := lw_in 938 (by decide +kernel) rfl
theorem ml_X7_179 : Cond.methodLink RX7 179 yX7_wins ∈ lw_good := lw_in 943 (by decide +kernel) rfl
theorem ml_L_85 : Cond.methodLink RL 85 yX7_most ∈ lw_good := lw_in 947 (by decide +kernel) rfl
theorem ml_L_89 : Cond.methodLink RL 89 yX7_house ∈ lw_good := lw_in 951 (by decide +kernel) rfl
theorem ml_L_93 : Cond.methodLink RL 93 yX7_ask ∈ lw_good := lw_in 955 (by decide +kernel) rfl
theorem ml_X7_186 : Cond.methodLink RX7 186 yX7_noHouse ∈ lw_good := lw_in 959 (by decide +kernel) rfl
theorem ml_L_97 : Cond.methodLink RL 97 yX7_best ∈ lw_good := lw_in 964 (by decide +kernel) rfl
theorem ml_X7_200 : Cond.methodLink RX7 200 yX7_noGroup ∈ lw_good := lw_in 968 (by decide +kernel) rfl
theorem ml_X7_203 : Cond.methodLink RX7 203 yX7_findBest ∈ lw_good := lw_in 972 (by decide +kernel) rfl
theorem ml_X7_194 : Cond.methodLink RX7 194 yX7_findWorths ∈ lw_good := lw_in 976 (by decide +kernel) rfl
theorem ml_L_101 : Cond.methodLink RL 101 yX7_takes ∈ lw_good := lw_in 980 (by decide +kernel) rfl
theorem ml_X7_206 : Cond.methodLink RX7 206 yX7_allHouses ∈ lw_good := lw_in 984 (by decide +kernel) rfl
theorem ml_X7_209 : Cond.methodLink RX7 209 yX7_wonBy ∈ lw_good := lw_in 988 (by decide +kernel) rfl
theorem ml_L_105 : Cond.methodLink RL 105 yX7_price ∈ lw_good := lw_in 992 (by decide +kernel) rfl
theorem ml_L_109 : Cond.methodLink RL 109 yX7_blocks ∈ lw_good := lw_in 996 (by decide +kernel) rfl
theorem ml_X7_212 : Cond.methodLink RX7 212 yX7_isBlocking ∈ lw_good := lw_in 1000 (by decide +kernel) rfl
theorem ml_L_113 : Cond.methodLink RL 113 yX7_alone ∈ lw_good := lw_in 1004 (by decide +kernel) rfl
theorem ml_L_117 : Cond.methodLink RL 117 yX7_tell ∈ lw_good := lw_in 1008 (by decide +kernel) rfl
theorem ml_L_121 : Cond.methodLink RL 121 yX7_weeks ∈ lw_good := lw_in 1014 (by decide +kernel) rfl
theorem ml_X7_225 : Cond.methodLink RX7 225 yX7_findFar ∈ lw_good := lw_in 1018 (by decide +kernel) rfl
theorem ml_X7_222 : Cond.methodLink RX7 222 yX7_isQuiet ∈ lw_good := lw_in 1022 (by decide +kernel) rfl
theorem ml_X7_219 : Cond.methodLink RX7 219 yX7_at ∈ lw_good := lw_in 1026 (by decide +kernel) rfl
theorem ml_L_125 : Cond.methodLink RL 125 yX7_tower ∈ lw_good := lw_in 1030 (by decide +kernel) rfl
theorem ml_X7_228 : Cond.methodLink RX7 228 yX7_broken ∈ lw_good := lw_in 1034 (by decide +kernel) rfl
theorem ml_L_129 : Cond.methodLink RL 129 yX7_free ∈ lw_good := lw_in 1038 (by decide +kernel) rfl
theorem ml_L_133 : Cond.methodLink RL 133 yX7_heard ∈ lw_good := lw_in 1042 (by decide +kernel) rfl
theorem ml_L_137 : Cond.methodLink RL 137 yX7_could ∈ lw_good := lw_in 1047 (by decide +kernel) rfl
theorem ml_L_141 : Cond.methodLink RL 141 yX7_count ∈ lw_good := lw_in 1051 (by decide +kernel) rfl
theorem ml_L_146 : Cond.methodLink RL 146 yX7_digest ∈ lw_good := lw_in 1055 (by decide +kernel) rfl
theorem ml_X7_241 : Cond.methodLink RX7 241 yX7_count ∈ lw_good := lw_in 1060 (by decide +kernel) rfl
theorem ml_X7_244 : Cond.methodLink RX7 244 yX7_add ∈ lw_good := lw_in 1061 (by decide +kernel) rfl
theorem ml_X7_247 : Cond.methodLink RX7 247 yX7_run ∈ lw_good := lw_in 1066 (by decide +kernel) rfl
theorem wd_native : Cond.native arraycopyName ∈ lw_good := lw_in 558 (by decide +kernel) rfl
theorem wd_static : Cond.static arraycopyName ∈ lw_good := lw_in 557 (by decide +kernel) rfl
theorem wd_inis : Cond.initialized "java/lang/System" ∈ lw_good := lw_in 59 (by decide +kernel) rfl
theorem kc_J6_265 : Cond.constant RJ6 265 (1431655765 : Int32) ∈ lw_good := lw_in 398 (by decide +kernel) rfl
theorem kc_J6_266 : Cond.constant RJ6 266 (858993459 : Int32) ∈ lw_good := lw_in 399 (by decide +kernel) rfl
theorem kc_J6_267 : Cond.constant RJ6 267 (252645135 : Int32) ∈ lw_good := lw_in 400 (by decide +kernel) rfl
theorem kc_X6_149 : Cond.constant RX6 149 (-1000000 : Int32) ∈ lw_good := lw_in 502 (by decide +kernel) rfl
theorem kc_X6_165 : Cond.constant RX6 165 (100000 : Int32) ∈ lw_good := lw_in 529 (by decide +kernel) rfl
theorem kc_X6_224 : Cond.constantLong RX6 224 (401 : Int64) ∈ lw_good := lw_in 686 (by decide +kernel) rfl
theorem kc_X6_248 : Cond.constantLong RX6 248 (31 : Int64) ∈ lw_good := lw_in 691 (by decide +kernel) rfl
theorem kc_X7_94 : Cond.constantLong RX7 94 (6 : Int64) ∈ lw_good := lw_in 817 (by decide +kernel) rfl
theorem kc_X7_100 : Cond.constantLong RX7 100 (2 : Int64) ∈ lw_good := lw_in 829 (by decide +kernel) rfl
theorem kc_X7_102 : Cond.constantLong RX7 102 (63 : Int64) ∈ lw_good := lw_in 834 (by decide +kernel) rfl
theorem kc_X7_104 : Cond.constantLong RX7 104 (2000 : Int64) ∈ lw_good := lw_in 839 (by decide +kernel) rfl
theorem kc_X7_147 : Cond.constantLong RX7 147 (1000 : Int64) ∈ lw_good := lw_in 902 (by decide +kernel) rfl
theorem kc_X7_149 : Cond.constantLong RX7 149 (10 : Int64) ∈ lw_good := lw_in 903 (by decide +kernel) rfl
theorem kc_X7_151 : Cond.constantLong RX7 151 (100 : Int64) ∈ lw_good := lw_in 908 (by decide +kernel) rfl
theorem kc_X7_166 : Cond.constantLong RX7 166 (3 : Int64) ∈ lw_good := lw_in 913 (by decide +kernel) rfl
theorem kc_X7_178 : Cond.constant RX7 178 (-1000000 : Int32) ∈ lw_good := lw_in 942 (by decide +kernel) rfl
theorem kc_X7_189 : Cond.constantLong RX7 189 (100000 : Int64) ∈ lw_good := lw_in 963 (by decide +kernel) rfl
theorem kc_X7_215 : Cond.constantLong RX7 215 (-1 : Int64) ∈ lw_good := lw_in 1012 (by decide +kernel) rfl
theorem kc_X7_217 : Cond.constantLong RX7 217 (5 : Int64) ∈ lw_good := lw_in 1013 (by decide +kernel) rfl
theorem kc_X7_231 : Cond.constantLong RX7 231 (15 : Int64) ∈ lw_good := lw_in 1046 (by decide +kernel) rfl
theorem kc_X7_239 : Cond.constantLong RX7 239 (401 : Int64) ∈ lw_good := lw_in 1059 (by decide +kernel) rfl
theorem kc_X7_233 : Cond.constantLong RX7 233 (31 : Int64) ∈ lw_good := lw_in 1065 (by decide +kernel) rfl
end
section
/-! Small facts for the walks. -/
theorem iv_ltl {a b c d : Int} {x y : Int32} (hx : iv a b x) (hy : iv c d y) (h : x < y) : iv a (d - 1) x := ⟨hx.1, by have := iv_lt h; have := hy.2; omega⟩
theorem iv_ltr {a b c d : Int} {x y : Int32} (hx : iv a b x) (hy : iv c d y) (h : x < y) : iv (a + 1) d y := ⟨by have := iv_lt h; have := hx.1; omega, hy.2⟩
theorem iv_lel {a b c d : Int} {x y : Int32} (hx : iv a b x) (hy : iv c d y) (h : x ≤ y) : iv a d x := ⟨hx.1, by have := iv_le h; have := hy.2; omega⟩
theorem iv_ler {a b c d : Int} {x y : Int32} (hx : iv a b x) (hy : iv c d y) (h : x ≤ y) : iv a d y := ⟨by have := iv_le h; have := hx.1; omega, hy.2⟩
theorem iv_eql {c d : Int} {x y : Int32} (hy : iv c d y) (h : x = y) : iv c d x := by rw [h]; exact hy
theorem iv_eqr {c d : Int} {x y : Int32} (hx : iv c d x) (h : x = y) : iv c d y := by rw [← h]; exact hx
theorem iv_nel {a b : Int} {x y : Int32} (hx : iv a b x) (hy : y.toInt = a) (h : ¬ x = y) : iv (a + 1) b x := ⟨by have := iv_ne h; have := hx.1; omega, hx.2⟩
theorem iv_neh {a b : Int} {x y : Int32} (hx : iv a b x) (hy : y.toInt = b) (h : ¬ x = y) : iv a (b - 1) x := ⟨hx.1, by have := iv_ne h; have := hx.2; omega⟩
theorem iv_xlt {a b c d : Int} {x y : Int32} (hx : iv a b x) (hy : iv c d y) (h : d ≤ a) : ¬ x < y := fun g => by have := iv_lt g; have := hx.1; have := hy.2; omega
theorem iv_xle {a b c d : Int} {x y : Int32} (hx : iv a b x) (hy : iv c d y) (h : d < a) : ¬ x ≤ y := fun g => by have := iv_le g; have := hx.1; have := hy.2; omega
theorem iv_xeq {a b c d : Int} {x y : Int32} (hx : iv a b x) (hy : iv c d y) (h : b < c ∨ d < a) : ¬ x = y := fun g => by
  have h1 := hx.1
  have h2 := hx.2
  have h3 := hy.1
  have h4 := hy.2
  rw [g] at h1 h2
  omega
theorem iv_xne {a : Int} {x y : Int32} (hx : iv a a x) (hy : iv a a y) : x = y := Int32.toInt_inj.mp (by have := hx.1; have := hx.2; have := hy.1; have := hy.2; omega)
theorem iv_pos {a b : Int} {x : Int32} (hx : iv a b x) (h : 1 ≤ a) : ¬ x = 0 := fun e => by
  have h1 := hx.1
  rw [e] at h1
  simp at h1
  omega
theorem iv_nn {a b : Int} {x : Int32} (hx : iv a b x) (h : 0 ≤ a) : ¬ x < 0 := fun e => by
  have h1 := iv_lt e
  have h2 := hx.1
  simp at h1
  omega
theorem iv_cl {a b : Int} {x : Int32} (hx : iv a b x) (h : 0 ≤ a) : (x.toNatClampNeg : Int) = x.toInt := by
  have h1 := hx.1
  show ((x.toInt.toNat : Nat) : Int) = x.toInt
  omega
theorem iv_s2 {a b c d : Int} {n : Nat} {x y : Int32} (hx : iv a b x) (hy : iv c d y) (h1 : 0 ≤ a) (h2 : 0 ≤ c) (h : b + d ≤ n) : x.toNatClampNeg + y.toNatClampNeg ≤ n := by
  have e1 := iv_cl hx h1
  have e2 := iv_cl hy h2
  have := hx.2
  have := hy.2
  omega
theorem ac_ti1 {a b c : Int} {x y : Int32} (hx : iv a b x) (hy : iv c c y) (h1 : -2147483648 ≤ a + c) (h2 : b + c ≤ 2147483647) (_h3 : 0 < c) : (x + y).toInt = x.toInt + c := by
  rw [ti_add hx hy h1 h2]
  have := hy.1
  have := hy.2
  omega
theorem mz_upv {n : Nat} {hi a b c d : Int} {x y : Int32} (h : (hi - x.toInt).toNat < n + 1) (hx : iv a b x) (hy : iv c d y) (h1 : -2147483648 ≤ a + c) (h2 : b + d ≤ 2147483647) (h3 : 0 < c) (hz : (x + y).toInt ≤ hi) : (hi - (x + y).toInt).toNat < n := by
  rw [ti_add hx hy h1 h2] at *
  have := hy.1
  omega
theorem mz_m1 {a b : Int} {x : Int32} (hx : iv a b x) (h : -2147483648 < a) : (x + (-1)).toInt < x.toInt := by
  have h1 := ti_add (a := x.toInt) (b := x.toInt) (x := x) ⟨Int.le_refl _, Int.le_refl _⟩ (iv_c (c := -1) (x := (-1 : Int32)) (by decide)) (by have := hx.1; omega) (by have := (iv_any x).2; omega)
  rw [h1]
  have : (-1 : Int32).toInt = -1 := by decide
  omega
theorem mz_and {a b : Int} {x y : Int32} (hx : iv a b x) (h : 1 ≤ a) : ((x - 1) &&& y).toInt < x.toInt := by
  have hb := (iv_any x).2
  have h1 := iv_sub (a := x.toInt) (b := x.toInt) (x := x) ⟨Int.le_refl _, Int.le_refl _⟩ (iv_c (c := 1) (x := (1 : Int32)) (by decide)) (by have := hx.1; omega) (by omega)
  have h2 := iv_andl (y := y) (b := x.toInt - 1) (x := x - 1) ⟨by have := h1.1; have := hx.1; omega, h1.2⟩
  have := h2.2
  omega
theorem tab_out {lo hi : Int} {x : Int32} (h : lo ≤ x.toInt → x.toInt ≤ hi → False) : x.toInt < lo ∨ hi < x.toInt := by
  by_cases h1 : x.toInt < lo
  · exact Or.inl h1
  · by_cases h2 : hi < x.toInt
    · exact Or.inr h2
    · exact (h (by omega) (by omega)).elim
theorem ac_shut_iv (j : Nat) : iv 0 56 (ac_shut j) := by
  by_cases h : j < 18
  · have h1 : ∀ j, j < 18 → 0 ≤ (ac_shut j).toInt ∧ (ac_shut j).toInt ≤ 56 := by decide +kernel
    exact h1 j h
  · have h1 : ac_shut j = 0 := by
      unfold ac_shut
      rw [List.getD_eq_getElem?_getD, List.getElem?_eq_none (by simp; omega)]
      rfl
    rw [h1]
    exact ⟨by decide, by decide⟩
theorem Gd.cpy {σ τ : SS} (h : Gd σ τ) {c a b z : Nat} (hk : ac_scA c = true) (h1 : ac_al c = -2147483648) (h2 : ac_ah c = 2147483647) : Gd σ (ac_sa τ c (va_cpy (ac_ga τ c) (ac_ga τ c) a b z)) := ⟨h.1.sf (fun j => by rw [h1, h2]; exact iv_any _), h.2.sa hk⟩
theorem w64 (x : Int32) : x.toInt64.toInt = x.toInt := by simp
theorem iv_of2 {a b c d : Int} {v l h : Int32} (e : l.toInt ≤ v.toInt ∧ v.toInt ≤ h.toInt) (hl : iv a b l) (hh : iv c d h) : iv a d v := ⟨by have := hl.1; omega, by have := hh.2; omega⟩
theorem iv_of3 {a b : Int} {v h : Int32} (e : 0 ≤ v.toInt ∧ v.toInt < h.toInt) (hh : iv a b h) : iv 0 (b - 1) v := ⟨e.1, by have := hh.2; omega⟩
end
section
def ac_max (x y : Int32) : Int32 := if x < y then y else x
def ac_min (x y : Int32) : Int32 := if y < x then y else x
theorem iv_max {a b c d : Int} {x y : Int32} (hx : iv a b x) (hy : iv c d y) : iv (max a c) (max b d) (ac_max x y) := by
  have := hx.1; have := hx.2; have := hy.1; have := hy.2
  unfold ac_max
  split
  · rename_i h; have := iv_lt h; exact ⟨by omega, by omega⟩
  · rename_i h; have := iv_nlt h; exact ⟨by omega, by omega⟩
theorem iv_min {a b c d : Int} {x y : Int32} (hx : iv a b x) (hy : iv c d y) : iv (min a c) (min b d) (ac_min x y) := by
  have := hx.1; have := hx.2; have := hy.1; have := hy.2
  unfold ac_min
  split
  · rename_i h; have := iv_lt h; exact ⟨by omega, by omega⟩
  · rename_i h; have := iv_nlt h; exact ⟨by omega, by omega⟩
theorem wm_max : Cond.code Lib.Math.max.name Lib.Math.max.code 2 (some .int) ∈ lw_good ∧ Cond.static Lib.Math.max.name ∈ lw_good ∧ Cond.initialized "java/lang/Math" ∈ lw_good := ⟨lw_in 471 (by decide +kernel) rfl, lw_in 470 (by decide +kernel) rfl, lw_in 58 (by decide +kernel) rfl⟩
theorem wm_min : Cond.code Lib.Math.min.name Lib.Math.min.code 2 (some .int) ∈ lw_good ∧ Cond.static Lib.Math.min.name ∈ lw_good := ⟨lw_in 644 (by decide +kernel) rfl, lw_in 643 (by decide +kernel) rfl⟩
theorem at_mmax {E : EV} {cc : ByteArray} {own : String} {h pc i : Nat} {lv : List (Nat × Value)} {st : List Value} {σ : SS} (C : CX E cc own h) {x y : Int32} (hw : Cond.methodLink own i yJ9_max_7cf53 ∈ lw_good) (hh : 1 ≤ h) (hst : (st.map fun v => v.category).sum ≤ 8) (hd : decode cc pc = .ok (.invokestatic i, 3)) (k : AT E (pc + 3) lv (.int (ac_max x y) :: st) σ) : AT E pc lv (.int y :: .int x :: st) σ := fun H locs ls hP hD hS hl => va_mmax C.exec C.byt (by rw [C.mxl, hl.1]) C.ow (C.hts _ hw) (C.hts _ wm_max.2.1) (C.hts _ wm_max.2.2) (C.hts _ wm_max.1) (Nat.le_trans hh C.R.1) (by have := C.R.2; omega) C.cs.1 C.cs.2 hd (k H locs ls hP hD hS hl)
theorem at_mmin {E : EV} {cc : ByteArray} {own : String} {h pc i : Nat} {lv : List (Nat × Value)} {st : List Value} {σ : SS} (C : CX E cc own h) {x y : Int32} (hw : Cond.methodLink own i yJ9_min_7cf53 ∈ lw_good) (hh : 1 ≤ h) (hst : (st.map fun v => v.category).sum ≤ 8) (hd : decode cc pc = .ok (.invokestatic i, 3)) (k : AT E (pc + 3) lv (.int (ac_min x y) :: st) σ) : AT E pc lv (.int y :: .int x :: st) σ := fun H locs ls hP hD hS hl => va_mmin C.exec C.byt (by rw [C.mxl, hl.1]) C.ow (C.hts _ hw) (C.hts _ wm_min.2) (C.hts _ wm_max.2.2) (C.hts _ wm_min.1) (Nat.le_trans hh C.R.1) (by have := C.R.2; omega) C.cs.1 C.cs.2 hd (k H locs ls hP hD hS hl)
end
section
set_option maxHeartbeats 4000000 in
set_option maxRecDepth 100000 in
theorem ct_X6_within (σ : SS) (x1 : Int32) (x2 : Int32) (x3 : Int32) : ConI yX6_within cX6_within 3 (some .boolean) 0 none [.int x1, .int x2, .int x3] σ (fun r σ' => σ = σ' ∧ ((r = 1 ∧ ((x2).toInt ≤ (x1).toInt ∧ (x1).toInt ≤ (x3).toInt)) ∨ (r = 0 ∧ ¬ ((x2).toInt ≤ (x1).toInt ∧ (x1).toInt ≤ (x3).toInt)))) := by
  refine conZ_of (by decide) (fun q => Nat.le_of_ble_eq_true rfl) (fun r u h => by rcases h.2 with h | h; exact Or.inr h.1; exact Or.inl h.1) (fun E C en hR => ?_)
  refine at_iload_n C 0 dX6_within_0 rfl ?_
  refine at_iload_n C 1 dX6_within_1 rfl ?_
  refine at_icmp_lt C 14 dX6_within_2 (by decide) (fun c43 => ?_) (fun c43 => ?_)
  · have f44 : iv (-2147483648) 2147483646 x1 := (iv_ltl (iv_any x1) (iv_any x2) c43)
    have f45 : iv (-2147483647) 2147483647 x2 := (iv_ltr (iv_any x1) (iv_any x2) c43)
    refine at_iconst C (0 : Int32) dX6_within_14 (by decide) ?_
    exact hR _ _ _ _ dX6_within_15 ⟨rfl, Or.inr ⟨rfl, (by have t1 := iv_lt c43; omega)⟩⟩
  · refine at_iload_n C 0 dX6_within_5 rfl ?_
    refine at_iload_n C 2 dX6_within_6 rfl ?_
    refine at_icmp_gt C 14 dX6_within_7 (by decide) (fun c46 => ?_) (fun c46 => ?_)
    · have f47 : iv (-2147483648) 2147483646 x3 := (iv_ltl (iv_any x3) (iv_any x1) c46)
      have f48 : iv (-2147483647) 2147483647 x1 := (iv_ltr (iv_any x3) (iv_any x1) c46)
      refine at_iconst C (0 : Int32) dX6_within_14 (by decide) ?_
      exact hR _ _ _ _ dX6_within_15 ⟨rfl, Or.inr ⟨rfl, (by have t1 := iv_le (Int32.not_lt.mp c43); have t2 := iv_lt c46; omega)⟩⟩
    · refine at_iconst C (1 : Int32) dX6_within_10 (by decide) ?_
      refine at_goto C 15 dX6_within_11 (by decide) ?_
      exact hR _ _ _ _ dX6_within_15 ⟨rfl, Or.inl ⟨rfl, (by have t1 := iv_le (Int32.not_lt.mp c43); have t2 := iv_le (Int32.not_lt.mp c46); omega)⟩⟩
set_option maxHeartbeats 4000000 in
set_option maxRecDepth 100000 in
theorem ct_X6_has (σ : SS) (x1 : Int32) (x2 : Int32) : ConI yX6_has cX6_has 2 (some .boolean) 0 none [.int x1, .int x2] σ (fun r σ' => σ = σ' ∧ ((r = 1 ∧ (¬ ((x1 >>> (x2 &&& 31)) &&& 1) = 0)) ∨ (r = 0 ∧ ¬ (¬ ((x1 >>> (x2 &&& 31)) &&& 1) = 0)))) := by
  refine conZ_of (by decide) (fun q => Nat.le_of_ble_eq_true rfl) (fun r u h => by rcases h.2 with h | h; exact Or.inr h.1; exact Or.inl h.1) (fun E C en hR => ?_)
  refine at_iload_n C 0 dX6_has_0 rfl ?_
  refine at_iload_n C 1 dX6_has_1 rfl ?_
  refine at_ishr C dX6_has_2 ?_
  refine at_iconst C (1 : Int32) dX6_has_3 (by decide) ?_
  refine at_iand C dX6_has_4 ?_
  refine at_if_eq C 12 dX6_has_5 (by decide) (fun c22 => ?_) (fun c22 => ?_)
  · have f23 : iv 0 0 ((x1 >>> (x2 &&& 31)) &&& (1 : Int32)) := (iv_eql (iv_c (c := 0) (x := (0 : Int32)) (by decide)) c22)
    refine at_iconst C (0 : Int32) dX6_has_12 (by decide) ?_
    exact hR _ _ _ _ dX6_has_13 ⟨rfl, Or.inr ⟨rfl, (fun z => z c22)⟩⟩
  · have f24 : iv 1 1 ((x1 >>> (x2 &&& 31)) &&& (1 : Int32)) := (iv_nel (iv_andr (iv_wk (c := 0) (iv_c (c := 1) (x := (1 : Int32)) (by decide)) (by decide) (Int.le_refl _))) (by decide) c22)
    refine at_iconst C (1 : Int32) dX6_has_8 (by decide) ?_
    refine at_goto C 13 dX6_has_9 (by decide) ?_
    exact hR _ _ _ _ dX6_has_13 ⟨rfl, Or.inl ⟨rfl, c22⟩⟩
set_option maxHeartbeats 4000000 in
set_option maxRecDepth 100000 in
theorem ct_J6_bitCount_0f7a4 (σ : SS) (x1 : Int32) : ConI yJ6_bitCount_0f7a4 cJ6_bitCount_0f7a4 1 (some .int) 0 none [.int x1] σ (fun r σ' => σ = σ' ∧ iv 0 63 r) := by
  refine conI_of (by decide) (fun q => Nat.le_of_ble_eq_true rfl) (fun E C en hR => ?_)
  have hn0 : 0 < e_n E := by rw [en]; decide
  refine at_iload_n C 0 dJ6_bitCount_0f7a4_0 rfl ?_
  refine at_iload_n C 0 dJ6_bitCount_0f7a4_1 rfl ?_
  refine at_iconst C (1 : Int32) dJ6_bitCount_0f7a4_2 (by decide) ?_
  refine at_iushr C dJ6_bitCount_0f7a4_3 ?_
  refine at_ldcw C (1431655765 : Int32) dJ6_bitCount_0f7a4_4 kc_J6_265 ?_
  refine at_iand C dJ6_bitCount_0f7a4_7 ?_
  refine at_isub C dJ6_bitCount_0f7a4_8 ?_
  refine at_istore_n C (lv' := [(0, .int (x1 - ((ac_ushr x1 (1 : Int32)) &&& (1431655765 : Int32))))]) dJ6_bitCount_0f7a4_9 hn0 rfl ?_
  refine at_iload_n C 0 dJ6_bitCount_0f7a4_10 rfl ?_
  refine at_ldcw C (858993459 : Int32) dJ6_bitCount_0f7a4_11 kc_J6_266 ?_
  refine at_iand C dJ6_bitCount_0f7a4_14 ?_
  refine at_iload_n C 0 dJ6_bitCount_0f7a4_15 rfl ?_
  refine at_iconst C (2 : Int32) dJ6_bitCount_0f7a4_16 (by decide) ?_
  refine at_iushr C dJ6_bitCount_0f7a4_17 ?_
  refine at_ldcw C (858993459 : Int32) dJ6_bitCount_0f7a4_18 kc_J6_266 ?_
  refine at_iand C dJ6_bitCount_0f7a4_21 ?_
  refine at_iadd C dJ6_bitCount_0f7a4_22 ?_
  refine at_istore_n C (lv' := [(0, .int (((x1 - ((ac_ushr x1 (1 : Int32)) &&& (1431655765 : Int32))) &&& (858993459 : Int32)) + ((ac_ushr (x1 - ((ac_ushr x1 (1 : Int32)) &&& (1431655765 : Int32))) (2 : Int32)) &&& (858993459 : Int32))))]) dJ6_bitCount_0f7a4_23 hn0 rfl ?_
  refine at_iload_n C 0 dJ6_bitCount_0f7a4_24 rfl ?_
  refine at_iload_n C 0 dJ6_bitCount_0f7a4_25 rfl ?_
  refine at_iconst C (4 : Int32) dJ6_bitCount_0f7a4_26 (by decide) ?_
  refine at_iushr C dJ6_bitCount_0f7a4_27 ?_
  refine at_iadd C dJ6_bitCount_0f7a4_28 ?_
  refine at_ldcw C (252645135 : Int32) dJ6_bitCount_0f7a4_29 kc_J6_267 ?_
  refine at_iand C dJ6_bitCount_0f7a4_32 ?_
  refine at_istore_n C (lv' := [(0, .int (((((x1 - ((ac_ushr x1 (1 : Int32)) &&& (1431655765 : Int32))) &&& (858993459 : Int32)) + ((ac_ushr (x1 - ((ac_ushr x1 (1 : Int32)) &&& (1431655765 : Int32))) (2 : Int32)) &&& (858993459 : Int32))) + (ac_ushr (((x1 - ((ac_ushr x1 (1 : Int32)) &&& (1431655765 : Int32))) &&& (858993459 : Int32)) + ((ac_ushr (x1 - ((ac_ushr x1 (1 : Int32)) &&& (1431655765 : Int32))) (2 : Int32)) &&& (858993459 : Int32))) (4 : Int32))) &&& (252645135 : Int32)))]) dJ6_bitCount_0f7a4_33 hn0 rfl ?_
  refine at_iload_n C 0 dJ6_bitCount_0f7a4_34 rfl ?_
  refine at_iload_n C 0 dJ6_bitCount_0f7a4_35 rfl ?_
  refine at_bipush C (8 : Int32) dJ6_bitCount_0f7a4_36 (by decide) ?_
  refine at_iushr C dJ6_bitCount_0f7a4_38 ?_
  refine at_iadd C dJ6_bitCount_0f7a4_39 ?_
  refine at_istore_n C (lv' := [(0, .int ((((((x1 - ((ac_ushr x1 (1 : Int32)) &&& (1431655765 : Int32))) &&& (858993459 : Int32)) + ((ac_ushr (x1 - ((ac_ushr x1 (1 : Int32)) &&& (1431655765 : Int32))) (2 : Int32)) &&& (858993459 : Int32))) + (ac_ushr (((x1 - ((ac_ushr x1 (1 : Int32)) &&& (1431655765 : Int32))) &&& (858993459 : Int32)) + ((ac_ushr (x1 - ((ac_ushr x1 (1 : Int32)) &&& (1431655765 : Int32))) (2 : Int32)) &&& (858993459 : Int32))) (4 : Int32))) &&& (252645135 : Int32)) + (ac_ushr (((((x1 - ((ac_ushr x1 (1 : Int32)) &&& (1431655765 : Int32))) &&& (858993459 : Int32)) + ((ac_ushr (x1 - ((ac_ushr x1 (1 : Int32)) &&& (1431655765 : Int32))) (2 : Int32)) &&& (858993459 : Int32))) + (ac_ushr (((x1 - ((ac_ushr x1 (1 : Int32)) &&& (1431655765 : Int32))) &&& (858993459 : Int32)) + ((ac_ushr (x1 - ((ac_ushr x1 (1 : Int32)) &&& (1431655765 : Int32))) (2 : Int32)) &&& (858993459 : Int32))) (4 : Int32))) &&& (252645135 : Int32)) (8 : Int32))))]) dJ6_bitCount_0f7a4_40 hn0 rfl ?_
  refine at_iload_n C 0 dJ6_bitCount_0f7a4_41 rfl ?_
  refine at_iload_n C 0 dJ6_bitCount_0f7a4_42 rfl ?_
  refine at_bipush C (16 : Int32) dJ6_bitCount_0f7a4_43 (by decide) ?_
  refine at_iushr C dJ6_bitCount_0f7a4_45 ?_
  refine at_iadd C dJ6_bitCount_0f7a4_46 ?_
  refine at_istore_n C (lv' := [(0, .int (((((((x1 - ((ac_ushr x1 (1 : Int32)) &&& (1431655765 : Int32))) &&& (858993459 : Int32)) + ((ac_ushr (x1 - ((ac_ushr x1 (1 : Int32)) &&& (1431655765 : Int32))) (2 : Int32)) &&& (858993459 : Int32))) + (ac_ushr (((x1 - ((ac_ushr x1 (1 : Int32)) &&& (1431655765 : Int32))) &&& (858993459 : Int32)) + ((ac_ushr (x1 - ((ac_ushr x1 (1 : Int32)) &&& (1431655765 : Int32))) (2 : Int32)) &&& (858993459 : Int32))) (4 : Int32))) &&& (252645135 : Int32)) + (ac_ushr (((((x1 - ((ac_ushr x1 (1 : Int32)) &&& (1431655765 : Int32))) &&& (858993459 : Int32)) + ((ac_ushr (x1 - ((ac_ushr x1 (1 : Int32)) &&& (1431655765 : Int32))) (2 : Int32)) &&& (858993459 : Int32))) + (ac_ushr (((x1 - ((ac_ushr x1 (1 : Int32)) &&& (1431655765 : Int32))) &&& (858993459 : Int32)) + ((ac_ushr (x1 - ((ac_ushr x1 (1 : Int32)) &&& (1431655765 : Int32))) (2 : Int32)) &&& (858993459 : Int32))) (4 : Int32))) &&& (252645135 : Int32)) (8 : Int32))) + (ac_ushr ((((((x1 - ((ac_ushr x1 (1 : Int32)) &&& (1431655765 : Int32))) &&& (858993459 : Int32)) + ((ac_ushr (x1 - ((ac_ushr x1 (1 : Int32)) &&& (1431655765 : Int32))) (2 : Int32)) &&& (858993459 : Int32))) + (ac_ushr (((x1 - ((ac_ushr x1 (1 : Int32)) &&& (1431655765 : Int32))) &&& (858993459 : Int32)) + ((ac_ushr (x1 - ((ac_ushr x1 (1 : Int32)) &&& (1431655765 : Int32))) (2 : Int32)) &&& (858993459 : Int32))) (4 : Int32))) &&& (252645135 : Int32)) + (ac_ushr (((((x1 - ((ac_ushr x1 (1 : Int32)) &&& (1431655765 : Int32))) &&& (858993459 : Int32)) + ((ac_ushr (x1 - ((ac_ushr x1 (1 : Int32)) &&& (1431655765 : Int32))) (2 : Int32)) &&& (858993459 : Int32))) + (ac_ushr (((x1 - ((ac_ushr x1 (1 : Int32)) &&& (1431655765 : Int32))) &&& (858993459 : Int32)) + ((ac_ushr (x1 - ((ac_ushr x1 (1 : Int32)) &&& (1431655765 : Int32))) (2 : Int32)) &&& (858993459 : Int32))) (4 : Int32))) &&& (252645135 : Int32)) (8 : Int32))) (16 : Int32))))]) dJ6_bitCount_0f7a4_47 hn0 rfl ?_
  refine at_iload_n C 0 dJ6_bitCount_0f7a4_48 rfl ?_
  refine at_bipush C (63 : Int32) dJ6_bitCount_0f7a4_49 (by decide) ?_
  refine at_iand C dJ6_bitCount_0f7a4_51 ?_
  exact hR _ _ _ _ dJ6_bitCount_0f7a4_52 ⟨rfl, (show iv 0 63 ((((((((x1 - ((ac_ushr x1 (1 : Int32)) &&& (1431655765 : Int32))) &&& (858993459 : Int32)) + ((ac_ushr (x1 - ((ac_ushr x1 (1 : Int32)) &&& (1431655765 : Int32))) (2 : Int32)) &&& (858993459 : Int32))) + (ac_ushr (((x1 - ((ac_ushr x1 (1 : Int32)) &&& (1431655765 : Int32))) &&& (858993459 : Int32)) + ((ac_ushr (x1 - ((ac_ushr x1 (1 : Int32)) &&& (1431655765 : Int32))) (2 : Int32)) &&& (858993459 : Int32))) (4 : Int32))) &&& (252645135 : Int32)) + (ac_ushr (((((x1 - ((ac_ushr x1 (1 : Int32)) &&& (1431655765 : Int32))) &&& (858993459 : Int32)) + ((ac_ushr (x1 - ((ac_ushr x1 (1 : Int32)) &&& (1431655765 : Int32))) (2 : Int32)) &&& (858993459 : Int32))) + (ac_ushr (((x1 - ((ac_ushr x1 (1 : Int32)) &&& (1431655765 : Int32))) &&& (858993459 : Int32)) + ((ac_ushr (x1 - ((ac_ushr x1 (1 : Int32)) &&& (1431655765 : Int32))) (2 : Int32)) &&& (858993459 : Int32))) (4 : Int32))) &&& (252645135 : Int32)) (8 : Int32))) + (ac_ushr ((((((x1 - ((ac_ushr x1 (1 : Int32)) &&& (1431655765 : Int32))) &&& (858993459 : Int32)) + ((ac_ushr (x1 - ((ac_ushr x1 (1 : Int32)) &&& (1431655765 : Int32))) (2 : Int32)) &&& (858993459 : Int32))) + (ac_ushr (((x1 - ((ac_ushr x1 (1 : Int32)) &&& (1431655765 : Int32))) &&& (858993459 : Int32)) + ((ac_ushr (x1 - ((ac_ushr x1 (1 : Int32)) &&& (1431655765 : Int32))) (2 : Int32)) &&& (858993459 : Int32))) (4 : Int32))) &&& (252645135 : Int32)) + (ac_ushr (((((x1 - ((ac_ushr x1 (1 : Int32)) &&& (1431655765 : Int32))) &&& (858993459 : Int32)) + ((ac_ushr (x1 - ((ac_ushr x1 (1 : Int32)) &&& (1431655765 : Int32))) (2 : Int32)) &&& (858993459 : Int32))) + (ac_ushr (((x1 - ((ac_ushr x1 (1 : Int32)) &&& (1431655765 : Int32))) &&& (858993459 : Int32)) + ((ac_ushr (x1 - ((ac_ushr x1 (1 : Int32)) &&& (1431655765 : Int32))) (2 : Int32)) &&& (858993459 : Int32))) (4 : Int32))) &&& (252645135 : Int32)) (8 : Int32))) (16 : Int32))) &&& (63 : Int32)) from (iv_andr (iv_wk (c := 0) (iv_c (c := 63) (x := (63 : Int32)) (by decide)) (by decide) (Int.le_refl _))))⟩
set_option maxHeartbeats 4000000 in
set_option maxRecDepth 100000 in
theorem ct_X6_placeOf (σ : SS) (x1 : Int32) : ConI yX6_placeOf cX6_placeOf 1 (some .int) 1 none [.int x1] σ (fun r σ' => σ = σ' ∧ iv 0 63 r) := by
  refine conI_of (by decide) (fun q => Nat.le_of_ble_eq_true rfl) (fun E C en hR => ?_)
  refine at_iload_n C 0 dX6_placeOf_0 rfl ?_
  refine at_iconst C (1 : Int32) dX6_placeOf_1 (by decide) ?_
  refine at_isub C dX6_placeOf_2 ?_
  refine at_Si C (As := [.int (x1 - (1 : Int32))]) (st := []) (ct_J6_bitCount_0f7a4 σ (x1 - (1 : Int32))) mb_J6_bitCount_0f7a4 ml_X6_219 rfl (by decide) rfl (Nat.le_of_ble_eq_true rfl) dX6_placeOf_3 ?_
  rintro r15 _ ⟨rfl, f16⟩
  exact hR _ _ _ _ dX6_placeOf_6 ⟨rfl, (show iv 0 63 r15 from f16)⟩
set_option maxHeartbeats 4000000 in
set_option maxRecDepth 100000 in
theorem ct_X0_isMast (σ : SS) (x1 : Int32) : ConI yX0_isMast cX0_isMast 2 (some .boolean) 0 (some 1) [.int x1] σ (fun r σ' => σ = σ' ∧ ((r = 1 ∧ (0 ≤ (x1).toInt ∧ (x1).toInt < (ac_gi σ 0).toInt)) ∨ (r = 0 ∧ ¬ (0 ≤ (x1).toInt ∧ (x1).toInt < (ac_gi σ 0).toInt)))) := by
  refine conZ_of (by decide) (fun q => Nat.le_of_ble_eq_true rfl) (fun r u h => by rcases h.2 with h | h; exact Or.inr h.1; exact Or.inl h.1) (fun E C en hR => ?_)
  refine at_iload_n C 1 dX0_isMast_0 rfl ?_
  refine at_if_lt C 16 dX0_isMast_1 (by decide) (fun c43 => ?_) (fun c43 => ?_)
  · have f44 : iv (-2147483648) (-1) x1 := (iv_ltl (iv_any x1) (iv_c (c := 0) (x := (0 : Int32)) (by decide)) c43)
    refine at_iconst C (0 : Int32) dX0_isMast_16 (by decide) ?_
    exact hR _ _ _ _ dX0_isMast_17 ⟨rfl, Or.inr ⟨rfl, (by have t1 := iv_lt c43; have k0 : (0 : Int32).toInt = 0 := (by decide); omega)⟩⟩
  · have f45 : iv 0 2147483647 x1 := (iv_ler (iv_c (c := 0) (x := (0 : Int32)) (by decide)) (iv_any x1) (Int32.not_lt.mp c43))
    refine at_iload_n C 1 dX0_isMast_4 rfl ?_
    refine at_aload_n C 0 dX0_isMast_5 rfl ?_
    refine gf_X0_9 C dX0_isMast_6 ?_
    refine at_icmp_ge C 16 dX0_isMast_9 (by decide) (fun c46 => ?_) (fun c46 => ?_)
    · refine at_iconst C (0 : Int32) dX0_isMast_16 (by decide) ?_
      exact hR _ _ _ _ dX0_isMast_17 ⟨rfl, Or.inr ⟨rfl, (by have t1 := iv_le (Int32.not_lt.mp c43); have t2 := iv_le c46; have k0 : (0 : Int32).toInt = 0 := (by decide); omega)⟩⟩
    · have f47 : iv 0 2147483646 x1 := (iv_ltl f45 (iv_any (ac_gi σ 0)) (Int32.not_le.mp c46))
      have f48 : iv 1 2147483647 (ac_gi σ 0) := (iv_ltr f45 (iv_any (ac_gi σ 0)) (Int32.not_le.mp c46))
      refine at_iconst C (1 : Int32) dX0_isMast_12 (by decide) ?_
      refine at_goto C 17 dX0_isMast_13 (by decide) ?_
      exact hR _ _ _ _ dX0_isMast_17 ⟨rfl, Or.inl ⟨rfl, (by have t1 := iv_le (Int32.not_lt.mp c43); have t2 := iv_lt (Int32.not_le.mp c46); have k0 : (0 : Int32).toInt = 0 := (by decide); omega)⟩⟩
set_option maxHeartbeats 4000000 in
set_option maxRecDepth 100000 in
theorem ct_X0_isSet (σ : SS) (x1 : Int32) : ConI yX0_isSet cX0_isSet 2 (some .boolean) 0 (some 1) [.int x1] σ (fun r σ' => σ = σ' ∧ ((r = 1 ∧ (0 ≤ (x1).toInt ∧ (x1).toInt < ((1 : Int32) <<< (ac_gi σ 0 &&& 31)).toInt)) ∨ (r = 0 ∧ ¬ (0 ≤ (x1).toInt ∧ (x1).toInt < ((1 : Int32) <<< (ac_gi σ 0 &&& 31)).toInt)))) := by
  refine conZ_of (by decide) (fun q => Nat.le_of_ble_eq_true rfl) (fun r u h => by rcases h.2 with h | h; exact Or.inr h.1; exact Or.inl h.1) (fun E C en hR => ?_)
  refine at_iload_n C 1 dX0_isSet_0 rfl ?_
  refine at_if_lt C 18 dX0_isSet_1 (by decide) (fun c43 => ?_) (fun c43 => ?_)
  · have f44 : iv (-2147483648) (-1) x1 := (iv_ltl (iv_any x1) (iv_c (c := 0) (x := (0 : Int32)) (by decide)) c43)
    refine at_iconst C (0 : Int32) dX0_isSet_18 (by decide) ?_
    exact hR _ _ _ _ dX0_isSet_19 ⟨rfl, Or.inr ⟨rfl, (by have t1 := iv_lt c43; have k0 : (0 : Int32).toInt = 0 := (by decide); omega)⟩⟩
  · have f45 : iv 0 2147483647 x1 := (iv_ler (iv_c (c := 0) (x := (0 : Int32)) (by decide)) (iv_any x1) (Int32.not_lt.mp c43))
    refine at_iload_n C 1 dX0_isSet_4 rfl ?_
    refine at_iconst C (1 : Int32) dX0_isSet_5 (by decide) ?_
    refine at_aload_n C 0 dX0_isSet_6 rfl ?_
    refine gf_X0_9 C dX0_isSet_7 ?_
    refine at_ishl C dX0_isSet_10 ?_
    refine at_icmp_ge C 18 dX0_isSet_11 (by decide) (fun c46 => ?_) (fun c46 => ?_)
    · refine at_iconst C (0 : Int32) dX0_isSet_18 (by decide) ?_
      exact hR _ _ _ _ dX0_isSet_19 ⟨rfl, Or.inr ⟨rfl, (by have t1 := iv_le (Int32.not_lt.mp c43); have t2 := iv_le c46; have k0 : (0 : Int32).toInt = 0 := (by decide); omega)⟩⟩
    · have f47 : iv 0 2147483646 x1 := (iv_ltl f45 (iv_any ((1 : Int32) <<< ((ac_gi σ 0) &&& 31))) (Int32.not_le.mp c46))
      have f48 : iv 1 2147483647 ((1 : Int32) <<< ((ac_gi σ 0) &&& 31)) := (iv_ltr f45 (iv_any ((1 : Int32) <<< ((ac_gi σ 0) &&& 31))) (Int32.not_le.mp c46))
      refine at_iconst C (1 : Int32) dX0_isSet_14 (by decide) ?_
      refine at_goto C 19 dX0_isSet_15 (by decide) ?_
      exact hR _ _ _ _ dX0_isSet_19 ⟨rfl, Or.inl ⟨rfl, (by have t1 := iv_le (Int32.not_lt.mp c43); have t2 := iv_lt (Int32.not_le.mp c46); have k0 : (0 : Int32).toInt = 0 := (by decide); omega)⟩⟩
set_option maxHeartbeats 4000000 in
set_option maxRecDepth 100000 in
theorem ct_X0_allChannels (σ : SS) : ConI yX0_allChannels cX0_allChannels 1 (some .int) 0 (some 1) [] σ (fun r σ' => σ = σ' ∧ r = (((1 : Int32) <<< (ac_gi σ 1 &&& 31)) - 1)) := by
  refine conI_of (by decide) (fun q => Nat.le_of_ble_eq_true rfl) (fun E C en hR => ?_)
  refine at_iconst C (1 : Int32) dX0_allChannels_0 (by decide) ?_
  refine at_aload_n C 0 dX0_allChannels_1 rfl ?_
  refine gf_X0_15 C dX0_allChannels_2 ?_
  refine at_ishl C dX0_allChannels_5 ?_
  refine at_iconst C (1 : Int32) dX0_allChannels_6 (by decide) ?_
  refine at_isub C dX0_allChannels_7 ?_
  exact hR _ _ _ _ dX0_allChannels_8 ⟨rfl, rfl⟩
set_option maxHeartbeats 4000000 in
set_option maxRecDepth 100000 in
theorem ct_X0_mayHave (σ : SS) (x1 : Int32) (hI : Inv σ) : ConI yX0_mayHave cX0_mayHave 2 (some .int) 0 (some 1) [.int x1] σ (fun r σ' => σ = σ' ∧ iv 0 63 r) := by
  refine conI_of (by decide) (fun q => Nat.le_of_ble_eq_true rfl) (fun E C en hR => ?_)
  refine at_iload_n C 1 dX0_mayHave_0 rfl ?_
  refine at_if_lt C 32 dX0_mayHave_1 (by decide) (fun c43 => ?_) (fun c43 => ?_)
  · have f44 : iv (-2147483648) (-1) x1 := (iv_ltl (iv_any x1) (iv_c (c := 0) (x := (0 : Int32)) (by decide)) c43)
    refine at_iconst C (0 : Int32) dX0_mayHave_32 (by decide) ?_
    exact hR _ _ _ _ dX0_mayHave_33 ⟨rfl, (iv_wk (iv_c (c := 0) (x := (0 : Int32)) (by decide)) (by decide) (by decide) : iv 0 63 (0 : Int32))⟩
  · have f45 : iv 0 2147483647 x1 := (iv_ler (iv_c (c := 0) (x := (0 : Int32)) (by decide)) (iv_any x1) (Int32.not_lt.mp c43))
    refine at_iload_n C 1 dX0_mayHave_4 rfl ?_
    refine at_aload_n C 0 dX0_mayHave_5 rfl ?_
    refine gf_X0_9 C dX0_mayHave_6 ?_
    refine at_icmp_ge C 32 dX0_mayHave_9 (by decide) (fun c46 => ?_) (fun c46 => ?_)
    · refine at_iconst C (0 : Int32) dX0_mayHave_32 (by decide) ?_
      exact hR _ _ _ _ dX0_mayHave_33 ⟨rfl, (iv_wk (iv_c (c := 0) (x := (0 : Int32)) (by decide)) (by decide) (by decide) : iv 0 63 (0 : Int32))⟩
    · have f47 : iv 0 9 x1 := (iv_ltl f45 (show iv 0 10 (ac_gi σ 0) from hI.1 0) (Int32.not_le.mp c46))
      have f48 : iv 1 10 (ac_gi σ 0) := (iv_ltr f45 (show iv 0 10 (ac_gi σ 0) from hI.1 0) (Int32.not_le.mp c46))
      refine at_iconst C (1 : Int32) dX0_mayHave_12 (by decide) ?_
      refine at_aload_n C 0 dX0_mayHave_13 rfl ?_
      refine gf_X0_15 C dX0_mayHave_14 ?_
      refine at_ishl C dX0_mayHave_17 ?_
      refine at_iconst C (1 : Int32) dX0_mayHave_18 (by decide) ?_
      refine at_isub C dX0_mayHave_19 ?_
      refine at_aload_n C 0 dX0_mayHave_20 rfl ?_
      refine gf_X0_24 C dX0_mayHave_21 ?_
      refine at_iload_n C 1 dX0_mayHave_24 rfl ?_
      refine at_iald C (c := 8) rfl (iv_in (n := 10) f47 (by decide) (by decide)) dX0_mayHave_25 ?_
      refine at_iconst C (-1 : Int32) dX0_mayHave_26 (by decide) ?_
      refine at_ixor C dX0_mayHave_27 ?_
      refine at_iand C dX0_mayHave_28 ?_
      refine at_goto C 33 dX0_mayHave_29 (by decide) ?_
      exact hR _ _ _ _ dX0_mayHave_33 ⟨rfl, (show iv 0 63 ((((1 : Int32) <<< ((ac_gi σ 1) &&& 31)) - (1 : Int32)) &&& ((ac_ga σ 8 (x1).toNatClampNeg) ^^^ (-1 : Int32))) from (iv_andl (iv_wk (c := 0) (iv_sub (iv_shl1 (a := 1) (b := 6) (show iv 1 6 (ac_gi σ 1) from hI.1 1) (by decide)) (iv_c (c := 1) (x := (1 : Int32)) (by decide)) (by decide) (by decide)) (by decide) (Int.le_refl _))))⟩
set_option maxHeartbeats 4000000 in
set_option maxRecDepth 100000 in
theorem ct_X0_pairOf (σ : SS) (x1 : Int32) (x2 : Int32) (hI : Inv σ) : ConI yX0_pairOf cX0_pairOf 3 (some .int) 1 (some 1) [.int x1, .int x2] σ (fun r σ' => σ = σ' ∧ iv 0 2 r) := by
  refine conI_of (by decide) (fun q => Nat.le_of_ble_eq_true rfl) (fun E C en hR => ?_)
  refine at_aload_n C 0 dX0_pairOf_0 rfl ?_
  refine at_iload_n C 1 dX0_pairOf_1 rfl ?_
  refine at_Vi C (As := [.int x1]) (st := []) (b := 1) (ci := 0) (ct_X0_isMast σ x1) mb_X0_isMast ml_X0_31 rfl rfl rfl (by decide) rfl (Nat.le_of_ble_eq_true rfl) dX0_pairOf_2 ?_
  rintro _ _ ⟨rfl, ⟨rfl, c71⟩ | ⟨rfl, c71⟩⟩
  · have f73 : iv 0 9 x1 := (iv_of3 c71 (show iv 0 10 (ac_gi σ 0) from hI.1 0))
    refine at_if_eq C 30 dX0_pairOf_5 (by decide) (fun c74 => absurd c74 (iv_xeq (iv_c (c := 1) (x := (1 : Int32)) (by decide)) (iv_c (c := 0) (x := (0 : Int32)) (by decide)) (by decide))) (fun c74 => ?_)
    refine at_aload_n C 0 dX0_pairOf_8 rfl ?_
    refine at_iload_n C 2 dX0_pairOf_9 rfl ?_
    refine at_Vi C (As := [.int x2]) (st := []) (b := 1) (ci := 0) (ct_X0_isMast σ x2) mb_X0_isMast ml_X0_31 rfl rfl rfl (by decide) rfl (Nat.le_of_ble_eq_true rfl) dX0_pairOf_10 ?_
    rintro _ _ ⟨rfl, ⟨rfl, c75⟩ | ⟨rfl, c75⟩⟩
    · have f77 : iv 0 9 x2 := (iv_of3 c75 (show iv 0 10 (ac_gi σ 0) from hI.1 0))
      refine at_if_eq C 30 dX0_pairOf_13 (by decide) (fun c78 => absurd c78 (iv_xeq (iv_c (c := 1) (x := (1 : Int32)) (by decide)) (iv_c (c := 0) (x := (0 : Int32)) (by decide)) (by decide))) (fun c78 => ?_)
      refine at_aload_n C 0 dX0_pairOf_16 rfl ?_
      refine gf_X0_28 C dX0_pairOf_17 ?_
      refine at_iload_n C 1 dX0_pairOf_20 rfl ?_
      refine at_bipush C (10 : Int32) dX0_pairOf_21 (by decide) ?_
      refine at_imul C dX0_pairOf_23 ?_
      refine at_iload_n C 2 dX0_pairOf_24 rfl ?_
      refine at_iadd C dX0_pairOf_25 ?_
      refine at_iald C (c := 9) rfl (iv_in (n := 100) (iv_add (iv_mul f73 (iv_wk (c := 0) (iv_c (c := 10) (x := (10 : Int32)) (by decide)) (by decide) (Int.le_refl _)) (by decide)) f77 (by decide) (by decide)) (by decide) (by decide)) dX0_pairOf_26 ?_
      refine at_goto C 31 dX0_pairOf_27 (by decide) ?_
      exact hR _ _ _ _ dX0_pairOf_31 ⟨rfl, (show iv 0 2 (ac_ga σ 9 (((x1 * (10 : Int32)) + x2)).toNatClampNeg) from (show iv 0 2 (ac_ga σ 9 (((x1 * (10 : Int32)) + x2)).toNatClampNeg) from hI.2 9 _))⟩
    · refine at_if_eq C 30 dX0_pairOf_13 (by decide) (fun c79 => ?_) (fun c79 => absurd (iv_xne (iv_c (c := 0) (x := (0 : Int32)) (by decide)) (iv_c (c := 0) (x := (0 : Int32)) (by decide))) c79)
      refine at_iconst C (0 : Int32) dX0_pairOf_30 (by decide) ?_
      exact hR _ _ _ _ dX0_pairOf_31 ⟨rfl, (iv_wk (iv_c (c := 0) (x := (0 : Int32)) (by decide)) (by decide) (by decide) : iv 0 2 (0 : Int32))⟩
  · refine at_if_eq C 30 dX0_pairOf_5 (by decide) (fun c80 => ?_) (fun c80 => absurd (iv_xne (iv_c (c := 0) (x := (0 : Int32)) (by decide)) (iv_c (c := 0) (x := (0 : Int32)) (by decide))) c80)
    refine at_iconst C (0 : Int32) dX0_pairOf_30 (by decide) ?_
    exact hR _ _ _ _ dX0_pairOf_31 ⟨rfl, (iv_wk (iv_c (c := 0) (x := (0 : Int32)) (by decide)) (by decide) (by decide) : iv 0 2 (0 : Int32))⟩
set_option maxHeartbeats 4000000 in
set_option maxRecDepth 100000 in
theorem ct_X0_shutFor (σ : SS) (x1 : Int32) (x2 : Int32) (x3 : Int32) (hI : Inv σ) : ConI yX0_shutFor cX0_shutFor 5 (some .int) 0 (some 1) [.int x1, .int x2, .int x3] σ (fun r σ' => σ = σ' ∧ iv 0 56 r) := by
  refine conI_of (by decide) (fun q => Nat.le_of_ble_eq_true rfl) (fun E C en hR => ?_)
  have hn4 : 4 < e_n E := by rw [en]; decide
  refine at_iload_n C 1 dX0_shutFor_0 rfl ?_
  refine at_bipush C (10 : Int32) dX0_shutFor_1 (by decide) ?_
  refine at_imul C dX0_shutFor_3 ?_
  refine at_iload_n C 2 dX0_shutFor_4 rfl ?_
  refine at_iadd C dX0_shutFor_5 ?_
  refine at_istore C (lv' := [(4, .int ((x1 * (10 : Int32)) + x2)), (0, .ref (e_q E 1)), (1, .int x1), (2, .int x2), (3, .int x3)]) dX0_shutFor_6 hn4 rfl ?_
  refine at_iload C 0 dX0_shutFor_8 rfl ?_
  refine at_if_lt C 33 dX0_shutFor_10 (by decide) (fun c85 => ?_) (fun c85 => ?_)
  · have f86 : iv (-2147483648) (-1) ((x1 * (10 : Int32)) + x2) := (iv_ltl (iv_any ((x1 * (10 : Int32)) + x2)) (iv_c (c := 0) (x := (0 : Int32)) (by decide)) c85)
    refine at_iconst C (0 : Int32) dX0_shutFor_33 (by decide) ?_
    exact hR _ _ _ _ dX0_shutFor_34 ⟨rfl, (iv_wk (iv_c (c := 0) (x := (0 : Int32)) (by decide)) (by decide) (by decide) : iv 0 56 (0 : Int32))⟩
  · have f87 : iv 0 2147483647 ((x1 * (10 : Int32)) + x2) := (iv_ler (iv_c (c := 0) (x := (0 : Int32)) (by decide)) (iv_any ((x1 * (10 : Int32)) + x2)) (Int32.not_lt.mp c85))
    refine at_iload C 0 dX0_shutFor_13 rfl ?_
    refine at_aload_n C 1 dX0_shutFor_15 rfl ?_
    refine gf_X0_28 C dX0_shutFor_16 ?_
    refine at_alen C (c := 9) 0 100 rfl rfl (by decide) dX0_shutFor_19 ?_
    refine at_icmp_ge C 33 dX0_shutFor_20 (by decide) (fun c88 => ?_) (fun c88 => ?_)
    · have f89 : iv 100 2147483647 ((x1 * (10 : Int32)) + x2) := (iv_ler (iv_c (c := 100) (x := (100 : Int32)) (by decide)) f87 c88)
      refine at_iconst C (0 : Int32) dX0_shutFor_33 (by decide) ?_
      exact hR _ _ _ _ dX0_shutFor_34 ⟨rfl, (iv_wk (iv_c (c := 0) (x := (0 : Int32)) (by decide)) (by decide) (by decide) : iv 0 56 (0 : Int32))⟩
    · have f90 : iv 0 99 ((x1 * (10 : Int32)) + x2) := (iv_ltl f87 (iv_c (c := 100) (x := (100 : Int32)) (by decide)) (Int32.not_le.mp c88))
      refine at_iload_n C 4 dX0_shutFor_23 rfl ?_
      refine at_if_lt C 33 dX0_shutFor_24 (by decide) (fun c91 => ?_) (fun c91 => ?_)
      · have f92 : iv (-2147483648) (-1) x3 := (iv_ltl (iv_any x3) (iv_c (c := 0) (x := (0 : Int32)) (by decide)) c91)
        refine at_iconst C (0 : Int32) dX0_shutFor_33 (by decide) ?_
        exact hR _ _ _ _ dX0_shutFor_34 ⟨rfl, (iv_wk (iv_c (c := 0) (x := (0 : Int32)) (by decide)) (by decide) (by decide) : iv 0 56 (0 : Int32))⟩
      · have f93 : iv 0 2147483647 x3 := (iv_ler (iv_c (c := 0) (x := (0 : Int32)) (by decide)) (iv_any x3) (Int32.not_lt.mp c91))
        refine at_iload_n C 4 dX0_shutFor_27 rfl ?_
        refine at_bipush C (6 : Int32) dX0_shutFor_28 (by decide) ?_
        refine at_icmp_lt C 35 dX0_shutFor_30 (by decide) (fun c94 => ?_) (fun c94 => ?_)
        · have f95 : iv 0 5 x3 := (iv_ltl f93 (iv_c (c := 6) (x := (6 : Int32)) (by decide)) c94)
          refine at_shut C dX0_shutFor_35 fl_X0_35 ?_
          refine at_aload_n C 1 dX0_shutFor_38 rfl ?_
          refine gf_X0_28 C dX0_shutFor_39 ?_
          refine at_iload C 0 dX0_shutFor_42 rfl ?_
          refine at_iald C (c := 9) rfl (iv_in (n := 100) f90 (by decide) (by decide)) dX0_shutFor_44 ?_
          refine at_bipush C (6 : Int32) dX0_shutFor_45 (by decide) ?_
          refine at_imul C dX0_shutFor_47 ?_
          refine at_iload_n C 4 dX0_shutFor_48 rfl ?_
          refine at_iadd C dX0_shutFor_49 ?_
          refine at_shld C (iv_in (n := 18) (iv_add (iv_mul (show iv 0 2 (ac_ga σ 9 (((x1 * (10 : Int32)) + x2)).toNatClampNeg) from hI.2 9 _) (iv_wk (c := 0) (iv_c (c := 6) (x := (6 : Int32)) (by decide)) (by decide) (Int.le_refl _)) (by decide)) f95 (by decide) (by decide)) (by decide) (by decide)) dX0_shutFor_50 ?_
          exact hR _ _ _ _ dX0_shutFor_51 ⟨rfl, (show iv 0 56 (ac_shut ((((ac_ga σ 9 (((x1 * (10 : Int32)) + x2)).toNatClampNeg) * (6 : Int32)) + x3)).toNatClampNeg) from (ac_shut_iv _))⟩
        · have f96 : iv 6 2147483647 x3 := (iv_ler (iv_c (c := 6) (x := (6 : Int32)) (by decide)) f93 (Int32.not_lt.mp c94))
          refine at_iconst C (0 : Int32) dX0_shutFor_33 (by decide) ?_
          exact hR _ _ _ _ dX0_shutFor_34 ⟨rfl, (iv_wk (iv_c (c := 0) (x := (0 : Int32)) (by decide)) (by decide) (by decide) : iv 0 56 (0 : Int32))⟩
end
