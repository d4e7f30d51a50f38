section
-- ===== PART A: goes FIRST, ahead of the names: the tables' words, and 'selects' of the private methods out of them =====
/-- a private method of a class that the tables say can be made, by its rows of tables_1 -/
def lw_okq (q : MethodName × Nat) : Prop := (q.1.cls ≠ "java/lang/invoke/MethodHandle" ∧ q.1.cls ≠ "java/lang/invoke/VarHandle") ∧ Cond.instantiable q.1.cls q.2 ∈ tables_1 ∧ Cond.privateMethod q.1 ∈ tables_1 ∧ Cond.instanceMethod q.1 ∈ tables_1
theorem lw_p0 : lw_okq (⟨"SealedStores$History", "spare", "()I"⟩, 3) := ⟨⟨by decide +kernel, by decide +kernel⟩, List.mem_of_getElem? (i := 181) (by decide +kernel), List.mem_of_getElem? (i := 262) (by decide +kernel), List.mem_of_getElem? (i := 263) (by decide +kernel)⟩
theorem lw_p1 : lw_okq (⟨"SealedStores$Ship", "putSeal", "(I)V"⟩, 9) := ⟨⟨by decide +kernel, by decide +kernel⟩, List.mem_of_getElem? (i := 21) (by decide +kernel), List.mem_of_getElem? (i := 301) (by decide +kernel), List.mem_of_getElem? (i := 302) (by decide +kernel)⟩
theorem lw_p2 : lw_okq (⟨"SealedStores$Ship", "sealByOfficer", "(I)V"⟩, 9) := ⟨⟨by decide +kernel, by decide +kernel⟩, List.mem_of_getElem? (i := 21) (by decide +kernel), List.mem_of_getElem? (i := 363) (by decide +kernel), List.mem_of_getElem? (i := 364) (by decide +kernel)⟩
theorem lw_p3 : lw_okq (⟨"SealedStores$Ship", "release", "(III)J"⟩, 9) := ⟨⟨by decide +kernel, by decide +kernel⟩, List.mem_of_getElem? (i := 21) (by decide +kernel), List.mem_of_getElem? (i := 415) (by decide +kernel), List.mem_of_getElem? (i := 416) (by decide +kernel)⟩
theorem lw_p4 : lw_okq (⟨"SealedStores$Ship", "taxesOf", "(I)J"⟩, 9) := ⟨⟨by decide +kernel, by decide +kernel⟩, List.mem_of_getElem? (i := 21) (by decide +kernel), List.mem_of_getElem? (i := 465) (by decide +kernel), List.mem_of_getElem? (i := 466) (by decide +kernel)⟩
theorem lw_p5 : lw_okq (⟨"SealedStores$Ship", "sealOpenLockers", "()I"⟩, 9) := ⟨⟨by decide +kernel, by decide +kernel⟩, List.mem_of_getElem? (i := 21) (by decide +kernel), List.mem_of_getElem? (i := 481) (by decide +kernel), List.mem_of_getElem? (i := 482) (by decide +kernel)⟩
theorem lw_p6 : lw_okq (⟨"SealedStores$Ship", "openLockers", "()I"⟩, 9) := ⟨⟨by decide +kernel, by decide +kernel⟩, List.mem_of_getElem? (i := 21) (by decide +kernel), List.mem_of_getElem? (i := 485) (by decide +kernel), List.mem_of_getElem? (i := 486) (by decide +kernel)⟩
theorem lw_p7 : lw_okq (⟨"SealedStores$Ship", "runOutBonds", "()J"⟩, 9) := ⟨⟨by decide +kernel, by decide +kernel⟩, List.mem_of_getElem? (i := 21) (by decide +kernel), List.mem_of_getElem? (i := 497) (by decide +kernel), List.mem_of_getElem? (i := 498) (by decide +kernel)⟩
theorem lw_p8 : lw_okq (⟨"SealedStores$Lockers", "takeLowestFirst", "([III)I"⟩, 5) := ⟨⟨by decide +kernel, by decide +kernel⟩, List.mem_of_getElem? (i := 27) (by decide +kernel), List.mem_of_getElem? (i := 507) (by decide +kernel), List.mem_of_getElem? (i := 508) (by decide +kernel)⟩
theorem lw_p9 : lw_okq (⟨"SealedStores$OrderLog", "readOrder", "()Z"⟩, 9) := ⟨⟨by decide +kernel, by decide +kernel⟩, List.mem_of_getElem? (i := 201) (by decide +kernel), List.mem_of_getElem? (i := 612) (by decide +kernel), List.mem_of_getElem? (i := 613) (by decide +kernel)⟩
theorem lw_p10 : lw_okq (⟨"SealedStores$OrderLog", "readSign", "(C)Z"⟩, 9) := ⟨⟨by decide +kernel, by decide +kernel⟩, List.mem_of_getElem? (i := 201) (by decide +kernel), List.mem_of_getElem? (i := 619) (by decide +kernel), List.mem_of_getElem? (i := 620) (by decide +kernel)⟩
theorem lw_p11 : lw_okq (⟨"SealedStores$OrderLog", "readNumber", "(I)Z"⟩, 9) := ⟨⟨by decide +kernel, by decide +kernel⟩, List.mem_of_getElem? (i := 201) (by decide +kernel), List.mem_of_getElem? (i := 623) (by decide +kernel), List.mem_of_getElem? (i := 624) (by decide +kernel)⟩
theorem lw_p12 : lw_okq (⟨"SealedStores$OrderLog", "noteFault", "(III)V"⟩, 9) := ⟨⟨by decide +kernel, by decide +kernel⟩, List.mem_of_getElem? (i := 201) (by decide +kernel), List.mem_of_getElem? (i := 627) (by decide +kernel), List.mem_of_getElem? (i := 628) (by decide +kernel)⟩
theorem lw_p13 : lw_okq (⟨"SealedStores$OrderLog", "doOrder", "(LSealedStores$Ship;)I"⟩, 9) := ⟨⟨by decide +kernel, by decide +kernel⟩, List.mem_of_getElem? (i := 201) (by decide +kernel), List.mem_of_getElem? (i := 631) (by decide +kernel), List.mem_of_getElem? (i := 632) (by decide +kernel)⟩
theorem lw_p14 : lw_okq (⟨"SealedStoresModel", "copy", "()V"⟩, 13) := ⟨⟨by decide +kernel, by decide +kernel⟩, List.mem_of_getElem? (i := 647) (by decide +kernel), List.mem_of_getElem? (i := 701) (by decide +kernel), List.mem_of_getElem? (i := 702) (by decide +kernel)⟩
theorem lw_p15 : lw_okq (⟨"SealedStoresModel", "addsLocker", "()I"⟩, 13) := ⟨⟨by decide +kernel, by decide +kernel⟩, List.mem_of_getElem? (i := 647) (by decide +kernel), List.mem_of_getElem? (i := 705) (by decide +kernel), List.mem_of_getElem? (i := 706) (by decide +kernel)⟩
def lw_privs_1 : List (MethodName × Nat) := [(⟨"SealedStores$History", "spare", "()I"⟩, 3), (⟨"SealedStores$Ship", "putSeal", "(I)V"⟩, 9), (⟨"SealedStores$Ship", "sealByOfficer", "(I)V"⟩, 9), (⟨"SealedStores$Ship", "release", "(III)J"⟩, 9), (⟨"SealedStores$Ship", "taxesOf", "(I)J"⟩, 9), (⟨"SealedStores$Ship", "sealOpenLockers", "()I"⟩, 9), (⟨"SealedStores$Ship", "openLockers", "()I"⟩, 9), (⟨"SealedStores$Ship", "runOutBonds", "()J"⟩, 9), (⟨"SealedStores$Lockers", "takeLowestFirst", "([III)I"⟩, 5), (⟨"SealedStores$OrderLog", "readOrder", "()Z"⟩, 9), (⟨"SealedStores$OrderLog", "readSign", "(C)Z"⟩, 9), (⟨"SealedStores$OrderLog", "readNumber", "(I)Z"⟩, 9), (⟨"SealedStores$OrderLog", "noteFault", "(III)V"⟩, 9), (⟨"SealedStores$OrderLog", "doOrder", "(LSealedStores$Ship;)I"⟩, 9), (⟨"SealedStoresModel", "copy", "()V"⟩, 13), (⟨"SealedStoresModel", "addsLocker", "()I"⟩, 13)]
theorem lw_r1 : ∀ q ∈ lw_privs_1, lw_okq q := List.forall_mem_cons.mpr ⟨lw_p0, List.forall_mem_cons.mpr ⟨lw_p1, List.forall_mem_cons.mpr ⟨lw_p2, List.forall_mem_cons.mpr ⟨lw_p3, List.forall_mem_cons.mpr ⟨lw_p4, List.forall_mem_cons.mpr ⟨lw_p5, List.forall_mem_cons.mpr ⟨lw_p6, List.forall_mem_cons.mpr ⟨lw_p7, List.forall_mem_cons.mpr ⟨lw_p8, List.forall_mem_cons.mpr ⟨lw_p9, List.forall_mem_cons.mpr ⟨lw_p10, List.forall_mem_cons.mpr ⟨lw_p11, List.forall_mem_cons.mpr ⟨lw_p12, List.forall_mem_cons.mpr ⟨lw_p13, List.forall_mem_cons.mpr ⟨lw_p14, List.forall_mem_cons.mpr ⟨lw_p15, fun _ h => absurd h List.not_mem_nil⟩⟩⟩⟩⟩⟩⟩⟩⟩⟩⟩⟩⟩⟩⟩⟩
theorem lw_p16 : lw_okq (⟨"SealedStoresModel", "hasSeals", "(I)Z"⟩, 13) := ⟨⟨by decide +kernel, by decide +kernel⟩, List.mem_of_getElem? (i := 647) (by decide +kernel), List.mem_of_getElem? (i := 709) (by decide +kernel), List.mem_of_getElem? (i := 710) (by decide +kernel)⟩
theorem lw_p17 : lw_okq (⟨"SealedStoresModel", "seals", "(I)V"⟩, 13) := ⟨⟨by decide +kernel, by decide +kernel⟩, List.mem_of_getElem? (i := 647) (by decide +kernel), List.mem_of_getElem? (i := 713) (by decide +kernel), List.mem_of_getElem? (i := 714) (by decide +kernel)⟩
theorem lw_p18 : lw_okq (⟨"SealedStoresModel", "recorded", "(I)I"⟩, 13) := ⟨⟨by decide +kernel, by decide +kernel⟩, List.mem_of_getElem? (i := 647) (by decide +kernel), List.mem_of_getElem? (i := 717) (by decide +kernel), List.mem_of_getElem? (i := 718) (by decide +kernel)⟩
theorem lw_p19 : lw_okq (⟨"SealedStoresModel", "addsGood", "(I)I"⟩, 13) := ⟨⟨by decide +kernel, by decide +kernel⟩, List.mem_of_getElem? (i := 647) (by decide +kernel), List.mem_of_getElem? (i := 725) (by decide +kernel), List.mem_of_getElem? (i := 726) (by decide +kernel)⟩
theorem lw_p20 : lw_okq (⟨"SealedStoresModel", "isGood", "(I)Z"⟩, 13) := ⟨⟨by decide +kernel, by decide +kernel⟩, List.mem_of_getElem? (i := 647) (by decide +kernel), List.mem_of_getElem? (i := 740) (by decide +kernel), List.mem_of_getElem? (i := 741) (by decide +kernel)⟩
theorem lw_p21 : lw_okq (⟨"SealedStoresModel", "loads", "(III)I"⟩, 13) := ⟨⟨by decide +kernel, by decide +kernel⟩, List.mem_of_getElem? (i := 647) (by decide +kernel), List.mem_of_getElem? (i := 748) (by decide +kernel), List.mem_of_getElem? (i := 749) (by decide +kernel)⟩
theorem lw_p22 : lw_okq (⟨"SealedStoresModel", "isMove", "(III)Z"⟩, 13) := ⟨⟨by decide +kernel, by decide +kernel⟩, List.mem_of_getElem? (i := 647) (by decide +kernel), List.mem_of_getElem? (i := 752) (by decide +kernel), List.mem_of_getElem? (i := 753) (by decide +kernel)⟩
theorem lw_p23 : lw_okq (⟨"SealedStoresModel", "isLocker", "(I)Z"⟩, 13) := ⟨⟨by decide +kernel, by decide +kernel⟩, List.mem_of_getElem? (i := 647) (by decide +kernel), List.mem_of_getElem? (i := 756) (by decide +kernel), List.mem_of_getElem? (i := 757) (by decide +kernel)⟩
theorem lw_p24 : lw_okq (⟨"SealedStoresModel", "takesOff", "(II)V"⟩, 13) := ⟨⟨by decide +kernel, by decide +kernel⟩, List.mem_of_getElem? (i := 647) (by decide +kernel), List.mem_of_getElem? (i := 762) (by decide +kernel), List.mem_of_getElem? (i := 763) (by decide +kernel)⟩
theorem lw_p25 : lw_okq (⟨"SealedStoresModel", "sum", "(I)I"⟩, 13) := ⟨⟨by decide +kernel, by decide +kernel⟩, List.mem_of_getElem? (i := 647) (by decide +kernel), List.mem_of_getElem? (i := 770) (by decide +kernel), List.mem_of_getElem? (i := 771) (by decide +kernel)⟩
theorem lw_p26 : lw_okq (⟨"SealedStoresModel", "nextOf", "(II)I"⟩, 13) := ⟨⟨by decide +kernel, by decide +kernel⟩, List.mem_of_getElem? (i := 647) (by decide +kernel), List.mem_of_getElem? (i := 790) (by decide +kernel), List.mem_of_getElem? (i := 791) (by decide +kernel)⟩
theorem lw_p27 : lw_okq (⟨"SealedStoresModel", "uses", "(III)I"⟩, 13) := ⟨⟨by decide +kernel, by decide +kernel⟩, List.mem_of_getElem? (i := 647) (by decide +kernel), List.mem_of_getElem? (i := 798) (by decide +kernel), List.mem_of_getElem? (i := 799) (by decide +kernel)⟩
theorem lw_p28 : lw_okq (⟨"SealedStoresModel", "releases", "(III)I"⟩, 13) := ⟨⟨by decide +kernel, by decide +kernel⟩, List.mem_of_getElem? (i := 647) (by decide +kernel), List.mem_of_getElem? (i := 802) (by decide +kernel), List.mem_of_getElem? (i := 803) (by decide +kernel)⟩
theorem lw_p29 : lw_okq (⟨"SealedStoresModel", "takes", "(III)I"⟩, 13) := ⟨⟨by decide +kernel, by decide +kernel⟩, List.mem_of_getElem? (i := 647) (by decide +kernel), List.mem_of_getElem? (i := 809) (by decide +kernel), List.mem_of_getElem? (i := 810) (by decide +kernel)⟩
theorem lw_p30 : lw_okq (⟨"SealedStoresModel", "brings", "(III)I"⟩, 13) := ⟨⟨by decide +kernel, by decide +kernel⟩, List.mem_of_getElem? (i := 647) (by decide +kernel), List.mem_of_getElem? (i := 817) (by decide +kernel), List.mem_of_getElem? (i := 818) (by decide +kernel)⟩
theorem lw_p31 : lw_okq (⟨"SealedStoresModel", "smashes", "(IIII)I"⟩, 13) := ⟨⟨by decide +kernel, by decide +kernel⟩, List.mem_of_getElem? (i := 647) (by decide +kernel), List.mem_of_getElem? (i := 825) (by decide +kernel), List.mem_of_getElem? (i := 826) (by decide +kernel)⟩
def lw_privs_2 : List (MethodName × Nat) := [(⟨"SealedStoresModel", "hasSeals", "(I)Z"⟩, 13), (⟨"SealedStoresModel", "seals", "(I)V"⟩, 13), (⟨"SealedStoresModel", "recorded", "(I)I"⟩, 13), (⟨"SealedStoresModel", "addsGood", "(I)I"⟩, 13), (⟨"SealedStoresModel", "isGood", "(I)Z"⟩, 13), (⟨"SealedStoresModel", "loads", "(III)I"⟩, 13), (⟨"SealedStoresModel", "isMove", "(III)Z"⟩, 13), (⟨"SealedStoresModel", "isLocker", "(I)Z"⟩, 13), (⟨"SealedStoresModel", "takesOff", "(II)V"⟩, 13), (⟨"SealedStoresModel", "sum", "(I)I"⟩, 13), (⟨"SealedStoresModel", "nextOf", "(II)I"⟩, 13), (⟨"SealedStoresModel", "uses", "(III)I"⟩, 13), (⟨"SealedStoresModel", "releases", "(III)I"⟩, 13), (⟨"SealedStoresModel", "takes", "(III)I"⟩, 13), (⟨"SealedStoresModel", "brings", "(III)I"⟩, 13), (⟨"SealedStoresModel", "smashes", "(IIII)I"⟩, 13)]
theorem lw_r2 : ∀ q ∈ lw_privs_2, lw_okq q := List.forall_mem_cons.mpr ⟨lw_p16, List.forall_mem_cons.mpr ⟨lw_p17, List.forall_mem_cons.mpr ⟨lw_p18, List.forall_mem_cons.mpr ⟨lw_p19, List.forall_mem_cons.mpr ⟨lw_p20, List.forall_mem_cons.mpr ⟨lw_p21, List.forall_mem_cons.mpr ⟨lw_p22, List.forall_mem_cons.mpr ⟨lw_p23, List.forall_mem_cons.mpr ⟨lw_p24, List.forall_mem_cons.mpr ⟨lw_p25, List.forall_mem_cons.mpr ⟨lw_p26, List.forall_mem_cons.mpr ⟨lw_p27, List.forall_mem_cons.mpr ⟨lw_p28, List.forall_mem_cons.mpr ⟨lw_p29, List.forall_mem_cons.mpr ⟨lw_p30, List.forall_mem_cons.mpr ⟨lw_p31, fun _ h => absurd h List.not_mem_nil⟩⟩⟩⟩⟩⟩⟩⟩⟩⟩⟩⟩⟩⟩⟩⟩
theorem lw_p32 : lw_okq (⟨"SealedStoresModel", "tears", "(I)I"⟩, 13) := ⟨⟨by decide +kernel, by decide +kernel⟩, List.mem_of_getElem? (i := 647) (by decide +kernel), List.mem_of_getElem? (i := 833) (by decide +kernel), List.mem_of_getElem? (i := 834) (by decide +kernel)⟩
theorem lw_p33 : lw_okq (⟨"SealedStoresModel", "inspects", "(I)I"⟩, 13) := ⟨⟨by decide +kernel, by decide +kernel⟩, List.mem_of_getElem? (i := 647) (by decide +kernel), List.mem_of_getElem? (i := 841) (by decide +kernel), List.mem_of_getElem? (i := 842) (by decide +kernel)⟩
theorem lw_p34 : lw_okq (⟨"SealedStoresModel", "worthOf", "(II)J"⟩, 13) := ⟨⟨by decide +kernel, by decide +kernel⟩, List.mem_of_getElem? (i := 647) (by decide +kernel), List.mem_of_getElem? (i := 845) (by decide +kernel), List.mem_of_getElem? (i := 846) (by decide +kernel)⟩
theorem lw_p35 : lw_okq (⟨"SealedStoresModel", "crosses", "(I)I"⟩, 13) := ⟨⟨by decide +kernel, by decide +kernel⟩, List.mem_of_getElem? (i := 647) (by decide +kernel), List.mem_of_getElem? (i := 854) (by decide +kernel), List.mem_of_getElem? (i := 855) (by decide +kernel)⟩
theorem lw_p36 : lw_okq (⟨"SealedStoresModel", "lockersThat", "(I)I"⟩, 13) := ⟨⟨by decide +kernel, by decide +kernel⟩, List.mem_of_getElem? (i := 647) (by decide +kernel), List.mem_of_getElem? (i := 858) (by decide +kernel), List.mem_of_getElem? (i := 859) (by decide +kernel)⟩
theorem lw_p37 : lw_okq (⟨"SealedStoresModel", "passes", "(I)I"⟩, 13) := ⟨⟨by decide +kernel, by decide +kernel⟩, List.mem_of_getElem? (i := 647) (by decide +kernel), List.mem_of_getElem? (i := 866) (by decide +kernel), List.mem_of_getElem? (i := 867) (by decide +kernel)⟩
theorem lw_p38 : lw_okq (⟨"SealedStoresModel", "loses", "(II)V"⟩, 13) := ⟨⟨by decide +kernel, by decide +kernel⟩, List.mem_of_getElem? (i := 647) (by decide +kernel), List.mem_of_getElem? (i := 870) (by decide +kernel), List.mem_of_getElem? (i := 871) (by decide +kernel)⟩
theorem lw_p39 : lw_okq (⟨"SealedStoresModel", "overLockers", "(II)I"⟩, 13) := ⟨⟨by decide +kernel, by decide +kernel⟩, List.mem_of_getElem? (i := 647) (by decide +kernel), List.mem_of_getElem? (i := 883) (by decide +kernel), List.mem_of_getElem? (i := 884) (by decide +kernel)⟩
theorem lw_p40 : lw_okq (⟨"SealedStoresModel", "tries", "()V"⟩, 13) := ⟨⟨by decide +kernel, by decide +kernel⟩, List.mem_of_getElem? (i := 647) (by decide +kernel), List.mem_of_getElem? (i := 919) (by decide +kernel), List.mem_of_getElem? (i := 920) (by decide +kernel)⟩
theorem lw_p41 : lw_okq (⟨"SealedStoresModel", "order", "()I"⟩, 13) := ⟨⟨by decide +kernel, by decide +kernel⟩, List.mem_of_getElem? (i := 647) (by decide +kernel), List.mem_of_getElem? (i := 923) (by decide +kernel), List.mem_of_getElem? (i := 924) (by decide +kernel)⟩
theorem lw_p42 : lw_okq (⟨"SealedStoresModel", "here", "()I"⟩, 13) := ⟨⟨by decide +kernel, by decide +kernel⟩, List.mem_of_getElem? (i := 647) (by decide +kernel), List.mem_of_getElem? (i := 927) (by decide +kernel), List.mem_of_getElem? (i := 928) (by decide +kernel)⟩
theorem lw_p43 : lw_okq (⟨"SealedStoresModel", "number", "()I"⟩, 13) := ⟨⟨by decide +kernel, by decide +kernel⟩, List.mem_of_getElem? (i := 647) (by decide +kernel), List.mem_of_getElem? (i := 931) (by decide +kernel), List.mem_of_getElem? (i := 932) (by decide +kernel)⟩
theorem lw_p44 : lw_okq (⟨"SealedStoresModel", "passesSign", "(I)V"⟩, 13) := ⟨⟨by decide +kernel, by decide +kernel⟩, List.mem_of_getElem? (i := 647) (by decide +kernel), List.mem_of_getElem? (i := 935) (by decide +kernel), List.mem_of_getElem? (i := 936) (by decide +kernel)⟩
theorem lw_p45 : lw_okq (⟨"SealedStoresModel", "back", "()V"⟩, 13) := ⟨⟨by decide +kernel, by decide +kernel⟩, List.mem_of_getElem? (i := 647) (by decide +kernel), List.mem_of_getElem? (i := 939) (by decide +kernel), List.mem_of_getElem? (i := 940) (by decide +kernel)⟩
def lw_privs_3 : List (MethodName × Nat) := [(⟨"SealedStoresModel", "tears", "(I)I"⟩, 13), (⟨"SealedStoresModel", "inspects", "(I)I"⟩, 13), (⟨"SealedStoresModel", "worthOf", "(II)J"⟩, 13), (⟨"SealedStoresModel", "crosses", "(I)I"⟩, 13), (⟨"SealedStoresModel", "lockersThat", "(I)I"⟩, 13), (⟨"SealedStoresModel", "passes", "(I)I"⟩, 13), (⟨"SealedStoresModel", "loses", "(II)V"⟩, 13), (⟨"SealedStoresModel", "overLockers", "(II)I"⟩, 13), (⟨"SealedStoresModel", "tries", "()V"⟩, 13), (⟨"SealedStoresModel", "order", "()I"⟩, 13), (⟨"SealedStoresModel", "here", "()I"⟩, 13), (⟨"SealedStoresModel", "number", "()I"⟩, 13), (⟨"SealedStoresModel", "passesSign", "(I)V"⟩, 13), (⟨"SealedStoresModel", "back", "()V"⟩, 13)]
theorem lw_r3 : ∀ q ∈ lw_privs_3, lw_okq q := List.forall_mem_cons.mpr ⟨lw_p32, List.forall_mem_cons.mpr ⟨lw_p33, List.forall_mem_cons.mpr ⟨lw_p34, List.forall_mem_cons.mpr ⟨lw_p35, List.forall_mem_cons.mpr ⟨lw_p36, List.forall_mem_cons.mpr ⟨lw_p37, List.forall_mem_cons.mpr ⟨lw_p38, List.forall_mem_cons.mpr ⟨lw_p39, List.forall_mem_cons.mpr ⟨lw_p40, List.forall_mem_cons.mpr ⟨lw_p41, List.forall_mem_cons.mpr ⟨lw_p42, List.forall_mem_cons.mpr ⟨lw_p43, List.forall_mem_cons.mpr ⟨lw_p44, List.forall_mem_cons.mpr ⟨lw_p45, fun _ h => absurd h List.not_mem_nil⟩⟩⟩⟩⟩⟩⟩⟩⟩⟩⟩⟩⟩⟩
def lw_privs : List (MethodName × Nat) := lw_privs_1 ++ (lw_privs_2 ++ (lw_privs_3))
def lw_tbl : List Cond := k2_sels lw_privs ++ tables_1
theorem lw_privs_ok : ∀ q ∈ lw_privs, lw_okq q := by
  show ∀ q ∈ lw_privs_1 ++ (lw_privs_2 ++ (lw_privs_3)), lw_okq q
  exact List.forall_mem_append.mpr ⟨lw_r1, List.forall_mem_append.mpr ⟨lw_r2, lw_r3⟩⟩
def RX0 : String := "SealedStores$Bonds"
def TX0 : u_T := fun k => match k with
  | 0 => ("SealedStores$Bonds", "number", "I", false)
  | 1 => ("SealedStores$Bonds", "amountMade", "J", false)
  | 2 => ("SealedStores$Bonds", "good", "[I", true)
  | 3 => ("SealedStores$Bonds", "made", "[I", true)
  | 4 => ("SealedStores$Bonds", "left", "[I", true)
  | 5 => ("SealedStores$Bonds", "duty", "[I", true)
  | _ => ("SealedStores$Bonds", "due", "[I", true)
def tyX0 : Nat → FieldType := fun k => match k with
  | 0 => .int
  | 1 => .long
  | 2 => .array .int
  | 3 => .array .int
  | 4 => .array .int
  | 5 => .array .int
  | _ => .array .int
abbrev wsX00 : List Cond := u_ws RX0 TX0 7
theorem nmX0 : ∀ a, a < 7 → ∀ b, b < 7 → a ≠ b → (TX0 a).2.1 ≠ (TX0 b).2.1 := by decide +kernel
theorem tyX0_ok : ∀ k, k < 7 → parseFieldDescriptor (TX0 k).2.2.1 = some (tyX0 k) := by decide +kernel
abbrev cX0_init : ByteArray := prog_2_method_1_code
def yX0_init : MethodName := ⟨RX0, "<init>", "()V"⟩
abbrev cX0_become : ByteArray := prog_2_method_2_code
def yX0_become : MethodName := ⟨RX0, "become", "(LSealedStores$Bonds;)V"⟩
abbrev cX0_add : ByteArray := prog_2_method_3_code
def yX0_add : MethodName := ⟨RX0, "add", "(IIII)I"⟩
abbrev cX0_held : ByteArray := prog_2_method_4_code
def yX0_held : MethodName := ⟨RX0, "held", "(I)J"⟩
abbrev cX0_heldByAll : ByteArray := prog_2_method_5_code
def yX0_heldByAll : MethodName := ⟨RX0, "heldByAll", "()J"⟩
abbrev cX0_withUnits : ByteArray := prog_2_method_6_code
def yX0_withUnits : MethodName := ⟨RX0, "withUnits", "()I"⟩
abbrev cX0_loaded : ByteArray := prog_2_method_7_code
def yX0_loaded : MethodName := ⟨RX0, "loaded", "(I)I"⟩
abbrev cX0_leftOf : ByteArray := prog_2_method_8_code
def yX0_leftOf : MethodName := ⟨RX0, "leftOf", "(I)I"⟩
abbrev cX0_nextAfter : ByteArray := prog_2_method_9_code
def yX0_nextAfter : MethodName := ⟨RX0, "nextAfter", "(II)I"⟩
abbrev cX0_amountOf : ByteArray := prog_2_method_10_code
def yX0_amountOf : MethodName := ⟨RX0, "amountOf", "(IIZ)J"⟩
def RX1 : String := "SealedStores$History"
def TX1 : u_T := fun k => match k with
  | 0 => ("SealedStores$History", "number", "I", false)
  | 1 => ("SealedStores$History", "latest", "I", false)
  | _ => ("SealedStores$History", "states", "[LSealedStores$Ship;", true)
def tyX1 : Nat → FieldType := fun k => match k with
  | 0 => .int
  | 1 => .int
  | _ => .array (.object "SealedStores$Ship")
abbrev wsX10 : List Cond := u_ws RX1 TX1 3
theorem nmX1 : ∀ a, a < 3 → ∀ b, b < 3 → a ≠ b → (TX1 a).2.1 ≠ (TX1 b).2.1 := by decide +kernel
theorem tyX1_ok : ∀ k, k < 3 → parseFieldDescriptor (TX1 k).2.2.1 = some (tyX1 k) := by decide +kernel
abbrev cX1_init : ByteArray := prog_3_method_1_code
def yX1_init : MethodName := ⟨RX1, "<init>", "()V"⟩
abbrev cX1_prepare : ByteArray := prog_3_method_2_code
def yX1_prepare : MethodName := ⟨RX1, "prepare", "(LSealedStores$Ship;)V"⟩
abbrev cX1_finish : ByteArray := prog_3_method_3_code
def yX1_finish : MethodName := ⟨RX1, "finish", "(I)I"⟩
abbrev cX1_restore : ByteArray := prog_3_method_4_code
def yX1_restore : MethodName := ⟨RX1, "restore", "(LSealedStores$Ship;)I"⟩
abbrev cX1_spare : ByteArray := prog_3_method_5_code
def yX1_spare : MethodName := ⟨RX1, "spare", "()I"⟩
def RX2 : String := "SealedStores$Lockers"
def TX2 : u_T := fun k => match k with
  | 0 => ("SealedStores$Lockers", "number", "I", false)
  | 1 => ("SealedStores$Lockers", "state", "[I", true)
  | 2 => ("SealedStores$Lockers", "seal", "[I", true)
  | 3 => ("SealedStores$Lockers", "units", "[I", true)
  | _ => ("SealedStores$Lockers", "missing", "[I", true)
def tyX2 : Nat → FieldType := fun k => match k with
  | 0 => .int
  | 1 => .array .int
  | 2 => .array .int
  | 3 => .array .int
  | _ => .array .int
abbrev wsX20 : List Cond := u_ws RX2 TX2 5
theorem nmX2 : ∀ a, a < 5 → ∀ b, b < 5 → a ≠ b → (TX2 a).2.1 ≠ (TX2 b).2.1 := by decide +kernel
theorem tyX2_ok : ∀ k, k < 5 → parseFieldDescriptor (TX2 k).2.2.1 = some (tyX2 k) := by decide +kernel
abbrev cX2_init : ByteArray := prog_4_method_1_code
def yX2_init : MethodName := ⟨RX2, "<init>", "()V"⟩
abbrev cX2_become : ByteArray := prog_4_method_2_code
def yX2_become : MethodName := ⟨RX2, "become", "(LSealedStores$Lockers;)V"⟩
abbrev cX2_place : ByteArray := prog_4_method_3_code
def yX2_place : MethodName := ⟨RX2, "place", "(II)I"⟩
abbrev cX2_inState : ByteArray := prog_4_method_4_code
def yX2_inState : MethodName := ⟨RX2, "inState", "(I)I"⟩
abbrev cX2_sumOfLocker : ByteArray := prog_4_method_5_code
def yX2_sumOfLocker : MethodName := ⟨RX2, "sumOfLocker", "([II)I"⟩
abbrev cX2_sumOfGood : ByteArray := prog_4_method_6_code
def yX2_sumOfGood : MethodName := ⟨RX2, "sumOfGood", "([II)I"⟩
abbrev cX2_takeFromAny : ByteArray := prog_4_method_7_code
def yX2_takeFromAny : MethodName := ⟨RX2, "takeFromAny", "(II)V"⟩
abbrev cX2_takeLowestFirst : ByteArray := prog_4_method_8_code
def yX2_takeLowestFirst : MethodName := ⟨RX2, "takeLowestFirst", "([III)I"⟩
def RX3 : String := "SealedStores$OrderLog"
def TX3 : u_T := fun k => match k with
  | 0 => ("SealedStores$OrderLog", "length", "I", false)
  | 1 => ("SealedStores$OrderLog", "faultPosition", "I", false)
  | 2 => ("SealedStores$OrderLog", "faultReason", "I", false)
  | 3 => ("SealedStores$OrderLog", "faultCause", "I", false)
  | 4 => ("SealedStores$OrderLog", "ordersDone", "I", false)
  | 5 => ("SealedStores$OrderLog", "position", "I", false)
  | 6 => ("SealedStores$OrderLog", "kind", "C", false)
  | 7 => ("SealedStores$OrderLog", "numbers", "[I", true)
  | _ => ("SealedStores$OrderLog", "signs", "[C", true)
def tyX3 : Nat → FieldType := fun k => match k with
  | 0 => .int
  | 1 => .int
  | 2 => .int
  | 3 => .int
  | 4 => .int
  | 5 => .int
  | 6 => .char
  | 7 => .array .int
  | _ => .array .char
abbrev wsX30 : List Cond := u_ws RX3 TX3 9
theorem nmX3 : ∀ a, a < 9 → ∀ b, b < 9 → a ≠ b → (TX3 a).2.1 ≠ (TX3 b).2.1 := by decide +kernel
theorem tyX3_ok : ∀ k, k < 9 → parseFieldDescriptor (TX3 k).2.2.1 = some (tyX3 k) := by decide +kernel
abbrev cX3_init : ByteArray := prog_5_method_1_code
def yX3_init : MethodName := ⟨RX3, "<init>", "()V"⟩
abbrev cX3_append : ByteArray := prog_5_method_2_code
def yX3_append : MethodName := ⟨RX3, "append", "(I)I"⟩
abbrev cX3_empty : ByteArray := prog_5_method_3_code
def yX3_empty : MethodName := ⟨RX3, "empty", "()I"⟩
abbrev cX3_tryOn : ByteArray := prog_5_method_4_code
def yX3_tryOn : MethodName := ⟨RX3, "tryOn", "(LSealedStores$Ship;LSealedStores$Ship;)V"⟩
abbrev cX3_noteFault : ByteArray := prog_5_method_5_code
def yX3_noteFault : MethodName := ⟨RX3, "noteFault", "(III)V"⟩
abbrev cX3_readOrder : ByteArray := prog_5_method_6_code
def yX3_readOrder : MethodName := ⟨RX3, "readOrder", "()Z"⟩
abbrev cX3_numbersOf : ByteArray := prog_5_method_7_code
def yX3_numbersOf : MethodName := ⟨RX3, "numbersOf", "(C)I"⟩
abbrev cX3_readSign : ByteArray := prog_5_method_8_code
def yX3_readSign : MethodName := ⟨RX3, "readSign", "(C)Z"⟩
abbrev cX3_readNumber : ByteArray := prog_5_method_9_code
def yX3_readNumber : MethodName := ⟨RX3, "readNumber", "(I)Z"⟩
abbrev cX3_doOrder : ByteArray := prog_5_method_10_code
def yX3_doOrder : MethodName := ⟨RX3, "doOrder", "(LSealedStores$Ship;)I"⟩
def RX4 : String := "SealedStores$Releases"
def TX4 : u_T := fun k => match k with
  | 0 => ("SealedStores$Releases", "fines", "J", false)
  | 1 => ("SealedStores$Releases", "units", "[I", true)
  | _ => ("SealedStores$Releases", "cents", "[J", true)
def tyX4 : Nat → FieldType := fun k => match k with
  | 0 => .long
  | 1 => .array .int
  | _ => .array .long
abbrev wsX40 : List Cond := u_ws RX4 TX4 3
theorem nmX4 : ∀ a, a < 3 → ∀ b, b < 3 → a ≠ b → (TX4 a).2.1 ≠ (TX4 b).2.1 := by decide +kernel
theorem tyX4_ok : ∀ k, k < 3 → parseFieldDescriptor (TX4 k).2.2.1 = some (tyX4 k) := by decide +kernel
abbrev cX4_init : ByteArray := prog_6_method_1_code
def yX4_init : MethodName := ⟨RX4, "<init>", "()V"⟩
abbrev cX4_become : ByteArray := prog_6_method_2_code
def yX4_become : MethodName := ⟨RX4, "become", "(LSealedStores$Releases;)V"⟩
abbrev cX4_place : ByteArray := prog_6_method_3_code
def yX4_place : MethodName := ⟨RX4, "place", "(II)I"⟩
abbrev cX4_add : ByteArray := prog_6_method_4_code
def yX4_add : MethodName := ⟨RX4, "add", "(IIIJ)V"⟩
def RX5 : String := "SealedStores$Seals"
def TX5 : u_T := fun k => match k with
  | 0 => ("SealedStores$Seals", "used", "I", false)
  | 1 => ("SealedStores$Seals", "locker", "[I", true)
  | 2 => ("SealedStores$Seals", "day", "[I", true)
  | _ => ("SealedStores$Seals", "fate", "[I", true)
def tyX5 : Nat → FieldType := fun k => match k with
  | 0 => .int
  | 1 => .array .int
  | 2 => .array .int
  | _ => .array .int
abbrev wsX50 : List Cond := u_ws RX5 TX5 4
theorem nmX5 : ∀ a, a < 4 → ∀ b, b < 4 → a ≠ b → (TX5 a).2.1 ≠ (TX5 b).2.1 := by decide +kernel
theorem tyX5_ok : ∀ k, k < 4 → parseFieldDescriptor (TX5 k).2.2.1 = some (tyX5 k) := by decide +kernel
abbrev cX5_init : ByteArray := prog_7_method_1_code
def yX5_init : MethodName := ⟨RX5, "<init>", "()V"⟩
abbrev cX5_become : ByteArray := prog_7_method_2_code
def yX5_become : MethodName := ⟨RX5, "become", "(LSealedStores$Seals;)V"⟩
abbrev cX5_left : ByteArray := prog_7_method_3_code
def yX5_left : MethodName := ⟨RX5, "left", "()I"⟩
abbrev cX5_putOn : ByteArray := prog_7_method_4_code
def yX5_putOn : MethodName := ⟨RX5, "putOn", "(II)I"⟩
def RX6 : String := "SealedStores$Ship"
def TX6 : u_T := fun k => match k with
  | 0 => ("SealedStores$Ship", "zone", "I", false)
  | 1 => ("SealedStores$Ship", "day", "I", false)
  | 2 => ("SealedStores$Ship", "goods", "I", false)
  | 3 => ("SealedStores$Ship", "duties", "[I", true)
  | 4 => ("SealedStores$Ship", "settings", "[I", true)
  | 5 => ("SealedStores$Ship", "lockers", "LSealedStores$Lockers;", true)
  | 6 => ("SealedStores$Ship", "seals", "LSealedStores$Seals;", true)
  | 7 => ("SealedStores$Ship", "bonds", "LSealedStores$Bonds;", true)
  | _ => ("SealedStores$Ship", "releases", "LSealedStores$Releases;", true)
def tyX6 : Nat → FieldType := fun k => match k with
  | 0 => .int
  | 1 => .int
  | 2 => .int
  | 3 => .array .int
  | 4 => .array .int
  | 5 => .object "SealedStores$Lockers"
  | 6 => .object "SealedStores$Seals"
  | 7 => .object "SealedStores$Bonds"
  | _ => .object "SealedStores$Releases"
abbrev wsX60 : List Cond := u_ws RX6 TX6 9
theorem nmX6 : ∀ a, a < 9 → ∀ b, b < 9 → a ≠ b → (TX6 a).2.1 ≠ (TX6 b).2.1 := by decide +kernel
theorem tyX6_ok : ∀ k, k < 9 → parseFieldDescriptor (TX6 k).2.2.1 = some (tyX6 k) := by decide +kernel
abbrev cX6_init : ByteArray := prog_8_method_1_code
def yX6_init : MethodName := ⟨RX6, "<init>", "()V"⟩
abbrev cX6_become : ByteArray := prog_8_method_2_code
def yX6_become : MethodName := ⟨RX6, "become", "(LSealedStores$Ship;)V"⟩
abbrev cX6_hasLocker : ByteArray := prog_8_method_3_code
def yX6_hasLocker : MethodName := ⟨RX6, "hasLocker", "(I)Z"⟩
abbrev cX6_hasGood : ByteArray := prog_8_method_4_code
def yX6_hasGood : MethodName := ⟨RX6, "hasGood", "(I)Z"⟩
abbrev cX6_isDuty : ByteArray := prog_8_method_5_code
def yX6_isDuty : MethodName := ⟨RX6, "isDuty", "(I)Z"⟩
abbrev cX6_canMove : ByteArray := prog_8_method_6_code
def yX6_canMove : MethodName := ⟨RX6, "canMove", "(III)Z"⟩
abbrev cX6_addLocker : ByteArray := prog_8_method_7_code
def yX6_addLocker : MethodName := ⟨RX6, "addLocker", "()I"⟩
abbrev cX6_addGood : ByteArray := prog_8_method_8_code
def yX6_addGood : MethodName := ⟨RX6, "addGood", "(I)I"⟩
abbrev cX6_changeDuty : ByteArray := prog_8_method_9_code
def yX6_changeDuty : MethodName := ⟨RX6, "changeDuty", "(II)I"⟩
abbrev cX6_loadUnits : ByteArray := prog_8_method_10_code
def yX6_loadUnits : MethodName := ⟨RX6, "loadUnits", "(III)I"⟩
abbrev cX6_useUnits : ByteArray := prog_8_method_11_code
def yX6_useUnits : MethodName := ⟨RX6, "useUnits", "(III)I"⟩
abbrev cX6_returnUnits : ByteArray := prog_8_method_12_code
def yX6_returnUnits : MethodName := ⟨RX6, "returnUnits", "(III)I"⟩
abbrev cX6_breakUnits : ByteArray := prog_8_method_13_code
def yX6_breakUnits : MethodName := ⟨RX6, "breakUnits", "(IIII)I"⟩
abbrev cX6_tearSeal : ByteArray := prog_8_method_14_code
def yX6_tearSeal : MethodName := ⟨RX6, "tearSeal", "(I)I"⟩
abbrev cX6_countLocker : ByteArray := prog_8_method_15_code
def yX6_countLocker : MethodName := ⟨RX6, "countLocker", "(I)I"⟩
abbrev cX6_crossTo : ByteArray := prog_8_method_16_code
def yX6_crossTo : MethodName := ⟨RX6, "crossTo", "(I)I"⟩
abbrev cX6_passDays : ByteArray := prog_8_method_17_code
def yX6_passDays : MethodName := ⟨RX6, "passDays", "(I)I"⟩
abbrev cX6_changeSetting : ByteArray := prog_8_method_18_code
def yX6_changeSetting : MethodName := ⟨RX6, "changeSetting", "(II)I"⟩
abbrev cX6_toPayForAll : ByteArray := prog_8_method_19_code
def yX6_toPayForAll : MethodName := ⟨RX6, "toPayForAll", "()J"⟩
abbrev cX6_release : ByteArray := prog_8_method_20_code
def yX6_release : MethodName := ⟨RX6, "release", "(III)J"⟩
abbrev cX6_taxesOf : ByteArray := prog_8_method_21_code
def yX6_taxesOf : MethodName := ⟨RX6, "taxesOf", "(I)J"⟩
abbrev cX6_runOutBonds : ByteArray := prog_8_method_22_code
def yX6_runOutBonds : MethodName := ⟨RX6, "runOutBonds", "()J"⟩
abbrev cX6_putSeal : ByteArray := prog_8_method_23_code
def yX6_putSeal : MethodName := ⟨RX6, "putSeal", "(I)V"⟩
abbrev cX6_sealByOfficer : ByteArray := prog_8_method_24_code
def yX6_sealByOfficer : MethodName := ⟨RX6, "sealByOfficer", "(I)V"⟩
abbrev cX6_sealOpenLockers : ByteArray := prog_8_method_25_code
def yX6_sealOpenLockers : MethodName := ⟨RX6, "sealOpenLockers", "()I"⟩
abbrev cX6_openLockers : ByteArray := prog_8_method_26_code
def yX6_openLockers : MethodName := ⟨RX6, "openLockers", "()I"⟩
def RX7 : String := "SealedStores"
def TX7 : u_T := fun k => match k with
  | 0 => ("SealedStores", "ship", "LSealedStores$Ship;", true)
  | 1 => ("SealedStores", "trial", "LSealedStores$Ship;", true)
  | 2 => ("SealedStores", "history", "LSealedStores$History;", true)
  | _ => ("SealedStores", "log", "LSealedStores$OrderLog;", true)
def tyX7 : Nat → FieldType := fun k => match k with
  | 0 => .object "SealedStores$Ship"
  | 1 => .object "SealedStores$Ship"
  | 2 => .object "SealedStores$History"
  | _ => .object "SealedStores$OrderLog"
abbrev wsX70 : List Cond := u_ws RX7 TX7 4
theorem nmX7 : ∀ a, a < 4 → ∀ b, b < 4 → a ≠ b → (TX7 a).2.1 ≠ (TX7 b).2.1 := by decide +kernel
theorem tyX7_ok : ∀ k, k < 4 → parseFieldDescriptor (TX7 k).2.2.1 = some (tyX7 k) := by decide +kernel
abbrev cX7_init : ByteArray := prog_1_method_1_code
def yX7_init : MethodName := ⟨RX7, "<init>", "()V"⟩
abbrev cX7_locker : ByteArray := prog_1_method_2_code
def yX7_locker : MethodName := ⟨RX7, "locker", "()I"⟩
abbrev cX7_good : ByteArray := prog_1_method_3_code
def yX7_good : MethodName := ⟨RX7, "good", "(I)I"⟩
abbrev cX7_duty : ByteArray := prog_1_method_4_code
def yX7_duty : MethodName := ⟨RX7, "duty", "(II)I"⟩
abbrev cX7_load : ByteArray := prog_1_method_5_code
def yX7_load : MethodName := ⟨RX7, "load", "(III)I"⟩
abbrev cX7_lockerOf : ByteArray := prog_1_method_6_code
def yX7_lockerOf : MethodName := ⟨RX7, "lockerOf", "(II)I"⟩
abbrev cX7_missing : ByteArray := prog_1_method_7_code
def yX7_missing : MethodName := ⟨RX7, "missing", "(II)I"⟩
abbrev cX7_seal : ByteArray := prog_1_method_8_code
def yX7_seal : MethodName := ⟨RX7, "seal", "(II)I"⟩
abbrev cX7_bond : ByteArray := prog_1_method_9_code
def yX7_bond : MethodName := ⟨RX7, "bond", "(II)I"⟩
abbrev cX7_nextBond : ByteArray := prog_1_method_10_code
def yX7_nextBond : MethodName := ⟨RX7, "nextBond", "(I)I"⟩
abbrev cX7_use : ByteArray := prog_1_method_11_code
def yX7_use : MethodName := ⟨RX7, "use", "(III)I"⟩
abbrev cX7_bring : ByteArray := prog_1_method_12_code
def yX7_bring : MethodName := ⟨RX7, "bring", "(III)I"⟩
abbrev cX7_smash : ByteArray := prog_1_method_13_code
def yX7_smash : MethodName := ⟨RX7, "smash", "(IIII)I"⟩
abbrev cX7_tear : ByteArray := prog_1_method_14_code
def yX7_tear : MethodName := ⟨RX7, "tear", "(I)I"⟩
abbrev cX7_inspect : ByteArray := prog_1_method_15_code
def yX7_inspect : MethodName := ⟨RX7, "inspect", "(I)I"⟩
abbrev cX7_cross : ByteArray := prog_1_method_16_code
def yX7_cross : MethodName := ⟨RX7, "cross", "(I)I"⟩
abbrev cX7_pass : ByteArray := prog_1_method_17_code
def yX7_pass : MethodName := ⟨RX7, "pass", "(I)I"⟩
abbrev cX7_set : ByteArray := prog_1_method_18_code
def yX7_set : MethodName := ⟨RX7, "set", "(II)I"⟩
abbrev cX7_account : ByteArray := prog_1_method_19_code
def yX7_account : MethodName := ⟨RX7, "account", "(II)I"⟩
abbrev cX7_cents : ByteArray := prog_1_method_20_code
def yX7_cents : MethodName := ⟨RX7, "cents", "(I)I"⟩
abbrev cX7_count : ByteArray := prog_1_method_21_code
def yX7_count : MethodName := ⟨RX7, "count", "(I)I"⟩
abbrev cX7_undo : ByteArray := prog_1_method_22_code
def yX7_undo : MethodName := ⟨RX7, "undo", "()I"⟩
abbrev cX7_worth : ByteArray := prog_1_method_23_code
def yX7_worth : MethodName := ⟨RX7, "worth", "(II)I"⟩
abbrev cX7_toPay : ByteArray := prog_1_method_24_code
def yX7_toPay : MethodName := ⟨RX7, "toPay", "()I"⟩
abbrev cX7_runsOut : ByteArray := prog_1_method_25_code
def yX7_runsOut : MethodName := ⟨RX7, "runsOut", "()I"⟩
abbrev cX7_type : ByteArray := prog_1_method_26_code
def yX7_type : MethodName := ⟨RX7, "type", "(I)I"⟩
abbrev cX7_clearText : ByteArray := prog_1_method_27_code
def yX7_clearText : MethodName := ⟨RX7, "clearText", "()I"⟩
abbrev cX7_fault : ByteArray := prog_1_method_28_code
def yX7_fault : MethodName := ⟨RX7, "fault", "(I)I"⟩
abbrev cX7_play : ByteArray := prog_1_method_29_code
def yX7_play : MethodName := ⟨RX7, "play", "()I"⟩
abbrev cX7_centsOrLimit : ByteArray := prog_1_method_30_code
def yX7_centsOrLimit : MethodName := ⟨RX7, "centsOrLimit", "(J)I"⟩
def RX8 : String := "SealedStoresModel"
def TX8 : u_T := fun k => match k with
  | 0 => ("SealedStoresModel", "now", "[I", true)
  | 1 => ("SealedStoresModel", "before", "[I", true)
  | 2 => ("SealedStoresModel", "states", "[I", true)
  | 3 => ("SealedStoresModel", "text", "[I", true)
  | 4 => ("SealedStoresModel", "stateMany", "I", false)
  | 5 => ("SealedStoresModel", "stateAt", "I", false)
  | 6 => ("SealedStoresModel", "letters", "I", false)
  | 7 => ("SealedStoresModel", "readAt", "I", false)
  | 8 => ("SealedStoresModel", "isForm", "Z", false)
  | 9 => ("SealedStoresModel", "faultAt", "I", false)
  | 10 => ("SealedStoresModel", "faultReason", "I", false)
  | 11 => ("SealedStoresModel", "faultCause", "I", false)
  | _ => ("SealedStoresModel", "orders", "I", false)
def tyX8 : Nat → FieldType := fun k => match k with
  | 0 => .array .int
  | 1 => .array .int
  | 2 => .array .int
  | 3 => .array .int
  | 4 => .int
  | 5 => .int
  | 6 => .int
  | 7 => .int
  | 8 => .boolean
  | 9 => .int
  | 10 => .int
  | 11 => .int
  | _ => .int
abbrev wsX80 : List Cond := u_ws RX8 TX8 13
theorem nmX8 : ∀ a, a < 13 → ∀ b, b < 13 → a ≠ b → (TX8 a).2.1 ≠ (TX8 b).2.1 := by decide +kernel
theorem tyX8_ok : ∀ k, k < 13 → parseFieldDescriptor (TX8 k).2.2.1 = some (tyX8 k) := by decide +kernel
abbrev cX8_init : ByteArray := prog_10_method_1_code
def yX8_init : MethodName := ⟨RX8, "<init>", "()V"⟩
abbrev cX8_in : ByteArray := prog_10_method_2_code
def yX8_in : MethodName := ⟨RX8, "in", "(III)Z"⟩
abbrev cX8_isLocker : ByteArray := prog_10_method_3_code
def yX8_isLocker : MethodName := ⟨RX8, "isLocker", "(I)Z"⟩
abbrev cX8_isGood : ByteArray := prog_10_method_4_code
def yX8_isGood : MethodName := ⟨RX8, "isGood", "(I)Z"⟩
abbrev cX8_copy : ByteArray := prog_10_method_5_code
def yX8_copy : MethodName := ⟨RX8, "copy", "()V"⟩
abbrev cX8_back : ByteArray := prog_10_method_6_code
def yX8_back : MethodName := ⟨RX8, "back", "()V"⟩
abbrev cX8_recorded : ByteArray := prog_10_method_7_code
def yX8_recorded : MethodName := ⟨RX8, "recorded", "(I)I"⟩
abbrev cX8_undo : ByteArray := prog_10_method_8_code
def yX8_undo : MethodName := ⟨RX8, "undo", "()I"⟩
abbrev cX8_hasSeals : ByteArray := prog_10_method_9_code
def yX8_hasSeals : MethodName := ⟨RX8, "hasSeals", "(I)Z"⟩
abbrev cX8_seals : ByteArray := prog_10_method_10_code
def yX8_seals : MethodName := ⟨RX8, "seals", "(I)V"⟩
abbrev cX8_takesOff : ByteArray := prog_10_method_11_code
def yX8_takesOff : MethodName := ⟨RX8, "takesOff", "(II)V"⟩
abbrev cX8_nextOf : ByteArray := prog_10_method_12_code
def yX8_nextOf : MethodName := ⟨RX8, "nextOf", "(II)I"⟩
abbrev cX8_least : ByteArray := prog_10_method_13_code
def yX8_least : MethodName := ⟨RX8, "least", "(II)I"⟩
abbrev cX8_worthOf : ByteArray := prog_10_method_14_code
def yX8_worthOf : MethodName := ⟨RX8, "worthOf", "(II)J"⟩
abbrev cX8_takes : ByteArray := prog_10_method_15_code
def yX8_takes : MethodName := ⟨RX8, "takes", "(III)I"⟩
abbrev cX8_releases : ByteArray := prog_10_method_16_code
def yX8_releases : MethodName := ⟨RX8, "releases", "(III)I"⟩
abbrev cX8_addsLocker : ByteArray := prog_10_method_17_code
def yX8_addsLocker : MethodName := ⟨RX8, "addsLocker", "()I"⟩
abbrev cX8_locker : ByteArray := prog_10_method_18_code
def yX8_locker : MethodName := ⟨RX8, "locker", "()I"⟩
abbrev cX8_isDuty : ByteArray := prog_10_method_19_code
def yX8_isDuty : MethodName := ⟨RX8, "isDuty", "(I)Z"⟩
abbrev cX8_addsGood : ByteArray := prog_10_method_20_code
def yX8_addsGood : MethodName := ⟨RX8, "addsGood", "(I)I"⟩
abbrev cX8_good : ByteArray := prog_10_method_21_code
def yX8_good : MethodName := ⟨RX8, "good", "(I)I"⟩
abbrev cX8_duty : ByteArray := prog_10_method_22_code
def yX8_duty : MethodName := ⟨RX8, "duty", "(II)I"⟩
abbrev cX8_isMove : ByteArray := prog_10_method_23_code
def yX8_isMove : MethodName := ⟨RX8, "isMove", "(III)Z"⟩
abbrev cX8_loads : ByteArray := prog_10_method_24_code
def yX8_loads : MethodName := ⟨RX8, "loads", "(III)I"⟩
abbrev cX8_load : ByteArray := prog_10_method_25_code
def yX8_load : MethodName := ⟨RX8, "load", "(III)I"⟩
abbrev cX8_sum : ByteArray := prog_10_method_26_code
def yX8_sum : MethodName := ⟨RX8, "sum", "(I)I"⟩
abbrev cX8_lockerOf : ByteArray := prog_10_method_27_code
def yX8_lockerOf : MethodName := ⟨RX8, "lockerOf", "(II)I"⟩
abbrev cX8_missing : ByteArray := prog_10_method_28_code
def yX8_missing : MethodName := ⟨RX8, "missing", "(II)I"⟩
abbrev cX8_seal : ByteArray := prog_10_method_29_code
def yX8_seal : MethodName := ⟨RX8, "seal", "(II)I"⟩
abbrev cX8_bond : ByteArray := prog_10_method_30_code
def yX8_bond : MethodName := ⟨RX8, "bond", "(II)I"⟩
abbrev cX8_nextBond : ByteArray := prog_10_method_31_code
def yX8_nextBond : MethodName := ⟨RX8, "nextBond", "(I)I"⟩
abbrev cX8_uses : ByteArray := prog_10_method_32_code
def yX8_uses : MethodName := ⟨RX8, "uses", "(III)I"⟩
abbrev cX8_use : ByteArray := prog_10_method_33_code
def yX8_use : MethodName := ⟨RX8, "use", "(III)I"⟩
abbrev cX8_brings : ByteArray := prog_10_method_34_code
def yX8_brings : MethodName := ⟨RX8, "brings", "(III)I"⟩
abbrev cX8_bring : ByteArray := prog_10_method_35_code
def yX8_bring : MethodName := ⟨RX8, "bring", "(III)I"⟩
abbrev cX8_smashes : ByteArray := prog_10_method_36_code
def yX8_smashes : MethodName := ⟨RX8, "smashes", "(IIII)I"⟩
abbrev cX8_smash : ByteArray := prog_10_method_37_code
def yX8_smash : MethodName := ⟨RX8, "smash", "(IIII)I"⟩
abbrev cX8_tears : ByteArray := prog_10_method_38_code
def yX8_tears : MethodName := ⟨RX8, "tears", "(I)I"⟩
abbrev cX8_tear : ByteArray := prog_10_method_39_code
def yX8_tear : MethodName := ⟨RX8, "tear", "(I)I"⟩
abbrev cX8_inspects : ByteArray := prog_10_method_40_code
def yX8_inspects : MethodName := ⟨RX8, "inspects", "(I)I"⟩
abbrev cX8_inspect : ByteArray := prog_10_method_41_code
def yX8_inspect : MethodName := ⟨RX8, "inspect", "(I)I"⟩
abbrev cX8_lockersThat : ByteArray := prog_10_method_42_code
def yX8_lockersThat : MethodName := ⟨RX8, "lockersThat", "(I)I"⟩
abbrev cX8_crosses : ByteArray := prog_10_method_43_code
def yX8_crosses : MethodName := ⟨RX8, "crosses", "(I)I"⟩
abbrev cX8_cross : ByteArray := prog_10_method_44_code
def yX8_cross : MethodName := ⟨RX8, "cross", "(I)I"⟩
abbrev cX8_loses : ByteArray := prog_10_method_45_code
def yX8_loses : MethodName := ⟨RX8, "loses", "(II)V"⟩
abbrev cX8_passes : ByteArray := prog_10_method_46_code
def yX8_passes : MethodName := ⟨RX8, "passes", "(I)I"⟩
abbrev cX8_pass : ByteArray := prog_10_method_47_code
def yX8_pass : MethodName := ⟨RX8, "pass", "(I)I"⟩
abbrev cX8_set : ByteArray := prog_10_method_48_code
def yX8_set : MethodName := ⟨RX8, "set", "(II)I"⟩
abbrev cX8_overLockers : ByteArray := prog_10_method_49_code
def yX8_overLockers : MethodName := ⟨RX8, "overLockers", "(II)I"⟩
abbrev cX8_account : ByteArray := prog_10_method_50_code
def yX8_account : MethodName := ⟨RX8, "account", "(II)I"⟩
abbrev cX8_cents : ByteArray := prog_10_method_51_code
def yX8_cents : MethodName := ⟨RX8, "cents", "(I)I"⟩
abbrev cX8_count : ByteArray := prog_10_method_52_code
def yX8_count : MethodName := ⟨RX8, "count", "(I)I"⟩
abbrev cX8_worth : ByteArray := prog_10_method_53_code
def yX8_worth : MethodName := ⟨RX8, "worth", "(II)I"⟩
abbrev cX8_toPay : ByteArray := prog_10_method_54_code
def yX8_toPay : MethodName := ⟨RX8, "toPay", "()I"⟩
abbrev cX8_runsOut : ByteArray := prog_10_method_55_code
def yX8_runsOut : MethodName := ⟨RX8, "runsOut", "()I"⟩
abbrev cX8_type : ByteArray := prog_10_method_56_code
def yX8_type : MethodName := ⟨RX8, "type", "(I)I"⟩
abbrev cX8_clearText : ByteArray := prog_10_method_57_code
def yX8_clearText : MethodName := ⟨RX8, "clearText", "()I"⟩
abbrev cX8_here : ByteArray := prog_10_method_58_code
def yX8_here : MethodName := ⟨RX8, "here", "()I"⟩
abbrev cX8_passesSign : ByteArray := prog_10_method_59_code
def yX8_passesSign : MethodName := ⟨RX8, "passesSign", "(I)V"⟩
abbrev cX8_number : ByteArray := prog_10_method_60_code
def yX8_number : MethodName := ⟨RX8, "number", "()I"⟩
abbrev cX8_order : ByteArray := prog_10_method_61_code
def yX8_order : MethodName := ⟨RX8, "order", "()I"⟩
abbrev cX8_tries : ByteArray := prog_10_method_62_code
def yX8_tries : MethodName := ⟨RX8, "tries", "()V"⟩
abbrev cX8_fault : ByteArray := prog_10_method_63_code
def yX8_fault : MethodName := ⟨RX8, "fault", "(I)I"⟩
abbrev cX8_play : ByteArray := prog_10_method_64_code
def yX8_play : MethodName := ⟨RX8, "play", "()I"⟩
def RL : String := "SealedStoresLaw"
abbrev cL_law : ByteArray := code
def yL_law : MethodName := ⟨RL, "law", "([I)Z"⟩
abbrev vwCl : List vw_C := [(RX0, TX0, 7), (RX1, TX1, 3), (RX2, TX2, 5), (RX3, TX3, 9), (RX4, TX4, 3), (RX5, TX5, 4), (RX6, TX6, 9), (RX7, TX7, 4), (RX8, TX8, 13)]
end
section
theorem dX0_init_0 : decode cX0_init 0 = .ok (.aload_n 0, 1) := by decide +kernel
theorem dX0_init_1 : decode cX0_init 1 = .ok (.invokespecial 3, 3) := by decide +kernel
theorem dX0_init_4 : decode cX0_init 4 = .ok (.aload_n 0, 1) := by decide +kernel
theorem dX0_init_5 : decode cX0_init 5 = .ok (.iconst 0, 1) := by decide +kernel
theorem dX0_init_6 : decode cX0_init 6 = .ok (.putfield 9, 3) := by decide +kernel
theorem dX0_init_9 : decode cX0_init 9 = .ok (.aload_n 0, 1) := by decide +kernel
theorem dX0_init_10 : decode cX0_init 10 = .ok (.lconst 0, 1) := by decide +kernel
theorem dX0_init_11 : decode cX0_init 11 = .ok (.putfield 15, 3) := by decide +kernel
theorem dX0_init_14 : decode cX0_init 14 = .ok (.aload_n 0, 1) := by decide +kernel
theorem dX0_init_15 : decode cX0_init 15 = .ok (.bipush 60, 2) := by decide +kernel
theorem dX0_init_17 : decode cX0_init 17 = .ok (.newarray .int, 2) := by decide +kernel
theorem dX0_init_19 : decode cX0_init 19 = .ok (.putfield 19, 3) := by decide +kernel
theorem dX0_init_22 : decode cX0_init 22 = .ok (.aload_n 0, 1) := by decide +kernel
theorem dX0_init_23 : decode cX0_init 23 = .ok (.bipush 60, 2) := by decide +kernel
theorem dX0_init_25 : decode cX0_init 25 = .ok (.newarray .int, 2) := by decide +kernel
theorem dX0_init_27 : decode cX0_init 27 = .ok (.putfield 23, 3) := by decide +kernel
theorem dX0_init_30 : decode cX0_init 30 = .ok (.aload_n 0, 1) := by decide +kernel
theorem dX0_init_31 : decode cX0_init 31 = .ok (.bipush 60, 2) := by decide +kernel
theorem dX0_init_33 : decode cX0_init 33 = .ok (.newarray .int, 2) := by decide +kernel
theorem dX0_init_35 : decode cX0_init 35 = .ok (.putfield 26, 3) := by decide +kernel
theorem dX0_init_38 : decode cX0_init 38 = .ok (.aload_n 0, 1) := by decide +kernel
theorem dX0_init_39 : decode cX0_init 39 = .ok (.bipush 60, 2) := by decide +kernel
theorem dX0_init_41 : decode cX0_init 41 = .ok (.newarray .int, 2) := by decide +kernel
theorem dX0_init_43 : decode cX0_init 43 = .ok (.putfield 29, 3) := by decide +kernel
theorem dX0_init_46 : decode cX0_init 46 = .ok (.aload_n 0, 1) := by decide +kernel
theorem dX0_init_47 : decode cX0_init 47 = .ok (.bipush 60, 2) := by decide +kernel
theorem dX0_init_49 : decode cX0_init 49 = .ok (.newarray .int, 2) := by decide +kernel
theorem dX0_init_51 : decode cX0_init 51 = .ok (.putfield 32, 3) := by decide +kernel
theorem dX0_init_54 : decode cX0_init 54 = .ok (.return_, 1) := by decide +kernel
theorem dX0_become_0 : decode cX0_become 0 = .ok (.aload_n 0, 1) := by decide +kernel
theorem dX0_become_1 : decode cX0_become 1 = .ok (.aload_n 1, 1) := by decide +kernel
theorem dX0_become_2 : decode cX0_become 2 = .ok (.getfield 9, 3) := by decide +kernel
theorem dX0_become_5 : decode cX0_become 5 = .ok (.putfield 9, 3) := by decide +kernel
theorem dX0_become_8 : decode cX0_become 8 = .ok (.aload_n 0, 1) := by decide +kernel
theorem dX0_become_9 : decode cX0_become 9 = .ok (.aload_n 1, 1) := by decide +kernel
theorem dX0_become_10 : decode cX0_become 10 = .ok (.getfield 15, 3) := by decide +kernel
theorem dX0_become_13 : decode cX0_become 13 = .ok (.putfield 15, 3) := by decide +kernel
theorem dX0_become_16 : decode cX0_become 16 = .ok (.aload_n 1, 1) := by decide +kernel
theorem dX0_become_17 : decode cX0_become 17 = .ok (.getfield 19, 3) := by decide +kernel
theorem dX0_become_20 : decode cX0_become 20 = .ok (.iconst 0, 1) := by decide +kernel
theorem dX0_become_21 : decode cX0_become 21 = .ok (.aload_n 0, 1) := by decide +kernel
theorem dX0_become_22 : decode cX0_become 22 = .ok (.getfield 19, 3) := by decide +kernel
theorem dX0_become_25 : decode cX0_become 25 = .ok (.iconst 0, 1) := by decide +kernel
theorem dX0_become_26 : decode cX0_become 26 = .ok (.bipush 60, 2) := by decide +kernel
theorem dX0_become_28 : decode cX0_become 28 = .ok (.invokestatic 35, 3) := by decide +kernel
theorem dX0_become_31 : decode cX0_become 31 = .ok (.aload_n 1, 1) := by decide +kernel
theorem dX0_become_32 : decode cX0_become 32 = .ok (.getfield 23, 3) := by decide +kernel
theorem dX0_become_35 : decode cX0_become 35 = .ok (.iconst 0, 1) := by decide +kernel
theorem dX0_become_36 : decode cX0_become 36 = .ok (.aload_n 0, 1) := by decide +kernel
theorem dX0_become_37 : decode cX0_become 37 = .ok (.getfield 23, 3) := by decide +kernel
theorem dX0_become_40 : decode cX0_become 40 = .ok (.iconst 0, 1) := by decide +kernel
theorem dX0_become_41 : decode cX0_become 41 = .ok (.bipush 60, 2) := by decide +kernel
theorem dX0_become_43 : decode cX0_become 43 = .ok (.invokestatic 35, 3) := by decide +kernel
theorem dX0_become_46 : decode cX0_become 46 = .ok (.aload_n 1, 1) := by decide +kernel
theorem dX0_become_47 : decode cX0_become 47 = .ok (.getfield 26, 3) := by decide +kernel
theorem dX0_become_50 : decode cX0_become 50 = .ok (.iconst 0, 1) := by decide +kernel
theorem dX0_become_51 : decode cX0_become 51 = .ok (.aload_n 0, 1) := by decide +kernel
theorem dX0_become_52 : decode cX0_become 52 = .ok (.getfield 26, 3) := by decide +kernel
theorem dX0_become_55 : decode cX0_become 55 = .ok (.iconst 0, 1) := by decide +kernel
theorem dX0_become_56 : decode cX0_become 56 = .ok (.bipush 60, 2) := by decide +kernel
theorem dX0_become_58 : decode cX0_become 58 = .ok (.invokestatic 35, 3) := by decide +kernel
theorem dX0_become_61 : decode cX0_become 61 = .ok (.aload_n 1, 1) := by decide +kernel
theorem dX0_become_62 : decode cX0_become 62 = .ok (.getfield 29, 3) := by decide +kernel
theorem dX0_become_65 : decode cX0_become 65 = .ok (.iconst 0, 1) := by decide +kernel
theorem dX0_become_66 : decode cX0_become 66 = .ok (.aload_n 0, 1) := by decide +kernel
theorem dX0_become_67 : decode cX0_become 67 = .ok (.getfield 29, 3) := by decide +kernel
theorem dX0_become_70 : decode cX0_become 70 = .ok (.iconst 0, 1) := by decide +kernel
theorem dX0_become_71 : decode cX0_become 71 = .ok (.bipush 60, 2) := by decide +kernel
theorem dX0_become_73 : decode cX0_become 73 = .ok (.invokestatic 35, 3) := by decide +kernel
theorem dX0_become_76 : decode cX0_become 76 = .ok (.aload_n 1, 1) := by decide +kernel
theorem dX0_become_77 : decode cX0_become 77 = .ok (.getfield 32, 3) := by decide +kernel
theorem dX0_become_80 : decode cX0_become 80 = .ok (.iconst 0, 1) := by decide +kernel
theorem dX0_become_81 : decode cX0_become 81 = .ok (.aload_n 0, 1) := by decide +kernel
theorem dX0_become_82 : decode cX0_become 82 = .ok (.getfield 32, 3) := by decide +kernel
theorem dX0_become_85 : decode cX0_become 85 = .ok (.iconst 0, 1) := by decide +kernel
theorem dX0_become_86 : decode cX0_become 86 = .ok (.bipush 60, 2) := by decide +kernel
theorem dX0_become_88 : decode cX0_become 88 = .ok (.invokestatic 35, 3) := by decide +kernel
theorem dX0_become_91 : decode cX0_become 91 = .ok (.return_, 1) := by decide +kernel
theorem dX0_add_0 : decode cX0_add 0 = .ok (.aload_n 0, 1) := by decide +kernel
theorem dX0_add_1 : decode cX0_add 1 = .ok (.getfield 9, 3) := by decide +kernel
theorem dX0_add_4 : decode cX0_add 4 = .ok (.bipush 60, 2) := by decide +kernel
theorem dX0_add_6 : decode cX0_add 6 = .ok (.if_icmp .lt 6, 3) := by decide +kernel
theorem dX0_add_9 : decode cX0_add 9 = .ok (.bipush (-3), 2) := by decide +kernel
theorem dX0_add_11 : decode cX0_add 11 = .ok (.ireturn, 1) := by decide +kernel
theorem dX0_add_12 : decode cX0_add 12 = .ok (.aload_n 0, 1) := by decide +kernel
theorem dX0_add_13 : decode cX0_add 13 = .ok (.getfield 9, 3) := by decide +kernel
theorem dX0_add_16 : decode cX0_add 16 = .ok (.istore 5, 2) := by decide +kernel
theorem dX0_add_18 : decode cX0_add 18 = .ok (.aload_n 0, 1) := by decide +kernel
theorem dX0_add_19 : decode cX0_add 19 = .ok (.dup, 1) := by decide +kernel
theorem dX0_add_20 : decode cX0_add 20 = .ok (.getfield 9, 3) := by decide +kernel
theorem dX0_add_23 : decode cX0_add 23 = .ok (.iconst 1, 1) := by decide +kernel
theorem dX0_add_24 : decode cX0_add 24 = .ok (.iadd, 1) := by decide +kernel
theorem dX0_add_25 : decode cX0_add 25 = .ok (.putfield 9, 3) := by decide +kernel
theorem dX0_add_28 : decode cX0_add 28 = .ok (.aload_n 0, 1) := by decide +kernel
theorem dX0_add_29 : decode cX0_add 29 = .ok (.getfield 19, 3) := by decide +kernel
theorem dX0_add_32 : decode cX0_add 32 = .ok (.iload 5, 2) := by decide +kernel
theorem dX0_add_34 : decode cX0_add 34 = .ok (.iload_n 1, 1) := by decide +kernel
theorem dX0_add_35 : decode cX0_add 35 = .ok (.iastore, 1) := by decide +kernel
theorem dX0_add_36 : decode cX0_add 36 = .ok (.aload_n 0, 1) := by decide +kernel
theorem dX0_add_37 : decode cX0_add 37 = .ok (.getfield 23, 3) := by decide +kernel
theorem dX0_add_40 : decode cX0_add 40 = .ok (.iload 5, 2) := by decide +kernel
theorem dX0_add_42 : decode cX0_add 42 = .ok (.iload_n 2, 1) := by decide +kernel
theorem dX0_add_43 : decode cX0_add 43 = .ok (.iastore, 1) := by decide +kernel
theorem dX0_add_44 : decode cX0_add 44 = .ok (.aload_n 0, 1) := by decide +kernel
theorem dX0_add_45 : decode cX0_add 45 = .ok (.getfield 26, 3) := by decide +kernel
theorem dX0_add_48 : decode cX0_add 48 = .ok (.iload 5, 2) := by decide +kernel
theorem dX0_add_50 : decode cX0_add 50 = .ok (.iload_n 2, 1) := by decide +kernel
theorem dX0_add_51 : decode cX0_add 51 = .ok (.iastore, 1) := by decide +kernel
theorem dX0_add_52 : decode cX0_add 52 = .ok (.aload_n 0, 1) := by decide +kernel
theorem dX0_add_53 : decode cX0_add 53 = .ok (.getfield 29, 3) := by decide +kernel
theorem dX0_add_56 : decode cX0_add 56 = .ok (.iload 5, 2) := by decide +kernel
theorem dX0_add_58 : decode cX0_add 58 = .ok (.iload_n 3, 1) := by decide +kernel
theorem dX0_add_59 : decode cX0_add 59 = .ok (.iastore, 1) := by decide +kernel
theorem dX0_add_60 : decode cX0_add 60 = .ok (.aload_n 0, 1) := by decide +kernel
theorem dX0_add_61 : decode cX0_add 61 = .ok (.getfield 32, 3) := by decide +kernel
theorem dX0_add_64 : decode cX0_add 64 = .ok (.iload 5, 2) := by decide +kernel
theorem dX0_add_66 : decode cX0_add 66 = .ok (.iload 4, 2) := by decide +kernel
theorem dX0_add_68 : decode cX0_add 68 = .ok (.iastore, 1) := by decide +kernel
theorem dX0_add_69 : decode cX0_add 69 = .ok (.aload_n 0, 1) := by decide +kernel
theorem dX0_add_70 : decode cX0_add 70 = .ok (.dup, 1) := by decide +kernel
theorem dX0_add_71 : decode cX0_add 71 = .ok (.getfield 15, 3) := by decide +kernel
theorem dX0_add_74 : decode cX0_add 74 = .ok (.iload_n 2, 1) := by decide +kernel
theorem dX0_add_75 : decode cX0_add 75 = .ok (.i2l, 1) := by decide +kernel
theorem dX0_add_76 : decode cX0_add 76 = .ok (.iload_n 3, 1) := by decide +kernel
theorem dX0_add_77 : decode cX0_add 77 = .ok (.i2l, 1) := by decide +kernel
theorem dX0_add_78 : decode cX0_add 78 = .ok (.lmul, 1) := by decide +kernel
theorem dX0_add_79 : decode cX0_add 79 = .ok (.ladd, 1) := by decide +kernel
theorem dX0_add_80 : decode cX0_add 80 = .ok (.putfield 15, 3) := by decide +kernel
theorem dX0_add_83 : decode cX0_add 83 = .ok (.iload 5, 2) := by decide +kernel
theorem dX0_add_85 : decode cX0_add 85 = .ok (.ireturn, 1) := by decide +kernel
theorem dX0_held_0 : decode cX0_held 0 = .ok (.aload_n 0, 1) := by decide +kernel
theorem dX0_held_1 : decode cX0_held 1 = .ok (.getfield 26, 3) := by decide +kernel
theorem dX0_held_4 : decode cX0_held 4 = .ok (.iload_n 1, 1) := by decide +kernel
theorem dX0_held_5 : decode cX0_held 5 = .ok (.iaload, 1) := by decide +kernel
theorem dX0_held_6 : decode cX0_held 6 = .ok (.i2l, 1) := by decide +kernel
theorem dX0_held_7 : decode cX0_held 7 = .ok (.aload_n 0, 1) := by decide +kernel
theorem dX0_held_8 : decode cX0_held 8 = .ok (.getfield 29, 3) := by decide +kernel
theorem dX0_held_11 : decode cX0_held 11 = .ok (.iload_n 1, 1) := by decide +kernel
theorem dX0_held_12 : decode cX0_held 12 = .ok (.iaload, 1) := by decide +kernel
theorem dX0_held_13 : decode cX0_held 13 = .ok (.i2l, 1) := by decide +kernel
theorem dX0_held_14 : decode cX0_held 14 = .ok (.lmul, 1) := by decide +kernel
theorem dX0_held_15 : decode cX0_held 15 = .ok (.lreturn, 1) := by decide +kernel
theorem dX0_heldByAll_0 : decode cX0_heldByAll 0 = .ok (.lconst 0, 1) := by decide +kernel
theorem dX0_heldByAll_1 : decode cX0_heldByAll 1 = .ok (.lstore_n 1, 1) := by decide +kernel
theorem dX0_heldByAll_2 : decode cX0_heldByAll 2 = .ok (.iconst 0, 1) := by decide +kernel
theorem dX0_heldByAll_3 : decode cX0_heldByAll 3 = .ok (.istore_n 3, 1) := by decide +kernel
theorem dX0_heldByAll_4 : decode cX0_heldByAll 4 = .ok (.iload_n 3, 1) := by decide +kernel
theorem dX0_heldByAll_5 : decode cX0_heldByAll 5 = .ok (.aload_n 0, 1) := by decide +kernel
theorem dX0_heldByAll_6 : decode cX0_heldByAll 6 = .ok (.getfield 9, 3) := by decide +kernel
theorem dX0_heldByAll_9 : decode cX0_heldByAll 9 = .ok (.if_icmp .ge 17, 3) := by decide +kernel
theorem dX0_heldByAll_12 : decode cX0_heldByAll 12 = .ok (.lload_n 1, 1) := by decide +kernel
theorem dX0_heldByAll_13 : decode cX0_heldByAll 13 = .ok (.aload_n 0, 1) := by decide +kernel
theorem dX0_heldByAll_14 : decode cX0_heldByAll 14 = .ok (.iload_n 3, 1) := by decide +kernel
theorem dX0_heldByAll_15 : decode cX0_heldByAll 15 = .ok (.invokevirtual 41, 3) := by decide +kernel
theorem dX0_heldByAll_18 : decode cX0_heldByAll 18 = .ok (.ladd, 1) := by decide +kernel
theorem dX0_heldByAll_19 : decode cX0_heldByAll 19 = .ok (.lstore_n 1, 1) := by decide +kernel
theorem dX0_heldByAll_20 : decode cX0_heldByAll 20 = .ok (.iinc 3 1, 3) := by decide +kernel
theorem dX0_heldByAll_23 : decode cX0_heldByAll 23 = .ok (.goto (-19), 3) := by decide +kernel
theorem dX0_heldByAll_26 : decode cX0_heldByAll 26 = .ok (.lload_n 1, 1) := by decide +kernel
theorem dX0_heldByAll_27 : decode cX0_heldByAll 27 = .ok (.lreturn, 1) := by decide +kernel
theorem dX0_withUnits_0 : decode cX0_withUnits 0 = .ok (.iconst 0, 1) := by decide +kernel
theorem dX0_withUnits_1 : decode cX0_withUnits 1 = .ok (.istore_n 1, 1) := by decide +kernel
theorem dX0_withUnits_2 : decode cX0_withUnits 2 = .ok (.iconst 0, 1) := by decide +kernel
theorem dX0_withUnits_3 : decode cX0_withUnits 3 = .ok (.istore_n 2, 1) := by decide +kernel
theorem dX0_withUnits_4 : decode cX0_withUnits 4 = .ok (.iload_n 2, 1) := by decide +kernel
theorem dX0_withUnits_5 : decode cX0_withUnits 5 = .ok (.aload_n 0, 1) := by decide +kernel
theorem dX0_withUnits_6 : decode cX0_withUnits 6 = .ok (.getfield 9, 3) := by decide +kernel
theorem dX0_withUnits_9 : decode cX0_withUnits 9 = .ok (.if_icmp .ge 21, 3) := by decide +kernel
theorem dX0_withUnits_12 : decode cX0_withUnits 12 = .ok (.aload_n 0, 1) := by decide +kernel
theorem dX0_withUnits_13 : decode cX0_withUnits 13 = .ok (.getfield 26, 3) := by decide +kernel
theorem dX0_withUnits_16 : decode cX0_withUnits 16 = .ok (.iload_n 2, 1) := by decide +kernel
theorem dX0_withUnits_17 : decode cX0_withUnits 17 = .ok (.iaload, 1) := by decide +kernel
theorem dX0_withUnits_18 : decode cX0_withUnits 18 = .ok (.ifCond .le 6, 3) := by decide +kernel
theorem dX0_withUnits_21 : decode cX0_withUnits 21 = .ok (.iinc 1 1, 3) := by decide +kernel
theorem dX0_withUnits_24 : decode cX0_withUnits 24 = .ok (.iinc 2 1, 3) := by decide +kernel
theorem dX0_withUnits_27 : decode cX0_withUnits 27 = .ok (.goto (-23), 3) := by decide +kernel
theorem dX0_withUnits_30 : decode cX0_withUnits 30 = .ok (.iload_n 1, 1) := by decide +kernel
theorem dX0_withUnits_31 : decode cX0_withUnits 31 = .ok (.ireturn, 1) := by decide +kernel
theorem dX0_loaded_0 : decode cX0_loaded 0 = .ok (.iconst 0, 1) := by decide +kernel
theorem dX0_loaded_1 : decode cX0_loaded 1 = .ok (.istore_n 2, 1) := by decide +kernel
theorem dX0_loaded_2 : decode cX0_loaded 2 = .ok (.iconst 0, 1) := by decide +kernel
theorem dX0_loaded_3 : decode cX0_loaded 3 = .ok (.istore_n 3, 1) := by decide +kernel
theorem dX0_loaded_4 : decode cX0_loaded 4 = .ok (.iload_n 3, 1) := by decide +kernel
theorem dX0_loaded_5 : decode cX0_loaded 5 = .ok (.aload_n 0, 1) := by decide +kernel
theorem dX0_loaded_6 : decode cX0_loaded 6 = .ok (.getfield 9, 3) := by decide +kernel
theorem dX0_loaded_9 : decode cX0_loaded 9 = .ok (.if_icmp .ge 28, 3) := by decide +kernel
theorem dX0_loaded_12 : decode cX0_loaded 12 = .ok (.aload_n 0, 1) := by decide +kernel
theorem dX0_loaded_13 : decode cX0_loaded 13 = .ok (.getfield 19, 3) := by decide +kernel
theorem dX0_loaded_16 : decode cX0_loaded 16 = .ok (.iload_n 3, 1) := by decide +kernel
theorem dX0_loaded_17 : decode cX0_loaded 17 = .ok (.iaload, 1) := by decide +kernel
theorem dX0_loaded_18 : decode cX0_loaded 18 = .ok (.iload_n 1, 1) := by decide +kernel
theorem dX0_loaded_19 : decode cX0_loaded 19 = .ok (.if_icmp .ne 12, 3) := by decide +kernel
theorem dX0_loaded_22 : decode cX0_loaded 22 = .ok (.iload_n 2, 1) := by decide +kernel
theorem dX0_loaded_23 : decode cX0_loaded 23 = .ok (.aload_n 0, 1) := by decide +kernel
theorem dX0_loaded_24 : decode cX0_loaded 24 = .ok (.getfield 23, 3) := by decide +kernel
theorem dX0_loaded_27 : decode cX0_loaded 27 = .ok (.iload_n 3, 1) := by decide +kernel
theorem dX0_loaded_28 : decode cX0_loaded 28 = .ok (.iaload, 1) := by decide +kernel
theorem dX0_loaded_29 : decode cX0_loaded 29 = .ok (.iadd, 1) := by decide +kernel
theorem dX0_loaded_30 : decode cX0_loaded 30 = .ok (.istore_n 2, 1) := by decide +kernel
theorem dX0_loaded_31 : decode cX0_loaded 31 = .ok (.iinc 3 1, 3) := by decide +kernel
theorem dX0_loaded_34 : decode cX0_loaded 34 = .ok (.goto (-30), 3) := by decide +kernel
theorem dX0_loaded_37 : decode cX0_loaded 37 = .ok (.iload_n 2, 1) := by decide +kernel
theorem dX0_loaded_38 : decode cX0_loaded 38 = .ok (.ireturn, 1) := by decide +kernel
theorem dX0_leftOf_0 : decode cX0_leftOf 0 = .ok (.iconst 0, 1) := by decide +kernel
theorem dX0_leftOf_1 : decode cX0_leftOf 1 = .ok (.istore_n 2, 1) := by decide +kernel
theorem dX0_leftOf_2 : decode cX0_leftOf 2 = .ok (.iconst 0, 1) := by decide +kernel
theorem dX0_leftOf_3 : decode cX0_leftOf 3 = .ok (.istore_n 3, 1) := by decide +kernel
theorem dX0_leftOf_4 : decode cX0_leftOf 4 = .ok (.iload_n 3, 1) := by decide +kernel
theorem dX0_leftOf_5 : decode cX0_leftOf 5 = .ok (.aload_n 0, 1) := by decide +kernel
theorem dX0_leftOf_6 : decode cX0_leftOf 6 = .ok (.getfield 9, 3) := by decide +kernel
theorem dX0_leftOf_9 : decode cX0_leftOf 9 = .ok (.if_icmp .ge 28, 3) := by decide +kernel
theorem dX0_leftOf_12 : decode cX0_leftOf 12 = .ok (.aload_n 0, 1) := by decide +kernel
theorem dX0_leftOf_13 : decode cX0_leftOf 13 = .ok (.getfield 19, 3) := by decide +kernel
theorem dX0_leftOf_16 : decode cX0_leftOf 16 = .ok (.iload_n 3, 1) := by decide +kernel
theorem dX0_leftOf_17 : decode cX0_leftOf 17 = .ok (.iaload, 1) := by decide +kernel
theorem dX0_leftOf_18 : decode cX0_leftOf 18 = .ok (.iload_n 1, 1) := by decide +kernel
theorem dX0_leftOf_19 : decode cX0_leftOf 19 = .ok (.if_icmp .ne 12, 3) := by decide +kernel
theorem dX0_leftOf_22 : decode cX0_leftOf 22 = .ok (.iload_n 2, 1) := by decide +kernel
theorem dX0_leftOf_23 : decode cX0_leftOf 23 = .ok (.aload_n 0, 1) := by decide +kernel
theorem dX0_leftOf_24 : decode cX0_leftOf 24 = .ok (.getfield 26, 3) := by decide +kernel
theorem dX0_leftOf_27 : decode cX0_leftOf 27 = .ok (.iload_n 3, 1) := by decide +kernel
theorem dX0_leftOf_28 : decode cX0_leftOf 28 = .ok (.iaload, 1) := by decide +kernel
theorem dX0_leftOf_29 : decode cX0_leftOf 29 = .ok (.iadd, 1) := by decide +kernel
theorem dX0_leftOf_30 : decode cX0_leftOf 30 = .ok (.istore_n 2, 1) := by decide +kernel
theorem dX0_leftOf_31 : decode cX0_leftOf 31 = .ok (.iinc 3 1, 3) := by decide +kernel
theorem dX0_leftOf_34 : decode cX0_leftOf 34 = .ok (.goto (-30), 3) := by decide +kernel
theorem dX0_leftOf_37 : decode cX0_leftOf 37 = .ok (.iload_n 2, 1) := by decide +kernel
theorem dX0_leftOf_38 : decode cX0_leftOf 38 = .ok (.ireturn, 1) := by decide +kernel
theorem dX0_nextAfter_0 : decode cX0_nextAfter 0 = .ok (.iload_n 2, 1) := by decide +kernel
theorem dX0_nextAfter_1 : decode cX0_nextAfter 1 = .ok (.iconst (-1), 1) := by decide +kernel
theorem dX0_nextAfter_2 : decode cX0_nextAfter 2 = .ok (.if_icmp .ne 7, 3) := by decide +kernel
theorem dX0_nextAfter_5 : decode cX0_nextAfter 5 = .ok (.iconst (-1), 1) := by decide +kernel
theorem dX0_nextAfter_6 : decode cX0_nextAfter 6 = .ok (.goto 14, 3) := by decide +kernel
theorem dX0_nextAfter_9 : decode cX0_nextAfter 9 = .ok (.aload_n 0, 1) := by decide +kernel
theorem dX0_nextAfter_10 : decode cX0_nextAfter 10 = .ok (.getfield 32, 3) := by decide +kernel
theorem dX0_nextAfter_13 : decode cX0_nextAfter 13 = .ok (.iload_n 2, 1) := by decide +kernel
theorem dX0_nextAfter_14 : decode cX0_nextAfter 14 = .ok (.iaload, 1) := by decide +kernel
theorem dX0_nextAfter_15 : decode cX0_nextAfter 15 = .ok (.bipush 60, 2) := by decide +kernel
theorem dX0_nextAfter_17 : decode cX0_nextAfter 17 = .ok (.imul, 1) := by decide +kernel
theorem dX0_nextAfter_18 : decode cX0_nextAfter 18 = .ok (.iload_n 2, 1) := by decide +kernel
theorem dX0_nextAfter_19 : decode cX0_nextAfter 19 = .ok (.iadd, 1) := by decide +kernel
theorem dX0_nextAfter_20 : decode cX0_nextAfter 20 = .ok (.istore_n 3, 1) := by decide +kernel
theorem dX0_nextAfter_21 : decode cX0_nextAfter 21 = .ok (.iconst (-1), 1) := by decide +kernel
theorem dX0_nextAfter_22 : decode cX0_nextAfter 22 = .ok (.istore 4, 2) := by decide +kernel
theorem dX0_nextAfter_24 : decode cX0_nextAfter 24 = .ok (.iconst (-1), 1) := by decide +kernel
theorem dX0_nextAfter_25 : decode cX0_nextAfter 25 = .ok (.istore 5, 2) := by decide +kernel
theorem dX0_nextAfter_27 : decode cX0_nextAfter 27 = .ok (.iconst 0, 1) := by decide +kernel
theorem dX0_nextAfter_28 : decode cX0_nextAfter 28 = .ok (.istore 6, 2) := by decide +kernel
theorem dX0_nextAfter_30 : decode cX0_nextAfter 30 = .ok (.iload 6, 2) := by decide +kernel
theorem dX0_nextAfter_32 : decode cX0_nextAfter 32 = .ok (.aload_n 0, 1) := by decide +kernel
theorem dX0_nextAfter_33 : decode cX0_nextAfter 33 = .ok (.getfield 9, 3) := by decide +kernel
theorem dX0_nextAfter_36 : decode cX0_nextAfter 36 = .ok (.if_icmp .ge 89, 3) := by decide +kernel
theorem dX0_nextAfter_39 : decode cX0_nextAfter 39 = .ok (.aload_n 0, 1) := by decide +kernel
theorem dX0_nextAfter_40 : decode cX0_nextAfter 40 = .ok (.getfield 32, 3) := by decide +kernel
theorem dX0_nextAfter_43 : decode cX0_nextAfter 43 = .ok (.iload 6, 2) := by decide +kernel
theorem dX0_nextAfter_45 : decode cX0_nextAfter 45 = .ok (.iaload, 1) := by decide +kernel
theorem dX0_nextAfter_46 : decode cX0_nextAfter 46 = .ok (.bipush 60, 2) := by decide +kernel
theorem dX0_nextAfter_48 : decode cX0_nextAfter 48 = .ok (.imul, 1) := by decide +kernel
theorem dX0_nextAfter_49 : decode cX0_nextAfter 49 = .ok (.iload 6, 2) := by decide +kernel
theorem dX0_nextAfter_51 : decode cX0_nextAfter 51 = .ok (.iadd, 1) := by decide +kernel
theorem dX0_nextAfter_52 : decode cX0_nextAfter 52 = .ok (.istore 7, 2) := by decide +kernel
theorem dX0_nextAfter_54 : decode cX0_nextAfter 54 = .ok (.aload_n 0, 1) := by decide +kernel
theorem dX0_nextAfter_55 : decode cX0_nextAfter 55 = .ok (.getfield 26, 3) := by decide +kernel
theorem dX0_nextAfter_58 : decode cX0_nextAfter 58 = .ok (.iload 6, 2) := by decide +kernel
theorem dX0_nextAfter_60 : decode cX0_nextAfter 60 = .ok (.iaload, 1) := by decide +kernel
theorem dX0_nextAfter_61 : decode cX0_nextAfter 61 = .ok (.ifCond .le 23, 3) := by decide +kernel
theorem dX0_nextAfter_64 : decode cX0_nextAfter 64 = .ok (.iload_n 1, 1) := by decide +kernel
theorem dX0_nextAfter_65 : decode cX0_nextAfter 65 = .ok (.iconst (-1), 1) := by decide +kernel
theorem dX0_nextAfter_66 : decode cX0_nextAfter 66 = .ok (.if_icmp .eq 14, 3) := by decide +kernel
theorem dX0_nextAfter_69 : decode cX0_nextAfter 69 = .ok (.aload_n 0, 1) := by decide +kernel
theorem dX0_nextAfter_70 : decode cX0_nextAfter 70 = .ok (.getfield 19, 3) := by decide +kernel
theorem dX0_nextAfter_73 : decode cX0_nextAfter 73 = .ok (.iload 6, 2) := by decide +kernel
theorem dX0_nextAfter_75 : decode cX0_nextAfter 75 = .ok (.iaload, 1) := by decide +kernel
theorem dX0_nextAfter_76 : decode cX0_nextAfter 76 = .ok (.iload_n 1, 1) := by decide +kernel
theorem dX0_nextAfter_77 : decode cX0_nextAfter 77 = .ok (.if_icmp .ne 7, 3) := by decide +kernel
theorem dX0_nextAfter_80 : decode cX0_nextAfter 80 = .ok (.iconst 1, 1) := by decide +kernel
theorem dX0_nextAfter_81 : decode cX0_nextAfter 81 = .ok (.goto 4, 3) := by decide +kernel
theorem dX0_nextAfter_84 : decode cX0_nextAfter 84 = .ok (.iconst 0, 1) := by decide +kernel
theorem dX0_nextAfter_85 : decode cX0_nextAfter 85 = .ok (.istore 8, 2) := by decide +kernel
theorem dX0_nextAfter_87 : decode cX0_nextAfter 87 = .ok (.iload 8, 2) := by decide +kernel
theorem dX0_nextAfter_89 : decode cX0_nextAfter 89 = .ok (.ifCond .eq 30, 3) := by decide +kernel
theorem dX0_nextAfter_92 : decode cX0_nextAfter 92 = .ok (.iload 7, 2) := by decide +kernel
theorem dX0_nextAfter_94 : decode cX0_nextAfter 94 = .ok (.iload_n 3, 1) := by decide +kernel
theorem dX0_nextAfter_95 : decode cX0_nextAfter 95 = .ok (.if_icmp .le 24, 3) := by decide +kernel
theorem dX0_nextAfter_98 : decode cX0_nextAfter 98 = .ok (.iload 4, 2) := by decide +kernel
theorem dX0_nextAfter_100 : decode cX0_nextAfter 100 = .ok (.iconst (-1), 1) := by decide +kernel
theorem dX0_nextAfter_101 : decode cX0_nextAfter 101 = .ok (.if_icmp .eq 10, 3) := by decide +kernel
theorem dX0_nextAfter_104 : decode cX0_nextAfter 104 = .ok (.iload 7, 2) := by decide +kernel
theorem dX0_nextAfter_106 : decode cX0_nextAfter 106 = .ok (.iload 5, 2) := by decide +kernel
theorem dX0_nextAfter_108 : decode cX0_nextAfter 108 = .ok (.if_icmp .ge 11, 3) := by decide +kernel
theorem dX0_nextAfter_111 : decode cX0_nextAfter 111 = .ok (.iload 6, 2) := by decide +kernel
theorem dX0_nextAfter_113 : decode cX0_nextAfter 113 = .ok (.istore 4, 2) := by decide +kernel
theorem dX0_nextAfter_115 : decode cX0_nextAfter 115 = .ok (.iload 7, 2) := by decide +kernel
theorem dX0_nextAfter_117 : decode cX0_nextAfter 117 = .ok (.istore 5, 2) := by decide +kernel
theorem dX0_nextAfter_119 : decode cX0_nextAfter 119 = .ok (.iinc 6 1, 3) := by decide +kernel
theorem dX0_nextAfter_122 : decode cX0_nextAfter 122 = .ok (.goto (-92), 3) := by decide +kernel
theorem dX0_nextAfter_125 : decode cX0_nextAfter 125 = .ok (.iload 4, 2) := by decide +kernel
theorem dX0_nextAfter_127 : decode cX0_nextAfter 127 = .ok (.ireturn, 1) := by decide +kernel
theorem dX0_amountOf_0 : decode cX0_amountOf 0 = .ok (.lconst 0, 1) := by decide +kernel
theorem dX0_amountOf_1 : decode cX0_amountOf 1 = .ok (.lstore 4, 2) := by decide +kernel
theorem dX0_amountOf_3 : decode cX0_amountOf 3 = .ok (.iload_n 2, 1) := by decide +kernel
theorem dX0_amountOf_4 : decode cX0_amountOf 4 = .ok (.istore 6, 2) := by decide +kernel
theorem dX0_amountOf_6 : decode cX0_amountOf 6 = .ok (.iconst (-1), 1) := by decide +kernel
theorem dX0_amountOf_7 : decode cX0_amountOf 7 = .ok (.istore 7, 2) := by decide +kernel
theorem dX0_amountOf_9 : decode cX0_amountOf 9 = .ok (.iconst 0, 1) := by decide +kernel
theorem dX0_amountOf_10 : decode cX0_amountOf 10 = .ok (.istore 8, 2) := by decide +kernel
theorem dX0_amountOf_12 : decode cX0_amountOf 12 = .ok (.iload 8, 2) := by decide +kernel
theorem dX0_amountOf_14 : decode cX0_amountOf 14 = .ok (.aload_n 0, 1) := by decide +kernel
theorem dX0_amountOf_15 : decode cX0_amountOf 15 = .ok (.getfield 9, 3) := by decide +kernel
theorem dX0_amountOf_18 : decode cX0_amountOf 18 = .ok (.if_icmp .ge 86, 3) := by decide +kernel
theorem dX0_amountOf_21 : decode cX0_amountOf 21 = .ok (.iload 6, 2) := by decide +kernel
theorem dX0_amountOf_23 : decode cX0_amountOf 23 = .ok (.ifCond .le 81, 3) := by decide +kernel
theorem dX0_amountOf_26 : decode cX0_amountOf 26 = .ok (.aload_n 0, 1) := by decide +kernel
theorem dX0_amountOf_27 : decode cX0_amountOf 27 = .ok (.iload_n 1, 1) := by decide +kernel
theorem dX0_amountOf_28 : decode cX0_amountOf 28 = .ok (.iload 7, 2) := by decide +kernel
theorem dX0_amountOf_30 : decode cX0_amountOf 30 = .ok (.invokevirtual 45, 3) := by decide +kernel
theorem dX0_amountOf_33 : decode cX0_amountOf 33 = .ok (.istore 7, 2) := by decide +kernel
theorem dX0_amountOf_35 : decode cX0_amountOf 35 = .ok (.iload 7, 2) := by decide +kernel
theorem dX0_amountOf_37 : decode cX0_amountOf 37 = .ok (.iconst (-1), 1) := by decide +kernel
theorem dX0_amountOf_38 : decode cX0_amountOf 38 = .ok (.if_icmp .ne 6, 3) := by decide +kernel
theorem dX0_amountOf_41 : decode cX0_amountOf 41 = .ok (.goto 63, 3) := by decide +kernel
theorem dX0_amountOf_44 : decode cX0_amountOf 44 = .ok (.iload 6, 2) := by decide +kernel
theorem dX0_amountOf_46 : decode cX0_amountOf 46 = .ok (.aload_n 0, 1) := by decide +kernel
theorem dX0_amountOf_47 : decode cX0_amountOf 47 = .ok (.getfield 26, 3) := by decide +kernel
theorem dX0_amountOf_50 : decode cX0_amountOf 50 = .ok (.iload 7, 2) := by decide +kernel
theorem dX0_amountOf_52 : decode cX0_amountOf 52 = .ok (.iaload, 1) := by decide +kernel
theorem dX0_amountOf_53 : decode cX0_amountOf 53 = .ok (.invokestatic 49, 3) := by decide +kernel
theorem dX0_amountOf_56 : decode cX0_amountOf 56 = .ok (.istore 9, 2) := by decide +kernel
theorem dX0_amountOf_58 : decode cX0_amountOf 58 = .ok (.lload 4, 2) := by decide +kernel
theorem dX0_amountOf_60 : decode cX0_amountOf 60 = .ok (.iload 9, 2) := by decide +kernel
theorem dX0_amountOf_62 : decode cX0_amountOf 62 = .ok (.i2l, 1) := by decide +kernel
theorem dX0_amountOf_63 : decode cX0_amountOf 63 = .ok (.aload_n 0, 1) := by decide +kernel
theorem dX0_amountOf_64 : decode cX0_amountOf 64 = .ok (.getfield 29, 3) := by decide +kernel
theorem dX0_amountOf_67 : decode cX0_amountOf 67 = .ok (.iload 7, 2) := by decide +kernel
theorem dX0_amountOf_69 : decode cX0_amountOf 69 = .ok (.iaload, 1) := by decide +kernel
theorem dX0_amountOf_70 : decode cX0_amountOf 70 = .ok (.i2l, 1) := by decide +kernel
theorem dX0_amountOf_71 : decode cX0_amountOf 71 = .ok (.lmul, 1) := by decide +kernel
theorem dX0_amountOf_72 : decode cX0_amountOf 72 = .ok (.ladd, 1) := by decide +kernel
theorem dX0_amountOf_73 : decode cX0_amountOf 73 = .ok (.lstore 4, 2) := by decide +kernel
theorem dX0_amountOf_75 : decode cX0_amountOf 75 = .ok (.iload 6, 2) := by decide +kernel
theorem dX0_amountOf_77 : decode cX0_amountOf 77 = .ok (.iload 9, 2) := by decide +kernel
theorem dX0_amountOf_79 : decode cX0_amountOf 79 = .ok (.isub, 1) := by decide +kernel
theorem dX0_amountOf_80 : decode cX0_amountOf 80 = .ok (.istore 6, 2) := by decide +kernel
theorem dX0_amountOf_82 : decode cX0_amountOf 82 = .ok (.iload_n 3, 1) := by decide +kernel
theorem dX0_amountOf_83 : decode cX0_amountOf 83 = .ok (.ifCond .eq 15, 3) := by decide +kernel
theorem dX0_amountOf_86 : decode cX0_amountOf 86 = .ok (.aload_n 0, 1) := by decide +kernel
theorem dX0_amountOf_87 : decode cX0_amountOf 87 = .ok (.getfield 26, 3) := by decide +kernel
theorem dX0_amountOf_90 : decode cX0_amountOf 90 = .ok (.iload 7, 2) := by decide +kernel
theorem dX0_amountOf_92 : decode cX0_amountOf 92 = .ok (.dup2, 1) := by decide +kernel
theorem dX0_amountOf_93 : decode cX0_amountOf 93 = .ok (.iaload, 1) := by decide +kernel
theorem dX0_amountOf_94 : decode cX0_amountOf 94 = .ok (.iload 9, 2) := by decide +kernel
theorem dX0_amountOf_96 : decode cX0_amountOf 96 = .ok (.isub, 1) := by decide +kernel
theorem dX0_amountOf_97 : decode cX0_amountOf 97 = .ok (.iastore, 1) := by decide +kernel
theorem dX0_amountOf_98 : decode cX0_amountOf 98 = .ok (.iinc 8 1, 3) := by decide +kernel
theorem dX0_amountOf_101 : decode cX0_amountOf 101 = .ok (.goto (-89), 3) := by decide +kernel
theorem dX0_amountOf_104 : decode cX0_amountOf 104 = .ok (.lload 4, 2) := by decide +kernel
theorem dX0_amountOf_106 : decode cX0_amountOf 106 = .ok (.lreturn, 1) := by decide +kernel
theorem dX1_init_0 : decode cX1_init 0 = .ok (.aload_n 0, 1) := by decide +kernel
theorem dX1_init_1 : decode cX1_init 1 = .ok (.invokespecial 3, 3) := by decide +kernel
theorem dX1_init_4 : decode cX1_init 4 = .ok (.aload_n 0, 1) := by decide +kernel
theorem dX1_init_5 : decode cX1_init 5 = .ok (.iconst 0, 1) := by decide +kernel
theorem dX1_init_6 : decode cX1_init 6 = .ok (.putfield 9, 3) := by decide +kernel
theorem dX1_init_9 : decode cX1_init 9 = .ok (.aload_n 0, 1) := by decide +kernel
theorem dX1_init_10 : decode cX1_init 10 = .ok (.iconst 0, 1) := by decide +kernel
theorem dX1_init_11 : decode cX1_init 11 = .ok (.putfield 15, 3) := by decide +kernel
theorem dX1_init_14 : decode cX1_init 14 = .ok (.aload_n 0, 1) := by decide +kernel
theorem dX1_init_15 : decode cX1_init 15 = .ok (.iconst 5, 1) := by decide +kernel
theorem dX1_init_16 : decode cX1_init 16 = .ok (.anewarray 18, 3) := by decide +kernel
theorem dX1_init_19 : decode cX1_init 19 = .ok (.putfield 20, 3) := by decide +kernel
theorem dX1_init_22 : decode cX1_init 22 = .ok (.iconst 0, 1) := by decide +kernel
theorem dX1_init_23 : decode cX1_init 23 = .ok (.istore_n 1, 1) := by decide +kernel
theorem dX1_init_24 : decode cX1_init 24 = .ok (.iload_n 1, 1) := by decide +kernel
theorem dX1_init_25 : decode cX1_init 25 = .ok (.iconst 4, 1) := by decide +kernel
theorem dX1_init_26 : decode cX1_init 26 = .ok (.if_icmp .gt 22, 3) := by decide +kernel
theorem dX1_init_29 : decode cX1_init 29 = .ok (.aload_n 0, 1) := by decide +kernel
theorem dX1_init_30 : decode cX1_init 30 = .ok (.getfield 20, 3) := by decide +kernel
theorem dX1_init_33 : decode cX1_init 33 = .ok (.iload_n 1, 1) := by decide +kernel
theorem dX1_init_34 : decode cX1_init 34 = .ok (.new 18, 3) := by decide +kernel
theorem dX1_init_37 : decode cX1_init 37 = .ok (.dup, 1) := by decide +kernel
theorem dX1_init_38 : decode cX1_init 38 = .ok (.invokespecial 24, 3) := by decide +kernel
theorem dX1_init_41 : decode cX1_init 41 = .ok (.aastore, 1) := by decide +kernel
theorem dX1_init_42 : decode cX1_init 42 = .ok (.iinc 1 1, 3) := by decide +kernel
theorem dX1_init_45 : decode cX1_init 45 = .ok (.goto (-21), 3) := by decide +kernel
theorem dX1_init_48 : decode cX1_init 48 = .ok (.return_, 1) := by decide +kernel
theorem dX1_prepare_0 : decode cX1_prepare 0 = .ok (.aload_n 0, 1) := by decide +kernel
theorem dX1_prepare_1 : decode cX1_prepare 1 = .ok (.getfield 20, 3) := by decide +kernel
theorem dX1_prepare_4 : decode cX1_prepare 4 = .ok (.aload_n 0, 1) := by decide +kernel
theorem dX1_prepare_5 : decode cX1_prepare 5 = .ok (.invokevirtual 25, 3) := by decide +kernel
theorem dX1_prepare_8 : decode cX1_prepare 8 = .ok (.aaload, 1) := by decide +kernel
theorem dX1_prepare_9 : decode cX1_prepare 9 = .ok (.aload_n 1, 1) := by decide +kernel
theorem dX1_prepare_10 : decode cX1_prepare 10 = .ok (.invokevirtual 29, 3) := by decide +kernel
theorem dX1_prepare_13 : decode cX1_prepare 13 = .ok (.return_, 1) := by decide +kernel
theorem dX1_finish_0 : decode cX1_finish 0 = .ok (.iload_n 1, 1) := by decide +kernel
theorem dX1_finish_1 : decode cX1_finish 1 = .ok (.ifCond .lt 25, 3) := by decide +kernel
theorem dX1_finish_4 : decode cX1_finish 4 = .ok (.aload_n 0, 1) := by decide +kernel
theorem dX1_finish_5 : decode cX1_finish 5 = .ok (.aload_n 0, 1) := by decide +kernel
theorem dX1_finish_6 : decode cX1_finish 6 = .ok (.invokevirtual 25, 3) := by decide +kernel
theorem dX1_finish_9 : decode cX1_finish 9 = .ok (.putfield 15, 3) := by decide +kernel
theorem dX1_finish_12 : decode cX1_finish 12 = .ok (.aload_n 0, 1) := by decide +kernel
theorem dX1_finish_13 : decode cX1_finish 13 = .ok (.aload_n 0, 1) := by decide +kernel
theorem dX1_finish_14 : decode cX1_finish 14 = .ok (.getfield 9, 3) := by decide +kernel
theorem dX1_finish_17 : decode cX1_finish 17 = .ok (.iconst 1, 1) := by decide +kernel
theorem dX1_finish_18 : decode cX1_finish 18 = .ok (.iadd, 1) := by decide +kernel
theorem dX1_finish_19 : decode cX1_finish 19 = .ok (.iconst 4, 1) := by decide +kernel
theorem dX1_finish_20 : decode cX1_finish 20 = .ok (.invokestatic 33, 3) := by decide +kernel
theorem dX1_finish_23 : decode cX1_finish 23 = .ok (.putfield 9, 3) := by decide +kernel
theorem dX1_finish_26 : decode cX1_finish 26 = .ok (.iload_n 1, 1) := by decide +kernel
theorem dX1_finish_27 : decode cX1_finish 27 = .ok (.ireturn, 1) := by decide +kernel
theorem dX1_restore_0 : decode cX1_restore 0 = .ok (.aload_n 0, 1) := by decide +kernel
theorem dX1_restore_1 : decode cX1_restore 1 = .ok (.getfield 9, 3) := by decide +kernel
theorem dX1_restore_4 : decode cX1_restore 4 = .ok (.ifCond .ne 6, 3) := by decide +kernel
theorem dX1_restore_7 : decode cX1_restore 7 = .ok (.bipush (-2), 2) := by decide +kernel
theorem dX1_restore_9 : decode cX1_restore 9 = .ok (.ireturn, 1) := by decide +kernel
theorem dX1_restore_10 : decode cX1_restore 10 = .ok (.aload_n 1, 1) := by decide +kernel
theorem dX1_restore_11 : decode cX1_restore 11 = .ok (.aload_n 0, 1) := by decide +kernel
theorem dX1_restore_12 : decode cX1_restore 12 = .ok (.getfield 20, 3) := by decide +kernel
theorem dX1_restore_15 : decode cX1_restore 15 = .ok (.aload_n 0, 1) := by decide +kernel
theorem dX1_restore_16 : decode cX1_restore 16 = .ok (.getfield 15, 3) := by decide +kernel
theorem dX1_restore_19 : decode cX1_restore 19 = .ok (.aaload, 1) := by decide +kernel
theorem dX1_restore_20 : decode cX1_restore 20 = .ok (.invokevirtual 29, 3) := by decide +kernel
theorem dX1_restore_23 : decode cX1_restore 23 = .ok (.aload_n 0, 1) := by decide +kernel
theorem dX1_restore_24 : decode cX1_restore 24 = .ok (.aload_n 0, 1) := by decide +kernel
theorem dX1_restore_25 : decode cX1_restore 25 = .ok (.getfield 15, 3) := by decide +kernel
theorem dX1_restore_28 : decode cX1_restore 28 = .ok (.ifCond .le 12, 3) := by decide +kernel
theorem dX1_restore_31 : decode cX1_restore 31 = .ok (.aload_n 0, 1) := by decide +kernel
theorem dX1_restore_32 : decode cX1_restore 32 = .ok (.getfield 15, 3) := by decide +kernel
theorem dX1_restore_35 : decode cX1_restore 35 = .ok (.iconst 1, 1) := by decide +kernel
theorem dX1_restore_36 : decode cX1_restore 36 = .ok (.isub, 1) := by decide +kernel
theorem dX1_restore_37 : decode cX1_restore 37 = .ok (.goto 4, 3) := by decide +kernel
theorem dX1_restore_40 : decode cX1_restore 40 = .ok (.iconst 4, 1) := by decide +kernel
theorem dX1_restore_41 : decode cX1_restore 41 = .ok (.putfield 15, 3) := by decide +kernel
theorem dX1_restore_44 : decode cX1_restore 44 = .ok (.aload_n 0, 1) := by decide +kernel
theorem dX1_restore_45 : decode cX1_restore 45 = .ok (.dup, 1) := by decide +kernel
theorem dX1_restore_46 : decode cX1_restore 46 = .ok (.getfield 9, 3) := by decide +kernel
theorem dX1_restore_49 : decode cX1_restore 49 = .ok (.iconst 1, 1) := by decide +kernel
theorem dX1_restore_50 : decode cX1_restore 50 = .ok (.isub, 1) := by decide +kernel
theorem dX1_restore_51 : decode cX1_restore 51 = .ok (.putfield 9, 3) := by decide +kernel
theorem dX1_restore_54 : decode cX1_restore 54 = .ok (.aload_n 0, 1) := by decide +kernel
theorem dX1_restore_55 : decode cX1_restore 55 = .ok (.getfield 9, 3) := by decide +kernel
theorem dX1_restore_58 : decode cX1_restore 58 = .ok (.ireturn, 1) := by decide +kernel
theorem dX1_spare_0 : decode cX1_spare 0 = .ok (.aload_n 0, 1) := by decide +kernel
theorem dX1_spare_1 : decode cX1_spare 1 = .ok (.getfield 15, 3) := by decide +kernel
theorem dX1_spare_4 : decode cX1_spare 4 = .ok (.iconst 4, 1) := by decide +kernel
theorem dX1_spare_5 : decode cX1_spare 5 = .ok (.if_icmp .ge 12, 3) := by decide +kernel
theorem dX1_spare_8 : decode cX1_spare 8 = .ok (.aload_n 0, 1) := by decide +kernel
theorem dX1_spare_9 : decode cX1_spare 9 = .ok (.getfield 15, 3) := by decide +kernel
theorem dX1_spare_12 : decode cX1_spare 12 = .ok (.iconst 1, 1) := by decide +kernel
theorem dX1_spare_13 : decode cX1_spare 13 = .ok (.iadd, 1) := by decide +kernel
theorem dX1_spare_14 : decode cX1_spare 14 = .ok (.goto 4, 3) := by decide +kernel
theorem dX1_spare_17 : decode cX1_spare 17 = .ok (.iconst 0, 1) := by decide +kernel
theorem dX1_spare_18 : decode cX1_spare 18 = .ok (.ireturn, 1) := by decide +kernel
theorem dX2_init_0 : decode cX2_init 0 = .ok (.aload_n 0, 1) := by decide +kernel
theorem dX2_init_1 : decode cX2_init 1 = .ok (.invokespecial 3, 3) := by decide +kernel
theorem dX2_init_4 : decode cX2_init 4 = .ok (.aload_n 0, 1) := by decide +kernel
theorem dX2_init_5 : decode cX2_init 5 = .ok (.iconst 0, 1) := by decide +kernel
theorem dX2_init_6 : decode cX2_init 6 = .ok (.putfield 9, 3) := by decide +kernel
theorem dX2_init_9 : decode cX2_init 9 = .ok (.aload_n 0, 1) := by decide +kernel
theorem dX2_init_10 : decode cX2_init 10 = .ok (.iconst 5, 1) := by decide +kernel
theorem dX2_init_11 : decode cX2_init 11 = .ok (.newarray .int, 2) := by decide +kernel
theorem dX2_init_13 : decode cX2_init 13 = .ok (.putfield 15, 3) := by decide +kernel
theorem dX2_init_16 : decode cX2_init 16 = .ok (.aload_n 0, 1) := by decide +kernel
theorem dX2_init_17 : decode cX2_init 17 = .ok (.iconst 5, 1) := by decide +kernel
theorem dX2_init_18 : decode cX2_init 18 = .ok (.newarray .int, 2) := by decide +kernel
theorem dX2_init_20 : decode cX2_init 20 = .ok (.putfield 19, 3) := by decide +kernel
theorem dX2_init_23 : decode cX2_init 23 = .ok (.aload_n 0, 1) := by decide +kernel
theorem dX2_init_24 : decode cX2_init 24 = .ok (.bipush 40, 2) := by decide +kernel
theorem dX2_init_26 : decode cX2_init 26 = .ok (.newarray .int, 2) := by decide +kernel
theorem dX2_init_28 : decode cX2_init 28 = .ok (.putfield 22, 3) := by decide +kernel
theorem dX2_init_31 : decode cX2_init 31 = .ok (.aload_n 0, 1) := by decide +kernel
theorem dX2_init_32 : decode cX2_init 32 = .ok (.bipush 40, 2) := by decide +kernel
theorem dX2_init_34 : decode cX2_init 34 = .ok (.newarray .int, 2) := by decide +kernel
theorem dX2_init_36 : decode cX2_init 36 = .ok (.putfield 25, 3) := by decide +kernel
theorem dX2_init_39 : decode cX2_init 39 = .ok (.return_, 1) := by decide +kernel
theorem dX2_become_0 : decode cX2_become 0 = .ok (.aload_n 0, 1) := by decide +kernel
theorem dX2_become_1 : decode cX2_become 1 = .ok (.aload_n 1, 1) := by decide +kernel
theorem dX2_become_2 : decode cX2_become 2 = .ok (.getfield 9, 3) := by decide +kernel
theorem dX2_become_5 : decode cX2_become 5 = .ok (.putfield 9, 3) := by decide +kernel
theorem dX2_become_8 : decode cX2_become 8 = .ok (.aload_n 1, 1) := by decide +kernel
theorem dX2_become_9 : decode cX2_become 9 = .ok (.getfield 15, 3) := by decide +kernel
theorem dX2_become_12 : decode cX2_become 12 = .ok (.iconst 0, 1) := by decide +kernel
theorem dX2_become_13 : decode cX2_become 13 = .ok (.aload_n 0, 1) := by decide +kernel
theorem dX2_become_14 : decode cX2_become 14 = .ok (.getfield 15, 3) := by decide +kernel
theorem dX2_become_17 : decode cX2_become 17 = .ok (.iconst 0, 1) := by decide +kernel
theorem dX2_become_18 : decode cX2_become 18 = .ok (.iconst 5, 1) := by decide +kernel
theorem dX2_become_19 : decode cX2_become 19 = .ok (.invokestatic 28, 3) := by decide +kernel
theorem dX2_become_22 : decode cX2_become 22 = .ok (.aload_n 1, 1) := by decide +kernel
theorem dX2_become_23 : decode cX2_become 23 = .ok (.getfield 19, 3) := by decide +kernel
theorem dX2_become_26 : decode cX2_become 26 = .ok (.iconst 0, 1) := by decide +kernel
theorem dX2_become_27 : decode cX2_become 27 = .ok (.aload_n 0, 1) := by decide +kernel
theorem dX2_become_28 : decode cX2_become 28 = .ok (.getfield 19, 3) := by decide +kernel
theorem dX2_become_31 : decode cX2_become 31 = .ok (.iconst 0, 1) := by decide +kernel
theorem dX2_become_32 : decode cX2_become 32 = .ok (.iconst 5, 1) := by decide +kernel
theorem dX2_become_33 : decode cX2_become 33 = .ok (.invokestatic 28, 3) := by decide +kernel
theorem dX2_become_36 : decode cX2_become 36 = .ok (.aload_n 1, 1) := by decide +kernel
theorem dX2_become_37 : decode cX2_become 37 = .ok (.getfield 22, 3) := by decide +kernel
theorem dX2_become_40 : decode cX2_become 40 = .ok (.iconst 0, 1) := by decide +kernel
theorem dX2_become_41 : decode cX2_become 41 = .ok (.aload_n 0, 1) := by decide +kernel
theorem dX2_become_42 : decode cX2_become 42 = .ok (.getfield 22, 3) := by decide +kernel
theorem dX2_become_45 : decode cX2_become 45 = .ok (.iconst 0, 1) := by decide +kernel
theorem dX2_become_46 : decode cX2_become 46 = .ok (.bipush 40, 2) := by decide +kernel
theorem dX2_become_48 : decode cX2_become 48 = .ok (.invokestatic 28, 3) := by decide +kernel
theorem dX2_become_51 : decode cX2_become 51 = .ok (.aload_n 1, 1) := by decide +kernel
theorem dX2_become_52 : decode cX2_become 52 = .ok (.getfield 25, 3) := by decide +kernel
theorem dX2_become_55 : decode cX2_become 55 = .ok (.iconst 0, 1) := by decide +kernel
theorem dX2_become_56 : decode cX2_become 56 = .ok (.aload_n 0, 1) := by decide +kernel
theorem dX2_become_57 : decode cX2_become 57 = .ok (.getfield 25, 3) := by decide +kernel
theorem dX2_become_60 : decode cX2_become 60 = .ok (.iconst 0, 1) := by decide +kernel
theorem dX2_become_61 : decode cX2_become 61 = .ok (.bipush 40, 2) := by decide +kernel
theorem dX2_become_63 : decode cX2_become 63 = .ok (.invokestatic 28, 3) := by decide +kernel
theorem dX2_become_66 : decode cX2_become 66 = .ok (.return_, 1) := by decide +kernel
theorem dX2_place_0 : decode cX2_place 0 = .ok (.iload_n 1, 1) := by decide +kernel
theorem dX2_place_1 : decode cX2_place 1 = .ok (.bipush 8, 2) := by decide +kernel
theorem dX2_place_3 : decode cX2_place 3 = .ok (.imul, 1) := by decide +kernel
theorem dX2_place_4 : decode cX2_place 4 = .ok (.iload_n 2, 1) := by decide +kernel
theorem dX2_place_5 : decode cX2_place 5 = .ok (.iadd, 1) := by decide +kernel
theorem dX2_place_6 : decode cX2_place 6 = .ok (.ireturn, 1) := by decide +kernel
theorem dX2_inState_0 : decode cX2_inState 0 = .ok (.iconst 0, 1) := by decide +kernel
theorem dX2_inState_1 : decode cX2_inState 1 = .ok (.istore_n 2, 1) := by decide +kernel
theorem dX2_inState_2 : decode cX2_inState 2 = .ok (.iconst 0, 1) := by decide +kernel
theorem dX2_inState_3 : decode cX2_inState 3 = .ok (.istore_n 3, 1) := by decide +kernel
theorem dX2_inState_4 : decode cX2_inState 4 = .ok (.iload_n 3, 1) := by decide +kernel
theorem dX2_inState_5 : decode cX2_inState 5 = .ok (.aload_n 0, 1) := by decide +kernel
theorem dX2_inState_6 : decode cX2_inState 6 = .ok (.getfield 9, 3) := by decide +kernel
theorem dX2_inState_9 : decode cX2_inState 9 = .ok (.if_icmp .ge 22, 3) := by decide +kernel
theorem dX2_inState_12 : decode cX2_inState 12 = .ok (.aload_n 0, 1) := by decide +kernel
theorem dX2_inState_13 : decode cX2_inState 13 = .ok (.getfield 15, 3) := by decide +kernel
theorem dX2_inState_16 : decode cX2_inState 16 = .ok (.iload_n 3, 1) := by decide +kernel
theorem dX2_inState_17 : decode cX2_inState 17 = .ok (.iaload, 1) := by decide +kernel
theorem dX2_inState_18 : decode cX2_inState 18 = .ok (.iload_n 1, 1) := by decide +kernel
theorem dX2_inState_19 : decode cX2_inState 19 = .ok (.if_icmp .ne 6, 3) := by decide +kernel
theorem dX2_inState_22 : decode cX2_inState 22 = .ok (.iinc 2 1, 3) := by decide +kernel
theorem dX2_inState_25 : decode cX2_inState 25 = .ok (.iinc 3 1, 3) := by decide +kernel
theorem dX2_inState_28 : decode cX2_inState 28 = .ok (.goto (-24), 3) := by decide +kernel
theorem dX2_inState_31 : decode cX2_inState 31 = .ok (.iload_n 2, 1) := by decide +kernel
theorem dX2_inState_32 : decode cX2_inState 32 = .ok (.ireturn, 1) := by decide +kernel
theorem dX2_sumOfLocker_0 : decode cX2_sumOfLocker 0 = .ok (.iconst 0, 1) := by decide +kernel
theorem dX2_sumOfLocker_1 : decode cX2_sumOfLocker 1 = .ok (.istore_n 3, 1) := by decide +kernel
theorem dX2_sumOfLocker_2 : decode cX2_sumOfLocker 2 = .ok (.iconst 0, 1) := by decide +kernel
theorem dX2_sumOfLocker_3 : decode cX2_sumOfLocker 3 = .ok (.istore 4, 2) := by decide +kernel
theorem dX2_sumOfLocker_5 : decode cX2_sumOfLocker 5 = .ok (.iload 4, 2) := by decide +kernel
theorem dX2_sumOfLocker_7 : decode cX2_sumOfLocker 7 = .ok (.bipush 8, 2) := by decide +kernel
theorem dX2_sumOfLocker_9 : decode cX2_sumOfLocker 9 = .ok (.if_icmp .ge 21, 3) := by decide +kernel
theorem dX2_sumOfLocker_12 : decode cX2_sumOfLocker 12 = .ok (.iload_n 3, 1) := by decide +kernel
theorem dX2_sumOfLocker_13 : decode cX2_sumOfLocker 13 = .ok (.aload_n 1, 1) := by decide +kernel
theorem dX2_sumOfLocker_14 : decode cX2_sumOfLocker 14 = .ok (.aload_n 0, 1) := by decide +kernel
theorem dX2_sumOfLocker_15 : decode cX2_sumOfLocker 15 = .ok (.iload_n 2, 1) := by decide +kernel
theorem dX2_sumOfLocker_16 : decode cX2_sumOfLocker 16 = .ok (.iload 4, 2) := by decide +kernel
theorem dX2_sumOfLocker_18 : decode cX2_sumOfLocker 18 = .ok (.invokevirtual 34, 3) := by decide +kernel
theorem dX2_sumOfLocker_21 : decode cX2_sumOfLocker 21 = .ok (.iaload, 1) := by decide +kernel
theorem dX2_sumOfLocker_22 : decode cX2_sumOfLocker 22 = .ok (.iadd, 1) := by decide +kernel
theorem dX2_sumOfLocker_23 : decode cX2_sumOfLocker 23 = .ok (.istore_n 3, 1) := by decide +kernel
theorem dX2_sumOfLocker_24 : decode cX2_sumOfLocker 24 = .ok (.iinc 4 1, 3) := by decide +kernel
theorem dX2_sumOfLocker_27 : decode cX2_sumOfLocker 27 = .ok (.goto (-22), 3) := by decide +kernel
theorem dX2_sumOfLocker_30 : decode cX2_sumOfLocker 30 = .ok (.iload_n 3, 1) := by decide +kernel
theorem dX2_sumOfLocker_31 : decode cX2_sumOfLocker 31 = .ok (.ireturn, 1) := by decide +kernel
theorem dX2_sumOfGood_0 : decode cX2_sumOfGood 0 = .ok (.iconst 0, 1) := by decide +kernel
theorem dX2_sumOfGood_1 : decode cX2_sumOfGood 1 = .ok (.istore_n 3, 1) := by decide +kernel
theorem dX2_sumOfGood_2 : decode cX2_sumOfGood 2 = .ok (.iconst 0, 1) := by decide +kernel
theorem dX2_sumOfGood_3 : decode cX2_sumOfGood 3 = .ok (.istore 4, 2) := by decide +kernel
theorem dX2_sumOfGood_5 : decode cX2_sumOfGood 5 = .ok (.iload 4, 2) := by decide +kernel
theorem dX2_sumOfGood_7 : decode cX2_sumOfGood 7 = .ok (.aload_n 0, 1) := by decide +kernel
theorem dX2_sumOfGood_8 : decode cX2_sumOfGood 8 = .ok (.getfield 9, 3) := by decide +kernel
theorem dX2_sumOfGood_11 : decode cX2_sumOfGood 11 = .ok (.if_icmp .ge 21, 3) := by decide +kernel
theorem dX2_sumOfGood_14 : decode cX2_sumOfGood 14 = .ok (.iload_n 3, 1) := by decide +kernel
theorem dX2_sumOfGood_15 : decode cX2_sumOfGood 15 = .ok (.aload_n 1, 1) := by decide +kernel
theorem dX2_sumOfGood_16 : decode cX2_sumOfGood 16 = .ok (.aload_n 0, 1) := by decide +kernel
theorem dX2_sumOfGood_17 : decode cX2_sumOfGood 17 = .ok (.iload 4, 2) := by decide +kernel
theorem dX2_sumOfGood_19 : decode cX2_sumOfGood 19 = .ok (.iload_n 2, 1) := by decide +kernel
theorem dX2_sumOfGood_20 : decode cX2_sumOfGood 20 = .ok (.invokevirtual 34, 3) := by decide +kernel
theorem dX2_sumOfGood_23 : decode cX2_sumOfGood 23 = .ok (.iaload, 1) := by decide +kernel
theorem dX2_sumOfGood_24 : decode cX2_sumOfGood 24 = .ok (.iadd, 1) := by decide +kernel
theorem dX2_sumOfGood_25 : decode cX2_sumOfGood 25 = .ok (.istore_n 3, 1) := by decide +kernel
theorem dX2_sumOfGood_26 : decode cX2_sumOfGood 26 = .ok (.iinc 4 1, 3) := by decide +kernel
theorem dX2_sumOfGood_29 : decode cX2_sumOfGood 29 = .ok (.goto (-24), 3) := by decide +kernel
theorem dX2_sumOfGood_32 : decode cX2_sumOfGood 32 = .ok (.iload_n 3, 1) := by decide +kernel
theorem dX2_sumOfGood_33 : decode cX2_sumOfGood 33 = .ok (.ireturn, 1) := by decide +kernel
theorem dX2_takeFromAny_0 : decode cX2_takeFromAny 0 = .ok (.aload_n 0, 1) := by decide +kernel
theorem dX2_takeFromAny_1 : decode cX2_takeFromAny 1 = .ok (.aload_n 0, 1) := by decide +kernel
theorem dX2_takeFromAny_2 : decode cX2_takeFromAny 2 = .ok (.getfield 25, 3) := by decide +kernel
theorem dX2_takeFromAny_5 : decode cX2_takeFromAny 5 = .ok (.iload_n 1, 1) := by decide +kernel
theorem dX2_takeFromAny_6 : decode cX2_takeFromAny 6 = .ok (.iload_n 2, 1) := by decide +kernel
theorem dX2_takeFromAny_7 : decode cX2_takeFromAny 7 = .ok (.invokevirtual 38, 3) := by decide +kernel
theorem dX2_takeFromAny_10 : decode cX2_takeFromAny 10 = .ok (.istore_n 3, 1) := by decide +kernel
theorem dX2_takeFromAny_11 : decode cX2_takeFromAny 11 = .ok (.aload_n 0, 1) := by decide +kernel
theorem dX2_takeFromAny_12 : decode cX2_takeFromAny 12 = .ok (.aload_n 0, 1) := by decide +kernel
theorem dX2_takeFromAny_13 : decode cX2_takeFromAny 13 = .ok (.getfield 22, 3) := by decide +kernel
theorem dX2_takeFromAny_16 : decode cX2_takeFromAny 16 = .ok (.iload_n 1, 1) := by decide +kernel
theorem dX2_takeFromAny_17 : decode cX2_takeFromAny 17 = .ok (.iload_n 3, 1) := by decide +kernel
theorem dX2_takeFromAny_18 : decode cX2_takeFromAny 18 = .ok (.invokevirtual 38, 3) := by decide +kernel
theorem dX2_takeFromAny_21 : decode cX2_takeFromAny 21 = .ok (.pop, 1) := by decide +kernel
theorem dX2_takeFromAny_22 : decode cX2_takeFromAny 22 = .ok (.return_, 1) := by decide +kernel
theorem dX2_takeLowestFirst_0 : decode cX2_takeLowestFirst 0 = .ok (.iload_n 3, 1) := by decide +kernel
theorem dX2_takeLowestFirst_1 : decode cX2_takeLowestFirst 1 = .ok (.istore 4, 2) := by decide +kernel
theorem dX2_takeLowestFirst_3 : decode cX2_takeLowestFirst 3 = .ok (.iconst 0, 1) := by decide +kernel
theorem dX2_takeLowestFirst_4 : decode cX2_takeLowestFirst 4 = .ok (.istore 5, 2) := by decide +kernel
theorem dX2_takeLowestFirst_6 : decode cX2_takeLowestFirst 6 = .ok (.iload 5, 2) := by decide +kernel
theorem dX2_takeLowestFirst_8 : decode cX2_takeLowestFirst 8 = .ok (.aload_n 0, 1) := by decide +kernel
theorem dX2_takeLowestFirst_9 : decode cX2_takeLowestFirst 9 = .ok (.getfield 9, 3) := by decide +kernel
theorem dX2_takeLowestFirst_12 : decode cX2_takeLowestFirst 12 = .ok (.if_icmp .ge 45, 3) := by decide +kernel
theorem dX2_takeLowestFirst_15 : decode cX2_takeLowestFirst 15 = .ok (.aload_n 0, 1) := by decide +kernel
theorem dX2_takeLowestFirst_16 : decode cX2_takeLowestFirst 16 = .ok (.iload 5, 2) := by decide +kernel
theorem dX2_takeLowestFirst_18 : decode cX2_takeLowestFirst 18 = .ok (.iload_n 2, 1) := by decide +kernel
theorem dX2_takeLowestFirst_19 : decode cX2_takeLowestFirst 19 = .ok (.invokevirtual 34, 3) := by decide +kernel
theorem dX2_takeLowestFirst_22 : decode cX2_takeLowestFirst 22 = .ok (.istore 6, 2) := by decide +kernel
theorem dX2_takeLowestFirst_24 : decode cX2_takeLowestFirst 24 = .ok (.iload 4, 2) := by decide +kernel
theorem dX2_takeLowestFirst_26 : decode cX2_takeLowestFirst 26 = .ok (.aload_n 1, 1) := by decide +kernel
theorem dX2_takeLowestFirst_27 : decode cX2_takeLowestFirst 27 = .ok (.iload 6, 2) := by decide +kernel
theorem dX2_takeLowestFirst_29 : decode cX2_takeLowestFirst 29 = .ok (.iaload, 1) := by decide +kernel
theorem dX2_takeLowestFirst_30 : decode cX2_takeLowestFirst 30 = .ok (.invokestatic 42, 3) := by decide +kernel
theorem dX2_takeLowestFirst_33 : decode cX2_takeLowestFirst 33 = .ok (.istore 7, 2) := by decide +kernel
theorem dX2_takeLowestFirst_35 : decode cX2_takeLowestFirst 35 = .ok (.aload_n 1, 1) := by decide +kernel
theorem dX2_takeLowestFirst_36 : decode cX2_takeLowestFirst 36 = .ok (.iload 6, 2) := by decide +kernel
theorem dX2_takeLowestFirst_38 : decode cX2_takeLowestFirst 38 = .ok (.dup2, 1) := by decide +kernel
theorem dX2_takeLowestFirst_39 : decode cX2_takeLowestFirst 39 = .ok (.iaload, 1) := by decide +kernel
theorem dX2_takeLowestFirst_40 : decode cX2_takeLowestFirst 40 = .ok (.iload 7, 2) := by decide +kernel
theorem dX2_takeLowestFirst_42 : decode cX2_takeLowestFirst 42 = .ok (.isub, 1) := by decide +kernel
theorem dX2_takeLowestFirst_43 : decode cX2_takeLowestFirst 43 = .ok (.iastore, 1) := by decide +kernel
theorem dX2_takeLowestFirst_44 : decode cX2_takeLowestFirst 44 = .ok (.iload 4, 2) := by decide +kernel
theorem dX2_takeLowestFirst_46 : decode cX2_takeLowestFirst 46 = .ok (.iload 7, 2) := by decide +kernel
theorem dX2_takeLowestFirst_48 : decode cX2_takeLowestFirst 48 = .ok (.isub, 1) := by decide +kernel
theorem dX2_takeLowestFirst_49 : decode cX2_takeLowestFirst 49 = .ok (.istore 4, 2) := by decide +kernel
theorem dX2_takeLowestFirst_51 : decode cX2_takeLowestFirst 51 = .ok (.iinc 5 1, 3) := by decide +kernel
theorem dX2_takeLowestFirst_54 : decode cX2_takeLowestFirst 54 = .ok (.goto (-48), 3) := by decide +kernel
theorem dX2_takeLowestFirst_57 : decode cX2_takeLowestFirst 57 = .ok (.iload 4, 2) := by decide +kernel
theorem dX2_takeLowestFirst_59 : decode cX2_takeLowestFirst 59 = .ok (.ireturn, 1) := by decide +kernel
theorem dX3_init_0 : decode cX3_init 0 = .ok (.aload_n 0, 1) := by decide +kernel
theorem dX3_init_1 : decode cX3_init 1 = .ok (.invokespecial 3, 3) := by decide +kernel
theorem dX3_init_4 : decode cX3_init 4 = .ok (.aload_n 0, 1) := by decide +kernel
theorem dX3_init_5 : decode cX3_init 5 = .ok (.iconst 0, 1) := by decide +kernel
theorem dX3_init_6 : decode cX3_init 6 = .ok (.putfield 9, 3) := by decide +kernel
theorem dX3_init_9 : decode cX3_init 9 = .ok (.aload_n 0, 1) := by decide +kernel
theorem dX3_init_10 : decode cX3_init 10 = .ok (.iconst 4, 1) := by decide +kernel
theorem dX3_init_11 : decode cX3_init 11 = .ok (.newarray .int, 2) := by decide +kernel
theorem dX3_init_13 : decode cX3_init 13 = .ok (.putfield 15, 3) := by decide +kernel
theorem dX3_init_16 : decode cX3_init 16 = .ok (.aload_n 0, 1) := by decide +kernel
theorem dX3_init_17 : decode cX3_init 17 = .ok (.bipush 80, 2) := by decide +kernel
theorem dX3_init_19 : decode cX3_init 19 = .ok (.newarray .char, 2) := by decide +kernel
theorem dX3_init_21 : decode cX3_init 21 = .ok (.putfield 19, 3) := by decide +kernel
theorem dX3_init_24 : decode cX3_init 24 = .ok (.return_, 1) := by decide +kernel
theorem dX3_append_0 : decode cX3_append 0 = .ok (.iload_n 1, 1) := by decide +kernel
theorem dX3_append_1 : decode cX3_append 1 = .ok (.bipush 32, 2) := by decide +kernel
theorem dX3_append_3 : decode cX3_append 3 = .ok (.if_icmp .lt 9, 3) := by decide +kernel
theorem dX3_append_6 : decode cX3_append 6 = .ok (.iload_n 1, 1) := by decide +kernel
theorem dX3_append_7 : decode cX3_append 7 = .ok (.bipush 126, 2) := by decide +kernel
theorem dX3_append_9 : decode cX3_append 9 = .ok (.if_icmp .le 5, 3) := by decide +kernel
theorem dX3_append_12 : decode cX3_append 12 = .ok (.iconst (-1), 1) := by decide +kernel
theorem dX3_append_13 : decode cX3_append 13 = .ok (.ireturn, 1) := by decide +kernel
theorem dX3_append_14 : decode cX3_append 14 = .ok (.aload_n 0, 1) := by decide +kernel
theorem dX3_append_15 : decode cX3_append 15 = .ok (.getfield 9, 3) := by decide +kernel
theorem dX3_append_18 : decode cX3_append 18 = .ok (.bipush 80, 2) := by decide +kernel
theorem dX3_append_20 : decode cX3_append 20 = .ok (.if_icmp .lt 6, 3) := by decide +kernel
theorem dX3_append_23 : decode cX3_append 23 = .ok (.bipush (-3), 2) := by decide +kernel
theorem dX3_append_25 : decode cX3_append 25 = .ok (.ireturn, 1) := by decide +kernel
theorem dX3_append_26 : decode cX3_append 26 = .ok (.aload_n 0, 1) := by decide +kernel
theorem dX3_append_27 : decode cX3_append 27 = .ok (.getfield 19, 3) := by decide +kernel
theorem dX3_append_30 : decode cX3_append 30 = .ok (.aload_n 0, 1) := by decide +kernel
theorem dX3_append_31 : decode cX3_append 31 = .ok (.getfield 9, 3) := by decide +kernel
theorem dX3_append_34 : decode cX3_append 34 = .ok (.iload_n 1, 1) := by decide +kernel
theorem dX3_append_35 : decode cX3_append 35 = .ok (.i2c, 1) := by decide +kernel
theorem dX3_append_36 : decode cX3_append 36 = .ok (.castore, 1) := by decide +kernel
theorem dX3_append_37 : decode cX3_append 37 = .ok (.aload_n 0, 1) := by decide +kernel
theorem dX3_append_38 : decode cX3_append 38 = .ok (.dup, 1) := by decide +kernel
theorem dX3_append_39 : decode cX3_append 39 = .ok (.getfield 9, 3) := by decide +kernel
theorem dX3_append_42 : decode cX3_append 42 = .ok (.iconst 1, 1) := by decide +kernel
theorem dX3_append_43 : decode cX3_append 43 = .ok (.iadd, 1) := by decide +kernel
theorem dX3_append_44 : decode cX3_append 44 = .ok (.putfield 9, 3) := by decide +kernel
theorem dX3_append_47 : decode cX3_append 47 = .ok (.aload_n 0, 1) := by decide +kernel
theorem dX3_append_48 : decode cX3_append 48 = .ok (.getfield 9, 3) := by decide +kernel
theorem dX3_append_51 : decode cX3_append 51 = .ok (.ireturn, 1) := by decide +kernel
theorem dX3_empty_0 : decode cX3_empty 0 = .ok (.aload_n 0, 1) := by decide +kernel
theorem dX3_empty_1 : decode cX3_empty 1 = .ok (.getfield 9, 3) := by decide +kernel
theorem dX3_empty_4 : decode cX3_empty 4 = .ok (.istore_n 1, 1) := by decide +kernel
theorem dX3_empty_5 : decode cX3_empty 5 = .ok (.aload_n 0, 1) := by decide +kernel
theorem dX3_empty_6 : decode cX3_empty 6 = .ok (.iconst 0, 1) := by decide +kernel
theorem dX3_empty_7 : decode cX3_empty 7 = .ok (.putfield 9, 3) := by decide +kernel
theorem dX3_empty_10 : decode cX3_empty 10 = .ok (.iload_n 1, 1) := by decide +kernel
theorem dX3_empty_11 : decode cX3_empty 11 = .ok (.ireturn, 1) := by decide +kernel
theorem dX3_tryOn_0 : decode cX3_tryOn 0 = .ok (.aload_n 1, 1) := by decide +kernel
theorem dX3_tryOn_1 : decode cX3_tryOn 1 = .ok (.aload_n 2, 1) := by decide +kernel
theorem dX3_tryOn_2 : decode cX3_tryOn 2 = .ok (.invokevirtual 23, 3) := by decide +kernel
theorem dX3_tryOn_5 : decode cX3_tryOn 5 = .ok (.aload_n 0, 1) := by decide +kernel
theorem dX3_tryOn_6 : decode cX3_tryOn 6 = .ok (.iconst 0, 1) := by decide +kernel
theorem dX3_tryOn_7 : decode cX3_tryOn 7 = .ok (.putfield 29, 3) := by decide +kernel
theorem dX3_tryOn_10 : decode cX3_tryOn 10 = .ok (.aload_n 0, 1) := by decide +kernel
theorem dX3_tryOn_11 : decode cX3_tryOn 11 = .ok (.iconst 0, 1) := by decide +kernel
theorem dX3_tryOn_12 : decode cX3_tryOn 12 = .ok (.putfield 32, 3) := by decide +kernel
theorem dX3_tryOn_15 : decode cX3_tryOn 15 = .ok (.aload_n 0, 1) := by decide +kernel
theorem dX3_tryOn_16 : decode cX3_tryOn 16 = .ok (.iconst 0, 1) := by decide +kernel
theorem dX3_tryOn_17 : decode cX3_tryOn 17 = .ok (.putfield 35, 3) := by decide +kernel
theorem dX3_tryOn_20 : decode cX3_tryOn 20 = .ok (.iconst 0, 1) := by decide +kernel
theorem dX3_tryOn_21 : decode cX3_tryOn 21 = .ok (.istore_n 3, 1) := by decide +kernel
theorem dX3_tryOn_22 : decode cX3_tryOn 22 = .ok (.iload_n 3, 1) := by decide +kernel
theorem dX3_tryOn_23 : decode cX3_tryOn 23 = .ok (.bipush 80, 2) := by decide +kernel
theorem dX3_tryOn_25 : decode cX3_tryOn 25 = .ok (.if_icmp .ge 75, 3) := by decide +kernel
theorem dX3_tryOn_28 : decode cX3_tryOn 28 = .ok (.aload_n 0, 1) := by decide +kernel
theorem dX3_tryOn_29 : decode cX3_tryOn 29 = .ok (.getfield 35, 3) := by decide +kernel
theorem dX3_tryOn_32 : decode cX3_tryOn 32 = .ok (.aload_n 0, 1) := by decide +kernel
theorem dX3_tryOn_33 : decode cX3_tryOn 33 = .ok (.getfield 9, 3) := by decide +kernel
theorem dX3_tryOn_36 : decode cX3_tryOn 36 = .ok (.if_icmp .ge 64, 3) := by decide +kernel
theorem dX3_tryOn_39 : decode cX3_tryOn 39 = .ok (.aload_n 0, 1) := by decide +kernel
theorem dX3_tryOn_40 : decode cX3_tryOn 40 = .ok (.getfield 35, 3) := by decide +kernel
theorem dX3_tryOn_43 : decode cX3_tryOn 43 = .ok (.istore 4, 2) := by decide +kernel
theorem dX3_tryOn_45 : decode cX3_tryOn 45 = .ok (.aload_n 0, 1) := by decide +kernel
theorem dX3_tryOn_46 : decode cX3_tryOn 46 = .ok (.invokevirtual 38, 3) := by decide +kernel
theorem dX3_tryOn_49 : decode cX3_tryOn 49 = .ok (.ifCond .ne 13, 3) := by decide +kernel
theorem dX3_tryOn_52 : decode cX3_tryOn 52 = .ok (.aload_n 0, 1) := by decide +kernel
theorem dX3_tryOn_53 : decode cX3_tryOn 53 = .ok (.iload 4, 2) := by decide +kernel
theorem dX3_tryOn_55 : decode cX3_tryOn 55 = .ok (.iconst 1, 1) := by decide +kernel
theorem dX3_tryOn_56 : decode cX3_tryOn 56 = .ok (.bipush (-4), 2) := by decide +kernel
theorem dX3_tryOn_58 : decode cX3_tryOn 58 = .ok (.invokevirtual 42, 3) := by decide +kernel
theorem dX3_tryOn_61 : decode cX3_tryOn 61 = .ok (.return_, 1) := by decide +kernel
theorem dX3_tryOn_62 : decode cX3_tryOn 62 = .ok (.aload_n 0, 1) := by decide +kernel
theorem dX3_tryOn_63 : decode cX3_tryOn 63 = .ok (.aload_n 1, 1) := by decide +kernel
theorem dX3_tryOn_64 : decode cX3_tryOn 64 = .ok (.invokevirtual 46, 3) := by decide +kernel
theorem dX3_tryOn_67 : decode cX3_tryOn 67 = .ok (.istore 5, 2) := by decide +kernel
theorem dX3_tryOn_69 : decode cX3_tryOn 69 = .ok (.iload 5, 2) := by decide +kernel
theorem dX3_tryOn_71 : decode cX3_tryOn 71 = .ok (.ifCond .ge 13, 3) := by decide +kernel
theorem dX3_tryOn_74 : decode cX3_tryOn 74 = .ok (.aload_n 0, 1) := by decide +kernel
theorem dX3_tryOn_75 : decode cX3_tryOn 75 = .ok (.iload 4, 2) := by decide +kernel
theorem dX3_tryOn_77 : decode cX3_tryOn 77 = .ok (.iconst 2, 1) := by decide +kernel
theorem dX3_tryOn_78 : decode cX3_tryOn 78 = .ok (.iload 5, 2) := by decide +kernel
theorem dX3_tryOn_80 : decode cX3_tryOn 80 = .ok (.invokevirtual 42, 3) := by decide +kernel
theorem dX3_tryOn_83 : decode cX3_tryOn 83 = .ok (.return_, 1) := by decide +kernel
theorem dX3_tryOn_84 : decode cX3_tryOn 84 = .ok (.aload_n 0, 1) := by decide +kernel
theorem dX3_tryOn_85 : decode cX3_tryOn 85 = .ok (.dup, 1) := by decide +kernel
theorem dX3_tryOn_86 : decode cX3_tryOn 86 = .ok (.getfield 32, 3) := by decide +kernel
theorem dX3_tryOn_89 : decode cX3_tryOn 89 = .ok (.iconst 1, 1) := by decide +kernel
theorem dX3_tryOn_90 : decode cX3_tryOn 90 = .ok (.iadd, 1) := by decide +kernel
theorem dX3_tryOn_91 : decode cX3_tryOn 91 = .ok (.putfield 32, 3) := by decide +kernel
theorem dX3_tryOn_94 : decode cX3_tryOn 94 = .ok (.iinc 3 1, 3) := by decide +kernel
theorem dX3_tryOn_97 : decode cX3_tryOn 97 = .ok (.goto (-75), 3) := by decide +kernel
theorem dX3_tryOn_100 : decode cX3_tryOn 100 = .ok (.return_, 1) := by decide +kernel
theorem dX3_noteFault_0 : decode cX3_noteFault 0 = .ok (.aload_n 0, 1) := by decide +kernel
theorem dX3_noteFault_1 : decode cX3_noteFault 1 = .ok (.iload_n 1, 1) := by decide +kernel
theorem dX3_noteFault_2 : decode cX3_noteFault 2 = .ok (.putfield 50, 3) := by decide +kernel
theorem dX3_noteFault_5 : decode cX3_noteFault 5 = .ok (.aload_n 0, 1) := by decide +kernel
theorem dX3_noteFault_6 : decode cX3_noteFault 6 = .ok (.iload_n 2, 1) := by decide +kernel
theorem dX3_noteFault_7 : decode cX3_noteFault 7 = .ok (.putfield 29, 3) := by decide +kernel
theorem dX3_noteFault_10 : decode cX3_noteFault 10 = .ok (.aload_n 0, 1) := by decide +kernel
theorem dX3_noteFault_11 : decode cX3_noteFault 11 = .ok (.iload_n 3, 1) := by decide +kernel
theorem dX3_noteFault_12 : decode cX3_noteFault 12 = .ok (.putfield 53, 3) := by decide +kernel
theorem dX3_noteFault_15 : decode cX3_noteFault 15 = .ok (.return_, 1) := by decide +kernel
theorem dX3_readOrder_0 : decode cX3_readOrder 0 = .ok (.aload_n 0, 1) := by decide +kernel
theorem dX3_readOrder_1 : decode cX3_readOrder 1 = .ok (.aload_n 0, 1) := by decide +kernel
theorem dX3_readOrder_2 : decode cX3_readOrder 2 = .ok (.getfield 19, 3) := by decide +kernel
theorem dX3_readOrder_5 : decode cX3_readOrder 5 = .ok (.aload_n 0, 1) := by decide +kernel
theorem dX3_readOrder_6 : decode cX3_readOrder 6 = .ok (.getfield 35, 3) := by decide +kernel
theorem dX3_readOrder_9 : decode cX3_readOrder 9 = .ok (.caload, 1) := by decide +kernel
theorem dX3_readOrder_10 : decode cX3_readOrder 10 = .ok (.putfield 56, 3) := by decide +kernel
theorem dX3_readOrder_13 : decode cX3_readOrder 13 = .ok (.aload_n 0, 1) := by decide +kernel
theorem dX3_readOrder_14 : decode cX3_readOrder 14 = .ok (.dup, 1) := by decide +kernel
theorem dX3_readOrder_15 : decode cX3_readOrder 15 = .ok (.getfield 35, 3) := by decide +kernel
theorem dX3_readOrder_18 : decode cX3_readOrder 18 = .ok (.iconst 1, 1) := by decide +kernel
theorem dX3_readOrder_19 : decode cX3_readOrder 19 = .ok (.iadd, 1) := by decide +kernel
theorem dX3_readOrder_20 : decode cX3_readOrder 20 = .ok (.putfield 35, 3) := by decide +kernel
theorem dX3_readOrder_23 : decode cX3_readOrder 23 = .ok (.aload_n 0, 1) := by decide +kernel
theorem dX3_readOrder_24 : decode cX3_readOrder 24 = .ok (.getfield 56, 3) := by decide +kernel
theorem dX3_readOrder_27 : decode cX3_readOrder 27 = .ok (.invokestatic 60, 3) := by decide +kernel
theorem dX3_readOrder_30 : decode cX3_readOrder 30 = .ok (.istore_n 1, 1) := by decide +kernel
theorem dX3_readOrder_31 : decode cX3_readOrder 31 = .ok (.iconst 0, 1) := by decide +kernel
theorem dX3_readOrder_32 : decode cX3_readOrder 32 = .ok (.istore_n 2, 1) := by decide +kernel
theorem dX3_readOrder_33 : decode cX3_readOrder 33 = .ok (.iload_n 2, 1) := by decide +kernel
theorem dX3_readOrder_34 : decode cX3_readOrder 34 = .ok (.iload_n 1, 1) := by decide +kernel
theorem dX3_readOrder_35 : decode cX3_readOrder 35 = .ok (.if_icmp .ge 34, 3) := by decide +kernel
theorem dX3_readOrder_38 : decode cX3_readOrder 38 = .ok (.iload_n 2, 1) := by decide +kernel
theorem dX3_readOrder_39 : decode cX3_readOrder 39 = .ok (.ifCond .le 14, 3) := by decide +kernel
theorem dX3_readOrder_42 : decode cX3_readOrder 42 = .ok (.aload_n 0, 1) := by decide +kernel
theorem dX3_readOrder_43 : decode cX3_readOrder 43 = .ok (.bipush 44, 2) := by decide +kernel
theorem dX3_readOrder_45 : decode cX3_readOrder 45 = .ok (.invokevirtual 64, 3) := by decide +kernel
theorem dX3_readOrder_48 : decode cX3_readOrder 48 = .ok (.ifCond .ne 5, 3) := by decide +kernel
theorem dX3_readOrder_51 : decode cX3_readOrder 51 = .ok (.iconst 0, 1) := by decide +kernel
theorem dX3_readOrder_52 : decode cX3_readOrder 52 = .ok (.ireturn, 1) := by decide +kernel
theorem dX3_readOrder_53 : decode cX3_readOrder 53 = .ok (.aload_n 0, 1) := by decide +kernel
theorem dX3_readOrder_54 : decode cX3_readOrder 54 = .ok (.iload_n 2, 1) := by decide +kernel
theorem dX3_readOrder_55 : decode cX3_readOrder 55 = .ok (.invokevirtual 68, 3) := by decide +kernel
theorem dX3_readOrder_58 : decode cX3_readOrder 58 = .ok (.ifCond .ne 5, 3) := by decide +kernel
theorem dX3_readOrder_61 : decode cX3_readOrder 61 = .ok (.iconst 0, 1) := by decide +kernel
theorem dX3_readOrder_62 : decode cX3_readOrder 62 = .ok (.ireturn, 1) := by decide +kernel
theorem dX3_readOrder_63 : decode cX3_readOrder 63 = .ok (.iinc 2 1, 3) := by decide +kernel
theorem dX3_readOrder_66 : decode cX3_readOrder 66 = .ok (.goto (-33), 3) := by decide +kernel
theorem dX3_readOrder_69 : decode cX3_readOrder 69 = .ok (.iload_n 1, 1) := by decide +kernel
theorem dX3_readOrder_70 : decode cX3_readOrder 70 = .ok (.ifCond .le 16, 3) := by decide +kernel
theorem dX3_readOrder_73 : decode cX3_readOrder 73 = .ok (.aload_n 0, 1) := by decide +kernel
theorem dX3_readOrder_74 : decode cX3_readOrder 74 = .ok (.bipush 59, 2) := by decide +kernel
theorem dX3_readOrder_76 : decode cX3_readOrder 76 = .ok (.invokevirtual 64, 3) := by decide +kernel
theorem dX3_readOrder_79 : decode cX3_readOrder 79 = .ok (.ifCond .eq 7, 3) := by decide +kernel
theorem dX3_readOrder_82 : decode cX3_readOrder 82 = .ok (.iconst 1, 1) := by decide +kernel
theorem dX3_readOrder_83 : decode cX3_readOrder 83 = .ok (.goto 4, 3) := by decide +kernel
theorem dX3_readOrder_86 : decode cX3_readOrder 86 = .ok (.iconst 0, 1) := by decide +kernel
theorem dX3_readOrder_87 : decode cX3_readOrder 87 = .ok (.ireturn, 1) := by decide +kernel
theorem dX3_numbersOf_0 : decode cX3_numbersOf 0 = .ok (.iload_n 0, 1) := by decide +kernel
theorem dX3_numbersOf_1 : decode cX3_numbersOf 1 = .ok (.tableswitch 121 98 122 #[119, 115, 115, 121, 121, 121, 121, 121, 121, 121, 121, 121, 121, 121, 121, 121, 117, 121, 115, 117, 121, 121, 121, 121, 115], 115) := by decide +kernel
theorem dX3_numbersOf_116 : decode cX3_numbersOf 116 = .ok (.iconst 1, 1) := by decide +kernel
theorem dX3_numbersOf_117 : decode cX3_numbersOf 117 = .ok (.ireturn, 1) := by decide +kernel
theorem dX3_numbersOf_118 : decode cX3_numbersOf 118 = .ok (.iconst 3, 1) := by decide +kernel
theorem dX3_numbersOf_119 : decode cX3_numbersOf 119 = .ok (.ireturn, 1) := by decide +kernel
theorem dX3_numbersOf_120 : decode cX3_numbersOf 120 = .ok (.iconst 4, 1) := by decide +kernel
theorem dX3_numbersOf_121 : decode cX3_numbersOf 121 = .ok (.ireturn, 1) := by decide +kernel
theorem dX3_numbersOf_122 : decode cX3_numbersOf 122 = .ok (.iconst 0, 1) := by decide +kernel
theorem dX3_numbersOf_123 : decode cX3_numbersOf 123 = .ok (.ireturn, 1) := by decide +kernel
theorem dX3_readSign_0 : decode cX3_readSign 0 = .ok (.aload_n 0, 1) := by decide +kernel
theorem dX3_readSign_1 : decode cX3_readSign 1 = .ok (.getfield 35, 3) := by decide +kernel
theorem dX3_readSign_4 : decode cX3_readSign 4 = .ok (.aload_n 0, 1) := by decide +kernel
theorem dX3_readSign_5 : decode cX3_readSign 5 = .ok (.getfield 9, 3) := by decide +kernel
theorem dX3_readSign_8 : decode cX3_readSign 8 = .ok (.if_icmp .ge 16, 3) := by decide +kernel
theorem dX3_readSign_11 : decode cX3_readSign 11 = .ok (.aload_n 0, 1) := by decide +kernel
theorem dX3_readSign_12 : decode cX3_readSign 12 = .ok (.getfield 19, 3) := by decide +kernel
theorem dX3_readSign_15 : decode cX3_readSign 15 = .ok (.aload_n 0, 1) := by decide +kernel
theorem dX3_readSign_16 : decode cX3_readSign 16 = .ok (.getfield 35, 3) := by decide +kernel
theorem dX3_readSign_19 : decode cX3_readSign 19 = .ok (.caload, 1) := by decide +kernel
theorem dX3_readSign_20 : decode cX3_readSign 20 = .ok (.iload_n 1, 1) := by decide +kernel
theorem dX3_readSign_21 : decode cX3_readSign 21 = .ok (.if_icmp .eq 5, 3) := by decide +kernel
theorem dX3_readSign_24 : decode cX3_readSign 24 = .ok (.iconst 0, 1) := by decide +kernel
theorem dX3_readSign_25 : decode cX3_readSign 25 = .ok (.ireturn, 1) := by decide +kernel
theorem dX3_readSign_26 : decode cX3_readSign 26 = .ok (.aload_n 0, 1) := by decide +kernel
theorem dX3_readSign_27 : decode cX3_readSign 27 = .ok (.dup, 1) := by decide +kernel
theorem dX3_readSign_28 : decode cX3_readSign 28 = .ok (.getfield 35, 3) := by decide +kernel
theorem dX3_readSign_31 : decode cX3_readSign 31 = .ok (.iconst 1, 1) := by decide +kernel
theorem dX3_readSign_32 : decode cX3_readSign 32 = .ok (.iadd, 1) := by decide +kernel
theorem dX3_readSign_33 : decode cX3_readSign 33 = .ok (.putfield 35, 3) := by decide +kernel
theorem dX3_readSign_36 : decode cX3_readSign 36 = .ok (.iconst 1, 1) := by decide +kernel
theorem dX3_readSign_37 : decode cX3_readSign 37 = .ok (.ireturn, 1) := by decide +kernel
theorem dX3_readNumber_0 : decode cX3_readNumber 0 = .ok (.iconst 0, 1) := by decide +kernel
theorem dX3_readNumber_1 : decode cX3_readNumber 1 = .ok (.istore_n 2, 1) := by decide +kernel
theorem dX3_readNumber_2 : decode cX3_readNumber 2 = .ok (.iconst 0, 1) := by decide +kernel
theorem dX3_readNumber_3 : decode cX3_readNumber 3 = .ok (.istore_n 3, 1) := by decide +kernel
theorem dX3_readNumber_4 : decode cX3_readNumber 4 = .ok (.iload_n 3, 1) := by decide +kernel
theorem dX3_readNumber_5 : decode cX3_readNumber 5 = .ok (.iconst 4, 1) := by decide +kernel
theorem dX3_readNumber_6 : decode cX3_readNumber 6 = .ok (.if_icmp .ge 76, 3) := by decide +kernel
theorem dX3_readNumber_9 : decode cX3_readNumber 9 = .ok (.aload_n 0, 1) := by decide +kernel
theorem dX3_readNumber_10 : decode cX3_readNumber 10 = .ok (.getfield 35, 3) := by decide +kernel
theorem dX3_readNumber_13 : decode cX3_readNumber 13 = .ok (.aload_n 0, 1) := by decide +kernel
theorem dX3_readNumber_14 : decode cX3_readNumber 14 = .ok (.getfield 9, 3) := by decide +kernel
theorem dX3_readNumber_17 : decode cX3_readNumber 17 = .ok (.if_icmp .ge 65, 3) := by decide +kernel
theorem dX3_readNumber_20 : decode cX3_readNumber 20 = .ok (.aload_n 0, 1) := by decide +kernel
theorem dX3_readNumber_21 : decode cX3_readNumber 21 = .ok (.getfield 19, 3) := by decide +kernel
theorem dX3_readNumber_24 : decode cX3_readNumber 24 = .ok (.aload_n 0, 1) := by decide +kernel
theorem dX3_readNumber_25 : decode cX3_readNumber 25 = .ok (.getfield 35, 3) := by decide +kernel
theorem dX3_readNumber_28 : decode cX3_readNumber 28 = .ok (.caload, 1) := by decide +kernel
theorem dX3_readNumber_29 : decode cX3_readNumber 29 = .ok (.bipush 48, 2) := by decide +kernel
theorem dX3_readNumber_31 : decode cX3_readNumber 31 = .ok (.if_icmp .lt 51, 3) := by decide +kernel
theorem dX3_readNumber_34 : decode cX3_readNumber 34 = .ok (.aload_n 0, 1) := by decide +kernel
theorem dX3_readNumber_35 : decode cX3_readNumber 35 = .ok (.getfield 19, 3) := by decide +kernel
theorem dX3_readNumber_38 : decode cX3_readNumber 38 = .ok (.aload_n 0, 1) := by decide +kernel
theorem dX3_readNumber_39 : decode cX3_readNumber 39 = .ok (.getfield 35, 3) := by decide +kernel
theorem dX3_readNumber_42 : decode cX3_readNumber 42 = .ok (.caload, 1) := by decide +kernel
theorem dX3_readNumber_43 : decode cX3_readNumber 43 = .ok (.bipush 57, 2) := by decide +kernel
theorem dX3_readNumber_45 : decode cX3_readNumber 45 = .ok (.if_icmp .gt 37, 3) := by decide +kernel
theorem dX3_readNumber_48 : decode cX3_readNumber 48 = .ok (.iload_n 2, 1) := by decide +kernel
theorem dX3_readNumber_49 : decode cX3_readNumber 49 = .ok (.bipush 10, 2) := by decide +kernel
theorem dX3_readNumber_51 : decode cX3_readNumber 51 = .ok (.imul, 1) := by decide +kernel
theorem dX3_readNumber_52 : decode cX3_readNumber 52 = .ok (.aload_n 0, 1) := by decide +kernel
theorem dX3_readNumber_53 : decode cX3_readNumber 53 = .ok (.getfield 19, 3) := by decide +kernel
theorem dX3_readNumber_56 : decode cX3_readNumber 56 = .ok (.aload_n 0, 1) := by decide +kernel
theorem dX3_readNumber_57 : decode cX3_readNumber 57 = .ok (.getfield 35, 3) := by decide +kernel
theorem dX3_readNumber_60 : decode cX3_readNumber 60 = .ok (.caload, 1) := by decide +kernel
theorem dX3_readNumber_61 : decode cX3_readNumber 61 = .ok (.iadd, 1) := by decide +kernel
theorem dX3_readNumber_62 : decode cX3_readNumber 62 = .ok (.bipush 48, 2) := by decide +kernel
theorem dX3_readNumber_64 : decode cX3_readNumber 64 = .ok (.isub, 1) := by decide +kernel
theorem dX3_readNumber_65 : decode cX3_readNumber 65 = .ok (.istore_n 2, 1) := by decide +kernel
theorem dX3_readNumber_66 : decode cX3_readNumber 66 = .ok (.aload_n 0, 1) := by decide +kernel
theorem dX3_readNumber_67 : decode cX3_readNumber 67 = .ok (.dup, 1) := by decide +kernel
theorem dX3_readNumber_68 : decode cX3_readNumber 68 = .ok (.getfield 35, 3) := by decide +kernel
theorem dX3_readNumber_71 : decode cX3_readNumber 71 = .ok (.iconst 1, 1) := by decide +kernel
theorem dX3_readNumber_72 : decode cX3_readNumber 72 = .ok (.iadd, 1) := by decide +kernel
theorem dX3_readNumber_73 : decode cX3_readNumber 73 = .ok (.putfield 35, 3) := by decide +kernel
theorem dX3_readNumber_76 : decode cX3_readNumber 76 = .ok (.iinc 3 1, 3) := by decide +kernel
theorem dX3_readNumber_79 : decode cX3_readNumber 79 = .ok (.goto (-75), 3) := by decide +kernel
theorem dX3_readNumber_82 : decode cX3_readNumber 82 = .ok (.aload_n 0, 1) := by decide +kernel
theorem dX3_readNumber_83 : decode cX3_readNumber 83 = .ok (.getfield 15, 3) := by decide +kernel
theorem dX3_readNumber_86 : decode cX3_readNumber 86 = .ok (.iload_n 1, 1) := by decide +kernel
theorem dX3_readNumber_87 : decode cX3_readNumber 87 = .ok (.iload_n 2, 1) := by decide +kernel
theorem dX3_readNumber_88 : decode cX3_readNumber 88 = .ok (.iastore, 1) := by decide +kernel
theorem dX3_readNumber_89 : decode cX3_readNumber 89 = .ok (.iload_n 3, 1) := by decide +kernel
theorem dX3_readNumber_90 : decode cX3_readNumber 90 = .ok (.ifCond .le 7, 3) := by decide +kernel
theorem dX3_readNumber_93 : decode cX3_readNumber 93 = .ok (.iconst 1, 1) := by decide +kernel
theorem dX3_readNumber_94 : decode cX3_readNumber 94 = .ok (.goto 4, 3) := by decide +kernel
theorem dX3_readNumber_97 : decode cX3_readNumber 97 = .ok (.iconst 0, 1) := by decide +kernel
theorem dX3_readNumber_98 : decode cX3_readNumber 98 = .ok (.ireturn, 1) := by decide +kernel
theorem dX3_doOrder_0 : decode cX3_doOrder 0 = .ok (.aload_n 0, 1) := by decide +kernel
theorem dX3_doOrder_1 : decode cX3_doOrder 1 = .ok (.getfield 56, 3) := by decide +kernel
theorem dX3_doOrder_4 : decode cX3_doOrder 4 = .ok (.lookupswitch 168 #[(98, 117), (99, 157), (114, 94), (116, 146), (117, 71), (122, 60)], 60) := by decide +kernel
theorem dX3_doOrder_64 : decode cX3_doOrder 64 = .ok (.aload_n 1, 1) := by decide +kernel
theorem dX3_doOrder_65 : decode cX3_doOrder 65 = .ok (.aload_n 0, 1) := by decide +kernel
theorem dX3_doOrder_66 : decode cX3_doOrder 66 = .ok (.getfield 15, 3) := by decide +kernel
theorem dX3_doOrder_69 : decode cX3_doOrder 69 = .ok (.iconst 0, 1) := by decide +kernel
theorem dX3_doOrder_70 : decode cX3_doOrder 70 = .ok (.iaload, 1) := by decide +kernel
theorem dX3_doOrder_71 : decode cX3_doOrder 71 = .ok (.invokevirtual 72, 3) := by decide +kernel
theorem dX3_doOrder_74 : decode cX3_doOrder 74 = .ok (.ireturn, 1) := by decide +kernel
theorem dX3_doOrder_75 : decode cX3_doOrder 75 = .ok (.aload_n 1, 1) := by decide +kernel
theorem dX3_doOrder_76 : decode cX3_doOrder 76 = .ok (.aload_n 0, 1) := by decide +kernel
theorem dX3_doOrder_77 : decode cX3_doOrder 77 = .ok (.getfield 15, 3) := by decide +kernel
theorem dX3_doOrder_80 : decode cX3_doOrder 80 = .ok (.iconst 0, 1) := by decide +kernel
theorem dX3_doOrder_81 : decode cX3_doOrder 81 = .ok (.iaload, 1) := by decide +kernel
theorem dX3_doOrder_82 : decode cX3_doOrder 82 = .ok (.aload_n 0, 1) := by decide +kernel
theorem dX3_doOrder_83 : decode cX3_doOrder 83 = .ok (.getfield 15, 3) := by decide +kernel
theorem dX3_doOrder_86 : decode cX3_doOrder 86 = .ok (.iconst 1, 1) := by decide +kernel
theorem dX3_doOrder_87 : decode cX3_doOrder 87 = .ok (.iaload, 1) := by decide +kernel
theorem dX3_doOrder_88 : decode cX3_doOrder 88 = .ok (.aload_n 0, 1) := by decide +kernel
theorem dX3_doOrder_89 : decode cX3_doOrder 89 = .ok (.getfield 15, 3) := by decide +kernel
theorem dX3_doOrder_92 : decode cX3_doOrder 92 = .ok (.iconst 2, 1) := by decide +kernel
theorem dX3_doOrder_93 : decode cX3_doOrder 93 = .ok (.iaload, 1) := by decide +kernel
theorem dX3_doOrder_94 : decode cX3_doOrder 94 = .ok (.invokevirtual 76, 3) := by decide +kernel
theorem dX3_doOrder_97 : decode cX3_doOrder 97 = .ok (.ireturn, 1) := by decide +kernel
theorem dX3_doOrder_98 : decode cX3_doOrder 98 = .ok (.aload_n 1, 1) := by decide +kernel
theorem dX3_doOrder_99 : decode cX3_doOrder 99 = .ok (.aload_n 0, 1) := by decide +kernel
theorem dX3_doOrder_100 : decode cX3_doOrder 100 = .ok (.getfield 15, 3) := by decide +kernel
theorem dX3_doOrder_103 : decode cX3_doOrder 103 = .ok (.iconst 0, 1) := by decide +kernel
theorem dX3_doOrder_104 : decode cX3_doOrder 104 = .ok (.iaload, 1) := by decide +kernel
theorem dX3_doOrder_105 : decode cX3_doOrder 105 = .ok (.aload_n 0, 1) := by decide +kernel
theorem dX3_doOrder_106 : decode cX3_doOrder 106 = .ok (.getfield 15, 3) := by decide +kernel
theorem dX3_doOrder_109 : decode cX3_doOrder 109 = .ok (.iconst 1, 1) := by decide +kernel
theorem dX3_doOrder_110 : decode cX3_doOrder 110 = .ok (.iaload, 1) := by decide +kernel
theorem dX3_doOrder_111 : decode cX3_doOrder 111 = .ok (.aload_n 0, 1) := by decide +kernel
theorem dX3_doOrder_112 : decode cX3_doOrder 112 = .ok (.getfield 15, 3) := by decide +kernel
theorem dX3_doOrder_115 : decode cX3_doOrder 115 = .ok (.iconst 2, 1) := by decide +kernel
theorem dX3_doOrder_116 : decode cX3_doOrder 116 = .ok (.iaload, 1) := by decide +kernel
theorem dX3_doOrder_117 : decode cX3_doOrder 117 = .ok (.invokevirtual 80, 3) := by decide +kernel
theorem dX3_doOrder_120 : decode cX3_doOrder 120 = .ok (.ireturn, 1) := by decide +kernel
theorem dX3_doOrder_121 : decode cX3_doOrder 121 = .ok (.aload_n 1, 1) := by decide +kernel
theorem dX3_doOrder_122 : decode cX3_doOrder 122 = .ok (.aload_n 0, 1) := by decide +kernel
theorem dX3_doOrder_123 : decode cX3_doOrder 123 = .ok (.getfield 15, 3) := by decide +kernel
theorem dX3_doOrder_126 : decode cX3_doOrder 126 = .ok (.iconst 0, 1) := by decide +kernel
theorem dX3_doOrder_127 : decode cX3_doOrder 127 = .ok (.iaload, 1) := by decide +kernel
theorem dX3_doOrder_128 : decode cX3_doOrder 128 = .ok (.aload_n 0, 1) := by decide +kernel
theorem dX3_doOrder_129 : decode cX3_doOrder 129 = .ok (.getfield 15, 3) := by decide +kernel
theorem dX3_doOrder_132 : decode cX3_doOrder 132 = .ok (.iconst 1, 1) := by decide +kernel
theorem dX3_doOrder_133 : decode cX3_doOrder 133 = .ok (.iaload, 1) := by decide +kernel
theorem dX3_doOrder_134 : decode cX3_doOrder 134 = .ok (.aload_n 0, 1) := by decide +kernel
theorem dX3_doOrder_135 : decode cX3_doOrder 135 = .ok (.getfield 15, 3) := by decide +kernel
theorem dX3_doOrder_138 : decode cX3_doOrder 138 = .ok (.iconst 2, 1) := by decide +kernel
theorem dX3_doOrder_139 : decode cX3_doOrder 139 = .ok (.iaload, 1) := by decide +kernel
theorem dX3_doOrder_140 : decode cX3_doOrder 140 = .ok (.aload_n 0, 1) := by decide +kernel
theorem dX3_doOrder_141 : decode cX3_doOrder 141 = .ok (.getfield 15, 3) := by decide +kernel
theorem dX3_doOrder_144 : decode cX3_doOrder 144 = .ok (.iconst 3, 1) := by decide +kernel
theorem dX3_doOrder_145 : decode cX3_doOrder 145 = .ok (.iaload, 1) := by decide +kernel
theorem dX3_doOrder_146 : decode cX3_doOrder 146 = .ok (.invokevirtual 83, 3) := by decide +kernel
theorem dX3_doOrder_149 : decode cX3_doOrder 149 = .ok (.ireturn, 1) := by decide +kernel
theorem dX3_doOrder_150 : decode cX3_doOrder 150 = .ok (.aload_n 1, 1) := by decide +kernel
theorem dX3_doOrder_151 : decode cX3_doOrder 151 = .ok (.aload_n 0, 1) := by decide +kernel
theorem dX3_doOrder_152 : decode cX3_doOrder 152 = .ok (.getfield 15, 3) := by decide +kernel
theorem dX3_doOrder_155 : decode cX3_doOrder 155 = .ok (.iconst 0, 1) := by decide +kernel
theorem dX3_doOrder_156 : decode cX3_doOrder 156 = .ok (.iaload, 1) := by decide +kernel
theorem dX3_doOrder_157 : decode cX3_doOrder 157 = .ok (.invokevirtual 87, 3) := by decide +kernel
theorem dX3_doOrder_160 : decode cX3_doOrder 160 = .ok (.ireturn, 1) := by decide +kernel
theorem dX3_doOrder_161 : decode cX3_doOrder 161 = .ok (.aload_n 1, 1) := by decide +kernel
theorem dX3_doOrder_162 : decode cX3_doOrder 162 = .ok (.aload_n 0, 1) := by decide +kernel
theorem dX3_doOrder_163 : decode cX3_doOrder 163 = .ok (.getfield 15, 3) := by decide +kernel
theorem dX3_doOrder_166 : decode cX3_doOrder 166 = .ok (.iconst 0, 1) := by decide +kernel
theorem dX3_doOrder_167 : decode cX3_doOrder 167 = .ok (.iaload, 1) := by decide +kernel
theorem dX3_doOrder_168 : decode cX3_doOrder 168 = .ok (.invokevirtual 90, 3) := by decide +kernel
theorem dX3_doOrder_171 : decode cX3_doOrder 171 = .ok (.ireturn, 1) := by decide +kernel
theorem dX3_doOrder_172 : decode cX3_doOrder 172 = .ok (.aload_n 1, 1) := by decide +kernel
theorem dX3_doOrder_173 : decode cX3_doOrder 173 = .ok (.aload_n 0, 1) := by decide +kernel
theorem dX3_doOrder_174 : decode cX3_doOrder 174 = .ok (.getfield 15, 3) := by decide +kernel
theorem dX3_doOrder_177 : decode cX3_doOrder 177 = .ok (.iconst 0, 1) := by decide +kernel
theorem dX3_doOrder_178 : decode cX3_doOrder 178 = .ok (.iaload, 1) := by decide +kernel
theorem dX3_doOrder_179 : decode cX3_doOrder 179 = .ok (.invokevirtual 93, 3) := by decide +kernel
theorem dX3_doOrder_182 : decode cX3_doOrder 182 = .ok (.ireturn, 1) := by decide +kernel
theorem dX4_init_0 : decode cX4_init 0 = .ok (.aload_n 0, 1) := by decide +kernel
theorem dX4_init_1 : decode cX4_init 1 = .ok (.invokespecial 3, 3) := by decide +kernel
theorem dX4_init_4 : decode cX4_init 4 = .ok (.aload_n 0, 1) := by decide +kernel
theorem dX4_init_5 : decode cX4_init 5 = .ok (.lconst 0, 1) := by decide +kernel
theorem dX4_init_6 : decode cX4_init 6 = .ok (.putfield 9, 3) := by decide +kernel
theorem dX4_init_9 : decode cX4_init 9 = .ok (.aload_n 0, 1) := by decide +kernel
theorem dX4_init_10 : decode cX4_init 10 = .ok (.bipush 32, 2) := by decide +kernel
theorem dX4_init_12 : decode cX4_init 12 = .ok (.newarray .int, 2) := by decide +kernel
theorem dX4_init_14 : decode cX4_init 14 = .ok (.putfield 15, 3) := by decide +kernel
theorem dX4_init_17 : decode cX4_init 17 = .ok (.aload_n 0, 1) := by decide +kernel
theorem dX4_init_18 : decode cX4_init 18 = .ok (.iconst 4, 1) := by decide +kernel
theorem dX4_init_19 : decode cX4_init 19 = .ok (.newarray .long, 2) := by decide +kernel
theorem dX4_init_21 : decode cX4_init 21 = .ok (.putfield 19, 3) := by decide +kernel
theorem dX4_init_24 : decode cX4_init 24 = .ok (.return_, 1) := by decide +kernel
theorem dX4_become_0 : decode cX4_become 0 = .ok (.aload_n 0, 1) := by decide +kernel
theorem dX4_become_1 : decode cX4_become 1 = .ok (.aload_n 1, 1) := by decide +kernel
theorem dX4_become_2 : decode cX4_become 2 = .ok (.getfield 9, 3) := by decide +kernel
theorem dX4_become_5 : decode cX4_become 5 = .ok (.putfield 9, 3) := by decide +kernel
theorem dX4_become_8 : decode cX4_become 8 = .ok (.aload_n 1, 1) := by decide +kernel
theorem dX4_become_9 : decode cX4_become 9 = .ok (.getfield 15, 3) := by decide +kernel
theorem dX4_become_12 : decode cX4_become 12 = .ok (.iconst 0, 1) := by decide +kernel
theorem dX4_become_13 : decode cX4_become 13 = .ok (.aload_n 0, 1) := by decide +kernel
theorem dX4_become_14 : decode cX4_become 14 = .ok (.getfield 15, 3) := by decide +kernel
theorem dX4_become_17 : decode cX4_become 17 = .ok (.iconst 0, 1) := by decide +kernel
theorem dX4_become_18 : decode cX4_become 18 = .ok (.bipush 32, 2) := by decide +kernel
theorem dX4_become_20 : decode cX4_become 20 = .ok (.invokestatic 23, 3) := by decide +kernel
theorem dX4_become_23 : decode cX4_become 23 = .ok (.aload_n 1, 1) := by decide +kernel
theorem dX4_become_24 : decode cX4_become 24 = .ok (.getfield 19, 3) := by decide +kernel
theorem dX4_become_27 : decode cX4_become 27 = .ok (.iconst 0, 1) := by decide +kernel
theorem dX4_become_28 : decode cX4_become 28 = .ok (.aload_n 0, 1) := by decide +kernel
theorem dX4_become_29 : decode cX4_become 29 = .ok (.getfield 19, 3) := by decide +kernel
theorem dX4_become_32 : decode cX4_become 32 = .ok (.iconst 0, 1) := by decide +kernel
theorem dX4_become_33 : decode cX4_become 33 = .ok (.iconst 4, 1) := by decide +kernel
theorem dX4_become_34 : decode cX4_become 34 = .ok (.invokestatic 23, 3) := by decide +kernel
theorem dX4_become_37 : decode cX4_become 37 = .ok (.return_, 1) := by decide +kernel
theorem dX4_place_0 : decode cX4_place 0 = .ok (.iload_n 1, 1) := by decide +kernel
theorem dX4_place_1 : decode cX4_place 1 = .ok (.iconst 4, 1) := by decide +kernel
theorem dX4_place_2 : decode cX4_place 2 = .ok (.imul, 1) := by decide +kernel
theorem dX4_place_3 : decode cX4_place 3 = .ok (.iload_n 2, 1) := by decide +kernel
theorem dX4_place_4 : decode cX4_place 4 = .ok (.iadd, 1) := by decide +kernel
theorem dX4_place_5 : decode cX4_place 5 = .ok (.ireturn, 1) := by decide +kernel
theorem dX4_add_0 : decode cX4_add 0 = .ok (.aload_n 0, 1) := by decide +kernel
theorem dX4_add_1 : decode cX4_add 1 = .ok (.getfield 15, 3) := by decide +kernel
theorem dX4_add_4 : decode cX4_add 4 = .ok (.aload_n 0, 1) := by decide +kernel
theorem dX4_add_5 : decode cX4_add 5 = .ok (.iload_n 1, 1) := by decide +kernel
theorem dX4_add_6 : decode cX4_add 6 = .ok (.iload_n 2, 1) := by decide +kernel
theorem dX4_add_7 : decode cX4_add 7 = .ok (.invokevirtual 29, 3) := by decide +kernel
theorem dX4_add_10 : decode cX4_add 10 = .ok (.dup2, 1) := by decide +kernel
theorem dX4_add_11 : decode cX4_add 11 = .ok (.iaload, 1) := by decide +kernel
theorem dX4_add_12 : decode cX4_add 12 = .ok (.iload_n 3, 1) := by decide +kernel
theorem dX4_add_13 : decode cX4_add 13 = .ok (.iadd, 1) := by decide +kernel
theorem dX4_add_14 : decode cX4_add 14 = .ok (.iastore, 1) := by decide +kernel
theorem dX4_add_15 : decode cX4_add 15 = .ok (.aload_n 0, 1) := by decide +kernel
theorem dX4_add_16 : decode cX4_add 16 = .ok (.getfield 19, 3) := by decide +kernel
theorem dX4_add_19 : decode cX4_add 19 = .ok (.iload_n 2, 1) := by decide +kernel
theorem dX4_add_20 : decode cX4_add 20 = .ok (.dup2, 1) := by decide +kernel
theorem dX4_add_21 : decode cX4_add 21 = .ok (.laload, 1) := by decide +kernel
theorem dX4_add_22 : decode cX4_add 22 = .ok (.lload 4, 2) := by decide +kernel
theorem dX4_add_24 : decode cX4_add 24 = .ok (.ladd, 1) := by decide +kernel
theorem dX4_add_25 : decode cX4_add 25 = .ok (.lastore, 1) := by decide +kernel
theorem dX4_add_26 : decode cX4_add 26 = .ok (.return_, 1) := by decide +kernel
theorem dX5_init_0 : decode cX5_init 0 = .ok (.aload_n 0, 1) := by decide +kernel
theorem dX5_init_1 : decode cX5_init 1 = .ok (.invokespecial 3, 3) := by decide +kernel
theorem dX5_init_4 : decode cX5_init 4 = .ok (.aload_n 0, 1) := by decide +kernel
theorem dX5_init_5 : decode cX5_init 5 = .ok (.iconst 0, 1) := by decide +kernel
theorem dX5_init_6 : decode cX5_init 6 = .ok (.putfield 9, 3) := by decide +kernel
theorem dX5_init_9 : decode cX5_init 9 = .ok (.aload_n 0, 1) := by decide +kernel
theorem dX5_init_10 : decode cX5_init 10 = .ok (.sipush 201, 3) := by decide +kernel
theorem dX5_init_13 : decode cX5_init 13 = .ok (.newarray .int, 2) := by decide +kernel
theorem dX5_init_15 : decode cX5_init 15 = .ok (.putfield 15, 3) := by decide +kernel
theorem dX5_init_18 : decode cX5_init 18 = .ok (.aload_n 0, 1) := by decide +kernel
theorem dX5_init_19 : decode cX5_init 19 = .ok (.sipush 201, 3) := by decide +kernel
theorem dX5_init_22 : decode cX5_init 22 = .ok (.newarray .int, 2) := by decide +kernel
theorem dX5_init_24 : decode cX5_init 24 = .ok (.putfield 19, 3) := by decide +kernel
theorem dX5_init_27 : decode cX5_init 27 = .ok (.aload_n 0, 1) := by decide +kernel
theorem dX5_init_28 : decode cX5_init 28 = .ok (.sipush 201, 3) := by decide +kernel
theorem dX5_init_31 : decode cX5_init 31 = .ok (.newarray .int, 2) := by decide +kernel
theorem dX5_init_33 : decode cX5_init 33 = .ok (.putfield 22, 3) := by decide +kernel
theorem dX5_init_36 : decode cX5_init 36 = .ok (.return_, 1) := by decide +kernel
theorem dX5_become_0 : decode cX5_become 0 = .ok (.aload_n 0, 1) := by decide +kernel
theorem dX5_become_1 : decode cX5_become 1 = .ok (.aload_n 1, 1) := by decide +kernel
theorem dX5_become_2 : decode cX5_become 2 = .ok (.getfield 9, 3) := by decide +kernel
theorem dX5_become_5 : decode cX5_become 5 = .ok (.putfield 9, 3) := by decide +kernel
theorem dX5_become_8 : decode cX5_become 8 = .ok (.aload_n 1, 1) := by decide +kernel
theorem dX5_become_9 : decode cX5_become 9 = .ok (.getfield 15, 3) := by decide +kernel
theorem dX5_become_12 : decode cX5_become 12 = .ok (.iconst 0, 1) := by decide +kernel
theorem dX5_become_13 : decode cX5_become 13 = .ok (.aload_n 0, 1) := by decide +kernel
theorem dX5_become_14 : decode cX5_become 14 = .ok (.getfield 15, 3) := by decide +kernel
theorem dX5_become_17 : decode cX5_become 17 = .ok (.iconst 0, 1) := by decide +kernel
theorem dX5_become_18 : decode cX5_become 18 = .ok (.sipush 201, 3) := by decide +kernel
theorem dX5_become_21 : decode cX5_become 21 = .ok (.invokestatic 25, 3) := by decide +kernel
theorem dX5_become_24 : decode cX5_become 24 = .ok (.aload_n 1, 1) := by decide +kernel
theorem dX5_become_25 : decode cX5_become 25 = .ok (.getfield 19, 3) := by decide +kernel
theorem dX5_become_28 : decode cX5_become 28 = .ok (.iconst 0, 1) := by decide +kernel
theorem dX5_become_29 : decode cX5_become 29 = .ok (.aload_n 0, 1) := by decide +kernel
theorem dX5_become_30 : decode cX5_become 30 = .ok (.getfield 19, 3) := by decide +kernel
theorem dX5_become_33 : decode cX5_become 33 = .ok (.iconst 0, 1) := by decide +kernel
theorem dX5_become_34 : decode cX5_become 34 = .ok (.sipush 201, 3) := by decide +kernel
theorem dX5_become_37 : decode cX5_become 37 = .ok (.invokestatic 25, 3) := by decide +kernel
theorem dX5_become_40 : decode cX5_become 40 = .ok (.aload_n 1, 1) := by decide +kernel
theorem dX5_become_41 : decode cX5_become 41 = .ok (.getfield 22, 3) := by decide +kernel
theorem dX5_become_44 : decode cX5_become 44 = .ok (.iconst 0, 1) := by decide +kernel
theorem dX5_become_45 : decode cX5_become 45 = .ok (.aload_n 0, 1) := by decide +kernel
theorem dX5_become_46 : decode cX5_become 46 = .ok (.getfield 22, 3) := by decide +kernel
theorem dX5_become_49 : decode cX5_become 49 = .ok (.iconst 0, 1) := by decide +kernel
theorem dX5_become_50 : decode cX5_become 50 = .ok (.sipush 201, 3) := by decide +kernel
theorem dX5_become_53 : decode cX5_become 53 = .ok (.invokestatic 25, 3) := by decide +kernel
theorem dX5_become_56 : decode cX5_become 56 = .ok (.return_, 1) := by decide +kernel
theorem dX5_left_0 : decode cX5_left 0 = .ok (.sipush 200, 3) := by decide +kernel
theorem dX5_left_3 : decode cX5_left 3 = .ok (.aload_n 0, 1) := by decide +kernel
theorem dX5_left_4 : decode cX5_left 4 = .ok (.getfield 9, 3) := by decide +kernel
theorem dX5_left_7 : decode cX5_left 7 = .ok (.isub, 1) := by decide +kernel
theorem dX5_left_8 : decode cX5_left 8 = .ok (.ireturn, 1) := by decide +kernel
theorem dX5_putOn_0 : decode cX5_putOn 0 = .ok (.aload_n 0, 1) := by decide +kernel
theorem dX5_putOn_1 : decode cX5_putOn 1 = .ok (.getfield 9, 3) := by decide +kernel
theorem dX5_putOn_4 : decode cX5_putOn 4 = .ok (.sipush 200, 3) := by decide +kernel
theorem dX5_putOn_7 : decode cX5_putOn 7 = .ok (.if_icmp .lt 5, 3) := by decide +kernel
theorem dX5_putOn_10 : decode cX5_putOn 10 = .ok (.iconst 0, 1) := by decide +kernel
theorem dX5_putOn_11 : decode cX5_putOn 11 = .ok (.ireturn, 1) := by decide +kernel
theorem dX5_putOn_12 : decode cX5_putOn 12 = .ok (.aload_n 0, 1) := by decide +kernel
theorem dX5_putOn_13 : decode cX5_putOn 13 = .ok (.dup, 1) := by decide +kernel
theorem dX5_putOn_14 : decode cX5_putOn 14 = .ok (.getfield 9, 3) := by decide +kernel
theorem dX5_putOn_17 : decode cX5_putOn 17 = .ok (.iconst 1, 1) := by decide +kernel
theorem dX5_putOn_18 : decode cX5_putOn 18 = .ok (.iadd, 1) := by decide +kernel
theorem dX5_putOn_19 : decode cX5_putOn 19 = .ok (.putfield 9, 3) := by decide +kernel
theorem dX5_putOn_22 : decode cX5_putOn 22 = .ok (.aload_n 0, 1) := by decide +kernel
theorem dX5_putOn_23 : decode cX5_putOn 23 = .ok (.getfield 15, 3) := by decide +kernel
theorem dX5_putOn_26 : decode cX5_putOn 26 = .ok (.aload_n 0, 1) := by decide +kernel
theorem dX5_putOn_27 : decode cX5_putOn 27 = .ok (.getfield 9, 3) := by decide +kernel
theorem dX5_putOn_30 : decode cX5_putOn 30 = .ok (.iload_n 1, 1) := by decide +kernel
theorem dX5_putOn_31 : decode cX5_putOn 31 = .ok (.iastore, 1) := by decide +kernel
theorem dX5_putOn_32 : decode cX5_putOn 32 = .ok (.aload_n 0, 1) := by decide +kernel
theorem dX5_putOn_33 : decode cX5_putOn 33 = .ok (.getfield 19, 3) := by decide +kernel
theorem dX5_putOn_36 : decode cX5_putOn 36 = .ok (.aload_n 0, 1) := by decide +kernel
theorem dX5_putOn_37 : decode cX5_putOn 37 = .ok (.getfield 9, 3) := by decide +kernel
theorem dX5_putOn_40 : decode cX5_putOn 40 = .ok (.iload_n 2, 1) := by decide +kernel
theorem dX5_putOn_41 : decode cX5_putOn 41 = .ok (.iastore, 1) := by decide +kernel
theorem dX5_putOn_42 : decode cX5_putOn 42 = .ok (.aload_n 0, 1) := by decide +kernel
theorem dX5_putOn_43 : decode cX5_putOn 43 = .ok (.getfield 22, 3) := by decide +kernel
theorem dX5_putOn_46 : decode cX5_putOn 46 = .ok (.aload_n 0, 1) := by decide +kernel
theorem dX5_putOn_47 : decode cX5_putOn 47 = .ok (.getfield 9, 3) := by decide +kernel
theorem dX5_putOn_50 : decode cX5_putOn 50 = .ok (.iconst 0, 1) := by decide +kernel
theorem dX5_putOn_51 : decode cX5_putOn 51 = .ok (.iastore, 1) := by decide +kernel
theorem dX5_putOn_52 : decode cX5_putOn 52 = .ok (.aload_n 0, 1) := by decide +kernel
theorem dX5_putOn_53 : decode cX5_putOn 53 = .ok (.getfield 9, 3) := by decide +kernel
theorem dX5_putOn_56 : decode cX5_putOn 56 = .ok (.ireturn, 1) := by decide +kernel
theorem dX6_init_0 : decode cX6_init 0 = .ok (.aload_n 0, 1) := by decide +kernel
theorem dX6_init_1 : decode cX6_init 1 = .ok (.invokespecial 3, 3) := by decide +kernel
theorem dX6_init_4 : decode cX6_init 4 = .ok (.aload_n 0, 1) := by decide +kernel
theorem dX6_init_5 : decode cX6_init 5 = .ok (.iconst 2, 1) := by decide +kernel
theorem dX6_init_6 : decode cX6_init 6 = .ok (.putfield 9, 3) := by decide +kernel
theorem dX6_init_9 : decode cX6_init 9 = .ok (.aload_n 0, 1) := by decide +kernel
theorem dX6_init_10 : decode cX6_init 10 = .ok (.iconst 0, 1) := by decide +kernel
theorem dX6_init_11 : decode cX6_init 11 = .ok (.putfield 15, 3) := by decide +kernel
theorem dX6_init_14 : decode cX6_init 14 = .ok (.aload_n 0, 1) := by decide +kernel
theorem dX6_init_15 : decode cX6_init 15 = .ok (.iconst 0, 1) := by decide +kernel
theorem dX6_init_16 : decode cX6_init 16 = .ok (.putfield 18, 3) := by decide +kernel
theorem dX6_init_19 : decode cX6_init 19 = .ok (.aload_n 0, 1) := by decide +kernel
theorem dX6_init_20 : decode cX6_init 20 = .ok (.bipush 8, 2) := by decide +kernel
theorem dX6_init_22 : decode cX6_init 22 = .ok (.newarray .int, 2) := by decide +kernel
theorem dX6_init_24 : decode cX6_init 24 = .ok (.putfield 21, 3) := by decide +kernel
theorem dX6_init_27 : decode cX6_init 27 = .ok (.aload_n 0, 1) := by decide +kernel
theorem dX6_init_28 : decode cX6_init 28 = .ok (.iconst 2, 1) := by decide +kernel
theorem dX6_init_29 : decode cX6_init 29 = .ok (.newarray .int, 2) := by decide +kernel
theorem dX6_init_31 : decode cX6_init 31 = .ok (.putfield 25, 3) := by decide +kernel
theorem dX6_init_34 : decode cX6_init 34 = .ok (.aload_n 0, 1) := by decide +kernel
theorem dX6_init_35 : decode cX6_init 35 = .ok (.getfield 25, 3) := by decide +kernel
theorem dX6_init_38 : decode cX6_init 38 = .ok (.iconst 0, 1) := by decide +kernel
theorem dX6_init_39 : decode cX6_init 39 = .ok (.sipush 5000, 3) := by decide +kernel
theorem dX6_init_42 : decode cX6_init 42 = .ok (.iastore, 1) := by decide +kernel
theorem dX6_init_43 : decode cX6_init 43 = .ok (.aload_n 0, 1) := by decide +kernel
theorem dX6_init_44 : decode cX6_init 44 = .ok (.getfield 25, 3) := by decide +kernel
theorem dX6_init_47 : decode cX6_init 47 = .ok (.iconst 1, 1) := by decide +kernel
theorem dX6_init_48 : decode cX6_init 48 = .ok (.bipush 30, 2) := by decide +kernel
theorem dX6_init_50 : decode cX6_init 50 = .ok (.iastore, 1) := by decide +kernel
theorem dX6_init_51 : decode cX6_init 51 = .ok (.aload_n 0, 1) := by decide +kernel
theorem dX6_init_52 : decode cX6_init 52 = .ok (.new 28, 3) := by decide +kernel
theorem dX6_init_55 : decode cX6_init 55 = .ok (.dup, 1) := by decide +kernel
theorem dX6_init_56 : decode cX6_init 56 = .ok (.invokespecial 30, 3) := by decide +kernel
theorem dX6_init_59 : decode cX6_init 59 = .ok (.putfield 31, 3) := by decide +kernel
theorem dX6_init_62 : decode cX6_init 62 = .ok (.aload_n 0, 1) := by decide +kernel
theorem dX6_init_63 : decode cX6_init 63 = .ok (.new 35, 3) := by decide +kernel
theorem dX6_init_66 : decode cX6_init 66 = .ok (.dup, 1) := by decide +kernel
theorem dX6_init_67 : decode cX6_init 67 = .ok (.invokespecial 37, 3) := by decide +kernel
theorem dX6_init_70 : decode cX6_init 70 = .ok (.putfield 38, 3) := by decide +kernel
theorem dX6_init_73 : decode cX6_init 73 = .ok (.aload_n 0, 1) := by decide +kernel
theorem dX6_init_74 : decode cX6_init 74 = .ok (.new 42, 3) := by decide +kernel
theorem dX6_init_77 : decode cX6_init 77 = .ok (.dup, 1) := by decide +kernel
theorem dX6_init_78 : decode cX6_init 78 = .ok (.invokespecial 44, 3) := by decide +kernel
theorem dX6_init_81 : decode cX6_init 81 = .ok (.putfield 45, 3) := by decide +kernel
theorem dX6_init_84 : decode cX6_init 84 = .ok (.aload_n 0, 1) := by decide +kernel
theorem dX6_init_85 : decode cX6_init 85 = .ok (.new 49, 3) := by decide +kernel
theorem dX6_init_88 : decode cX6_init 88 = .ok (.dup, 1) := by decide +kernel
theorem dX6_init_89 : decode cX6_init 89 = .ok (.invokespecial 51, 3) := by decide +kernel
theorem dX6_init_92 : decode cX6_init 92 = .ok (.putfield 52, 3) := by decide +kernel
theorem dX6_init_95 : decode cX6_init 95 = .ok (.return_, 1) := by decide +kernel
theorem dX6_become_0 : decode cX6_become 0 = .ok (.aload_n 0, 1) := by decide +kernel
theorem dX6_become_1 : decode cX6_become 1 = .ok (.aload_n 1, 1) := by decide +kernel
theorem dX6_become_2 : decode cX6_become 2 = .ok (.getfield 9, 3) := by decide +kernel
theorem dX6_become_5 : decode cX6_become 5 = .ok (.putfield 9, 3) := by decide +kernel
theorem dX6_become_8 : decode cX6_become 8 = .ok (.aload_n 0, 1) := by decide +kernel
theorem dX6_become_9 : decode cX6_become 9 = .ok (.aload_n 1, 1) := by decide +kernel
theorem dX6_become_10 : decode cX6_become 10 = .ok (.getfield 15, 3) := by decide +kernel
theorem dX6_become_13 : decode cX6_become 13 = .ok (.putfield 15, 3) := by decide +kernel
theorem dX6_become_16 : decode cX6_become 16 = .ok (.aload_n 0, 1) := by decide +kernel
theorem dX6_become_17 : decode cX6_become 17 = .ok (.aload_n 1, 1) := by decide +kernel
theorem dX6_become_18 : decode cX6_become 18 = .ok (.getfield 18, 3) := by decide +kernel
theorem dX6_become_21 : decode cX6_become 21 = .ok (.putfield 18, 3) := by decide +kernel
theorem dX6_become_24 : decode cX6_become 24 = .ok (.aload_n 1, 1) := by decide +kernel
theorem dX6_become_25 : decode cX6_become 25 = .ok (.getfield 21, 3) := by decide +kernel
theorem dX6_become_28 : decode cX6_become 28 = .ok (.iconst 0, 1) := by decide +kernel
theorem dX6_become_29 : decode cX6_become 29 = .ok (.aload_n 0, 1) := by decide +kernel
theorem dX6_become_30 : decode cX6_become 30 = .ok (.getfield 21, 3) := by decide +kernel
theorem dX6_become_33 : decode cX6_become 33 = .ok (.iconst 0, 1) := by decide +kernel
theorem dX6_become_34 : decode cX6_become 34 = .ok (.bipush 8, 2) := by decide +kernel
theorem dX6_become_36 : decode cX6_become 36 = .ok (.invokestatic 56, 3) := by decide +kernel
theorem dX6_become_39 : decode cX6_become 39 = .ok (.aload_n 1, 1) := by decide +kernel
theorem dX6_become_40 : decode cX6_become 40 = .ok (.getfield 25, 3) := by decide +kernel
theorem dX6_become_43 : decode cX6_become 43 = .ok (.iconst 0, 1) := by decide +kernel
theorem dX6_become_44 : decode cX6_become 44 = .ok (.aload_n 0, 1) := by decide +kernel
theorem dX6_become_45 : decode cX6_become 45 = .ok (.getfield 25, 3) := by decide +kernel
theorem dX6_become_48 : decode cX6_become 48 = .ok (.iconst 0, 1) := by decide +kernel
theorem dX6_become_49 : decode cX6_become 49 = .ok (.iconst 2, 1) := by decide +kernel
theorem dX6_become_50 : decode cX6_become 50 = .ok (.invokestatic 56, 3) := by decide +kernel
theorem dX6_become_53 : decode cX6_become 53 = .ok (.aload_n 0, 1) := by decide +kernel
theorem dX6_become_54 : decode cX6_become 54 = .ok (.getfield 31, 3) := by decide +kernel
theorem dX6_become_57 : decode cX6_become 57 = .ok (.aload_n 1, 1) := by decide +kernel
theorem dX6_become_58 : decode cX6_become 58 = .ok (.getfield 31, 3) := by decide +kernel
theorem dX6_become_61 : decode cX6_become 61 = .ok (.invokevirtual 62, 3) := by decide +kernel
theorem dX6_become_64 : decode cX6_become 64 = .ok (.aload_n 0, 1) := by decide +kernel
theorem dX6_become_65 : decode cX6_become 65 = .ok (.getfield 38, 3) := by decide +kernel
theorem dX6_become_68 : decode cX6_become 68 = .ok (.aload_n 1, 1) := by decide +kernel
theorem dX6_become_69 : decode cX6_become 69 = .ok (.getfield 38, 3) := by decide +kernel
theorem dX6_become_72 : decode cX6_become 72 = .ok (.invokevirtual 66, 3) := by decide +kernel
theorem dX6_become_75 : decode cX6_become 75 = .ok (.aload_n 0, 1) := by decide +kernel
theorem dX6_become_76 : decode cX6_become 76 = .ok (.getfield 45, 3) := by decide +kernel
theorem dX6_become_79 : decode cX6_become 79 = .ok (.aload_n 1, 1) := by decide +kernel
theorem dX6_become_80 : decode cX6_become 80 = .ok (.getfield 45, 3) := by decide +kernel
theorem dX6_become_83 : decode cX6_become 83 = .ok (.invokevirtual 69, 3) := by decide +kernel
theorem dX6_become_86 : decode cX6_become 86 = .ok (.aload_n 0, 1) := by decide +kernel
theorem dX6_become_87 : decode cX6_become 87 = .ok (.getfield 52, 3) := by decide +kernel
theorem dX6_become_90 : decode cX6_become 90 = .ok (.aload_n 1, 1) := by decide +kernel
theorem dX6_become_91 : decode cX6_become 91 = .ok (.getfield 52, 3) := by decide +kernel
theorem dX6_become_94 : decode cX6_become 94 = .ok (.invokevirtual 72, 3) := by decide +kernel
theorem dX6_become_97 : decode cX6_become 97 = .ok (.return_, 1) := by decide +kernel
theorem dX6_hasLocker_0 : decode cX6_hasLocker 0 = .ok (.iload_n 1, 1) := by decide +kernel
theorem dX6_hasLocker_1 : decode cX6_hasLocker 1 = .ok (.ifCond .lt 18, 3) := by decide +kernel
theorem dX6_hasLocker_4 : decode cX6_hasLocker 4 = .ok (.iload_n 1, 1) := by decide +kernel
theorem dX6_hasLocker_5 : decode cX6_hasLocker 5 = .ok (.aload_n 0, 1) := by decide +kernel
theorem dX6_hasLocker_6 : decode cX6_hasLocker 6 = .ok (.getfield 31, 3) := by decide +kernel
theorem dX6_hasLocker_9 : decode cX6_hasLocker 9 = .ok (.getfield 75, 3) := by decide +kernel
theorem dX6_hasLocker_12 : decode cX6_hasLocker 12 = .ok (.if_icmp .ge 7, 3) := by decide +kernel
theorem dX6_hasLocker_15 : decode cX6_hasLocker 15 = .ok (.iconst 1, 1) := by decide +kernel
theorem dX6_hasLocker_16 : decode cX6_hasLocker 16 = .ok (.goto 4, 3) := by decide +kernel
theorem dX6_hasLocker_19 : decode cX6_hasLocker 19 = .ok (.iconst 0, 1) := by decide +kernel
theorem dX6_hasLocker_20 : decode cX6_hasLocker 20 = .ok (.ireturn, 1) := by decide +kernel
theorem dX6_hasGood_0 : decode cX6_hasGood 0 = .ok (.iload_n 1, 1) := by decide +kernel
theorem dX6_hasGood_1 : decode cX6_hasGood 1 = .ok (.ifCond .lt 15, 3) := by decide +kernel
theorem dX6_hasGood_4 : decode cX6_hasGood 4 = .ok (.iload_n 1, 1) := by decide +kernel
theorem dX6_hasGood_5 : decode cX6_hasGood 5 = .ok (.aload_n 0, 1) := by decide +kernel
theorem dX6_hasGood_6 : decode cX6_hasGood 6 = .ok (.getfield 18, 3) := by decide +kernel
theorem dX6_hasGood_9 : decode cX6_hasGood 9 = .ok (.if_icmp .ge 7, 3) := by decide +kernel
theorem dX6_hasGood_12 : decode cX6_hasGood 12 = .ok (.iconst 1, 1) := by decide +kernel
theorem dX6_hasGood_13 : decode cX6_hasGood 13 = .ok (.goto 4, 3) := by decide +kernel
theorem dX6_hasGood_16 : decode cX6_hasGood 16 = .ok (.iconst 0, 1) := by decide +kernel
theorem dX6_hasGood_17 : decode cX6_hasGood 17 = .ok (.ireturn, 1) := by decide +kernel
theorem dX6_isDuty_0 : decode cX6_isDuty 0 = .ok (.iload_n 1, 1) := by decide +kernel
theorem dX6_isDuty_1 : decode cX6_isDuty 1 = .ok (.iconst 1, 1) := by decide +kernel
theorem dX6_isDuty_2 : decode cX6_isDuty 2 = .ok (.if_icmp .lt 13, 3) := by decide +kernel
theorem dX6_isDuty_5 : decode cX6_isDuty 5 = .ok (.iload_n 1, 1) := by decide +kernel
theorem dX6_isDuty_6 : decode cX6_isDuty 6 = .ok (.ldc 78, 2) := by decide +kernel
theorem dX6_isDuty_8 : decode cX6_isDuty 8 = .ok (.if_icmp .gt 7, 3) := by decide +kernel
theorem dX6_isDuty_11 : decode cX6_isDuty 11 = .ok (.iconst 1, 1) := by decide +kernel
theorem dX6_isDuty_12 : decode cX6_isDuty 12 = .ok (.goto 4, 3) := by decide +kernel
theorem dX6_isDuty_15 : decode cX6_isDuty 15 = .ok (.iconst 0, 1) := by decide +kernel
theorem dX6_isDuty_16 : decode cX6_isDuty 16 = .ok (.ireturn, 1) := by decide +kernel
theorem dX6_canMove_0 : decode cX6_canMove 0 = .ok (.aload_n 0, 1) := by decide +kernel
theorem dX6_canMove_1 : decode cX6_canMove 1 = .ok (.iload_n 1, 1) := by decide +kernel
theorem dX6_canMove_2 : decode cX6_canMove 2 = .ok (.invokevirtual 79, 3) := by decide +kernel
theorem dX6_canMove_5 : decode cX6_canMove 5 = .ok (.ifCond .eq 27, 3) := by decide +kernel
theorem dX6_canMove_8 : decode cX6_canMove 8 = .ok (.aload_n 0, 1) := by decide +kernel
theorem dX6_canMove_9 : decode cX6_canMove 9 = .ok (.iload_n 2, 1) := by decide +kernel
theorem dX6_canMove_10 : decode cX6_canMove 10 = .ok (.invokevirtual 83, 3) := by decide +kernel
theorem dX6_canMove_13 : decode cX6_canMove 13 = .ok (.ifCond .eq 19, 3) := by decide +kernel
theorem dX6_canMove_16 : decode cX6_canMove 16 = .ok (.iload_n 3, 1) := by decide +kernel
theorem dX6_canMove_17 : decode cX6_canMove 17 = .ok (.iconst 1, 1) := by decide +kernel
theorem dX6_canMove_18 : decode cX6_canMove 18 = .ok (.if_icmp .lt 14, 3) := by decide +kernel
theorem dX6_canMove_21 : decode cX6_canMove 21 = .ok (.iload_n 3, 1) := by decide +kernel
theorem dX6_canMove_22 : decode cX6_canMove 22 = .ok (.sipush 9999, 3) := by decide +kernel
theorem dX6_canMove_25 : decode cX6_canMove 25 = .ok (.if_icmp .gt 7, 3) := by decide +kernel
theorem dX6_canMove_28 : decode cX6_canMove 28 = .ok (.iconst 1, 1) := by decide +kernel
theorem dX6_canMove_29 : decode cX6_canMove 29 = .ok (.goto 4, 3) := by decide +kernel
theorem dX6_canMove_32 : decode cX6_canMove 32 = .ok (.iconst 0, 1) := by decide +kernel
theorem dX6_canMove_33 : decode cX6_canMove 33 = .ok (.ireturn, 1) := by decide +kernel
theorem dX6_addLocker_0 : decode cX6_addLocker 0 = .ok (.aload_n 0, 1) := by decide +kernel
theorem dX6_addLocker_1 : decode cX6_addLocker 1 = .ok (.getfield 9, 3) := by decide +kernel
theorem dX6_addLocker_4 : decode cX6_addLocker 4 = .ok (.iconst 2, 1) := by decide +kernel
theorem dX6_addLocker_5 : decode cX6_addLocker 5 = .ok (.if_icmp .eq 6, 3) := by decide +kernel
theorem dX6_addLocker_8 : decode cX6_addLocker 8 = .ok (.bipush (-2), 2) := by decide +kernel
theorem dX6_addLocker_10 : decode cX6_addLocker 10 = .ok (.ireturn, 1) := by decide +kernel
theorem dX6_addLocker_11 : decode cX6_addLocker 11 = .ok (.aload_n 0, 1) := by decide +kernel
theorem dX6_addLocker_12 : decode cX6_addLocker 12 = .ok (.getfield 31, 3) := by decide +kernel
theorem dX6_addLocker_15 : decode cX6_addLocker 15 = .ok (.getfield 75, 3) := by decide +kernel
theorem dX6_addLocker_18 : decode cX6_addLocker 18 = .ok (.iconst 5, 1) := by decide +kernel
theorem dX6_addLocker_19 : decode cX6_addLocker 19 = .ok (.if_icmp .ge 14, 3) := by decide +kernel
theorem dX6_addLocker_22 : decode cX6_addLocker 22 = .ok (.aload_n 0, 1) := by decide +kernel
theorem dX6_addLocker_23 : decode cX6_addLocker 23 = .ok (.getfield 38, 3) := by decide +kernel
theorem dX6_addLocker_26 : decode cX6_addLocker 26 = .ok (.invokevirtual 86, 3) := by decide +kernel
theorem dX6_addLocker_29 : decode cX6_addLocker 29 = .ok (.iconst 1, 1) := by decide +kernel
theorem dX6_addLocker_30 : decode cX6_addLocker 30 = .ok (.if_icmp .ge 6, 3) := by decide +kernel
theorem dX6_addLocker_33 : decode cX6_addLocker 33 = .ok (.bipush (-3), 2) := by decide +kernel
theorem dX6_addLocker_35 : decode cX6_addLocker 35 = .ok (.ireturn, 1) := by decide +kernel
theorem dX6_addLocker_36 : decode cX6_addLocker 36 = .ok (.aload_n 0, 1) := by decide +kernel
theorem dX6_addLocker_37 : decode cX6_addLocker 37 = .ok (.getfield 31, 3) := by decide +kernel
theorem dX6_addLocker_40 : decode cX6_addLocker 40 = .ok (.getfield 75, 3) := by decide +kernel
theorem dX6_addLocker_43 : decode cX6_addLocker 43 = .ok (.istore_n 1, 1) := by decide +kernel
theorem dX6_addLocker_44 : decode cX6_addLocker 44 = .ok (.aload_n 0, 1) := by decide +kernel
theorem dX6_addLocker_45 : decode cX6_addLocker 45 = .ok (.getfield 31, 3) := by decide +kernel
theorem dX6_addLocker_48 : decode cX6_addLocker 48 = .ok (.dup, 1) := by decide +kernel
theorem dX6_addLocker_49 : decode cX6_addLocker 49 = .ok (.getfield 75, 3) := by decide +kernel
theorem dX6_addLocker_52 : decode cX6_addLocker 52 = .ok (.iconst 1, 1) := by decide +kernel
theorem dX6_addLocker_53 : decode cX6_addLocker 53 = .ok (.iadd, 1) := by decide +kernel
theorem dX6_addLocker_54 : decode cX6_addLocker 54 = .ok (.putfield 75, 3) := by decide +kernel
theorem dX6_addLocker_57 : decode cX6_addLocker 57 = .ok (.aload_n 0, 1) := by decide +kernel
theorem dX6_addLocker_58 : decode cX6_addLocker 58 = .ok (.iload_n 1, 1) := by decide +kernel
theorem dX6_addLocker_59 : decode cX6_addLocker 59 = .ok (.invokevirtual 90, 3) := by decide +kernel
theorem dX6_addLocker_62 : decode cX6_addLocker 62 = .ok (.iload_n 1, 1) := by decide +kernel
theorem dX6_addLocker_63 : decode cX6_addLocker 63 = .ok (.ireturn, 1) := by decide +kernel
theorem dX6_addGood_0 : decode cX6_addGood 0 = .ok (.aload_n 0, 1) := by decide +kernel
theorem dX6_addGood_1 : decode cX6_addGood 1 = .ok (.iload_n 1, 1) := by decide +kernel
theorem dX6_addGood_2 : decode cX6_addGood 2 = .ok (.invokevirtual 94, 3) := by decide +kernel
theorem dX6_addGood_5 : decode cX6_addGood 5 = .ok (.ifCond .ne 5, 3) := by decide +kernel
theorem dX6_addGood_8 : decode cX6_addGood 8 = .ok (.iconst (-1), 1) := by decide +kernel
theorem dX6_addGood_9 : decode cX6_addGood 9 = .ok (.ireturn, 1) := by decide +kernel
theorem dX6_addGood_10 : decode cX6_addGood 10 = .ok (.aload_n 0, 1) := by decide +kernel
theorem dX6_addGood_11 : decode cX6_addGood 11 = .ok (.getfield 18, 3) := by decide +kernel
theorem dX6_addGood_14 : decode cX6_addGood 14 = .ok (.bipush 8, 2) := by decide +kernel
theorem dX6_addGood_16 : decode cX6_addGood 16 = .ok (.if_icmp .lt 6, 3) := by decide +kernel
theorem dX6_addGood_19 : decode cX6_addGood 19 = .ok (.bipush (-3), 2) := by decide +kernel
theorem dX6_addGood_21 : decode cX6_addGood 21 = .ok (.ireturn, 1) := by decide +kernel
theorem dX6_addGood_22 : decode cX6_addGood 22 = .ok (.aload_n 0, 1) := by decide +kernel
theorem dX6_addGood_23 : decode cX6_addGood 23 = .ok (.getfield 21, 3) := by decide +kernel
theorem dX6_addGood_26 : decode cX6_addGood 26 = .ok (.aload_n 0, 1) := by decide +kernel
theorem dX6_addGood_27 : decode cX6_addGood 27 = .ok (.getfield 18, 3) := by decide +kernel
theorem dX6_addGood_30 : decode cX6_addGood 30 = .ok (.iload_n 1, 1) := by decide +kernel
theorem dX6_addGood_31 : decode cX6_addGood 31 = .ok (.iastore, 1) := by decide +kernel
theorem dX6_addGood_32 : decode cX6_addGood 32 = .ok (.aload_n 0, 1) := by decide +kernel
theorem dX6_addGood_33 : decode cX6_addGood 33 = .ok (.dup, 1) := by decide +kernel
theorem dX6_addGood_34 : decode cX6_addGood 34 = .ok (.getfield 18, 3) := by decide +kernel
theorem dX6_addGood_37 : decode cX6_addGood 37 = .ok (.iconst 1, 1) := by decide +kernel
theorem dX6_addGood_38 : decode cX6_addGood 38 = .ok (.iadd, 1) := by decide +kernel
theorem dX6_addGood_39 : decode cX6_addGood 39 = .ok (.putfield 18, 3) := by decide +kernel
theorem dX6_addGood_42 : decode cX6_addGood 42 = .ok (.aload_n 0, 1) := by decide +kernel
theorem dX6_addGood_43 : decode cX6_addGood 43 = .ok (.getfield 18, 3) := by decide +kernel
theorem dX6_addGood_46 : decode cX6_addGood 46 = .ok (.iconst 1, 1) := by decide +kernel
theorem dX6_addGood_47 : decode cX6_addGood 47 = .ok (.isub, 1) := by decide +kernel
theorem dX6_addGood_48 : decode cX6_addGood 48 = .ok (.ireturn, 1) := by decide +kernel
theorem dX6_changeDuty_0 : decode cX6_changeDuty 0 = .ok (.aload_n 0, 1) := by decide +kernel
theorem dX6_changeDuty_1 : decode cX6_changeDuty 1 = .ok (.iload_n 1, 1) := by decide +kernel
theorem dX6_changeDuty_2 : decode cX6_changeDuty 2 = .ok (.invokevirtual 83, 3) := by decide +kernel
theorem dX6_changeDuty_5 : decode cX6_changeDuty 5 = .ok (.ifCond .eq 11, 3) := by decide +kernel
theorem dX6_changeDuty_8 : decode cX6_changeDuty 8 = .ok (.aload_n 0, 1) := by decide +kernel
theorem dX6_changeDuty_9 : decode cX6_changeDuty 9 = .ok (.iload_n 2, 1) := by decide +kernel
theorem dX6_changeDuty_10 : decode cX6_changeDuty 10 = .ok (.invokevirtual 94, 3) := by decide +kernel
theorem dX6_changeDuty_13 : decode cX6_changeDuty 13 = .ok (.ifCond .ne 5, 3) := by decide +kernel
theorem dX6_changeDuty_16 : decode cX6_changeDuty 16 = .ok (.iconst (-1), 1) := by decide +kernel
theorem dX6_changeDuty_17 : decode cX6_changeDuty 17 = .ok (.ireturn, 1) := by decide +kernel
theorem dX6_changeDuty_18 : decode cX6_changeDuty 18 = .ok (.aload_n 0, 1) := by decide +kernel
theorem dX6_changeDuty_19 : decode cX6_changeDuty 19 = .ok (.getfield 21, 3) := by decide +kernel
theorem dX6_changeDuty_22 : decode cX6_changeDuty 22 = .ok (.iload_n 1, 1) := by decide +kernel
theorem dX6_changeDuty_23 : decode cX6_changeDuty 23 = .ok (.iaload, 1) := by decide +kernel
theorem dX6_changeDuty_24 : decode cX6_changeDuty 24 = .ok (.istore_n 3, 1) := by decide +kernel
theorem dX6_changeDuty_25 : decode cX6_changeDuty 25 = .ok (.aload_n 0, 1) := by decide +kernel
theorem dX6_changeDuty_26 : decode cX6_changeDuty 26 = .ok (.getfield 21, 3) := by decide +kernel
theorem dX6_changeDuty_29 : decode cX6_changeDuty 29 = .ok (.iload_n 1, 1) := by decide +kernel
theorem dX6_changeDuty_30 : decode cX6_changeDuty 30 = .ok (.iload_n 2, 1) := by decide +kernel
theorem dX6_changeDuty_31 : decode cX6_changeDuty 31 = .ok (.iastore, 1) := by decide +kernel
theorem dX6_changeDuty_32 : decode cX6_changeDuty 32 = .ok (.iload_n 3, 1) := by decide +kernel
theorem dX6_changeDuty_33 : decode cX6_changeDuty 33 = .ok (.ireturn, 1) := by decide +kernel
theorem dX6_loadUnits_0 : decode cX6_loadUnits 0 = .ok (.aload_n 0, 1) := by decide +kernel
theorem dX6_loadUnits_1 : decode cX6_loadUnits 1 = .ok (.iload_n 1, 1) := by decide +kernel
theorem dX6_loadUnits_2 : decode cX6_loadUnits 2 = .ok (.iload_n 2, 1) := by decide +kernel
theorem dX6_loadUnits_3 : decode cX6_loadUnits 3 = .ok (.iload_n 3, 1) := by decide +kernel
theorem dX6_loadUnits_4 : decode cX6_loadUnits 4 = .ok (.invokevirtual 97, 3) := by decide +kernel
theorem dX6_loadUnits_7 : decode cX6_loadUnits 7 = .ok (.ifCond .ne 5, 3) := by decide +kernel
theorem dX6_loadUnits_10 : decode cX6_loadUnits 10 = .ok (.iconst (-1), 1) := by decide +kernel
theorem dX6_loadUnits_11 : decode cX6_loadUnits 11 = .ok (.ireturn, 1) := by decide +kernel
theorem dX6_loadUnits_12 : decode cX6_loadUnits 12 = .ok (.aload_n 0, 1) := by decide +kernel
theorem dX6_loadUnits_13 : decode cX6_loadUnits 13 = .ok (.getfield 9, 3) := by decide +kernel
theorem dX6_loadUnits_16 : decode cX6_loadUnits 16 = .ok (.iconst 2, 1) := by decide +kernel
theorem dX6_loadUnits_17 : decode cX6_loadUnits 17 = .ok (.if_icmp .ne 16, 3) := by decide +kernel
theorem dX6_loadUnits_20 : decode cX6_loadUnits 20 = .ok (.aload_n 0, 1) := by decide +kernel
theorem dX6_loadUnits_21 : decode cX6_loadUnits 21 = .ok (.getfield 31, 3) := by decide +kernel
theorem dX6_loadUnits_24 : decode cX6_loadUnits 24 = .ok (.getfield 101, 3) := by decide +kernel
theorem dX6_loadUnits_27 : decode cX6_loadUnits 27 = .ok (.iload_n 1, 1) := by decide +kernel
theorem dX6_loadUnits_28 : decode cX6_loadUnits 28 = .ok (.iaload, 1) := by decide +kernel
theorem dX6_loadUnits_29 : decode cX6_loadUnits 29 = .ok (.iconst 2, 1) := by decide +kernel
theorem dX6_loadUnits_30 : decode cX6_loadUnits 30 = .ok (.if_icmp .ne 6, 3) := by decide +kernel
theorem dX6_loadUnits_33 : decode cX6_loadUnits 33 = .ok (.bipush (-2), 2) := by decide +kernel
theorem dX6_loadUnits_35 : decode cX6_loadUnits 35 = .ok (.ireturn, 1) := by decide +kernel
theorem dX6_loadUnits_36 : decode cX6_loadUnits 36 = .ok (.aload_n 0, 1) := by decide +kernel
theorem dX6_loadUnits_37 : decode cX6_loadUnits 37 = .ok (.getfield 31, 3) := by decide +kernel
theorem dX6_loadUnits_40 : decode cX6_loadUnits 40 = .ok (.iload_n 1, 1) := by decide +kernel
theorem dX6_loadUnits_41 : decode cX6_loadUnits 41 = .ok (.iload_n 2, 1) := by decide +kernel
theorem dX6_loadUnits_42 : decode cX6_loadUnits 42 = .ok (.invokevirtual 104, 3) := by decide +kernel
theorem dX6_loadUnits_45 : decode cX6_loadUnits 45 = .ok (.istore 4, 2) := by decide +kernel
theorem dX6_loadUnits_47 : decode cX6_loadUnits 47 = .ok (.iload_n 3, 1) := by decide +kernel
theorem dX6_loadUnits_48 : decode cX6_loadUnits 48 = .ok (.i2l, 1) := by decide +kernel
theorem dX6_loadUnits_49 : decode cX6_loadUnits 49 = .ok (.aload_n 0, 1) := by decide +kernel
theorem dX6_loadUnits_50 : decode cX6_loadUnits 50 = .ok (.getfield 21, 3) := by decide +kernel
theorem dX6_loadUnits_53 : decode cX6_loadUnits 53 = .ok (.iload_n 2, 1) := by decide +kernel
theorem dX6_loadUnits_54 : decode cX6_loadUnits 54 = .ok (.iaload, 1) := by decide +kernel
theorem dX6_loadUnits_55 : decode cX6_loadUnits 55 = .ok (.i2l, 1) := by decide +kernel
theorem dX6_loadUnits_56 : decode cX6_loadUnits 56 = .ok (.lmul, 1) := by decide +kernel
theorem dX6_loadUnits_57 : decode cX6_loadUnits 57 = .ok (.lstore 5, 2) := by decide +kernel
theorem dX6_loadUnits_59 : decode cX6_loadUnits 59 = .ok (.aload_n 0, 1) := by decide +kernel
theorem dX6_loadUnits_60 : decode cX6_loadUnits 60 = .ok (.getfield 45, 3) := by decide +kernel
theorem dX6_loadUnits_63 : decode cX6_loadUnits 63 = .ok (.getfield 108, 3) := by decide +kernel
theorem dX6_loadUnits_66 : decode cX6_loadUnits 66 = .ok (.bipush 60, 2) := by decide +kernel
theorem dX6_loadUnits_68 : decode cX6_loadUnits 68 = .ok (.if_icmp .ge 48, 3) := by decide +kernel
theorem dX6_loadUnits_71 : decode cX6_loadUnits 71 = .ok (.aload_n 0, 1) := by decide +kernel
theorem dX6_loadUnits_72 : decode cX6_loadUnits 72 = .ok (.getfield 38, 3) := by decide +kernel
theorem dX6_loadUnits_75 : decode cX6_loadUnits 75 = .ok (.invokevirtual 86, 3) := by decide +kernel
theorem dX6_loadUnits_78 : decode cX6_loadUnits 78 = .ok (.iconst 1, 1) := by decide +kernel
theorem dX6_loadUnits_79 : decode cX6_loadUnits 79 = .ok (.if_icmp .lt 37, 3) := by decide +kernel
theorem dX6_loadUnits_82 : decode cX6_loadUnits 82 = .ok (.aload_n 0, 1) := by decide +kernel
theorem dX6_loadUnits_83 : decode cX6_loadUnits 83 = .ok (.getfield 31, 3) := by decide +kernel
theorem dX6_loadUnits_86 : decode cX6_loadUnits 86 = .ok (.getfield 109, 3) := by decide +kernel
theorem dX6_loadUnits_89 : decode cX6_loadUnits 89 = .ok (.iload 4, 2) := by decide +kernel
theorem dX6_loadUnits_91 : decode cX6_loadUnits 91 = .ok (.iaload, 1) := by decide +kernel
theorem dX6_loadUnits_92 : decode cX6_loadUnits 92 = .ok (.iload_n 3, 1) := by decide +kernel
theorem dX6_loadUnits_93 : decode cX6_loadUnits 93 = .ok (.iadd, 1) := by decide +kernel
theorem dX6_loadUnits_94 : decode cX6_loadUnits 94 = .ok (.ldc 112, 2) := by decide +kernel
theorem dX6_loadUnits_96 : decode cX6_loadUnits 96 = .ok (.if_icmp .gt 20, 3) := by decide +kernel
theorem dX6_loadUnits_99 : decode cX6_loadUnits 99 = .ok (.aload_n 0, 1) := by decide +kernel
theorem dX6_loadUnits_100 : decode cX6_loadUnits 100 = .ok (.getfield 45, 3) := by decide +kernel
theorem dX6_loadUnits_103 : decode cX6_loadUnits 103 = .ok (.getfield 113, 3) := by decide +kernel
theorem dX6_loadUnits_106 : decode cX6_loadUnits 106 = .ok (.lload 5, 2) := by decide +kernel
theorem dX6_loadUnits_108 : decode cX6_loadUnits 108 = .ok (.ladd, 1) := by decide +kernel
theorem dX6_loadUnits_109 : decode cX6_loadUnits 109 = .ok (.ldc2_w 117, 3) := by decide +kernel
theorem dX6_loadUnits_112 : decode cX6_loadUnits 112 = .ok (.lcmp, 1) := by decide +kernel
theorem dX6_loadUnits_113 : decode cX6_loadUnits 113 = .ok (.ifCond .le 6, 3) := by decide +kernel
theorem dX6_loadUnits_116 : decode cX6_loadUnits 116 = .ok (.bipush (-3), 2) := by decide +kernel
theorem dX6_loadUnits_118 : decode cX6_loadUnits 118 = .ok (.ireturn, 1) := by decide +kernel
theorem dX6_loadUnits_119 : decode cX6_loadUnits 119 = .ok (.aload_n 0, 1) := by decide +kernel
theorem dX6_loadUnits_120 : decode cX6_loadUnits 120 = .ok (.iload_n 1, 1) := by decide +kernel
theorem dX6_loadUnits_121 : decode cX6_loadUnits 121 = .ok (.invokevirtual 119, 3) := by decide +kernel
theorem dX6_loadUnits_124 : decode cX6_loadUnits 124 = .ok (.aload_n 0, 1) := by decide +kernel
theorem dX6_loadUnits_125 : decode cX6_loadUnits 125 = .ok (.getfield 31, 3) := by decide +kernel
theorem dX6_loadUnits_128 : decode cX6_loadUnits 128 = .ok (.getfield 109, 3) := by decide +kernel
theorem dX6_loadUnits_131 : decode cX6_loadUnits 131 = .ok (.iload 4, 2) := by decide +kernel
theorem dX6_loadUnits_133 : decode cX6_loadUnits 133 = .ok (.dup2, 1) := by decide +kernel
theorem dX6_loadUnits_134 : decode cX6_loadUnits 134 = .ok (.iaload, 1) := by decide +kernel
theorem dX6_loadUnits_135 : decode cX6_loadUnits 135 = .ok (.iload_n 3, 1) := by decide +kernel
theorem dX6_loadUnits_136 : decode cX6_loadUnits 136 = .ok (.iadd, 1) := by decide +kernel
theorem dX6_loadUnits_137 : decode cX6_loadUnits 137 = .ok (.iastore, 1) := by decide +kernel
theorem dX6_loadUnits_138 : decode cX6_loadUnits 138 = .ok (.aload_n 0, 1) := by decide +kernel
theorem dX6_loadUnits_139 : decode cX6_loadUnits 139 = .ok (.getfield 45, 3) := by decide +kernel
theorem dX6_loadUnits_142 : decode cX6_loadUnits 142 = .ok (.iload_n 2, 1) := by decide +kernel
theorem dX6_loadUnits_143 : decode cX6_loadUnits 143 = .ok (.iload_n 3, 1) := by decide +kernel
theorem dX6_loadUnits_144 : decode cX6_loadUnits 144 = .ok (.aload_n 0, 1) := by decide +kernel
theorem dX6_loadUnits_145 : decode cX6_loadUnits 145 = .ok (.getfield 21, 3) := by decide +kernel
theorem dX6_loadUnits_148 : decode cX6_loadUnits 148 = .ok (.iload_n 2, 1) := by decide +kernel
theorem dX6_loadUnits_149 : decode cX6_loadUnits 149 = .ok (.iaload, 1) := by decide +kernel
theorem dX6_loadUnits_150 : decode cX6_loadUnits 150 = .ok (.aload_n 0, 1) := by decide +kernel
theorem dX6_loadUnits_151 : decode cX6_loadUnits 151 = .ok (.getfield 15, 3) := by decide +kernel
theorem dX6_loadUnits_154 : decode cX6_loadUnits 154 = .ok (.aload_n 0, 1) := by decide +kernel
theorem dX6_loadUnits_155 : decode cX6_loadUnits 155 = .ok (.getfield 25, 3) := by decide +kernel
theorem dX6_loadUnits_158 : decode cX6_loadUnits 158 = .ok (.iconst 1, 1) := by decide +kernel
theorem dX6_loadUnits_159 : decode cX6_loadUnits 159 = .ok (.iaload, 1) := by decide +kernel
theorem dX6_loadUnits_160 : decode cX6_loadUnits 160 = .ok (.iadd, 1) := by decide +kernel
theorem dX6_loadUnits_161 : decode cX6_loadUnits 161 = .ok (.invokevirtual 122, 3) := by decide +kernel
theorem dX6_loadUnits_164 : decode cX6_loadUnits 164 = .ok (.ireturn, 1) := by decide +kernel
theorem dX6_useUnits_0 : decode cX6_useUnits 0 = .ok (.aload_n 0, 1) := by decide +kernel
theorem dX6_useUnits_1 : decode cX6_useUnits 1 = .ok (.iload_n 1, 1) := by decide +kernel
theorem dX6_useUnits_2 : decode cX6_useUnits 2 = .ok (.iload_n 2, 1) := by decide +kernel
theorem dX6_useUnits_3 : decode cX6_useUnits 3 = .ok (.iload_n 3, 1) := by decide +kernel
theorem dX6_useUnits_4 : decode cX6_useUnits 4 = .ok (.invokevirtual 97, 3) := by decide +kernel
theorem dX6_useUnits_7 : decode cX6_useUnits 7 = .ok (.ifCond .ne 5, 3) := by decide +kernel
theorem dX6_useUnits_10 : decode cX6_useUnits 10 = .ok (.iconst (-1), 1) := by decide +kernel
theorem dX6_useUnits_11 : decode cX6_useUnits 11 = .ok (.ireturn, 1) := by decide +kernel
theorem dX6_useUnits_12 : decode cX6_useUnits 12 = .ok (.aload_n 0, 1) := by decide +kernel
theorem dX6_useUnits_13 : decode cX6_useUnits 13 = .ok (.getfield 31, 3) := by decide +kernel
theorem dX6_useUnits_16 : decode cX6_useUnits 16 = .ok (.iload_n 1, 1) := by decide +kernel
theorem dX6_useUnits_17 : decode cX6_useUnits 17 = .ok (.iload_n 2, 1) := by decide +kernel
theorem dX6_useUnits_18 : decode cX6_useUnits 18 = .ok (.invokevirtual 104, 3) := by decide +kernel
theorem dX6_useUnits_21 : decode cX6_useUnits 21 = .ok (.istore 4, 2) := by decide +kernel
theorem dX6_useUnits_23 : decode cX6_useUnits 23 = .ok (.aload_n 0, 1) := by decide +kernel
theorem dX6_useUnits_24 : decode cX6_useUnits 24 = .ok (.getfield 9, 3) := by decide +kernel
theorem dX6_useUnits_27 : decode cX6_useUnits 27 = .ok (.ifCond .ne 17, 3) := by decide +kernel
theorem dX6_useUnits_30 : decode cX6_useUnits 30 = .ok (.aload_n 0, 1) := by decide +kernel
theorem dX6_useUnits_31 : decode cX6_useUnits 31 = .ok (.getfield 31, 3) := by decide +kernel
theorem dX6_useUnits_34 : decode cX6_useUnits 34 = .ok (.getfield 109, 3) := by decide +kernel
theorem dX6_useUnits_37 : decode cX6_useUnits 37 = .ok (.iload 4, 2) := by decide +kernel
theorem dX6_useUnits_39 : decode cX6_useUnits 39 = .ok (.iaload, 1) := by decide +kernel
theorem dX6_useUnits_40 : decode cX6_useUnits 40 = .ok (.iload_n 3, 1) := by decide +kernel
theorem dX6_useUnits_41 : decode cX6_useUnits 41 = .ok (.if_icmp .ge 6, 3) := by decide +kernel
theorem dX6_useUnits_44 : decode cX6_useUnits 44 = .ok (.bipush (-2), 2) := by decide +kernel
theorem dX6_useUnits_46 : decode cX6_useUnits 46 = .ok (.ireturn, 1) := by decide +kernel
theorem dX6_useUnits_47 : decode cX6_useUnits 47 = .ok (.aload_n 0, 1) := by decide +kernel
theorem dX6_useUnits_48 : decode cX6_useUnits 48 = .ok (.getfield 31, 3) := by decide +kernel
theorem dX6_useUnits_51 : decode cX6_useUnits 51 = .ok (.getfield 109, 3) := by decide +kernel
theorem dX6_useUnits_54 : decode cX6_useUnits 54 = .ok (.iload 4, 2) := by decide +kernel
theorem dX6_useUnits_56 : decode cX6_useUnits 56 = .ok (.dup2, 1) := by decide +kernel
theorem dX6_useUnits_57 : decode cX6_useUnits 57 = .ok (.iaload, 1) := by decide +kernel
theorem dX6_useUnits_58 : decode cX6_useUnits 58 = .ok (.iload_n 3, 1) := by decide +kernel
theorem dX6_useUnits_59 : decode cX6_useUnits 59 = .ok (.isub, 1) := by decide +kernel
theorem dX6_useUnits_60 : decode cX6_useUnits 60 = .ok (.iastore, 1) := by decide +kernel
theorem dX6_useUnits_61 : decode cX6_useUnits 61 = .ok (.aload_n 0, 1) := by decide +kernel
theorem dX6_useUnits_62 : decode cX6_useUnits 62 = .ok (.iload_n 2, 1) := by decide +kernel
theorem dX6_useUnits_63 : decode cX6_useUnits 63 = .ok (.iload_n 3, 1) := by decide +kernel
theorem dX6_useUnits_64 : decode cX6_useUnits 64 = .ok (.iconst 0, 1) := by decide +kernel
theorem dX6_useUnits_65 : decode cX6_useUnits 65 = .ok (.invokevirtual 126, 3) := by decide +kernel
theorem dX6_useUnits_68 : decode cX6_useUnits 68 = .ok (.l2i, 1) := by decide +kernel
theorem dX6_useUnits_69 : decode cX6_useUnits 69 = .ok (.ireturn, 1) := by decide +kernel
theorem dX6_returnUnits_0 : decode cX6_returnUnits 0 = .ok (.aload_n 0, 1) := by decide +kernel
theorem dX6_returnUnits_1 : decode cX6_returnUnits 1 = .ok (.iload_n 1, 1) := by decide +kernel
theorem dX6_returnUnits_2 : decode cX6_returnUnits 2 = .ok (.iload_n 2, 1) := by decide +kernel
theorem dX6_returnUnits_3 : decode cX6_returnUnits 3 = .ok (.iload_n 3, 1) := by decide +kernel
theorem dX6_returnUnits_4 : decode cX6_returnUnits 4 = .ok (.invokevirtual 97, 3) := by decide +kernel
theorem dX6_returnUnits_7 : decode cX6_returnUnits 7 = .ok (.ifCond .ne 5, 3) := by decide +kernel
theorem dX6_returnUnits_10 : decode cX6_returnUnits 10 = .ok (.iconst (-1), 1) := by decide +kernel
theorem dX6_returnUnits_11 : decode cX6_returnUnits 11 = .ok (.ireturn, 1) := by decide +kernel
theorem dX6_returnUnits_12 : decode cX6_returnUnits 12 = .ok (.aload_n 0, 1) := by decide +kernel
theorem dX6_returnUnits_13 : decode cX6_returnUnits 13 = .ok (.getfield 31, 3) := by decide +kernel
theorem dX6_returnUnits_16 : decode cX6_returnUnits 16 = .ok (.iload_n 1, 1) := by decide +kernel
theorem dX6_returnUnits_17 : decode cX6_returnUnits 17 = .ok (.iload_n 2, 1) := by decide +kernel
theorem dX6_returnUnits_18 : decode cX6_returnUnits 18 = .ok (.invokevirtual 104, 3) := by decide +kernel
theorem dX6_returnUnits_21 : decode cX6_returnUnits 21 = .ok (.istore 4, 2) := by decide +kernel
theorem dX6_returnUnits_23 : decode cX6_returnUnits 23 = .ok (.aload_n 0, 1) := by decide +kernel
theorem dX6_returnUnits_24 : decode cX6_returnUnits 24 = .ok (.getfield 9, 3) := by decide +kernel
theorem dX6_returnUnits_27 : decode cX6_returnUnits 27 = .ok (.iconst 2, 1) := by decide +kernel
theorem dX6_returnUnits_28 : decode cX6_returnUnits 28 = .ok (.if_icmp .ne 30, 3) := by decide +kernel
theorem dX6_returnUnits_31 : decode cX6_returnUnits 31 = .ok (.aload_n 0, 1) := by decide +kernel
theorem dX6_returnUnits_32 : decode cX6_returnUnits 32 = .ok (.getfield 31, 3) := by decide +kernel
theorem dX6_returnUnits_35 : decode cX6_returnUnits 35 = .ok (.getfield 101, 3) := by decide +kernel
theorem dX6_returnUnits_38 : decode cX6_returnUnits 38 = .ok (.iload_n 1, 1) := by decide +kernel
theorem dX6_returnUnits_39 : decode cX6_returnUnits 39 = .ok (.iaload, 1) := by decide +kernel
theorem dX6_returnUnits_40 : decode cX6_returnUnits 40 = .ok (.iconst 2, 1) := by decide +kernel
theorem dX6_returnUnits_41 : decode cX6_returnUnits 41 = .ok (.if_icmp .eq 17, 3) := by decide +kernel
theorem dX6_returnUnits_44 : decode cX6_returnUnits 44 = .ok (.aload_n 0, 1) := by decide +kernel
theorem dX6_returnUnits_45 : decode cX6_returnUnits 45 = .ok (.getfield 31, 3) := by decide +kernel
theorem dX6_returnUnits_48 : decode cX6_returnUnits 48 = .ok (.getfield 109, 3) := by decide +kernel
theorem dX6_returnUnits_51 : decode cX6_returnUnits 51 = .ok (.iload 4, 2) := by decide +kernel
theorem dX6_returnUnits_53 : decode cX6_returnUnits 53 = .ok (.iaload, 1) := by decide +kernel
theorem dX6_returnUnits_54 : decode cX6_returnUnits 54 = .ok (.iload_n 3, 1) := by decide +kernel
theorem dX6_returnUnits_55 : decode cX6_returnUnits 55 = .ok (.if_icmp .ge 6, 3) := by decide +kernel
theorem dX6_returnUnits_58 : decode cX6_returnUnits 58 = .ok (.bipush (-2), 2) := by decide +kernel
theorem dX6_returnUnits_60 : decode cX6_returnUnits 60 = .ok (.ireturn, 1) := by decide +kernel
theorem dX6_returnUnits_61 : decode cX6_returnUnits 61 = .ok (.aload_n 0, 1) := by decide +kernel
theorem dX6_returnUnits_62 : decode cX6_returnUnits 62 = .ok (.getfield 38, 3) := by decide +kernel
theorem dX6_returnUnits_65 : decode cX6_returnUnits 65 = .ok (.invokevirtual 86, 3) := by decide +kernel
theorem dX6_returnUnits_68 : decode cX6_returnUnits 68 = .ok (.iconst 1, 1) := by decide +kernel
theorem dX6_returnUnits_69 : decode cX6_returnUnits 69 = .ok (.if_icmp .ge 6, 3) := by decide +kernel
theorem dX6_returnUnits_72 : decode cX6_returnUnits 72 = .ok (.bipush (-3), 2) := by decide +kernel
theorem dX6_returnUnits_74 : decode cX6_returnUnits 74 = .ok (.ireturn, 1) := by decide +kernel
theorem dX6_returnUnits_75 : decode cX6_returnUnits 75 = .ok (.aload_n 0, 1) := by decide +kernel
theorem dX6_returnUnits_76 : decode cX6_returnUnits 76 = .ok (.iload_n 1, 1) := by decide +kernel
theorem dX6_returnUnits_77 : decode cX6_returnUnits 77 = .ok (.invokevirtual 119, 3) := by decide +kernel
theorem dX6_returnUnits_80 : decode cX6_returnUnits 80 = .ok (.aload_n 0, 1) := by decide +kernel
theorem dX6_returnUnits_81 : decode cX6_returnUnits 81 = .ok (.getfield 31, 3) := by decide +kernel
theorem dX6_returnUnits_84 : decode cX6_returnUnits 84 = .ok (.getfield 109, 3) := by decide +kernel
theorem dX6_returnUnits_87 : decode cX6_returnUnits 87 = .ok (.iload 4, 2) := by decide +kernel
theorem dX6_returnUnits_89 : decode cX6_returnUnits 89 = .ok (.dup2, 1) := by decide +kernel
theorem dX6_returnUnits_90 : decode cX6_returnUnits 90 = .ok (.iaload, 1) := by decide +kernel
theorem dX6_returnUnits_91 : decode cX6_returnUnits 91 = .ok (.iload_n 3, 1) := by decide +kernel
theorem dX6_returnUnits_92 : decode cX6_returnUnits 92 = .ok (.isub, 1) := by decide +kernel
theorem dX6_returnUnits_93 : decode cX6_returnUnits 93 = .ok (.iastore, 1) := by decide +kernel
theorem dX6_returnUnits_94 : decode cX6_returnUnits 94 = .ok (.aload_n 0, 1) := by decide +kernel
theorem dX6_returnUnits_95 : decode cX6_returnUnits 95 = .ok (.iload_n 2, 1) := by decide +kernel
theorem dX6_returnUnits_96 : decode cX6_returnUnits 96 = .ok (.iload_n 3, 1) := by decide +kernel
theorem dX6_returnUnits_97 : decode cX6_returnUnits 97 = .ok (.iconst 1, 1) := by decide +kernel
theorem dX6_returnUnits_98 : decode cX6_returnUnits 98 = .ok (.invokevirtual 126, 3) := by decide +kernel
theorem dX6_returnUnits_101 : decode cX6_returnUnits 101 = .ok (.l2i, 1) := by decide +kernel
theorem dX6_returnUnits_102 : decode cX6_returnUnits 102 = .ok (.ireturn, 1) := by decide +kernel
theorem dX6_breakUnits_0 : decode cX6_breakUnits 0 = .ok (.aload_n 0, 1) := by decide +kernel
theorem dX6_breakUnits_1 : decode cX6_breakUnits 1 = .ok (.iload_n 1, 1) := by decide +kernel
theorem dX6_breakUnits_2 : decode cX6_breakUnits 2 = .ok (.iload_n 2, 1) := by decide +kernel
theorem dX6_breakUnits_3 : decode cX6_breakUnits 3 = .ok (.iload_n 3, 1) := by decide +kernel
theorem dX6_breakUnits_4 : decode cX6_breakUnits 4 = .ok (.invokevirtual 97, 3) := by decide +kernel
theorem dX6_breakUnits_7 : decode cX6_breakUnits 7 = .ok (.ifCond .eq 15, 3) := by decide +kernel
theorem dX6_breakUnits_10 : decode cX6_breakUnits 10 = .ok (.iload 4, 2) := by decide +kernel
theorem dX6_breakUnits_12 : decode cX6_breakUnits 12 = .ok (.ifCond .lt 10, 3) := by decide +kernel
theorem dX6_breakUnits_15 : decode cX6_breakUnits 15 = .ok (.iload 4, 2) := by decide +kernel
theorem dX6_breakUnits_17 : decode cX6_breakUnits 17 = .ok (.bipush 9, 2) := by decide +kernel
theorem dX6_breakUnits_19 : decode cX6_breakUnits 19 = .ok (.if_icmp .le 5, 3) := by decide +kernel
theorem dX6_breakUnits_22 : decode cX6_breakUnits 22 = .ok (.iconst (-1), 1) := by decide +kernel
theorem dX6_breakUnits_23 : decode cX6_breakUnits 23 = .ok (.ireturn, 1) := by decide +kernel
theorem dX6_breakUnits_24 : decode cX6_breakUnits 24 = .ok (.aload_n 0, 1) := by decide +kernel
theorem dX6_breakUnits_25 : decode cX6_breakUnits 25 = .ok (.getfield 31, 3) := by decide +kernel
theorem dX6_breakUnits_28 : decode cX6_breakUnits 28 = .ok (.iload_n 1, 1) := by decide +kernel
theorem dX6_breakUnits_29 : decode cX6_breakUnits 29 = .ok (.iload_n 2, 1) := by decide +kernel
theorem dX6_breakUnits_30 : decode cX6_breakUnits 30 = .ok (.invokevirtual 104, 3) := by decide +kernel
theorem dX6_breakUnits_33 : decode cX6_breakUnits 33 = .ok (.istore 5, 2) := by decide +kernel
theorem dX6_breakUnits_35 : decode cX6_breakUnits 35 = .ok (.aload_n 0, 1) := by decide +kernel
theorem dX6_breakUnits_36 : decode cX6_breakUnits 36 = .ok (.getfield 9, 3) := by decide +kernel
theorem dX6_breakUnits_39 : decode cX6_breakUnits 39 = .ok (.ifCond .ne 17, 3) := by decide +kernel
theorem dX6_breakUnits_42 : decode cX6_breakUnits 42 = .ok (.aload_n 0, 1) := by decide +kernel
theorem dX6_breakUnits_43 : decode cX6_breakUnits 43 = .ok (.getfield 31, 3) := by decide +kernel
theorem dX6_breakUnits_46 : decode cX6_breakUnits 46 = .ok (.getfield 109, 3) := by decide +kernel
theorem dX6_breakUnits_49 : decode cX6_breakUnits 49 = .ok (.iload 5, 2) := by decide +kernel
theorem dX6_breakUnits_51 : decode cX6_breakUnits 51 = .ok (.iaload, 1) := by decide +kernel
theorem dX6_breakUnits_52 : decode cX6_breakUnits 52 = .ok (.iload_n 3, 1) := by decide +kernel
theorem dX6_breakUnits_53 : decode cX6_breakUnits 53 = .ok (.if_icmp .ge 6, 3) := by decide +kernel
theorem dX6_breakUnits_56 : decode cX6_breakUnits 56 = .ok (.bipush (-2), 2) := by decide +kernel
theorem dX6_breakUnits_58 : decode cX6_breakUnits 58 = .ok (.ireturn, 1) := by decide +kernel
theorem dX6_breakUnits_59 : decode cX6_breakUnits 59 = .ok (.aload_n 0, 1) := by decide +kernel
theorem dX6_breakUnits_60 : decode cX6_breakUnits 60 = .ok (.getfield 31, 3) := by decide +kernel
theorem dX6_breakUnits_63 : decode cX6_breakUnits 63 = .ok (.getfield 109, 3) := by decide +kernel
theorem dX6_breakUnits_66 : decode cX6_breakUnits 66 = .ok (.iload 5, 2) := by decide +kernel
theorem dX6_breakUnits_68 : decode cX6_breakUnits 68 = .ok (.dup2, 1) := by decide +kernel
theorem dX6_breakUnits_69 : decode cX6_breakUnits 69 = .ok (.iaload, 1) := by decide +kernel
theorem dX6_breakUnits_70 : decode cX6_breakUnits 70 = .ok (.iload_n 3, 1) := by decide +kernel
theorem dX6_breakUnits_71 : decode cX6_breakUnits 71 = .ok (.isub, 1) := by decide +kernel
theorem dX6_breakUnits_72 : decode cX6_breakUnits 72 = .ok (.iastore, 1) := by decide +kernel
theorem dX6_breakUnits_73 : decode cX6_breakUnits 73 = .ok (.iload 4, 2) := by decide +kernel
theorem dX6_breakUnits_75 : decode cX6_breakUnits 75 = .ok (.ifCond .ne 19, 3) := by decide +kernel
theorem dX6_breakUnits_78 : decode cX6_breakUnits 78 = .ok (.aload_n 0, 1) := by decide +kernel
theorem dX6_breakUnits_79 : decode cX6_breakUnits 79 = .ok (.getfield 31, 3) := by decide +kernel
theorem dX6_breakUnits_82 : decode cX6_breakUnits 82 = .ok (.getfield 130, 3) := by decide +kernel
theorem dX6_breakUnits_85 : decode cX6_breakUnits 85 = .ok (.iload 5, 2) := by decide +kernel
theorem dX6_breakUnits_87 : decode cX6_breakUnits 87 = .ok (.dup2, 1) := by decide +kernel
theorem dX6_breakUnits_88 : decode cX6_breakUnits 88 = .ok (.iaload, 1) := by decide +kernel
theorem dX6_breakUnits_89 : decode cX6_breakUnits 89 = .ok (.iload_n 3, 1) := by decide +kernel
theorem dX6_breakUnits_90 : decode cX6_breakUnits 90 = .ok (.iadd, 1) := by decide +kernel
theorem dX6_breakUnits_91 : decode cX6_breakUnits 91 = .ok (.iastore, 1) := by decide +kernel
theorem dX6_breakUnits_92 : decode cX6_breakUnits 92 = .ok (.iconst 0, 1) := by decide +kernel
theorem dX6_breakUnits_93 : decode cX6_breakUnits 93 = .ok (.ireturn, 1) := by decide +kernel
theorem dX6_breakUnits_94 : decode cX6_breakUnits 94 = .ok (.aload_n 0, 1) := by decide +kernel
theorem dX6_breakUnits_95 : decode cX6_breakUnits 95 = .ok (.iload_n 2, 1) := by decide +kernel
theorem dX6_breakUnits_96 : decode cX6_breakUnits 96 = .ok (.iload_n 3, 1) := by decide +kernel
theorem dX6_breakUnits_97 : decode cX6_breakUnits 97 = .ok (.iconst 2, 1) := by decide +kernel
theorem dX6_breakUnits_98 : decode cX6_breakUnits 98 = .ok (.invokevirtual 126, 3) := by decide +kernel
theorem dX6_breakUnits_101 : decode cX6_breakUnits 101 = .ok (.l2i, 1) := by decide +kernel
theorem dX6_breakUnits_102 : decode cX6_breakUnits 102 = .ok (.ireturn, 1) := by decide +kernel
theorem dX6_tearSeal_0 : decode cX6_tearSeal 0 = .ok (.aload_n 0, 1) := by decide +kernel
theorem dX6_tearSeal_1 : decode cX6_tearSeal 1 = .ok (.iload_n 1, 1) := by decide +kernel
theorem dX6_tearSeal_2 : decode cX6_tearSeal 2 = .ok (.invokevirtual 79, 3) := by decide +kernel
theorem dX6_tearSeal_5 : decode cX6_tearSeal 5 = .ok (.ifCond .ne 5, 3) := by decide +kernel
theorem dX6_tearSeal_8 : decode cX6_tearSeal 8 = .ok (.iconst (-1), 1) := by decide +kernel
theorem dX6_tearSeal_9 : decode cX6_tearSeal 9 = .ok (.ireturn, 1) := by decide +kernel
theorem dX6_tearSeal_10 : decode cX6_tearSeal 10 = .ok (.aload_n 0, 1) := by decide +kernel
theorem dX6_tearSeal_11 : decode cX6_tearSeal 11 = .ok (.getfield 31, 3) := by decide +kernel
theorem dX6_tearSeal_14 : decode cX6_tearSeal 14 = .ok (.getfield 101, 3) := by decide +kernel
theorem dX6_tearSeal_17 : decode cX6_tearSeal 17 = .ok (.iload_n 1, 1) := by decide +kernel
theorem dX6_tearSeal_18 : decode cX6_tearSeal 18 = .ok (.iaload, 1) := by decide +kernel
theorem dX6_tearSeal_19 : decode cX6_tearSeal 19 = .ok (.iconst 1, 1) := by decide +kernel
theorem dX6_tearSeal_20 : decode cX6_tearSeal 20 = .ok (.if_icmp .eq 6, 3) := by decide +kernel
theorem dX6_tearSeal_23 : decode cX6_tearSeal 23 = .ok (.bipush (-2), 2) := by decide +kernel
theorem dX6_tearSeal_25 : decode cX6_tearSeal 25 = .ok (.ireturn, 1) := by decide +kernel
theorem dX6_tearSeal_26 : decode cX6_tearSeal 26 = .ok (.aload_n 0, 1) := by decide +kernel
theorem dX6_tearSeal_27 : decode cX6_tearSeal 27 = .ok (.getfield 31, 3) := by decide +kernel
theorem dX6_tearSeal_30 : decode cX6_tearSeal 30 = .ok (.getfield 101, 3) := by decide +kernel
theorem dX6_tearSeal_33 : decode cX6_tearSeal 33 = .ok (.iload_n 1, 1) := by decide +kernel
theorem dX6_tearSeal_34 : decode cX6_tearSeal 34 = .ok (.iconst 2, 1) := by decide +kernel
theorem dX6_tearSeal_35 : decode cX6_tearSeal 35 = .ok (.iastore, 1) := by decide +kernel
theorem dX6_tearSeal_36 : decode cX6_tearSeal 36 = .ok (.aload_n 0, 1) := by decide +kernel
theorem dX6_tearSeal_37 : decode cX6_tearSeal 37 = .ok (.getfield 38, 3) := by decide +kernel
theorem dX6_tearSeal_40 : decode cX6_tearSeal 40 = .ok (.getfield 133, 3) := by decide +kernel
theorem dX6_tearSeal_43 : decode cX6_tearSeal 43 = .ok (.aload_n 0, 1) := by decide +kernel
theorem dX6_tearSeal_44 : decode cX6_tearSeal 44 = .ok (.getfield 31, 3) := by decide +kernel
theorem dX6_tearSeal_47 : decode cX6_tearSeal 47 = .ok (.getfield 136, 3) := by decide +kernel
theorem dX6_tearSeal_50 : decode cX6_tearSeal 50 = .ok (.iload_n 1, 1) := by decide +kernel
theorem dX6_tearSeal_51 : decode cX6_tearSeal 51 = .ok (.iaload, 1) := by decide +kernel
theorem dX6_tearSeal_52 : decode cX6_tearSeal 52 = .ok (.iconst 3, 1) := by decide +kernel
theorem dX6_tearSeal_53 : decode cX6_tearSeal 53 = .ok (.iastore, 1) := by decide +kernel
theorem dX6_tearSeal_54 : decode cX6_tearSeal 54 = .ok (.aload_n 0, 1) := by decide +kernel
theorem dX6_tearSeal_55 : decode cX6_tearSeal 55 = .ok (.getfield 31, 3) := by decide +kernel
theorem dX6_tearSeal_58 : decode cX6_tearSeal 58 = .ok (.getfield 136, 3) := by decide +kernel
theorem dX6_tearSeal_61 : decode cX6_tearSeal 61 = .ok (.iload_n 1, 1) := by decide +kernel
theorem dX6_tearSeal_62 : decode cX6_tearSeal 62 = .ok (.iaload, 1) := by decide +kernel
theorem dX6_tearSeal_63 : decode cX6_tearSeal 63 = .ok (.ireturn, 1) := by decide +kernel
theorem dX6_countLocker_0 : decode cX6_countLocker 0 = .ok (.aload_n 0, 1) := by decide +kernel
theorem dX6_countLocker_1 : decode cX6_countLocker 1 = .ok (.iload_n 1, 1) := by decide +kernel
theorem dX6_countLocker_2 : decode cX6_countLocker 2 = .ok (.invokevirtual 79, 3) := by decide +kernel
theorem dX6_countLocker_5 : decode cX6_countLocker 5 = .ok (.ifCond .ne 5, 3) := by decide +kernel
theorem dX6_countLocker_8 : decode cX6_countLocker 8 = .ok (.iconst (-1), 1) := by decide +kernel
theorem dX6_countLocker_9 : decode cX6_countLocker 9 = .ok (.ireturn, 1) := by decide +kernel
theorem dX6_countLocker_10 : decode cX6_countLocker 10 = .ok (.aload_n 0, 1) := by decide +kernel
theorem dX6_countLocker_11 : decode cX6_countLocker 11 = .ok (.getfield 9, 3) := by decide +kernel
theorem dX6_countLocker_14 : decode cX6_countLocker 14 = .ok (.iconst 2, 1) := by decide +kernel
theorem dX6_countLocker_15 : decode cX6_countLocker 15 = .ok (.if_icmp .eq 6, 3) := by decide +kernel
theorem dX6_countLocker_18 : decode cX6_countLocker 18 = .ok (.bipush (-2), 2) := by decide +kernel
theorem dX6_countLocker_20 : decode cX6_countLocker 20 = .ok (.ireturn, 1) := by decide +kernel
theorem dX6_countLocker_21 : decode cX6_countLocker 21 = .ok (.aload_n 0, 1) := by decide +kernel
theorem dX6_countLocker_22 : decode cX6_countLocker 22 = .ok (.getfield 31, 3) := by decide +kernel
theorem dX6_countLocker_25 : decode cX6_countLocker 25 = .ok (.getfield 101, 3) := by decide +kernel
theorem dX6_countLocker_28 : decode cX6_countLocker 28 = .ok (.iload_n 1, 1) := by decide +kernel
theorem dX6_countLocker_29 : decode cX6_countLocker 29 = .ok (.iaload, 1) := by decide +kernel
theorem dX6_countLocker_30 : decode cX6_countLocker 30 = .ok (.iconst 2, 1) := by decide +kernel
theorem dX6_countLocker_31 : decode cX6_countLocker 31 = .ok (.if_icmp .ne 12, 3) := by decide +kernel
theorem dX6_countLocker_34 : decode cX6_countLocker 34 = .ok (.aload_n 0, 1) := by decide +kernel
theorem dX6_countLocker_35 : decode cX6_countLocker 35 = .ok (.getfield 25, 3) := by decide +kernel
theorem dX6_countLocker_38 : decode cX6_countLocker 38 = .ok (.iconst 0, 1) := by decide +kernel
theorem dX6_countLocker_39 : decode cX6_countLocker 39 = .ok (.iaload, 1) := by decide +kernel
theorem dX6_countLocker_40 : decode cX6_countLocker 40 = .ok (.goto 4, 3) := by decide +kernel
theorem dX6_countLocker_43 : decode cX6_countLocker 43 = .ok (.iconst 0, 1) := by decide +kernel
theorem dX6_countLocker_44 : decode cX6_countLocker 44 = .ok (.istore_n 2, 1) := by decide +kernel
theorem dX6_countLocker_45 : decode cX6_countLocker 45 = .ok (.aload_n 0, 1) := by decide +kernel
theorem dX6_countLocker_46 : decode cX6_countLocker 46 = .ok (.iload_n 1, 1) := by decide +kernel
theorem dX6_countLocker_47 : decode cX6_countLocker 47 = .ok (.invokevirtual 139, 3) := by decide +kernel
theorem dX6_countLocker_50 : decode cX6_countLocker 50 = .ok (.iload_n 2, 1) := by decide +kernel
theorem dX6_countLocker_51 : decode cX6_countLocker 51 = .ok (.i2l, 1) := by decide +kernel
theorem dX6_countLocker_52 : decode cX6_countLocker 52 = .ok (.ladd, 1) := by decide +kernel
theorem dX6_countLocker_53 : decode cX6_countLocker 53 = .ok (.lstore_n 3, 1) := by decide +kernel
theorem dX6_countLocker_54 : decode cX6_countLocker 54 = .ok (.aload_n 0, 1) := by decide +kernel
theorem dX6_countLocker_55 : decode cX6_countLocker 55 = .ok (.getfield 38, 3) := by decide +kernel
theorem dX6_countLocker_58 : decode cX6_countLocker 58 = .ok (.invokevirtual 86, 3) := by decide +kernel
theorem dX6_countLocker_61 : decode cX6_countLocker 61 = .ok (.iconst 1, 1) := by decide +kernel
theorem dX6_countLocker_62 : decode cX6_countLocker 62 = .ok (.if_icmp .lt 11, 3) := by decide +kernel
theorem dX6_countLocker_65 : decode cX6_countLocker 65 = .ok (.lload_n 3, 1) := by decide +kernel
theorem dX6_countLocker_66 : decode cX6_countLocker 66 = .ok (.ldc2_w 117, 3) := by decide +kernel
theorem dX6_countLocker_69 : decode cX6_countLocker 69 = .ok (.lcmp, 1) := by decide +kernel
theorem dX6_countLocker_70 : decode cX6_countLocker 70 = .ok (.ifCond .le 6, 3) := by decide +kernel
theorem dX6_countLocker_73 : decode cX6_countLocker 73 = .ok (.bipush (-3), 2) := by decide +kernel
theorem dX6_countLocker_75 : decode cX6_countLocker 75 = .ok (.ireturn, 1) := by decide +kernel
theorem dX6_countLocker_76 : decode cX6_countLocker 76 = .ok (.aload_n 0, 1) := by decide +kernel
theorem dX6_countLocker_77 : decode cX6_countLocker 77 = .ok (.getfield 52, 3) := by decide +kernel
theorem dX6_countLocker_80 : decode cX6_countLocker 80 = .ok (.dup, 1) := by decide +kernel
theorem dX6_countLocker_81 : decode cX6_countLocker 81 = .ok (.getfield 143, 3) := by decide +kernel
theorem dX6_countLocker_84 : decode cX6_countLocker 84 = .ok (.iload_n 2, 1) := by decide +kernel
theorem dX6_countLocker_85 : decode cX6_countLocker 85 = .ok (.i2l, 1) := by decide +kernel
theorem dX6_countLocker_86 : decode cX6_countLocker 86 = .ok (.ladd, 1) := by decide +kernel
theorem dX6_countLocker_87 : decode cX6_countLocker 87 = .ok (.putfield 143, 3) := by decide +kernel
theorem dX6_countLocker_90 : decode cX6_countLocker 90 = .ok (.iconst 0, 1) := by decide +kernel
theorem dX6_countLocker_91 : decode cX6_countLocker 91 = .ok (.istore 5, 2) := by decide +kernel
theorem dX6_countLocker_93 : decode cX6_countLocker 93 = .ok (.iload 5, 2) := by decide +kernel
theorem dX6_countLocker_95 : decode cX6_countLocker 95 = .ok (.aload_n 0, 1) := by decide +kernel
theorem dX6_countLocker_96 : decode cX6_countLocker 96 = .ok (.getfield 18, 3) := by decide +kernel
theorem dX6_countLocker_99 : decode cX6_countLocker 99 = .ok (.if_icmp .ge 50, 3) := by decide +kernel
theorem dX6_countLocker_102 : decode cX6_countLocker 102 = .ok (.aload_n 0, 1) := by decide +kernel
theorem dX6_countLocker_103 : decode cX6_countLocker 103 = .ok (.getfield 31, 3) := by decide +kernel
theorem dX6_countLocker_106 : decode cX6_countLocker 106 = .ok (.iload_n 1, 1) := by decide +kernel
theorem dX6_countLocker_107 : decode cX6_countLocker 107 = .ok (.iload 5, 2) := by decide +kernel
theorem dX6_countLocker_109 : decode cX6_countLocker 109 = .ok (.invokevirtual 104, 3) := by decide +kernel
theorem dX6_countLocker_112 : decode cX6_countLocker 112 = .ok (.istore 6, 2) := by decide +kernel
theorem dX6_countLocker_114 : decode cX6_countLocker 114 = .ok (.aload_n 0, 1) := by decide +kernel
theorem dX6_countLocker_115 : decode cX6_countLocker 115 = .ok (.iload 5, 2) := by decide +kernel
theorem dX6_countLocker_117 : decode cX6_countLocker 117 = .ok (.aload_n 0, 1) := by decide +kernel
theorem dX6_countLocker_118 : decode cX6_countLocker 118 = .ok (.getfield 31, 3) := by decide +kernel
theorem dX6_countLocker_121 : decode cX6_countLocker 121 = .ok (.getfield 130, 3) := by decide +kernel
theorem dX6_countLocker_124 : decode cX6_countLocker 124 = .ok (.iload 6, 2) := by decide +kernel
theorem dX6_countLocker_126 : decode cX6_countLocker 126 = .ok (.iaload, 1) := by decide +kernel
theorem dX6_countLocker_127 : decode cX6_countLocker 127 = .ok (.iconst 3, 1) := by decide +kernel
theorem dX6_countLocker_128 : decode cX6_countLocker 128 = .ok (.invokevirtual 126, 3) := by decide +kernel
theorem dX6_countLocker_131 : decode cX6_countLocker 131 = .ok (.pop2, 1) := by decide +kernel
theorem dX6_countLocker_132 : decode cX6_countLocker 132 = .ok (.aload_n 0, 1) := by decide +kernel
theorem dX6_countLocker_133 : decode cX6_countLocker 133 = .ok (.getfield 31, 3) := by decide +kernel
theorem dX6_countLocker_136 : decode cX6_countLocker 136 = .ok (.getfield 130, 3) := by decide +kernel
theorem dX6_countLocker_139 : decode cX6_countLocker 139 = .ok (.iload 6, 2) := by decide +kernel
theorem dX6_countLocker_141 : decode cX6_countLocker 141 = .ok (.iconst 0, 1) := by decide +kernel
theorem dX6_countLocker_142 : decode cX6_countLocker 142 = .ok (.iastore, 1) := by decide +kernel
theorem dX6_countLocker_143 : decode cX6_countLocker 143 = .ok (.iinc 5 1, 3) := by decide +kernel
theorem dX6_countLocker_146 : decode cX6_countLocker 146 = .ok (.goto (-53), 3) := by decide +kernel
theorem dX6_countLocker_149 : decode cX6_countLocker 149 = .ok (.aload_n 0, 1) := by decide +kernel
theorem dX6_countLocker_150 : decode cX6_countLocker 150 = .ok (.iload_n 1, 1) := by decide +kernel
theorem dX6_countLocker_151 : decode cX6_countLocker 151 = .ok (.invokevirtual 119, 3) := by decide +kernel
theorem dX6_countLocker_154 : decode cX6_countLocker 154 = .ok (.lload_n 3, 1) := by decide +kernel
theorem dX6_countLocker_155 : decode cX6_countLocker 155 = .ok (.l2i, 1) := by decide +kernel
theorem dX6_countLocker_156 : decode cX6_countLocker 156 = .ok (.ireturn, 1) := by decide +kernel
theorem dX6_crossTo_0 : decode cX6_crossTo 0 = .ok (.iload_n 1, 1) := by decide +kernel
theorem dX6_crossTo_1 : decode cX6_crossTo 1 = .ok (.ifCond .lt 8, 3) := by decide +kernel
theorem dX6_crossTo_4 : decode cX6_crossTo 4 = .ok (.iload_n 1, 1) := by decide +kernel
theorem dX6_crossTo_5 : decode cX6_crossTo 5 = .ok (.iconst 2, 1) := by decide +kernel
theorem dX6_crossTo_6 : decode cX6_crossTo 6 = .ok (.if_icmp .le 5, 3) := by decide +kernel
theorem dX6_crossTo_9 : decode cX6_crossTo 9 = .ok (.iconst (-1), 1) := by decide +kernel
theorem dX6_crossTo_10 : decode cX6_crossTo 10 = .ok (.ireturn, 1) := by decide +kernel
theorem dX6_crossTo_11 : decode cX6_crossTo 11 = .ok (.iload_n 1, 1) := by decide +kernel
theorem dX6_crossTo_12 : decode cX6_crossTo 12 = .ok (.aload_n 0, 1) := by decide +kernel
theorem dX6_crossTo_13 : decode cX6_crossTo 13 = .ok (.getfield 9, 3) := by decide +kernel
theorem dX6_crossTo_16 : decode cX6_crossTo 16 = .ok (.if_icmp .eq 16, 3) := by decide +kernel
theorem dX6_crossTo_19 : decode cX6_crossTo 19 = .ok (.iload_n 1, 1) := by decide +kernel
theorem dX6_crossTo_20 : decode cX6_crossTo 20 = .ok (.iconst 1, 1) := by decide +kernel
theorem dX6_crossTo_21 : decode cX6_crossTo 21 = .ok (.if_icmp .eq 14, 3) := by decide +kernel
theorem dX6_crossTo_24 : decode cX6_crossTo 24 = .ok (.aload_n 0, 1) := by decide +kernel
theorem dX6_crossTo_25 : decode cX6_crossTo 25 = .ok (.getfield 9, 3) := by decide +kernel
theorem dX6_crossTo_28 : decode cX6_crossTo 28 = .ok (.iconst 1, 1) := by decide +kernel
theorem dX6_crossTo_29 : decode cX6_crossTo 29 = .ok (.if_icmp .eq 6, 3) := by decide +kernel
theorem dX6_crossTo_32 : decode cX6_crossTo 32 = .ok (.bipush (-2), 2) := by decide +kernel
theorem dX6_crossTo_34 : decode cX6_crossTo 34 = .ok (.ireturn, 1) := by decide +kernel
theorem dX6_crossTo_35 : decode cX6_crossTo 35 = .ok (.aload_n 0, 1) := by decide +kernel
theorem dX6_crossTo_36 : decode cX6_crossTo 36 = .ok (.getfield 9, 3) := by decide +kernel
theorem dX6_crossTo_39 : decode cX6_crossTo 39 = .ok (.ifCond .ne 24, 3) := by decide +kernel
theorem dX6_crossTo_42 : decode cX6_crossTo 42 = .ok (.aload_n 0, 1) := by decide +kernel
theorem dX6_crossTo_43 : decode cX6_crossTo 43 = .ok (.getfield 38, 3) := by decide +kernel
theorem dX6_crossTo_46 : decode cX6_crossTo 46 = .ok (.invokevirtual 86, 3) := by decide +kernel
theorem dX6_crossTo_49 : decode cX6_crossTo 49 = .ok (.aload_n 0, 1) := by decide +kernel
theorem dX6_crossTo_50 : decode cX6_crossTo 50 = .ok (.getfield 31, 3) := by decide +kernel
theorem dX6_crossTo_53 : decode cX6_crossTo 53 = .ok (.iconst 0, 1) := by decide +kernel
theorem dX6_crossTo_54 : decode cX6_crossTo 54 = .ok (.invokevirtual 146, 3) := by decide +kernel
theorem dX6_crossTo_57 : decode cX6_crossTo 57 = .ok (.if_icmp .ge 6, 3) := by decide +kernel
theorem dX6_crossTo_60 : decode cX6_crossTo 60 = .ok (.bipush (-3), 2) := by decide +kernel
theorem dX6_crossTo_62 : decode cX6_crossTo 62 = .ok (.ireturn, 1) := by decide +kernel
theorem dX6_crossTo_63 : decode cX6_crossTo 63 = .ok (.aload_n 0, 1) := by decide +kernel
theorem dX6_crossTo_64 : decode cX6_crossTo 64 = .ok (.getfield 9, 3) := by decide +kernel
theorem dX6_crossTo_67 : decode cX6_crossTo 67 = .ok (.istore_n 2, 1) := by decide +kernel
theorem dX6_crossTo_68 : decode cX6_crossTo 68 = .ok (.aload_n 0, 1) := by decide +kernel
theorem dX6_crossTo_69 : decode cX6_crossTo 69 = .ok (.iload_n 1, 1) := by decide +kernel
theorem dX6_crossTo_70 : decode cX6_crossTo 70 = .ok (.putfield 9, 3) := by decide +kernel
theorem dX6_crossTo_73 : decode cX6_crossTo 73 = .ok (.iload_n 2, 1) := by decide +kernel
theorem dX6_crossTo_74 : decode cX6_crossTo 74 = .ok (.ifCond .ne 8, 3) := by decide +kernel
theorem dX6_crossTo_77 : decode cX6_crossTo 77 = .ok (.aload_n 0, 1) := by decide +kernel
theorem dX6_crossTo_78 : decode cX6_crossTo 78 = .ok (.invokevirtual 150, 3) := by decide +kernel
theorem dX6_crossTo_81 : decode cX6_crossTo 81 = .ok (.ireturn, 1) := by decide +kernel
theorem dX6_crossTo_82 : decode cX6_crossTo 82 = .ok (.iload_n 1, 1) := by decide +kernel
theorem dX6_crossTo_83 : decode cX6_crossTo 83 = .ok (.ifCond .ne 10, 3) := by decide +kernel
theorem dX6_crossTo_86 : decode cX6_crossTo 86 = .ok (.aload_n 0, 1) := by decide +kernel
theorem dX6_crossTo_87 : decode cX6_crossTo 87 = .ok (.invokevirtual 153, 3) := by decide +kernel
theorem dX6_crossTo_90 : decode cX6_crossTo 90 = .ok (.goto 4, 3) := by decide +kernel
theorem dX6_crossTo_93 : decode cX6_crossTo 93 = .ok (.iconst 0, 1) := by decide +kernel
theorem dX6_crossTo_94 : decode cX6_crossTo 94 = .ok (.ireturn, 1) := by decide +kernel
theorem dX6_passDays_0 : decode cX6_passDays 0 = .ok (.iload_n 1, 1) := by decide +kernel
theorem dX6_passDays_1 : decode cX6_passDays 1 = .ok (.iconst 1, 1) := by decide +kernel
theorem dX6_passDays_2 : decode cX6_passDays 2 = .ok (.if_icmp .lt 9, 3) := by decide +kernel
theorem dX6_passDays_5 : decode cX6_passDays 5 = .ok (.iload_n 1, 1) := by decide +kernel
theorem dX6_passDays_6 : decode cX6_passDays 6 = .ok (.bipush 60, 2) := by decide +kernel
theorem dX6_passDays_8 : decode cX6_passDays 8 = .ok (.if_icmp .le 5, 3) := by decide +kernel
theorem dX6_passDays_11 : decode cX6_passDays 11 = .ok (.iconst (-1), 1) := by decide +kernel
theorem dX6_passDays_12 : decode cX6_passDays 12 = .ok (.ireturn, 1) := by decide +kernel
theorem dX6_passDays_13 : decode cX6_passDays 13 = .ok (.aload_n 0, 1) := by decide +kernel
theorem dX6_passDays_14 : decode cX6_passDays 14 = .ok (.getfield 15, 3) := by decide +kernel
theorem dX6_passDays_17 : decode cX6_passDays 17 = .ok (.iload_n 1, 1) := by decide +kernel
theorem dX6_passDays_18 : decode cX6_passDays 18 = .ok (.iadd, 1) := by decide +kernel
theorem dX6_passDays_19 : decode cX6_passDays 19 = .ok (.sipush 5000, 3) := by decide +kernel
theorem dX6_passDays_22 : decode cX6_passDays 22 = .ok (.if_icmp .le 6, 3) := by decide +kernel
theorem dX6_passDays_25 : decode cX6_passDays 25 = .ok (.bipush (-3), 2) := by decide +kernel
theorem dX6_passDays_27 : decode cX6_passDays 27 = .ok (.ireturn, 1) := by decide +kernel
theorem dX6_passDays_28 : decode cX6_passDays 28 = .ok (.aload_n 0, 1) := by decide +kernel
theorem dX6_passDays_29 : decode cX6_passDays 29 = .ok (.dup, 1) := by decide +kernel
theorem dX6_passDays_30 : decode cX6_passDays 30 = .ok (.getfield 15, 3) := by decide +kernel
theorem dX6_passDays_33 : decode cX6_passDays 33 = .ok (.iload_n 1, 1) := by decide +kernel
theorem dX6_passDays_34 : decode cX6_passDays 34 = .ok (.iadd, 1) := by decide +kernel
theorem dX6_passDays_35 : decode cX6_passDays 35 = .ok (.putfield 15, 3) := by decide +kernel
theorem dX6_passDays_38 : decode cX6_passDays 38 = .ok (.aload_n 0, 1) := by decide +kernel
theorem dX6_passDays_39 : decode cX6_passDays 39 = .ok (.invokevirtual 156, 3) := by decide +kernel
theorem dX6_passDays_42 : decode cX6_passDays 42 = .ok (.l2i, 1) := by decide +kernel
theorem dX6_passDays_43 : decode cX6_passDays 43 = .ok (.ireturn, 1) := by decide +kernel
theorem dX6_changeSetting_0 : decode cX6_changeSetting 0 = .ok (.iload_n 1, 1) := by decide +kernel
theorem dX6_changeSetting_1 : decode cX6_changeSetting 1 = .ok (.ifCond .lt 8, 3) := by decide +kernel
theorem dX6_changeSetting_4 : decode cX6_changeSetting 4 = .ok (.iload_n 1, 1) := by decide +kernel
theorem dX6_changeSetting_5 : decode cX6_changeSetting 5 = .ok (.iconst 2, 1) := by decide +kernel
theorem dX6_changeSetting_6 : decode cX6_changeSetting 6 = .ok (.if_icmp .lt 5, 3) := by decide +kernel
theorem dX6_changeSetting_9 : decode cX6_changeSetting 9 = .ok (.iconst (-1), 1) := by decide +kernel
theorem dX6_changeSetting_10 : decode cX6_changeSetting 10 = .ok (.ireturn, 1) := by decide +kernel
theorem dX6_changeSetting_11 : decode cX6_changeSetting 11 = .ok (.iload_n 1, 1) := by decide +kernel
theorem dX6_changeSetting_12 : decode cX6_changeSetting 12 = .ok (.ifCond .ne 7, 3) := by decide +kernel
theorem dX6_changeSetting_15 : decode cX6_changeSetting 15 = .ok (.iconst 0, 1) := by decide +kernel
theorem dX6_changeSetting_16 : decode cX6_changeSetting 16 = .ok (.goto 4, 3) := by decide +kernel
theorem dX6_changeSetting_19 : decode cX6_changeSetting 19 = .ok (.iconst 1, 1) := by decide +kernel
theorem dX6_changeSetting_20 : decode cX6_changeSetting 20 = .ok (.istore_n 3, 1) := by decide +kernel
theorem dX6_changeSetting_21 : decode cX6_changeSetting 21 = .ok (.iload_n 1, 1) := by decide +kernel
theorem dX6_changeSetting_22 : decode cX6_changeSetting 22 = .ok (.ifCond .ne 8, 3) := by decide +kernel
theorem dX6_changeSetting_25 : decode cX6_changeSetting 25 = .ok (.ldc 160, 2) := by decide +kernel
theorem dX6_changeSetting_27 : decode cX6_changeSetting 27 = .ok (.goto 5, 3) := by decide +kernel
theorem dX6_changeSetting_30 : decode cX6_changeSetting 30 = .ok (.bipush 99, 2) := by decide +kernel
theorem dX6_changeSetting_32 : decode cX6_changeSetting 32 = .ok (.istore 4, 2) := by decide +kernel
theorem dX6_changeSetting_34 : decode cX6_changeSetting 34 = .ok (.iload_n 2, 1) := by decide +kernel
theorem dX6_changeSetting_35 : decode cX6_changeSetting 35 = .ok (.iload_n 3, 1) := by decide +kernel
theorem dX6_changeSetting_36 : decode cX6_changeSetting 36 = .ok (.if_icmp .lt 9, 3) := by decide +kernel
theorem dX6_changeSetting_39 : decode cX6_changeSetting 39 = .ok (.iload_n 2, 1) := by decide +kernel
theorem dX6_changeSetting_40 : decode cX6_changeSetting 40 = .ok (.iload 4, 2) := by decide +kernel
theorem dX6_changeSetting_42 : decode cX6_changeSetting 42 = .ok (.if_icmp .le 5, 3) := by decide +kernel
theorem dX6_changeSetting_45 : decode cX6_changeSetting 45 = .ok (.iconst (-1), 1) := by decide +kernel
theorem dX6_changeSetting_46 : decode cX6_changeSetting 46 = .ok (.ireturn, 1) := by decide +kernel
theorem dX6_changeSetting_47 : decode cX6_changeSetting 47 = .ok (.aload_n 0, 1) := by decide +kernel
theorem dX6_changeSetting_48 : decode cX6_changeSetting 48 = .ok (.getfield 25, 3) := by decide +kernel
theorem dX6_changeSetting_51 : decode cX6_changeSetting 51 = .ok (.iload_n 1, 1) := by decide +kernel
theorem dX6_changeSetting_52 : decode cX6_changeSetting 52 = .ok (.iaload, 1) := by decide +kernel
theorem dX6_changeSetting_53 : decode cX6_changeSetting 53 = .ok (.istore 5, 2) := by decide +kernel
theorem dX6_changeSetting_55 : decode cX6_changeSetting 55 = .ok (.aload_n 0, 1) := by decide +kernel
theorem dX6_changeSetting_56 : decode cX6_changeSetting 56 = .ok (.getfield 25, 3) := by decide +kernel
theorem dX6_changeSetting_59 : decode cX6_changeSetting 59 = .ok (.iload_n 1, 1) := by decide +kernel
theorem dX6_changeSetting_60 : decode cX6_changeSetting 60 = .ok (.iload_n 2, 1) := by decide +kernel
theorem dX6_changeSetting_61 : decode cX6_changeSetting 61 = .ok (.iastore, 1) := by decide +kernel
theorem dX6_changeSetting_62 : decode cX6_changeSetting 62 = .ok (.iload 5, 2) := by decide +kernel
theorem dX6_changeSetting_64 : decode cX6_changeSetting 64 = .ok (.ireturn, 1) := by decide +kernel
theorem dX6_toPayForAll_0 : decode cX6_toPayForAll 0 = .ok (.aload_n 0, 1) := by decide +kernel
theorem dX6_toPayForAll_1 : decode cX6_toPayForAll 1 = .ok (.getfield 31, 3) := by decide +kernel
theorem dX6_toPayForAll_4 : decode cX6_toPayForAll 4 = .ok (.iconst 2, 1) := by decide +kernel
theorem dX6_toPayForAll_5 : decode cX6_toPayForAll 5 = .ok (.invokevirtual 146, 3) := by decide +kernel
theorem dX6_toPayForAll_8 : decode cX6_toPayForAll 8 = .ok (.i2l, 1) := by decide +kernel
theorem dX6_toPayForAll_9 : decode cX6_toPayForAll 9 = .ok (.aload_n 0, 1) := by decide +kernel
theorem dX6_toPayForAll_10 : decode cX6_toPayForAll 10 = .ok (.getfield 25, 3) := by decide +kernel
theorem dX6_toPayForAll_13 : decode cX6_toPayForAll 13 = .ok (.iconst 0, 1) := by decide +kernel
theorem dX6_toPayForAll_14 : decode cX6_toPayForAll 14 = .ok (.iaload, 1) := by decide +kernel
theorem dX6_toPayForAll_15 : decode cX6_toPayForAll 15 = .ok (.i2l, 1) := by decide +kernel
theorem dX6_toPayForAll_16 : decode cX6_toPayForAll 16 = .ok (.lmul, 1) := by decide +kernel
theorem dX6_toPayForAll_17 : decode cX6_toPayForAll 17 = .ok (.lstore_n 1, 1) := by decide +kernel
theorem dX6_toPayForAll_18 : decode cX6_toPayForAll 18 = .ok (.iconst 0, 1) := by decide +kernel
theorem dX6_toPayForAll_19 : decode cX6_toPayForAll 19 = .ok (.istore_n 3, 1) := by decide +kernel
theorem dX6_toPayForAll_20 : decode cX6_toPayForAll 20 = .ok (.iload_n 3, 1) := by decide +kernel
theorem dX6_toPayForAll_21 : decode cX6_toPayForAll 21 = .ok (.aload_n 0, 1) := by decide +kernel
theorem dX6_toPayForAll_22 : decode cX6_toPayForAll 22 = .ok (.getfield 18, 3) := by decide +kernel
theorem dX6_toPayForAll_25 : decode cX6_toPayForAll 25 = .ok (.if_icmp .ge 36, 3) := by decide +kernel
theorem dX6_toPayForAll_28 : decode cX6_toPayForAll 28 = .ok (.lload_n 1, 1) := by decide +kernel
theorem dX6_toPayForAll_29 : decode cX6_toPayForAll 29 = .ok (.aload_n 0, 1) := by decide +kernel
theorem dX6_toPayForAll_30 : decode cX6_toPayForAll 30 = .ok (.getfield 45, 3) := by decide +kernel
theorem dX6_toPayForAll_33 : decode cX6_toPayForAll 33 = .ok (.iload_n 3, 1) := by decide +kernel
theorem dX6_toPayForAll_34 : decode cX6_toPayForAll 34 = .ok (.aload_n 0, 1) := by decide +kernel
theorem dX6_toPayForAll_35 : decode cX6_toPayForAll 35 = .ok (.getfield 31, 3) := by decide +kernel
theorem dX6_toPayForAll_38 : decode cX6_toPayForAll 38 = .ok (.aload_n 0, 1) := by decide +kernel
theorem dX6_toPayForAll_39 : decode cX6_toPayForAll 39 = .ok (.getfield 31, 3) := by decide +kernel
theorem dX6_toPayForAll_42 : decode cX6_toPayForAll 42 = .ok (.getfield 130, 3) := by decide +kernel
theorem dX6_toPayForAll_45 : decode cX6_toPayForAll 45 = .ok (.iload_n 3, 1) := by decide +kernel
theorem dX6_toPayForAll_46 : decode cX6_toPayForAll 46 = .ok (.invokevirtual 161, 3) := by decide +kernel
theorem dX6_toPayForAll_49 : decode cX6_toPayForAll 49 = .ok (.iconst 0, 1) := by decide +kernel
theorem dX6_toPayForAll_50 : decode cX6_toPayForAll 50 = .ok (.invokevirtual 165, 3) := by decide +kernel
theorem dX6_toPayForAll_53 : decode cX6_toPayForAll 53 = .ok (.ladd, 1) := by decide +kernel
theorem dX6_toPayForAll_54 : decode cX6_toPayForAll 54 = .ok (.lstore_n 1, 1) := by decide +kernel
theorem dX6_toPayForAll_55 : decode cX6_toPayForAll 55 = .ok (.iinc 3 1, 3) := by decide +kernel
theorem dX6_toPayForAll_58 : decode cX6_toPayForAll 58 = .ok (.goto (-38), 3) := by decide +kernel
theorem dX6_toPayForAll_61 : decode cX6_toPayForAll 61 = .ok (.lload_n 1, 1) := by decide +kernel
theorem dX6_toPayForAll_62 : decode cX6_toPayForAll 62 = .ok (.lreturn, 1) := by decide +kernel
theorem dX6_release_0 : decode cX6_release 0 = .ok (.aload_n 0, 1) := by decide +kernel
theorem dX6_release_1 : decode cX6_release 1 = .ok (.getfield 45, 3) := by decide +kernel
theorem dX6_release_4 : decode cX6_release 4 = .ok (.iload_n 1, 1) := by decide +kernel
theorem dX6_release_5 : decode cX6_release 5 = .ok (.iload_n 2, 1) := by decide +kernel
theorem dX6_release_6 : decode cX6_release 6 = .ok (.iconst 1, 1) := by decide +kernel
theorem dX6_release_7 : decode cX6_release 7 = .ok (.invokevirtual 165, 3) := by decide +kernel
theorem dX6_release_10 : decode cX6_release 10 = .ok (.lstore 4, 2) := by decide +kernel
theorem dX6_release_12 : decode cX6_release 12 = .ok (.aload_n 0, 1) := by decide +kernel
theorem dX6_release_13 : decode cX6_release 13 = .ok (.getfield 52, 3) := by decide +kernel
theorem dX6_release_16 : decode cX6_release 16 = .ok (.iload_n 1, 1) := by decide +kernel
theorem dX6_release_17 : decode cX6_release 17 = .ok (.iload_n 3, 1) := by decide +kernel
theorem dX6_release_18 : decode cX6_release 18 = .ok (.iload_n 2, 1) := by decide +kernel
theorem dX6_release_19 : decode cX6_release 19 = .ok (.lload 4, 2) := by decide +kernel
theorem dX6_release_21 : decode cX6_release 21 = .ok (.invokevirtual 169, 3) := by decide +kernel
theorem dX6_release_24 : decode cX6_release 24 = .ok (.lload 4, 2) := by decide +kernel
theorem dX6_release_26 : decode cX6_release 26 = .ok (.lreturn, 1) := by decide +kernel
theorem dX6_taxesOf_0 : decode cX6_taxesOf 0 = .ok (.lconst 0, 1) := by decide +kernel
theorem dX6_taxesOf_1 : decode cX6_taxesOf 1 = .ok (.lstore_n 2, 1) := by decide +kernel
theorem dX6_taxesOf_2 : decode cX6_taxesOf 2 = .ok (.iconst 0, 1) := by decide +kernel
theorem dX6_taxesOf_3 : decode cX6_taxesOf 3 = .ok (.istore 4, 2) := by decide +kernel
theorem dX6_taxesOf_5 : decode cX6_taxesOf 5 = .ok (.iload 4, 2) := by decide +kernel
theorem dX6_taxesOf_7 : decode cX6_taxesOf 7 = .ok (.aload_n 0, 1) := by decide +kernel
theorem dX6_taxesOf_8 : decode cX6_taxesOf 8 = .ok (.getfield 18, 3) := by decide +kernel
theorem dX6_taxesOf_11 : decode cX6_taxesOf 11 = .ok (.if_icmp .ge 40, 3) := by decide +kernel
theorem dX6_taxesOf_14 : decode cX6_taxesOf 14 = .ok (.lload_n 2, 1) := by decide +kernel
theorem dX6_taxesOf_15 : decode cX6_taxesOf 15 = .ok (.aload_n 0, 1) := by decide +kernel
theorem dX6_taxesOf_16 : decode cX6_taxesOf 16 = .ok (.getfield 45, 3) := by decide +kernel
theorem dX6_taxesOf_19 : decode cX6_taxesOf 19 = .ok (.iload 4, 2) := by decide +kernel
theorem dX6_taxesOf_21 : decode cX6_taxesOf 21 = .ok (.aload_n 0, 1) := by decide +kernel
theorem dX6_taxesOf_22 : decode cX6_taxesOf 22 = .ok (.getfield 31, 3) := by decide +kernel
theorem dX6_taxesOf_25 : decode cX6_taxesOf 25 = .ok (.getfield 130, 3) := by decide +kernel
theorem dX6_taxesOf_28 : decode cX6_taxesOf 28 = .ok (.aload_n 0, 1) := by decide +kernel
theorem dX6_taxesOf_29 : decode cX6_taxesOf 29 = .ok (.getfield 31, 3) := by decide +kernel
theorem dX6_taxesOf_32 : decode cX6_taxesOf 32 = .ok (.iload_n 1, 1) := by decide +kernel
theorem dX6_taxesOf_33 : decode cX6_taxesOf 33 = .ok (.iload 4, 2) := by decide +kernel
theorem dX6_taxesOf_35 : decode cX6_taxesOf 35 = .ok (.invokevirtual 104, 3) := by decide +kernel
theorem dX6_taxesOf_38 : decode cX6_taxesOf 38 = .ok (.iaload, 1) := by decide +kernel
theorem dX6_taxesOf_39 : decode cX6_taxesOf 39 = .ok (.iconst 0, 1) := by decide +kernel
theorem dX6_taxesOf_40 : decode cX6_taxesOf 40 = .ok (.invokevirtual 165, 3) := by decide +kernel
theorem dX6_taxesOf_43 : decode cX6_taxesOf 43 = .ok (.ladd, 1) := by decide +kernel
theorem dX6_taxesOf_44 : decode cX6_taxesOf 44 = .ok (.lstore_n 2, 1) := by decide +kernel
theorem dX6_taxesOf_45 : decode cX6_taxesOf 45 = .ok (.iinc 4 1, 3) := by decide +kernel
theorem dX6_taxesOf_48 : decode cX6_taxesOf 48 = .ok (.goto (-43), 3) := by decide +kernel
theorem dX6_taxesOf_51 : decode cX6_taxesOf 51 = .ok (.lload_n 2, 1) := by decide +kernel
theorem dX6_taxesOf_52 : decode cX6_taxesOf 52 = .ok (.lreturn, 1) := by decide +kernel
theorem dX6_runOutBonds_0 : decode cX6_runOutBonds 0 = .ok (.lconst 0, 1) := by decide +kernel
theorem dX6_runOutBonds_1 : decode cX6_runOutBonds 1 = .ok (.lstore_n 1, 1) := by decide +kernel
theorem dX6_runOutBonds_2 : decode cX6_runOutBonds 2 = .ok (.iconst 0, 1) := by decide +kernel
theorem dX6_runOutBonds_3 : decode cX6_runOutBonds 3 = .ok (.istore_n 3, 1) := by decide +kernel
theorem dX6_runOutBonds_4 : decode cX6_runOutBonds 4 = .ok (.iload_n 3, 1) := by decide +kernel
theorem dX6_runOutBonds_5 : decode cX6_runOutBonds 5 = .ok (.aload_n 0, 1) := by decide +kernel
theorem dX6_runOutBonds_6 : decode cX6_runOutBonds 6 = .ok (.getfield 45, 3) := by decide +kernel
theorem dX6_runOutBonds_9 : decode cX6_runOutBonds 9 = .ok (.getfield 108, 3) := by decide +kernel
theorem dX6_runOutBonds_12 : decode cX6_runOutBonds 12 = .ok (.if_icmp .ge 122, 3) := by decide +kernel
theorem dX6_runOutBonds_15 : decode cX6_runOutBonds 15 = .ok (.aload_n 0, 1) := by decide +kernel
theorem dX6_runOutBonds_16 : decode cX6_runOutBonds 16 = .ok (.getfield 45, 3) := by decide +kernel
theorem dX6_runOutBonds_19 : decode cX6_runOutBonds 19 = .ok (.iconst (-1), 1) := by decide +kernel
theorem dX6_runOutBonds_20 : decode cX6_runOutBonds 20 = .ok (.iconst (-1), 1) := by decide +kernel
theorem dX6_runOutBonds_21 : decode cX6_runOutBonds 21 = .ok (.invokevirtual 172, 3) := by decide +kernel
theorem dX6_runOutBonds_24 : decode cX6_runOutBonds 24 = .ok (.istore 4, 2) := by decide +kernel
theorem dX6_runOutBonds_26 : decode cX6_runOutBonds 26 = .ok (.iload 4, 2) := by decide +kernel
theorem dX6_runOutBonds_28 : decode cX6_runOutBonds 28 = .ok (.iconst (-1), 1) := by decide +kernel
theorem dX6_runOutBonds_29 : decode cX6_runOutBonds 29 = .ok (.if_icmp .eq 105, 3) := by decide +kernel
theorem dX6_runOutBonds_32 : decode cX6_runOutBonds 32 = .ok (.aload_n 0, 1) := by decide +kernel
theorem dX6_runOutBonds_33 : decode cX6_runOutBonds 33 = .ok (.getfield 45, 3) := by decide +kernel
theorem dX6_runOutBonds_36 : decode cX6_runOutBonds 36 = .ok (.getfield 175, 3) := by decide +kernel
theorem dX6_runOutBonds_39 : decode cX6_runOutBonds 39 = .ok (.iload 4, 2) := by decide +kernel
theorem dX6_runOutBonds_41 : decode cX6_runOutBonds 41 = .ok (.iaload, 1) := by decide +kernel
theorem dX6_runOutBonds_42 : decode cX6_runOutBonds 42 = .ok (.aload_n 0, 1) := by decide +kernel
theorem dX6_runOutBonds_43 : decode cX6_runOutBonds 43 = .ok (.getfield 15, 3) := by decide +kernel
theorem dX6_runOutBonds_46 : decode cX6_runOutBonds 46 = .ok (.if_icmp .lt 6, 3) := by decide +kernel
theorem dX6_runOutBonds_49 : decode cX6_runOutBonds 49 = .ok (.goto 85, 3) := by decide +kernel
theorem dX6_runOutBonds_52 : decode cX6_runOutBonds 52 = .ok (.aload_n 0, 1) := by decide +kernel
theorem dX6_runOutBonds_53 : decode cX6_runOutBonds 53 = .ok (.getfield 45, 3) := by decide +kernel
theorem dX6_runOutBonds_56 : decode cX6_runOutBonds 56 = .ok (.getfield 178, 3) := by decide +kernel
theorem dX6_runOutBonds_59 : decode cX6_runOutBonds 59 = .ok (.iload 4, 2) := by decide +kernel
theorem dX6_runOutBonds_61 : decode cX6_runOutBonds 61 = .ok (.iaload, 1) := by decide +kernel
theorem dX6_runOutBonds_62 : decode cX6_runOutBonds 62 = .ok (.istore 5, 2) := by decide +kernel
theorem dX6_runOutBonds_64 : decode cX6_runOutBonds 64 = .ok (.aload_n 0, 1) := by decide +kernel
theorem dX6_runOutBonds_65 : decode cX6_runOutBonds 65 = .ok (.getfield 45, 3) := by decide +kernel
theorem dX6_runOutBonds_68 : decode cX6_runOutBonds 68 = .ok (.getfield 181, 3) := by decide +kernel
theorem dX6_runOutBonds_71 : decode cX6_runOutBonds 71 = .ok (.iload 4, 2) := by decide +kernel
theorem dX6_runOutBonds_73 : decode cX6_runOutBonds 73 = .ok (.iaload, 1) := by decide +kernel
theorem dX6_runOutBonds_74 : decode cX6_runOutBonds 74 = .ok (.istore 6, 2) := by decide +kernel
theorem dX6_runOutBonds_76 : decode cX6_runOutBonds 76 = .ok (.aload_n 0, 1) := by decide +kernel
theorem dX6_runOutBonds_77 : decode cX6_runOutBonds 77 = .ok (.getfield 45, 3) := by decide +kernel
theorem dX6_runOutBonds_80 : decode cX6_runOutBonds 80 = .ok (.iload 4, 2) := by decide +kernel
theorem dX6_runOutBonds_82 : decode cX6_runOutBonds 82 = .ok (.invokevirtual 183, 3) := by decide +kernel
theorem dX6_runOutBonds_85 : decode cX6_runOutBonds 85 = .ok (.lstore 7, 2) := by decide +kernel
theorem dX6_runOutBonds_87 : decode cX6_runOutBonds 87 = .ok (.aload_n 0, 1) := by decide +kernel
theorem dX6_runOutBonds_88 : decode cX6_runOutBonds 88 = .ok (.getfield 45, 3) := by decide +kernel
theorem dX6_runOutBonds_91 : decode cX6_runOutBonds 91 = .ok (.getfield 181, 3) := by decide +kernel
theorem dX6_runOutBonds_94 : decode cX6_runOutBonds 94 = .ok (.iload 4, 2) := by decide +kernel
theorem dX6_runOutBonds_96 : decode cX6_runOutBonds 96 = .ok (.iconst 0, 1) := by decide +kernel
theorem dX6_runOutBonds_97 : decode cX6_runOutBonds 97 = .ok (.iastore, 1) := by decide +kernel
theorem dX6_runOutBonds_98 : decode cX6_runOutBonds 98 = .ok (.aload_n 0, 1) := by decide +kernel
theorem dX6_runOutBonds_99 : decode cX6_runOutBonds 99 = .ok (.getfield 52, 3) := by decide +kernel
theorem dX6_runOutBonds_102 : decode cX6_runOutBonds 102 = .ok (.iload 5, 2) := by decide +kernel
theorem dX6_runOutBonds_104 : decode cX6_runOutBonds 104 = .ok (.iconst 3, 1) := by decide +kernel
theorem dX6_runOutBonds_105 : decode cX6_runOutBonds 105 = .ok (.iload 6, 2) := by decide +kernel
theorem dX6_runOutBonds_107 : decode cX6_runOutBonds 107 = .ok (.lload 7, 2) := by decide +kernel
theorem dX6_runOutBonds_109 : decode cX6_runOutBonds 109 = .ok (.invokevirtual 169, 3) := by decide +kernel
theorem dX6_runOutBonds_112 : decode cX6_runOutBonds 112 = .ok (.aload_n 0, 1) := by decide +kernel
theorem dX6_runOutBonds_113 : decode cX6_runOutBonds 113 = .ok (.getfield 31, 3) := by decide +kernel
theorem dX6_runOutBonds_116 : decode cX6_runOutBonds 116 = .ok (.iload 5, 2) := by decide +kernel
theorem dX6_runOutBonds_118 : decode cX6_runOutBonds 118 = .ok (.iload 6, 2) := by decide +kernel
theorem dX6_runOutBonds_120 : decode cX6_runOutBonds 120 = .ok (.invokevirtual 186, 3) := by decide +kernel
theorem dX6_runOutBonds_123 : decode cX6_runOutBonds 123 = .ok (.lload_n 1, 1) := by decide +kernel
theorem dX6_runOutBonds_124 : decode cX6_runOutBonds 124 = .ok (.lload 7, 2) := by decide +kernel
theorem dX6_runOutBonds_126 : decode cX6_runOutBonds 126 = .ok (.ladd, 1) := by decide +kernel
theorem dX6_runOutBonds_127 : decode cX6_runOutBonds 127 = .ok (.lstore_n 1, 1) := by decide +kernel
theorem dX6_runOutBonds_128 : decode cX6_runOutBonds 128 = .ok (.iinc 3 1, 3) := by decide +kernel
theorem dX6_runOutBonds_131 : decode cX6_runOutBonds 131 = .ok (.goto (-127), 3) := by decide +kernel
theorem dX6_runOutBonds_134 : decode cX6_runOutBonds 134 = .ok (.lload_n 1, 1) := by decide +kernel
theorem dX6_runOutBonds_135 : decode cX6_runOutBonds 135 = .ok (.lreturn, 1) := by decide +kernel
theorem dX6_putSeal_0 : decode cX6_putSeal 0 = .ok (.aload_n 0, 1) := by decide +kernel
theorem dX6_putSeal_1 : decode cX6_putSeal 1 = .ok (.getfield 31, 3) := by decide +kernel
theorem dX6_putSeal_4 : decode cX6_putSeal 4 = .ok (.getfield 101, 3) := by decide +kernel
theorem dX6_putSeal_7 : decode cX6_putSeal 7 = .ok (.iload_n 1, 1) := by decide +kernel
theorem dX6_putSeal_8 : decode cX6_putSeal 8 = .ok (.iconst 1, 1) := by decide +kernel
theorem dX6_putSeal_9 : decode cX6_putSeal 9 = .ok (.iastore, 1) := by decide +kernel
theorem dX6_putSeal_10 : decode cX6_putSeal 10 = .ok (.aload_n 0, 1) := by decide +kernel
theorem dX6_putSeal_11 : decode cX6_putSeal 11 = .ok (.getfield 31, 3) := by decide +kernel
theorem dX6_putSeal_14 : decode cX6_putSeal 14 = .ok (.getfield 136, 3) := by decide +kernel
theorem dX6_putSeal_17 : decode cX6_putSeal 17 = .ok (.iload_n 1, 1) := by decide +kernel
theorem dX6_putSeal_18 : decode cX6_putSeal 18 = .ok (.aload_n 0, 1) := by decide +kernel
theorem dX6_putSeal_19 : decode cX6_putSeal 19 = .ok (.getfield 38, 3) := by decide +kernel
theorem dX6_putSeal_22 : decode cX6_putSeal 22 = .ok (.iload_n 1, 1) := by decide +kernel
theorem dX6_putSeal_23 : decode cX6_putSeal 23 = .ok (.aload_n 0, 1) := by decide +kernel
theorem dX6_putSeal_24 : decode cX6_putSeal 24 = .ok (.getfield 15, 3) := by decide +kernel
theorem dX6_putSeal_27 : decode cX6_putSeal 27 = .ok (.invokevirtual 190, 3) := by decide +kernel
theorem dX6_putSeal_30 : decode cX6_putSeal 30 = .ok (.iastore, 1) := by decide +kernel
theorem dX6_putSeal_31 : decode cX6_putSeal 31 = .ok (.return_, 1) := by decide +kernel
theorem dX6_sealByOfficer_0 : decode cX6_sealByOfficer 0 = .ok (.aload_n 0, 1) := by decide +kernel
theorem dX6_sealByOfficer_1 : decode cX6_sealByOfficer 1 = .ok (.getfield 31, 3) := by decide +kernel
theorem dX6_sealByOfficer_4 : decode cX6_sealByOfficer 4 = .ok (.getfield 101, 3) := by decide +kernel
theorem dX6_sealByOfficer_7 : decode cX6_sealByOfficer 7 = .ok (.iload_n 1, 1) := by decide +kernel
theorem dX6_sealByOfficer_8 : decode cX6_sealByOfficer 8 = .ok (.iaload, 1) := by decide +kernel
theorem dX6_sealByOfficer_9 : decode cX6_sealByOfficer 9 = .ok (.iconst 1, 1) := by decide +kernel
theorem dX6_sealByOfficer_10 : decode cX6_sealByOfficer 10 = .ok (.if_icmp .ne 21, 3) := by decide +kernel
theorem dX6_sealByOfficer_13 : decode cX6_sealByOfficer 13 = .ok (.aload_n 0, 1) := by decide +kernel
theorem dX6_sealByOfficer_14 : decode cX6_sealByOfficer 14 = .ok (.getfield 38, 3) := by decide +kernel
theorem dX6_sealByOfficer_17 : decode cX6_sealByOfficer 17 = .ok (.getfield 133, 3) := by decide +kernel
theorem dX6_sealByOfficer_20 : decode cX6_sealByOfficer 20 = .ok (.aload_n 0, 1) := by decide +kernel
theorem dX6_sealByOfficer_21 : decode cX6_sealByOfficer 21 = .ok (.getfield 31, 3) := by decide +kernel
theorem dX6_sealByOfficer_24 : decode cX6_sealByOfficer 24 = .ok (.getfield 136, 3) := by decide +kernel
theorem dX6_sealByOfficer_27 : decode cX6_sealByOfficer 27 = .ok (.iload_n 1, 1) := by decide +kernel
theorem dX6_sealByOfficer_28 : decode cX6_sealByOfficer 28 = .ok (.iaload, 1) := by decide +kernel
theorem dX6_sealByOfficer_29 : decode cX6_sealByOfficer 29 = .ok (.iconst 2, 1) := by decide +kernel
theorem dX6_sealByOfficer_30 : decode cX6_sealByOfficer 30 = .ok (.iastore, 1) := by decide +kernel
theorem dX6_sealByOfficer_31 : decode cX6_sealByOfficer 31 = .ok (.aload_n 0, 1) := by decide +kernel
theorem dX6_sealByOfficer_32 : decode cX6_sealByOfficer 32 = .ok (.iload_n 1, 1) := by decide +kernel
theorem dX6_sealByOfficer_33 : decode cX6_sealByOfficer 33 = .ok (.invokevirtual 90, 3) := by decide +kernel
theorem dX6_sealByOfficer_36 : decode cX6_sealByOfficer 36 = .ok (.return_, 1) := by decide +kernel
theorem dX6_sealOpenLockers_0 : decode cX6_sealOpenLockers 0 = .ok (.iconst 0, 1) := by decide +kernel
theorem dX6_sealOpenLockers_1 : decode cX6_sealOpenLockers 1 = .ok (.istore_n 1, 1) := by decide +kernel
theorem dX6_sealOpenLockers_2 : decode cX6_sealOpenLockers 2 = .ok (.iconst 0, 1) := by decide +kernel
theorem dX6_sealOpenLockers_3 : decode cX6_sealOpenLockers 3 = .ok (.istore_n 2, 1) := by decide +kernel
theorem dX6_sealOpenLockers_4 : decode cX6_sealOpenLockers 4 = .ok (.iload_n 2, 1) := by decide +kernel
theorem dX6_sealOpenLockers_5 : decode cX6_sealOpenLockers 5 = .ok (.aload_n 0, 1) := by decide +kernel
theorem dX6_sealOpenLockers_6 : decode cX6_sealOpenLockers 6 = .ok (.getfield 31, 3) := by decide +kernel
theorem dX6_sealOpenLockers_9 : decode cX6_sealOpenLockers 9 = .ok (.getfield 75, 3) := by decide +kernel
theorem dX6_sealOpenLockers_12 : decode cX6_sealOpenLockers 12 = .ok (.if_icmp .ge 29, 3) := by decide +kernel
theorem dX6_sealOpenLockers_15 : decode cX6_sealOpenLockers 15 = .ok (.aload_n 0, 1) := by decide +kernel
theorem dX6_sealOpenLockers_16 : decode cX6_sealOpenLockers 16 = .ok (.getfield 31, 3) := by decide +kernel
theorem dX6_sealOpenLockers_19 : decode cX6_sealOpenLockers 19 = .ok (.getfield 101, 3) := by decide +kernel
theorem dX6_sealOpenLockers_22 : decode cX6_sealOpenLockers 22 = .ok (.iload_n 2, 1) := by decide +kernel
theorem dX6_sealOpenLockers_23 : decode cX6_sealOpenLockers 23 = .ok (.iaload, 1) := by decide +kernel
theorem dX6_sealOpenLockers_24 : decode cX6_sealOpenLockers 24 = .ok (.ifCond .ne 11, 3) := by decide +kernel
theorem dX6_sealOpenLockers_27 : decode cX6_sealOpenLockers 27 = .ok (.aload_n 0, 1) := by decide +kernel
theorem dX6_sealOpenLockers_28 : decode cX6_sealOpenLockers 28 = .ok (.iload_n 2, 1) := by decide +kernel
theorem dX6_sealOpenLockers_29 : decode cX6_sealOpenLockers 29 = .ok (.invokevirtual 90, 3) := by decide +kernel
theorem dX6_sealOpenLockers_32 : decode cX6_sealOpenLockers 32 = .ok (.iinc 1 1, 3) := by decide +kernel
theorem dX6_sealOpenLockers_35 : decode cX6_sealOpenLockers 35 = .ok (.iinc 2 1, 3) := by decide +kernel
theorem dX6_sealOpenLockers_38 : decode cX6_sealOpenLockers 38 = .ok (.goto (-34), 3) := by decide +kernel
theorem dX6_sealOpenLockers_41 : decode cX6_sealOpenLockers 41 = .ok (.iload_n 1, 1) := by decide +kernel
theorem dX6_sealOpenLockers_42 : decode cX6_sealOpenLockers 42 = .ok (.ireturn, 1) := by decide +kernel
theorem dX6_openLockers_0 : decode cX6_openLockers 0 = .ok (.iconst 0, 1) := by decide +kernel
theorem dX6_openLockers_1 : decode cX6_openLockers 1 = .ok (.istore_n 1, 1) := by decide +kernel
theorem dX6_openLockers_2 : decode cX6_openLockers 2 = .ok (.iconst 0, 1) := by decide +kernel
theorem dX6_openLockers_3 : decode cX6_openLockers 3 = .ok (.istore_n 2, 1) := by decide +kernel
theorem dX6_openLockers_4 : decode cX6_openLockers 4 = .ok (.iload_n 2, 1) := by decide +kernel
theorem dX6_openLockers_5 : decode cX6_openLockers 5 = .ok (.aload_n 0, 1) := by decide +kernel
theorem dX6_openLockers_6 : decode cX6_openLockers 6 = .ok (.getfield 31, 3) := by decide +kernel
theorem dX6_openLockers_9 : decode cX6_openLockers 9 = .ok (.getfield 75, 3) := by decide +kernel
theorem dX6_openLockers_12 : decode cX6_openLockers 12 = .ok (.if_icmp .ge 53, 3) := by decide +kernel
theorem dX6_openLockers_15 : decode cX6_openLockers 15 = .ok (.aload_n 0, 1) := by decide +kernel
theorem dX6_openLockers_16 : decode cX6_openLockers 16 = .ok (.getfield 31, 3) := by decide +kernel
theorem dX6_openLockers_19 : decode cX6_openLockers 19 = .ok (.getfield 101, 3) := by decide +kernel
theorem dX6_openLockers_22 : decode cX6_openLockers 22 = .ok (.iload_n 2, 1) := by decide +kernel
theorem dX6_openLockers_23 : decode cX6_openLockers 23 = .ok (.iaload, 1) := by decide +kernel
theorem dX6_openLockers_24 : decode cX6_openLockers 24 = .ok (.iconst 1, 1) := by decide +kernel
theorem dX6_openLockers_25 : decode cX6_openLockers 25 = .ok (.if_icmp .ne 24, 3) := by decide +kernel
theorem dX6_openLockers_28 : decode cX6_openLockers 28 = .ok (.aload_n 0, 1) := by decide +kernel
theorem dX6_openLockers_29 : decode cX6_openLockers 29 = .ok (.getfield 38, 3) := by decide +kernel
theorem dX6_openLockers_32 : decode cX6_openLockers 32 = .ok (.getfield 133, 3) := by decide +kernel
theorem dX6_openLockers_35 : decode cX6_openLockers 35 = .ok (.aload_n 0, 1) := by decide +kernel
theorem dX6_openLockers_36 : decode cX6_openLockers 36 = .ok (.getfield 31, 3) := by decide +kernel
theorem dX6_openLockers_39 : decode cX6_openLockers 39 = .ok (.getfield 136, 3) := by decide +kernel
theorem dX6_openLockers_42 : decode cX6_openLockers 42 = .ok (.iload_n 2, 1) := by decide +kernel
theorem dX6_openLockers_43 : decode cX6_openLockers 43 = .ok (.iaload, 1) := by decide +kernel
theorem dX6_openLockers_44 : decode cX6_openLockers 44 = .ok (.iconst 1, 1) := by decide +kernel
theorem dX6_openLockers_45 : decode cX6_openLockers 45 = .ok (.iastore, 1) := by decide +kernel
theorem dX6_openLockers_46 : decode cX6_openLockers 46 = .ok (.iinc 1 1, 3) := by decide +kernel
theorem dX6_openLockers_49 : decode cX6_openLockers 49 = .ok (.aload_n 0, 1) := by decide +kernel
theorem dX6_openLockers_50 : decode cX6_openLockers 50 = .ok (.getfield 31, 3) := by decide +kernel
theorem dX6_openLockers_53 : decode cX6_openLockers 53 = .ok (.getfield 101, 3) := by decide +kernel
theorem dX6_openLockers_56 : decode cX6_openLockers 56 = .ok (.iload_n 2, 1) := by decide +kernel
theorem dX6_openLockers_57 : decode cX6_openLockers 57 = .ok (.iconst 0, 1) := by decide +kernel
theorem dX6_openLockers_58 : decode cX6_openLockers 58 = .ok (.iastore, 1) := by decide +kernel
theorem dX6_openLockers_59 : decode cX6_openLockers 59 = .ok (.iinc 2 1, 3) := by decide +kernel
theorem dX6_openLockers_62 : decode cX6_openLockers 62 = .ok (.goto (-58), 3) := by decide +kernel
theorem dX6_openLockers_65 : decode cX6_openLockers 65 = .ok (.iload_n 1, 1) := by decide +kernel
theorem dX6_openLockers_66 : decode cX6_openLockers 66 = .ok (.ireturn, 1) := by decide +kernel
theorem dX7_init_0 : decode cX7_init 0 = .ok (.aload_n 0, 1) := by decide +kernel
theorem dX7_init_1 : decode cX7_init 1 = .ok (.invokespecial 1, 3) := by decide +kernel
theorem dX7_init_4 : decode cX7_init 4 = .ok (.aload_n 0, 1) := by decide +kernel
theorem dX7_init_5 : decode cX7_init 5 = .ok (.new 7, 3) := by decide +kernel
theorem dX7_init_8 : decode cX7_init 8 = .ok (.dup, 1) := by decide +kernel
theorem dX7_init_9 : decode cX7_init 9 = .ok (.invokespecial 9, 3) := by decide +kernel
theorem dX7_init_12 : decode cX7_init 12 = .ok (.putfield 10, 3) := by decide +kernel
theorem dX7_init_15 : decode cX7_init 15 = .ok (.aload_n 0, 1) := by decide +kernel
theorem dX7_init_16 : decode cX7_init 16 = .ok (.new 7, 3) := by decide +kernel
theorem dX7_init_19 : decode cX7_init 19 = .ok (.dup, 1) := by decide +kernel
theorem dX7_init_20 : decode cX7_init 20 = .ok (.invokespecial 9, 3) := by decide +kernel
theorem dX7_init_23 : decode cX7_init 23 = .ok (.putfield 16, 3) := by decide +kernel
theorem dX7_init_26 : decode cX7_init 26 = .ok (.aload_n 0, 1) := by decide +kernel
theorem dX7_init_27 : decode cX7_init 27 = .ok (.new 19, 3) := by decide +kernel
theorem dX7_init_30 : decode cX7_init 30 = .ok (.dup, 1) := by decide +kernel
theorem dX7_init_31 : decode cX7_init 31 = .ok (.invokespecial 21, 3) := by decide +kernel
theorem dX7_init_34 : decode cX7_init 34 = .ok (.putfield 22, 3) := by decide +kernel
theorem dX7_init_37 : decode cX7_init 37 = .ok (.aload_n 0, 1) := by decide +kernel
theorem dX7_init_38 : decode cX7_init 38 = .ok (.new 26, 3) := by decide +kernel
theorem dX7_init_41 : decode cX7_init 41 = .ok (.dup, 1) := by decide +kernel
theorem dX7_init_42 : decode cX7_init 42 = .ok (.invokespecial 28, 3) := by decide +kernel
theorem dX7_init_45 : decode cX7_init 45 = .ok (.putfield 29, 3) := by decide +kernel
theorem dX7_init_48 : decode cX7_init 48 = .ok (.return_, 1) := by decide +kernel
theorem dX7_locker_0 : decode cX7_locker 0 = .ok (.aload_n 0, 1) := by decide +kernel
theorem dX7_locker_1 : decode cX7_locker 1 = .ok (.getfield 22, 3) := by decide +kernel
theorem dX7_locker_4 : decode cX7_locker 4 = .ok (.aload_n 0, 1) := by decide +kernel
theorem dX7_locker_5 : decode cX7_locker 5 = .ok (.getfield 10, 3) := by decide +kernel
theorem dX7_locker_8 : decode cX7_locker 8 = .ok (.invokevirtual 33, 3) := by decide +kernel
theorem dX7_locker_11 : decode cX7_locker 11 = .ok (.aload_n 0, 1) := by decide +kernel
theorem dX7_locker_12 : decode cX7_locker 12 = .ok (.getfield 22, 3) := by decide +kernel
theorem dX7_locker_15 : decode cX7_locker 15 = .ok (.aload_n 0, 1) := by decide +kernel
theorem dX7_locker_16 : decode cX7_locker 16 = .ok (.getfield 10, 3) := by decide +kernel
theorem dX7_locker_19 : decode cX7_locker 19 = .ok (.invokevirtual 37, 3) := by decide +kernel
theorem dX7_locker_22 : decode cX7_locker 22 = .ok (.invokevirtual 41, 3) := by decide +kernel
theorem dX7_locker_25 : decode cX7_locker 25 = .ok (.ireturn, 1) := by decide +kernel
theorem dX7_good_0 : decode cX7_good 0 = .ok (.aload_n 0, 1) := by decide +kernel
theorem dX7_good_1 : decode cX7_good 1 = .ok (.getfield 22, 3) := by decide +kernel
theorem dX7_good_4 : decode cX7_good 4 = .ok (.aload_n 0, 1) := by decide +kernel
theorem dX7_good_5 : decode cX7_good 5 = .ok (.getfield 10, 3) := by decide +kernel
theorem dX7_good_8 : decode cX7_good 8 = .ok (.invokevirtual 33, 3) := by decide +kernel
theorem dX7_good_11 : decode cX7_good 11 = .ok (.aload_n 0, 1) := by decide +kernel
theorem dX7_good_12 : decode cX7_good 12 = .ok (.getfield 22, 3) := by decide +kernel
theorem dX7_good_15 : decode cX7_good 15 = .ok (.aload_n 0, 1) := by decide +kernel
theorem dX7_good_16 : decode cX7_good 16 = .ok (.getfield 10, 3) := by decide +kernel
theorem dX7_good_19 : decode cX7_good 19 = .ok (.iload_n 1, 1) := by decide +kernel
theorem dX7_good_20 : decode cX7_good 20 = .ok (.invokevirtual 45, 3) := by decide +kernel
theorem dX7_good_23 : decode cX7_good 23 = .ok (.invokevirtual 41, 3) := by decide +kernel
theorem dX7_good_26 : decode cX7_good 26 = .ok (.ireturn, 1) := by decide +kernel
theorem dX7_duty_0 : decode cX7_duty 0 = .ok (.aload_n 0, 1) := by decide +kernel
theorem dX7_duty_1 : decode cX7_duty 1 = .ok (.getfield 22, 3) := by decide +kernel
theorem dX7_duty_4 : decode cX7_duty 4 = .ok (.aload_n 0, 1) := by decide +kernel
theorem dX7_duty_5 : decode cX7_duty 5 = .ok (.getfield 10, 3) := by decide +kernel
theorem dX7_duty_8 : decode cX7_duty 8 = .ok (.invokevirtual 33, 3) := by decide +kernel
theorem dX7_duty_11 : decode cX7_duty 11 = .ok (.aload_n 0, 1) := by decide +kernel
theorem dX7_duty_12 : decode cX7_duty 12 = .ok (.getfield 22, 3) := by decide +kernel
theorem dX7_duty_15 : decode cX7_duty 15 = .ok (.aload_n 0, 1) := by decide +kernel
theorem dX7_duty_16 : decode cX7_duty 16 = .ok (.getfield 10, 3) := by decide +kernel
theorem dX7_duty_19 : decode cX7_duty 19 = .ok (.iload_n 1, 1) := by decide +kernel
theorem dX7_duty_20 : decode cX7_duty 20 = .ok (.iload_n 2, 1) := by decide +kernel
theorem dX7_duty_21 : decode cX7_duty 21 = .ok (.invokevirtual 48, 3) := by decide +kernel
theorem dX7_duty_24 : decode cX7_duty 24 = .ok (.invokevirtual 41, 3) := by decide +kernel
theorem dX7_duty_27 : decode cX7_duty 27 = .ok (.ireturn, 1) := by decide +kernel
theorem dX7_load_0 : decode cX7_load 0 = .ok (.aload_n 0, 1) := by decide +kernel
theorem dX7_load_1 : decode cX7_load 1 = .ok (.getfield 22, 3) := by decide +kernel
theorem dX7_load_4 : decode cX7_load 4 = .ok (.aload_n 0, 1) := by decide +kernel
theorem dX7_load_5 : decode cX7_load 5 = .ok (.getfield 10, 3) := by decide +kernel
theorem dX7_load_8 : decode cX7_load 8 = .ok (.invokevirtual 33, 3) := by decide +kernel
theorem dX7_load_11 : decode cX7_load 11 = .ok (.aload_n 0, 1) := by decide +kernel
theorem dX7_load_12 : decode cX7_load 12 = .ok (.getfield 22, 3) := by decide +kernel
theorem dX7_load_15 : decode cX7_load 15 = .ok (.aload_n 0, 1) := by decide +kernel
theorem dX7_load_16 : decode cX7_load 16 = .ok (.getfield 10, 3) := by decide +kernel
theorem dX7_load_19 : decode cX7_load 19 = .ok (.iload_n 1, 1) := by decide +kernel
theorem dX7_load_20 : decode cX7_load 20 = .ok (.iload_n 2, 1) := by decide +kernel
theorem dX7_load_21 : decode cX7_load 21 = .ok (.iload_n 3, 1) := by decide +kernel
theorem dX7_load_22 : decode cX7_load 22 = .ok (.invokevirtual 52, 3) := by decide +kernel
theorem dX7_load_25 : decode cX7_load 25 = .ok (.invokevirtual 41, 3) := by decide +kernel
theorem dX7_load_28 : decode cX7_load 28 = .ok (.ireturn, 1) := by decide +kernel
theorem dX7_lockerOf_0 : decode cX7_lockerOf 0 = .ok (.aload_n 0, 1) := by decide +kernel
theorem dX7_lockerOf_1 : decode cX7_lockerOf 1 = .ok (.getfield 10, 3) := by decide +kernel
theorem dX7_lockerOf_4 : decode cX7_lockerOf 4 = .ok (.iload_n 1, 1) := by decide +kernel
theorem dX7_lockerOf_5 : decode cX7_lockerOf 5 = .ok (.invokevirtual 56, 3) := by decide +kernel
theorem dX7_lockerOf_8 : decode cX7_lockerOf 8 = .ok (.ifCond .eq 13, 3) := by decide +kernel
theorem dX7_lockerOf_11 : decode cX7_lockerOf 11 = .ok (.iload_n 2, 1) := by decide +kernel
theorem dX7_lockerOf_12 : decode cX7_lockerOf 12 = .ok (.ifCond .lt 9, 3) := by decide +kernel
theorem dX7_lockerOf_15 : decode cX7_lockerOf 15 = .ok (.iload_n 2, 1) := by decide +kernel
theorem dX7_lockerOf_16 : decode cX7_lockerOf 16 = .ok (.bipush 11, 2) := by decide +kernel
theorem dX7_lockerOf_18 : decode cX7_lockerOf 18 = .ok (.if_icmp .le 5, 3) := by decide +kernel
theorem dX7_lockerOf_21 : decode cX7_lockerOf 21 = .ok (.iconst (-1), 1) := by decide +kernel
theorem dX7_lockerOf_22 : decode cX7_lockerOf 22 = .ok (.ireturn, 1) := by decide +kernel
theorem dX7_lockerOf_23 : decode cX7_lockerOf 23 = .ok (.aload_n 0, 1) := by decide +kernel
theorem dX7_lockerOf_24 : decode cX7_lockerOf 24 = .ok (.getfield 10, 3) := by decide +kernel
theorem dX7_lockerOf_27 : decode cX7_lockerOf 27 = .ok (.getfield 60, 3) := by decide +kernel
theorem dX7_lockerOf_30 : decode cX7_lockerOf 30 = .ok (.astore_n 3, 1) := by decide +kernel
theorem dX7_lockerOf_31 : decode cX7_lockerOf 31 = .ok (.iload_n 2, 1) := by decide +kernel
theorem dX7_lockerOf_32 : decode cX7_lockerOf 32 = .ok (.tableswitch 81 8 11 #[32, 39, 61, 71], 32) := by decide +kernel
theorem dX7_lockerOf_64 : decode cX7_lockerOf 64 = .ok (.aload_n 3, 1) := by decide +kernel
theorem dX7_lockerOf_65 : decode cX7_lockerOf 65 = .ok (.getfield 64, 3) := by decide +kernel
theorem dX7_lockerOf_68 : decode cX7_lockerOf 68 = .ok (.iload_n 1, 1) := by decide +kernel
theorem dX7_lockerOf_69 : decode cX7_lockerOf 69 = .ok (.iaload, 1) := by decide +kernel
theorem dX7_lockerOf_70 : decode cX7_lockerOf 70 = .ok (.ireturn, 1) := by decide +kernel
theorem dX7_lockerOf_71 : decode cX7_lockerOf 71 = .ok (.aload_n 3, 1) := by decide +kernel
theorem dX7_lockerOf_72 : decode cX7_lockerOf 72 = .ok (.getfield 64, 3) := by decide +kernel
theorem dX7_lockerOf_75 : decode cX7_lockerOf 75 = .ok (.iload_n 1, 1) := by decide +kernel
theorem dX7_lockerOf_76 : decode cX7_lockerOf 76 = .ok (.iaload, 1) := by decide +kernel
theorem dX7_lockerOf_77 : decode cX7_lockerOf 77 = .ok (.iconst 1, 1) := by decide +kernel
theorem dX7_lockerOf_78 : decode cX7_lockerOf 78 = .ok (.if_icmp .ne 12, 3) := by decide +kernel
theorem dX7_lockerOf_81 : decode cX7_lockerOf 81 = .ok (.aload_n 3, 1) := by decide +kernel
theorem dX7_lockerOf_82 : decode cX7_lockerOf 82 = .ok (.getfield 70, 3) := by decide +kernel
theorem dX7_lockerOf_85 : decode cX7_lockerOf 85 = .ok (.iload_n 1, 1) := by decide +kernel
theorem dX7_lockerOf_86 : decode cX7_lockerOf 86 = .ok (.iaload, 1) := by decide +kernel
theorem dX7_lockerOf_87 : decode cX7_lockerOf 87 = .ok (.goto 5, 3) := by decide +kernel
theorem dX7_lockerOf_90 : decode cX7_lockerOf 90 = .ok (.bipush (-4), 2) := by decide +kernel
theorem dX7_lockerOf_92 : decode cX7_lockerOf 92 = .ok (.ireturn, 1) := by decide +kernel
theorem dX7_lockerOf_93 : decode cX7_lockerOf 93 = .ok (.aload_n 3, 1) := by decide +kernel
theorem dX7_lockerOf_94 : decode cX7_lockerOf 94 = .ok (.aload_n 3, 1) := by decide +kernel
theorem dX7_lockerOf_95 : decode cX7_lockerOf 95 = .ok (.getfield 73, 3) := by decide +kernel
theorem dX7_lockerOf_98 : decode cX7_lockerOf 98 = .ok (.iload_n 1, 1) := by decide +kernel
theorem dX7_lockerOf_99 : decode cX7_lockerOf 99 = .ok (.invokevirtual 76, 3) := by decide +kernel
theorem dX7_lockerOf_102 : decode cX7_lockerOf 102 = .ok (.ireturn, 1) := by decide +kernel
theorem dX7_lockerOf_103 : decode cX7_lockerOf 103 = .ok (.aload_n 3, 1) := by decide +kernel
theorem dX7_lockerOf_104 : decode cX7_lockerOf 104 = .ok (.aload_n 3, 1) := by decide +kernel
theorem dX7_lockerOf_105 : decode cX7_lockerOf 105 = .ok (.getfield 80, 3) := by decide +kernel
theorem dX7_lockerOf_108 : decode cX7_lockerOf 108 = .ok (.iload_n 1, 1) := by decide +kernel
theorem dX7_lockerOf_109 : decode cX7_lockerOf 109 = .ok (.invokevirtual 76, 3) := by decide +kernel
theorem dX7_lockerOf_112 : decode cX7_lockerOf 112 = .ok (.ireturn, 1) := by decide +kernel
theorem dX7_lockerOf_113 : decode cX7_lockerOf 113 = .ok (.aload_n 0, 1) := by decide +kernel
theorem dX7_lockerOf_114 : decode cX7_lockerOf 114 = .ok (.getfield 10, 3) := by decide +kernel
theorem dX7_lockerOf_117 : decode cX7_lockerOf 117 = .ok (.iload_n 2, 1) := by decide +kernel
theorem dX7_lockerOf_118 : decode cX7_lockerOf 118 = .ok (.invokevirtual 83, 3) := by decide +kernel
theorem dX7_lockerOf_121 : decode cX7_lockerOf 121 = .ok (.ifCond .eq 17, 3) := by decide +kernel
theorem dX7_lockerOf_124 : decode cX7_lockerOf 124 = .ok (.aload_n 3, 1) := by decide +kernel
theorem dX7_lockerOf_125 : decode cX7_lockerOf 125 = .ok (.getfield 73, 3) := by decide +kernel
theorem dX7_lockerOf_128 : decode cX7_lockerOf 128 = .ok (.aload_n 3, 1) := by decide +kernel
theorem dX7_lockerOf_129 : decode cX7_lockerOf 129 = .ok (.iload_n 1, 1) := by decide +kernel
theorem dX7_lockerOf_130 : decode cX7_lockerOf 130 = .ok (.iload_n 2, 1) := by decide +kernel
theorem dX7_lockerOf_131 : decode cX7_lockerOf 131 = .ok (.invokevirtual 86, 3) := by decide +kernel
theorem dX7_lockerOf_134 : decode cX7_lockerOf 134 = .ok (.iaload, 1) := by decide +kernel
theorem dX7_lockerOf_135 : decode cX7_lockerOf 135 = .ok (.goto 4, 3) := by decide +kernel
theorem dX7_lockerOf_138 : decode cX7_lockerOf 138 = .ok (.iconst (-1), 1) := by decide +kernel
theorem dX7_lockerOf_139 : decode cX7_lockerOf 139 = .ok (.ireturn, 1) := by decide +kernel
theorem dX7_missing_0 : decode cX7_missing 0 = .ok (.aload_n 0, 1) := by decide +kernel
theorem dX7_missing_1 : decode cX7_missing 1 = .ok (.getfield 10, 3) := by decide +kernel
theorem dX7_missing_4 : decode cX7_missing 4 = .ok (.iload_n 1, 1) := by decide +kernel
theorem dX7_missing_5 : decode cX7_missing 5 = .ok (.invokevirtual 56, 3) := by decide +kernel
theorem dX7_missing_8 : decode cX7_missing 8 = .ok (.ifCond .eq 14, 3) := by decide +kernel
theorem dX7_missing_11 : decode cX7_missing 11 = .ok (.aload_n 0, 1) := by decide +kernel
theorem dX7_missing_12 : decode cX7_missing 12 = .ok (.getfield 10, 3) := by decide +kernel
theorem dX7_missing_15 : decode cX7_missing 15 = .ok (.iload_n 2, 1) := by decide +kernel
theorem dX7_missing_16 : decode cX7_missing 16 = .ok (.invokevirtual 83, 3) := by decide +kernel
theorem dX7_missing_19 : decode cX7_missing 19 = .ok (.ifCond .ne 5, 3) := by decide +kernel
theorem dX7_missing_22 : decode cX7_missing 22 = .ok (.iconst (-1), 1) := by decide +kernel
theorem dX7_missing_23 : decode cX7_missing 23 = .ok (.ireturn, 1) := by decide +kernel
theorem dX7_missing_24 : decode cX7_missing 24 = .ok (.aload_n 0, 1) := by decide +kernel
theorem dX7_missing_25 : decode cX7_missing 25 = .ok (.getfield 10, 3) := by decide +kernel
theorem dX7_missing_28 : decode cX7_missing 28 = .ok (.getfield 60, 3) := by decide +kernel
theorem dX7_missing_31 : decode cX7_missing 31 = .ok (.getfield 80, 3) := by decide +kernel
theorem dX7_missing_34 : decode cX7_missing 34 = .ok (.aload_n 0, 1) := by decide +kernel
theorem dX7_missing_35 : decode cX7_missing 35 = .ok (.getfield 10, 3) := by decide +kernel
theorem dX7_missing_38 : decode cX7_missing 38 = .ok (.getfield 60, 3) := by decide +kernel
theorem dX7_missing_41 : decode cX7_missing 41 = .ok (.iload_n 1, 1) := by decide +kernel
theorem dX7_missing_42 : decode cX7_missing 42 = .ok (.iload_n 2, 1) := by decide +kernel
theorem dX7_missing_43 : decode cX7_missing 43 = .ok (.invokevirtual 86, 3) := by decide +kernel
theorem dX7_missing_46 : decode cX7_missing 46 = .ok (.iaload, 1) := by decide +kernel
theorem dX7_missing_47 : decode cX7_missing 47 = .ok (.ireturn, 1) := by decide +kernel
theorem dX7_seal_0 : decode cX7_seal 0 = .ok (.aload_n 0, 1) := by decide +kernel
theorem dX7_seal_1 : decode cX7_seal 1 = .ok (.getfield 10, 3) := by decide +kernel
theorem dX7_seal_4 : decode cX7_seal 4 = .ok (.getfield 89, 3) := by decide +kernel
theorem dX7_seal_7 : decode cX7_seal 7 = .ok (.astore_n 3, 1) := by decide +kernel
theorem dX7_seal_8 : decode cX7_seal 8 = .ok (.iload_n 1, 1) := by decide +kernel
theorem dX7_seal_9 : decode cX7_seal 9 = .ok (.iconst 1, 1) := by decide +kernel
theorem dX7_seal_10 : decode cX7_seal 10 = .ok (.if_icmp .lt 11, 3) := by decide +kernel
theorem dX7_seal_13 : decode cX7_seal 13 = .ok (.iload_n 1, 1) := by decide +kernel
theorem dX7_seal_14 : decode cX7_seal 14 = .ok (.aload_n 3, 1) := by decide +kernel
theorem dX7_seal_15 : decode cX7_seal 15 = .ok (.getfield 93, 3) := by decide +kernel
theorem dX7_seal_18 : decode cX7_seal 18 = .ok (.if_icmp .le 5, 3) := by decide +kernel
theorem dX7_seal_21 : decode cX7_seal 21 = .ok (.iconst (-1), 1) := by decide +kernel
theorem dX7_seal_22 : decode cX7_seal 22 = .ok (.ireturn, 1) := by decide +kernel
theorem dX7_seal_23 : decode cX7_seal 23 = .ok (.iload_n 2, 1) := by decide +kernel
theorem dX7_seal_24 : decode cX7_seal 24 = .ok (.tableswitch 49 0 2 #[28, 35, 42], 28) := by decide +kernel
theorem dX7_seal_52 : decode cX7_seal 52 = .ok (.aload_n 3, 1) := by decide +kernel
theorem dX7_seal_53 : decode cX7_seal 53 = .ok (.getfield 99, 3) := by decide +kernel
theorem dX7_seal_56 : decode cX7_seal 56 = .ok (.iload_n 1, 1) := by decide +kernel
theorem dX7_seal_57 : decode cX7_seal 57 = .ok (.iaload, 1) := by decide +kernel
theorem dX7_seal_58 : decode cX7_seal 58 = .ok (.ireturn, 1) := by decide +kernel
theorem dX7_seal_59 : decode cX7_seal 59 = .ok (.aload_n 3, 1) := by decide +kernel
theorem dX7_seal_60 : decode cX7_seal 60 = .ok (.getfield 102, 3) := by decide +kernel
theorem dX7_seal_63 : decode cX7_seal 63 = .ok (.iload_n 1, 1) := by decide +kernel
theorem dX7_seal_64 : decode cX7_seal 64 = .ok (.iaload, 1) := by decide +kernel
theorem dX7_seal_65 : decode cX7_seal 65 = .ok (.ireturn, 1) := by decide +kernel
theorem dX7_seal_66 : decode cX7_seal 66 = .ok (.aload_n 3, 1) := by decide +kernel
theorem dX7_seal_67 : decode cX7_seal 67 = .ok (.getfield 105, 3) := by decide +kernel
theorem dX7_seal_70 : decode cX7_seal 70 = .ok (.iload_n 1, 1) := by decide +kernel
theorem dX7_seal_71 : decode cX7_seal 71 = .ok (.iaload, 1) := by decide +kernel
theorem dX7_seal_72 : decode cX7_seal 72 = .ok (.ireturn, 1) := by decide +kernel
theorem dX7_seal_73 : decode cX7_seal 73 = .ok (.iconst (-1), 1) := by decide +kernel
theorem dX7_seal_74 : decode cX7_seal 74 = .ok (.ireturn, 1) := by decide +kernel
theorem dX7_bond_0 : decode cX7_bond 0 = .ok (.aload_n 0, 1) := by decide +kernel
theorem dX7_bond_1 : decode cX7_bond 1 = .ok (.getfield 10, 3) := by decide +kernel
theorem dX7_bond_4 : decode cX7_bond 4 = .ok (.getfield 108, 3) := by decide +kernel
theorem dX7_bond_7 : decode cX7_bond 7 = .ok (.astore_n 3, 1) := by decide +kernel
theorem dX7_bond_8 : decode cX7_bond 8 = .ok (.iload_n 1, 1) := by decide +kernel
theorem dX7_bond_9 : decode cX7_bond 9 = .ok (.ifCond .lt 11, 3) := by decide +kernel
theorem dX7_bond_12 : decode cX7_bond 12 = .ok (.iload_n 1, 1) := by decide +kernel
theorem dX7_bond_13 : decode cX7_bond 13 = .ok (.aload_n 3, 1) := by decide +kernel
theorem dX7_bond_14 : decode cX7_bond 14 = .ok (.getfield 112, 3) := by decide +kernel
theorem dX7_bond_17 : decode cX7_bond 17 = .ok (.if_icmp .lt 5, 3) := by decide +kernel
theorem dX7_bond_20 : decode cX7_bond 20 = .ok (.iconst (-1), 1) := by decide +kernel
theorem dX7_bond_21 : decode cX7_bond 21 = .ok (.ireturn, 1) := by decide +kernel
theorem dX7_bond_22 : decode cX7_bond 22 = .ok (.iload_n 2, 1) := by decide +kernel
theorem dX7_bond_23 : decode cX7_bond 23 = .ok (.tableswitch 79 0 5 #[37, 44, 51, 58, 65, 72], 37) := by decide +kernel
theorem dX7_bond_60 : decode cX7_bond 60 = .ok (.aload_n 3, 1) := by decide +kernel
theorem dX7_bond_61 : decode cX7_bond 61 = .ok (.getfield 117, 3) := by decide +kernel
theorem dX7_bond_64 : decode cX7_bond 64 = .ok (.iload_n 1, 1) := by decide +kernel
theorem dX7_bond_65 : decode cX7_bond 65 = .ok (.iaload, 1) := by decide +kernel
theorem dX7_bond_66 : decode cX7_bond 66 = .ok (.ireturn, 1) := by decide +kernel
theorem dX7_bond_67 : decode cX7_bond 67 = .ok (.aload_n 3, 1) := by decide +kernel
theorem dX7_bond_68 : decode cX7_bond 68 = .ok (.getfield 120, 3) := by decide +kernel
theorem dX7_bond_71 : decode cX7_bond 71 = .ok (.iload_n 1, 1) := by decide +kernel
theorem dX7_bond_72 : decode cX7_bond 72 = .ok (.iaload, 1) := by decide +kernel
theorem dX7_bond_73 : decode cX7_bond 73 = .ok (.ireturn, 1) := by decide +kernel
theorem dX7_bond_74 : decode cX7_bond 74 = .ok (.aload_n 3, 1) := by decide +kernel
theorem dX7_bond_75 : decode cX7_bond 75 = .ok (.getfield 123, 3) := by decide +kernel
theorem dX7_bond_78 : decode cX7_bond 78 = .ok (.iload_n 1, 1) := by decide +kernel
theorem dX7_bond_79 : decode cX7_bond 79 = .ok (.iaload, 1) := by decide +kernel
theorem dX7_bond_80 : decode cX7_bond 80 = .ok (.ireturn, 1) := by decide +kernel
theorem dX7_bond_81 : decode cX7_bond 81 = .ok (.aload_n 3, 1) := by decide +kernel
theorem dX7_bond_82 : decode cX7_bond 82 = .ok (.getfield 126, 3) := by decide +kernel
theorem dX7_bond_85 : decode cX7_bond 85 = .ok (.iload_n 1, 1) := by decide +kernel
theorem dX7_bond_86 : decode cX7_bond 86 = .ok (.iaload, 1) := by decide +kernel
theorem dX7_bond_87 : decode cX7_bond 87 = .ok (.ireturn, 1) := by decide +kernel
theorem dX7_bond_88 : decode cX7_bond 88 = .ok (.aload_n 3, 1) := by decide +kernel
theorem dX7_bond_89 : decode cX7_bond 89 = .ok (.iload_n 1, 1) := by decide +kernel
theorem dX7_bond_90 : decode cX7_bond 90 = .ok (.invokevirtual 129, 3) := by decide +kernel
theorem dX7_bond_93 : decode cX7_bond 93 = .ok (.l2i, 1) := by decide +kernel
theorem dX7_bond_94 : decode cX7_bond 94 = .ok (.ireturn, 1) := by decide +kernel
theorem dX7_bond_95 : decode cX7_bond 95 = .ok (.aload_n 3, 1) := by decide +kernel
theorem dX7_bond_96 : decode cX7_bond 96 = .ok (.getfield 133, 3) := by decide +kernel
theorem dX7_bond_99 : decode cX7_bond 99 = .ok (.iload_n 1, 1) := by decide +kernel
theorem dX7_bond_100 : decode cX7_bond 100 = .ok (.iaload, 1) := by decide +kernel
theorem dX7_bond_101 : decode cX7_bond 101 = .ok (.ireturn, 1) := by decide +kernel
theorem dX7_bond_102 : decode cX7_bond 102 = .ok (.iconst (-1), 1) := by decide +kernel
theorem dX7_bond_103 : decode cX7_bond 103 = .ok (.ireturn, 1) := by decide +kernel
theorem dX7_nextBond_0 : decode cX7_nextBond 0 = .ok (.aload_n 0, 1) := by decide +kernel
theorem dX7_nextBond_1 : decode cX7_nextBond 1 = .ok (.getfield 10, 3) := by decide +kernel
theorem dX7_nextBond_4 : decode cX7_nextBond 4 = .ok (.iload_n 1, 1) := by decide +kernel
theorem dX7_nextBond_5 : decode cX7_nextBond 5 = .ok (.invokevirtual 83, 3) := by decide +kernel
theorem dX7_nextBond_8 : decode cX7_nextBond 8 = .ok (.ifCond .ne 5, 3) := by decide +kernel
theorem dX7_nextBond_11 : decode cX7_nextBond 11 = .ok (.iconst (-1), 1) := by decide +kernel
theorem dX7_nextBond_12 : decode cX7_nextBond 12 = .ok (.ireturn, 1) := by decide +kernel
theorem dX7_nextBond_13 : decode cX7_nextBond 13 = .ok (.aload_n 0, 1) := by decide +kernel
theorem dX7_nextBond_14 : decode cX7_nextBond 14 = .ok (.getfield 10, 3) := by decide +kernel
theorem dX7_nextBond_17 : decode cX7_nextBond 17 = .ok (.getfield 108, 3) := by decide +kernel
theorem dX7_nextBond_20 : decode cX7_nextBond 20 = .ok (.iload_n 1, 1) := by decide +kernel
theorem dX7_nextBond_21 : decode cX7_nextBond 21 = .ok (.iconst (-1), 1) := by decide +kernel
theorem dX7_nextBond_22 : decode cX7_nextBond 22 = .ok (.invokevirtual 136, 3) := by decide +kernel
theorem dX7_nextBond_25 : decode cX7_nextBond 25 = .ok (.istore_n 2, 1) := by decide +kernel
theorem dX7_nextBond_26 : decode cX7_nextBond 26 = .ok (.iload_n 2, 1) := by decide +kernel
theorem dX7_nextBond_27 : decode cX7_nextBond 27 = .ok (.iconst (-1), 1) := by decide +kernel
theorem dX7_nextBond_28 : decode cX7_nextBond 28 = .ok (.if_icmp .ne 8, 3) := by decide +kernel
theorem dX7_nextBond_31 : decode cX7_nextBond 31 = .ok (.bipush (-4), 2) := by decide +kernel
theorem dX7_nextBond_33 : decode cX7_nextBond 33 = .ok (.goto 4, 3) := by decide +kernel
theorem dX7_nextBond_36 : decode cX7_nextBond 36 = .ok (.iload_n 2, 1) := by decide +kernel
theorem dX7_nextBond_37 : decode cX7_nextBond 37 = .ok (.ireturn, 1) := by decide +kernel
theorem dX7_use_0 : decode cX7_use 0 = .ok (.aload_n 0, 1) := by decide +kernel
theorem dX7_use_1 : decode cX7_use 1 = .ok (.getfield 22, 3) := by decide +kernel
theorem dX7_use_4 : decode cX7_use 4 = .ok (.aload_n 0, 1) := by decide +kernel
theorem dX7_use_5 : decode cX7_use 5 = .ok (.getfield 10, 3) := by decide +kernel
theorem dX7_use_8 : decode cX7_use 8 = .ok (.invokevirtual 33, 3) := by decide +kernel
theorem dX7_use_11 : decode cX7_use 11 = .ok (.aload_n 0, 1) := by decide +kernel
theorem dX7_use_12 : decode cX7_use 12 = .ok (.getfield 22, 3) := by decide +kernel
theorem dX7_use_15 : decode cX7_use 15 = .ok (.aload_n 0, 1) := by decide +kernel
theorem dX7_use_16 : decode cX7_use 16 = .ok (.getfield 10, 3) := by decide +kernel
theorem dX7_use_19 : decode cX7_use 19 = .ok (.iload_n 1, 1) := by decide +kernel
theorem dX7_use_20 : decode cX7_use 20 = .ok (.iload_n 2, 1) := by decide +kernel
theorem dX7_use_21 : decode cX7_use 21 = .ok (.iload_n 3, 1) := by decide +kernel
theorem dX7_use_22 : decode cX7_use 22 = .ok (.invokevirtual 139, 3) := by decide +kernel
theorem dX7_use_25 : decode cX7_use 25 = .ok (.invokevirtual 41, 3) := by decide +kernel
theorem dX7_use_28 : decode cX7_use 28 = .ok (.ireturn, 1) := by decide +kernel
theorem dX7_bring_0 : decode cX7_bring 0 = .ok (.aload_n 0, 1) := by decide +kernel
theorem dX7_bring_1 : decode cX7_bring 1 = .ok (.getfield 22, 3) := by decide +kernel
theorem dX7_bring_4 : decode cX7_bring 4 = .ok (.aload_n 0, 1) := by decide +kernel
theorem dX7_bring_5 : decode cX7_bring 5 = .ok (.getfield 10, 3) := by decide +kernel
theorem dX7_bring_8 : decode cX7_bring 8 = .ok (.invokevirtual 33, 3) := by decide +kernel
theorem dX7_bring_11 : decode cX7_bring 11 = .ok (.aload_n 0, 1) := by decide +kernel
theorem dX7_bring_12 : decode cX7_bring 12 = .ok (.getfield 22, 3) := by decide +kernel
theorem dX7_bring_15 : decode cX7_bring 15 = .ok (.aload_n 0, 1) := by decide +kernel
theorem dX7_bring_16 : decode cX7_bring 16 = .ok (.getfield 10, 3) := by decide +kernel
theorem dX7_bring_19 : decode cX7_bring 19 = .ok (.iload_n 1, 1) := by decide +kernel
theorem dX7_bring_20 : decode cX7_bring 20 = .ok (.iload_n 2, 1) := by decide +kernel
theorem dX7_bring_21 : decode cX7_bring 21 = .ok (.iload_n 3, 1) := by decide +kernel
theorem dX7_bring_22 : decode cX7_bring 22 = .ok (.invokevirtual 142, 3) := by decide +kernel
theorem dX7_bring_25 : decode cX7_bring 25 = .ok (.invokevirtual 41, 3) := by decide +kernel
theorem dX7_bring_28 : decode cX7_bring 28 = .ok (.ireturn, 1) := by decide +kernel
theorem dX7_smash_0 : decode cX7_smash 0 = .ok (.aload_n 0, 1) := by decide +kernel
theorem dX7_smash_1 : decode cX7_smash 1 = .ok (.getfield 22, 3) := by decide +kernel
theorem dX7_smash_4 : decode cX7_smash 4 = .ok (.aload_n 0, 1) := by decide +kernel
theorem dX7_smash_5 : decode cX7_smash 5 = .ok (.getfield 10, 3) := by decide +kernel
theorem dX7_smash_8 : decode cX7_smash 8 = .ok (.invokevirtual 33, 3) := by decide +kernel
theorem dX7_smash_11 : decode cX7_smash 11 = .ok (.aload_n 0, 1) := by decide +kernel
theorem dX7_smash_12 : decode cX7_smash 12 = .ok (.getfield 22, 3) := by decide +kernel
theorem dX7_smash_15 : decode cX7_smash 15 = .ok (.aload_n 0, 1) := by decide +kernel
theorem dX7_smash_16 : decode cX7_smash 16 = .ok (.getfield 10, 3) := by decide +kernel
theorem dX7_smash_19 : decode cX7_smash 19 = .ok (.iload_n 1, 1) := by decide +kernel
theorem dX7_smash_20 : decode cX7_smash 20 = .ok (.iload_n 2, 1) := by decide +kernel
theorem dX7_smash_21 : decode cX7_smash 21 = .ok (.iload_n 3, 1) := by decide +kernel
theorem dX7_smash_22 : decode cX7_smash 22 = .ok (.iload 4, 2) := by decide +kernel
theorem dX7_smash_24 : decode cX7_smash 24 = .ok (.invokevirtual 145, 3) := by decide +kernel
theorem dX7_smash_27 : decode cX7_smash 27 = .ok (.invokevirtual 41, 3) := by decide +kernel
theorem dX7_smash_30 : decode cX7_smash 30 = .ok (.ireturn, 1) := by decide +kernel
theorem dX7_tear_0 : decode cX7_tear 0 = .ok (.aload_n 0, 1) := by decide +kernel
theorem dX7_tear_1 : decode cX7_tear 1 = .ok (.getfield 22, 3) := by decide +kernel
theorem dX7_tear_4 : decode cX7_tear 4 = .ok (.aload_n 0, 1) := by decide +kernel
theorem dX7_tear_5 : decode cX7_tear 5 = .ok (.getfield 10, 3) := by decide +kernel
theorem dX7_tear_8 : decode cX7_tear 8 = .ok (.invokevirtual 33, 3) := by decide +kernel
theorem dX7_tear_11 : decode cX7_tear 11 = .ok (.aload_n 0, 1) := by decide +kernel
theorem dX7_tear_12 : decode cX7_tear 12 = .ok (.getfield 22, 3) := by decide +kernel
theorem dX7_tear_15 : decode cX7_tear 15 = .ok (.aload_n 0, 1) := by decide +kernel
theorem dX7_tear_16 : decode cX7_tear 16 = .ok (.getfield 10, 3) := by decide +kernel
theorem dX7_tear_19 : decode cX7_tear 19 = .ok (.iload_n 1, 1) := by decide +kernel
theorem dX7_tear_20 : decode cX7_tear 20 = .ok (.invokevirtual 149, 3) := by decide +kernel
theorem dX7_tear_23 : decode cX7_tear 23 = .ok (.invokevirtual 41, 3) := by decide +kernel
theorem dX7_tear_26 : decode cX7_tear 26 = .ok (.ireturn, 1) := by decide +kernel
theorem dX7_inspect_0 : decode cX7_inspect 0 = .ok (.aload_n 0, 1) := by decide +kernel
theorem dX7_inspect_1 : decode cX7_inspect 1 = .ok (.getfield 22, 3) := by decide +kernel
theorem dX7_inspect_4 : decode cX7_inspect 4 = .ok (.aload_n 0, 1) := by decide +kernel
theorem dX7_inspect_5 : decode cX7_inspect 5 = .ok (.getfield 10, 3) := by decide +kernel
theorem dX7_inspect_8 : decode cX7_inspect 8 = .ok (.invokevirtual 33, 3) := by decide +kernel
theorem dX7_inspect_11 : decode cX7_inspect 11 = .ok (.aload_n 0, 1) := by decide +kernel
theorem dX7_inspect_12 : decode cX7_inspect 12 = .ok (.getfield 22, 3) := by decide +kernel
theorem dX7_inspect_15 : decode cX7_inspect 15 = .ok (.aload_n 0, 1) := by decide +kernel
theorem dX7_inspect_16 : decode cX7_inspect 16 = .ok (.getfield 10, 3) := by decide +kernel
theorem dX7_inspect_19 : decode cX7_inspect 19 = .ok (.iload_n 1, 1) := by decide +kernel
theorem dX7_inspect_20 : decode cX7_inspect 20 = .ok (.invokevirtual 152, 3) := by decide +kernel
theorem dX7_inspect_23 : decode cX7_inspect 23 = .ok (.invokevirtual 41, 3) := by decide +kernel
theorem dX7_inspect_26 : decode cX7_inspect 26 = .ok (.ireturn, 1) := by decide +kernel
theorem dX7_cross_0 : decode cX7_cross 0 = .ok (.aload_n 0, 1) := by decide +kernel
theorem dX7_cross_1 : decode cX7_cross 1 = .ok (.getfield 22, 3) := by decide +kernel
theorem dX7_cross_4 : decode cX7_cross 4 = .ok (.aload_n 0, 1) := by decide +kernel
theorem dX7_cross_5 : decode cX7_cross 5 = .ok (.getfield 10, 3) := by decide +kernel
theorem dX7_cross_8 : decode cX7_cross 8 = .ok (.invokevirtual 33, 3) := by decide +kernel
theorem dX7_cross_11 : decode cX7_cross 11 = .ok (.aload_n 0, 1) := by decide +kernel
theorem dX7_cross_12 : decode cX7_cross 12 = .ok (.getfield 22, 3) := by decide +kernel
theorem dX7_cross_15 : decode cX7_cross 15 = .ok (.aload_n 0, 1) := by decide +kernel
theorem dX7_cross_16 : decode cX7_cross 16 = .ok (.getfield 10, 3) := by decide +kernel
theorem dX7_cross_19 : decode cX7_cross 19 = .ok (.iload_n 1, 1) := by decide +kernel
theorem dX7_cross_20 : decode cX7_cross 20 = .ok (.invokevirtual 155, 3) := by decide +kernel
theorem dX7_cross_23 : decode cX7_cross 23 = .ok (.invokevirtual 41, 3) := by decide +kernel
theorem dX7_cross_26 : decode cX7_cross 26 = .ok (.ireturn, 1) := by decide +kernel
theorem dX7_pass_0 : decode cX7_pass 0 = .ok (.aload_n 0, 1) := by decide +kernel
theorem dX7_pass_1 : decode cX7_pass 1 = .ok (.getfield 22, 3) := by decide +kernel
theorem dX7_pass_4 : decode cX7_pass 4 = .ok (.aload_n 0, 1) := by decide +kernel
theorem dX7_pass_5 : decode cX7_pass 5 = .ok (.getfield 10, 3) := by decide +kernel
theorem dX7_pass_8 : decode cX7_pass 8 = .ok (.invokevirtual 33, 3) := by decide +kernel
theorem dX7_pass_11 : decode cX7_pass 11 = .ok (.aload_n 0, 1) := by decide +kernel
theorem dX7_pass_12 : decode cX7_pass 12 = .ok (.getfield 22, 3) := by decide +kernel
theorem dX7_pass_15 : decode cX7_pass 15 = .ok (.aload_n 0, 1) := by decide +kernel
theorem dX7_pass_16 : decode cX7_pass 16 = .ok (.getfield 10, 3) := by decide +kernel
theorem dX7_pass_19 : decode cX7_pass 19 = .ok (.iload_n 1, 1) := by decide +kernel
theorem dX7_pass_20 : decode cX7_pass 20 = .ok (.invokevirtual 158, 3) := by decide +kernel
theorem dX7_pass_23 : decode cX7_pass 23 = .ok (.invokevirtual 41, 3) := by decide +kernel
theorem dX7_pass_26 : decode cX7_pass 26 = .ok (.ireturn, 1) := by decide +kernel
theorem dX7_set_0 : decode cX7_set 0 = .ok (.aload_n 0, 1) := by decide +kernel
theorem dX7_set_1 : decode cX7_set 1 = .ok (.getfield 22, 3) := by decide +kernel
theorem dX7_set_4 : decode cX7_set 4 = .ok (.aload_n 0, 1) := by decide +kernel
theorem dX7_set_5 : decode cX7_set 5 = .ok (.getfield 10, 3) := by decide +kernel
theorem dX7_set_8 : decode cX7_set 8 = .ok (.invokevirtual 33, 3) := by decide +kernel
theorem dX7_set_11 : decode cX7_set 11 = .ok (.aload_n 0, 1) := by decide +kernel
theorem dX7_set_12 : decode cX7_set 12 = .ok (.getfield 22, 3) := by decide +kernel
theorem dX7_set_15 : decode cX7_set 15 = .ok (.aload_n 0, 1) := by decide +kernel
theorem dX7_set_16 : decode cX7_set 16 = .ok (.getfield 10, 3) := by decide +kernel
theorem dX7_set_19 : decode cX7_set 19 = .ok (.iload_n 1, 1) := by decide +kernel
theorem dX7_set_20 : decode cX7_set 20 = .ok (.iload_n 2, 1) := by decide +kernel
theorem dX7_set_21 : decode cX7_set 21 = .ok (.invokevirtual 161, 3) := by decide +kernel
theorem dX7_set_24 : decode cX7_set 24 = .ok (.invokevirtual 41, 3) := by decide +kernel
theorem dX7_set_27 : decode cX7_set 27 = .ok (.ireturn, 1) := by decide +kernel
theorem dX7_account_0 : decode cX7_account 0 = .ok (.aload_n 0, 1) := by decide +kernel
theorem dX7_account_1 : decode cX7_account 1 = .ok (.getfield 10, 3) := by decide +kernel
theorem dX7_account_4 : decode cX7_account 4 = .ok (.iload_n 1, 1) := by decide +kernel
theorem dX7_account_5 : decode cX7_account 5 = .ok (.invokevirtual 83, 3) := by decide +kernel
theorem dX7_account_8 : decode cX7_account 8 = .ok (.ifCond .eq 13, 3) := by decide +kernel
theorem dX7_account_11 : decode cX7_account 11 = .ok (.iload_n 2, 1) := by decide +kernel
theorem dX7_account_12 : decode cX7_account 12 = .ok (.ifCond .lt 9, 3) := by decide +kernel
theorem dX7_account_15 : decode cX7_account 15 = .ok (.iload_n 2, 1) := by decide +kernel
theorem dX7_account_16 : decode cX7_account 16 = .ok (.bipush 6, 2) := by decide +kernel
theorem dX7_account_18 : decode cX7_account 18 = .ok (.if_icmp .le 5, 3) := by decide +kernel
theorem dX7_account_21 : decode cX7_account 21 = .ok (.iconst (-1), 1) := by decide +kernel
theorem dX7_account_22 : decode cX7_account 22 = .ok (.ireturn, 1) := by decide +kernel
theorem dX7_account_23 : decode cX7_account 23 = .ok (.aload_n 0, 1) := by decide +kernel
theorem dX7_account_24 : decode cX7_account 24 = .ok (.getfield 10, 3) := by decide +kernel
theorem dX7_account_27 : decode cX7_account 27 = .ok (.getfield 60, 3) := by decide +kernel
theorem dX7_account_30 : decode cX7_account 30 = .ok (.astore_n 3, 1) := by decide +kernel
theorem dX7_account_31 : decode cX7_account 31 = .ok (.iload_n 2, 1) := by decide +kernel
theorem dX7_account_32 : decode cX7_account 32 = .ok (.tableswitch 60 0 2 #[28, 40, 50], 28) := by decide +kernel
theorem dX7_account_60 : decode cX7_account 60 = .ok (.aload_n 0, 1) := by decide +kernel
theorem dX7_account_61 : decode cX7_account 61 = .ok (.getfield 10, 3) := by decide +kernel
theorem dX7_account_64 : decode cX7_account 64 = .ok (.getfield 108, 3) := by decide +kernel
theorem dX7_account_67 : decode cX7_account 67 = .ok (.iload_n 1, 1) := by decide +kernel
theorem dX7_account_68 : decode cX7_account 68 = .ok (.invokevirtual 164, 3) := by decide +kernel
theorem dX7_account_71 : decode cX7_account 71 = .ok (.ireturn, 1) := by decide +kernel
theorem dX7_account_72 : decode cX7_account 72 = .ok (.aload_n 3, 1) := by decide +kernel
theorem dX7_account_73 : decode cX7_account 73 = .ok (.aload_n 3, 1) := by decide +kernel
theorem dX7_account_74 : decode cX7_account 74 = .ok (.getfield 73, 3) := by decide +kernel
theorem dX7_account_77 : decode cX7_account 77 = .ok (.iload_n 1, 1) := by decide +kernel
theorem dX7_account_78 : decode cX7_account 78 = .ok (.invokevirtual 167, 3) := by decide +kernel
theorem dX7_account_81 : decode cX7_account 81 = .ok (.ireturn, 1) := by decide +kernel
theorem dX7_account_82 : decode cX7_account 82 = .ok (.aload_n 3, 1) := by decide +kernel
theorem dX7_account_83 : decode cX7_account 83 = .ok (.aload_n 3, 1) := by decide +kernel
theorem dX7_account_84 : decode cX7_account 84 = .ok (.getfield 80, 3) := by decide +kernel
theorem dX7_account_87 : decode cX7_account 87 = .ok (.iload_n 1, 1) := by decide +kernel
theorem dX7_account_88 : decode cX7_account 88 = .ok (.invokevirtual 167, 3) := by decide +kernel
theorem dX7_account_91 : decode cX7_account 91 = .ok (.ireturn, 1) := by decide +kernel
theorem dX7_account_92 : decode cX7_account 92 = .ok (.aload_n 0, 1) := by decide +kernel
theorem dX7_account_93 : decode cX7_account 93 = .ok (.getfield 10, 3) := by decide +kernel
theorem dX7_account_96 : decode cX7_account 96 = .ok (.getfield 170, 3) := by decide +kernel
theorem dX7_account_99 : decode cX7_account 99 = .ok (.getfield 174, 3) := by decide +kernel
theorem dX7_account_102 : decode cX7_account 102 = .ok (.aload_n 0, 1) := by decide +kernel
theorem dX7_account_103 : decode cX7_account 103 = .ok (.getfield 10, 3) := by decide +kernel
theorem dX7_account_106 : decode cX7_account 106 = .ok (.getfield 170, 3) := by decide +kernel
theorem dX7_account_109 : decode cX7_account 109 = .ok (.iload_n 1, 1) := by decide +kernel
theorem dX7_account_110 : decode cX7_account 110 = .ok (.iload_n 2, 1) := by decide +kernel
theorem dX7_account_111 : decode cX7_account 111 = .ok (.iconst 3, 1) := by decide +kernel
theorem dX7_account_112 : decode cX7_account 112 = .ok (.isub, 1) := by decide +kernel
theorem dX7_account_113 : decode cX7_account 113 = .ok (.invokevirtual 177, 3) := by decide +kernel
theorem dX7_account_116 : decode cX7_account 116 = .ok (.iaload, 1) := by decide +kernel
theorem dX7_account_117 : decode cX7_account 117 = .ok (.ireturn, 1) := by decide +kernel
theorem dX7_cents_0 : decode cX7_cents 0 = .ok (.iload_n 1, 1) := by decide +kernel
theorem dX7_cents_1 : decode cX7_cents 1 = .ok (.ifCond .lt 9, 3) := by decide +kernel
theorem dX7_cents_4 : decode cX7_cents 4 = .ok (.iload_n 1, 1) := by decide +kernel
theorem dX7_cents_5 : decode cX7_cents 5 = .ok (.bipush 6, 2) := by decide +kernel
theorem dX7_cents_7 : decode cX7_cents 7 = .ok (.if_icmp .le 5, 3) := by decide +kernel
theorem dX7_cents_10 : decode cX7_cents 10 = .ok (.iconst (-1), 1) := by decide +kernel
theorem dX7_cents_11 : decode cX7_cents 11 = .ok (.ireturn, 1) := by decide +kernel
theorem dX7_cents_12 : decode cX7_cents 12 = .ok (.iload_n 1, 1) := by decide +kernel
theorem dX7_cents_13 : decode cX7_cents 13 = .ok (.lookupswitch 73 #[(0, 35), (1, 47), (6, 59)], 35) := by decide +kernel
theorem dX7_cents_48 : decode cX7_cents 48 = .ok (.aload_n 0, 1) := by decide +kernel
theorem dX7_cents_49 : decode cX7_cents 49 = .ok (.getfield 10, 3) := by decide +kernel
theorem dX7_cents_52 : decode cX7_cents 52 = .ok (.getfield 108, 3) := by decide +kernel
theorem dX7_cents_55 : decode cX7_cents 55 = .ok (.getfield 178, 3) := by decide +kernel
theorem dX7_cents_58 : decode cX7_cents 58 = .ok (.l2i, 1) := by decide +kernel
theorem dX7_cents_59 : decode cX7_cents 59 = .ok (.ireturn, 1) := by decide +kernel
theorem dX7_cents_60 : decode cX7_cents 60 = .ok (.aload_n 0, 1) := by decide +kernel
theorem dX7_cents_61 : decode cX7_cents 61 = .ok (.getfield 10, 3) := by decide +kernel
theorem dX7_cents_64 : decode cX7_cents 64 = .ok (.getfield 108, 3) := by decide +kernel
theorem dX7_cents_67 : decode cX7_cents 67 = .ok (.invokevirtual 182, 3) := by decide +kernel
theorem dX7_cents_70 : decode cX7_cents 70 = .ok (.l2i, 1) := by decide +kernel
theorem dX7_cents_71 : decode cX7_cents 71 = .ok (.ireturn, 1) := by decide +kernel
theorem dX7_cents_72 : decode cX7_cents 72 = .ok (.aload_n 0, 1) := by decide +kernel
theorem dX7_cents_73 : decode cX7_cents 73 = .ok (.getfield 10, 3) := by decide +kernel
theorem dX7_cents_76 : decode cX7_cents 76 = .ok (.getfield 170, 3) := by decide +kernel
theorem dX7_cents_79 : decode cX7_cents 79 = .ok (.getfield 186, 3) := by decide +kernel
theorem dX7_cents_82 : decode cX7_cents 82 = .ok (.invokestatic 189, 3) := by decide +kernel
theorem dX7_cents_85 : decode cX7_cents 85 = .ok (.ireturn, 1) := by decide +kernel
theorem dX7_cents_86 : decode cX7_cents 86 = .ok (.aload_n 0, 1) := by decide +kernel
theorem dX7_cents_87 : decode cX7_cents 87 = .ok (.getfield 10, 3) := by decide +kernel
theorem dX7_cents_90 : decode cX7_cents 90 = .ok (.getfield 170, 3) := by decide +kernel
theorem dX7_cents_93 : decode cX7_cents 93 = .ok (.getfield 193, 3) := by decide +kernel
theorem dX7_cents_96 : decode cX7_cents 96 = .ok (.iload_n 1, 1) := by decide +kernel
theorem dX7_cents_97 : decode cX7_cents 97 = .ok (.iconst 2, 1) := by decide +kernel
theorem dX7_cents_98 : decode cX7_cents 98 = .ok (.isub, 1) := by decide +kernel
theorem dX7_cents_99 : decode cX7_cents 99 = .ok (.laload, 1) := by decide +kernel
theorem dX7_cents_100 : decode cX7_cents 100 = .ok (.l2i, 1) := by decide +kernel
theorem dX7_cents_101 : decode cX7_cents 101 = .ok (.ireturn, 1) := by decide +kernel
theorem dX7_count_0 : decode cX7_count 0 = .ok (.iload_n 1, 1) := by decide +kernel
theorem dX7_count_1 : decode cX7_count 1 = .ok (.tableswitch 231 0 21 #[103, 114, 122, 133, 144, 155, 163, 171, 183, 195, 203, 231, 231, 231, 231, 231, 231, 231, 231, 231, 211, 221], 103) := by decide +kernel
theorem dX7_count_104 : decode cX7_count 104 = .ok (.aload_n 0, 1) := by decide +kernel
theorem dX7_count_105 : decode cX7_count 105 = .ok (.getfield 10, 3) := by decide +kernel
theorem dX7_count_108 : decode cX7_count 108 = .ok (.getfield 60, 3) := by decide +kernel
theorem dX7_count_111 : decode cX7_count 111 = .ok (.getfield 197, 3) := by decide +kernel
theorem dX7_count_114 : decode cX7_count 114 = .ok (.ireturn, 1) := by decide +kernel
theorem dX7_count_115 : decode cX7_count 115 = .ok (.aload_n 0, 1) := by decide +kernel
theorem dX7_count_116 : decode cX7_count 116 = .ok (.getfield 10, 3) := by decide +kernel
theorem dX7_count_119 : decode cX7_count 119 = .ok (.getfield 198, 3) := by decide +kernel
theorem dX7_count_122 : decode cX7_count 122 = .ok (.ireturn, 1) := by decide +kernel
theorem dX7_count_123 : decode cX7_count 123 = .ok (.aload_n 0, 1) := by decide +kernel
theorem dX7_count_124 : decode cX7_count 124 = .ok (.getfield 10, 3) := by decide +kernel
theorem dX7_count_127 : decode cX7_count 127 = .ok (.getfield 108, 3) := by decide +kernel
theorem dX7_count_130 : decode cX7_count 130 = .ok (.getfield 112, 3) := by decide +kernel
theorem dX7_count_133 : decode cX7_count 133 = .ok (.ireturn, 1) := by decide +kernel
theorem dX7_count_134 : decode cX7_count 134 = .ok (.aload_n 0, 1) := by decide +kernel
theorem dX7_count_135 : decode cX7_count 135 = .ok (.getfield 10, 3) := by decide +kernel
theorem dX7_count_138 : decode cX7_count 138 = .ok (.getfield 108, 3) := by decide +kernel
theorem dX7_count_141 : decode cX7_count 141 = .ok (.invokevirtual 201, 3) := by decide +kernel
theorem dX7_count_144 : decode cX7_count 144 = .ok (.ireturn, 1) := by decide +kernel
theorem dX7_count_145 : decode cX7_count 145 = .ok (.aload_n 0, 1) := by decide +kernel
theorem dX7_count_146 : decode cX7_count 146 = .ok (.getfield 10, 3) := by decide +kernel
theorem dX7_count_149 : decode cX7_count 149 = .ok (.getfield 89, 3) := by decide +kernel
theorem dX7_count_152 : decode cX7_count 152 = .ok (.getfield 93, 3) := by decide +kernel
theorem dX7_count_155 : decode cX7_count 155 = .ok (.ireturn, 1) := by decide +kernel
theorem dX7_count_156 : decode cX7_count 156 = .ok (.aload_n 0, 1) := by decide +kernel
theorem dX7_count_157 : decode cX7_count 157 = .ok (.getfield 10, 3) := by decide +kernel
theorem dX7_count_160 : decode cX7_count 160 = .ok (.getfield 204, 3) := by decide +kernel
theorem dX7_count_163 : decode cX7_count 163 = .ok (.ireturn, 1) := by decide +kernel
theorem dX7_count_164 : decode cX7_count 164 = .ok (.aload_n 0, 1) := by decide +kernel
theorem dX7_count_165 : decode cX7_count 165 = .ok (.getfield 10, 3) := by decide +kernel
theorem dX7_count_168 : decode cX7_count 168 = .ok (.getfield 207, 3) := by decide +kernel
theorem dX7_count_171 : decode cX7_count 171 = .ok (.ireturn, 1) := by decide +kernel
theorem dX7_count_172 : decode cX7_count 172 = .ok (.aload_n 0, 1) := by decide +kernel
theorem dX7_count_173 : decode cX7_count 173 = .ok (.getfield 10, 3) := by decide +kernel
theorem dX7_count_176 : decode cX7_count 176 = .ok (.getfield 60, 3) := by decide +kernel
theorem dX7_count_179 : decode cX7_count 179 = .ok (.iconst 1, 1) := by decide +kernel
theorem dX7_count_180 : decode cX7_count 180 = .ok (.invokevirtual 209, 3) := by decide +kernel
theorem dX7_count_183 : decode cX7_count 183 = .ok (.ireturn, 1) := by decide +kernel
theorem dX7_count_184 : decode cX7_count 184 = .ok (.aload_n 0, 1) := by decide +kernel
theorem dX7_count_185 : decode cX7_count 185 = .ok (.getfield 10, 3) := by decide +kernel
theorem dX7_count_188 : decode cX7_count 188 = .ok (.getfield 60, 3) := by decide +kernel
theorem dX7_count_191 : decode cX7_count 191 = .ok (.iconst 2, 1) := by decide +kernel
theorem dX7_count_192 : decode cX7_count 192 = .ok (.invokevirtual 209, 3) := by decide +kernel
theorem dX7_count_195 : decode cX7_count 195 = .ok (.ireturn, 1) := by decide +kernel
theorem dX7_count_196 : decode cX7_count 196 = .ok (.aload_n 0, 1) := by decide +kernel
theorem dX7_count_197 : decode cX7_count 197 = .ok (.getfield 22, 3) := by decide +kernel
theorem dX7_count_200 : decode cX7_count 200 = .ok (.getfield 212, 3) := by decide +kernel
theorem dX7_count_203 : decode cX7_count 203 = .ok (.ireturn, 1) := by decide +kernel
theorem dX7_count_204 : decode cX7_count 204 = .ok (.aload_n 0, 1) := by decide +kernel
theorem dX7_count_205 : decode cX7_count 205 = .ok (.getfield 29, 3) := by decide +kernel
theorem dX7_count_208 : decode cX7_count 208 = .ok (.getfield 213, 3) := by decide +kernel
theorem dX7_count_211 : decode cX7_count 211 = .ok (.ireturn, 1) := by decide +kernel
theorem dX7_count_212 : decode cX7_count 212 = .ok (.aload_n 0, 1) := by decide +kernel
theorem dX7_count_213 : decode cX7_count 213 = .ok (.getfield 10, 3) := by decide +kernel
theorem dX7_count_216 : decode cX7_count 216 = .ok (.getfield 216, 3) := by decide +kernel
theorem dX7_count_219 : decode cX7_count 219 = .ok (.iconst 0, 1) := by decide +kernel
theorem dX7_count_220 : decode cX7_count 220 = .ok (.iaload, 1) := by decide +kernel
theorem dX7_count_221 : decode cX7_count 221 = .ok (.ireturn, 1) := by decide +kernel
theorem dX7_count_222 : decode cX7_count 222 = .ok (.aload_n 0, 1) := by decide +kernel
theorem dX7_count_223 : decode cX7_count 223 = .ok (.getfield 10, 3) := by decide +kernel
theorem dX7_count_226 : decode cX7_count 226 = .ok (.getfield 216, 3) := by decide +kernel
theorem dX7_count_229 : decode cX7_count 229 = .ok (.iconst 1, 1) := by decide +kernel
theorem dX7_count_230 : decode cX7_count 230 = .ok (.iaload, 1) := by decide +kernel
theorem dX7_count_231 : decode cX7_count 231 = .ok (.ireturn, 1) := by decide +kernel
theorem dX7_count_232 : decode cX7_count 232 = .ok (.iconst (-1), 1) := by decide +kernel
theorem dX7_count_233 : decode cX7_count 233 = .ok (.ireturn, 1) := by decide +kernel
theorem dX7_undo_0 : decode cX7_undo 0 = .ok (.aload_n 0, 1) := by decide +kernel
theorem dX7_undo_1 : decode cX7_undo 1 = .ok (.getfield 22, 3) := by decide +kernel
theorem dX7_undo_4 : decode cX7_undo 4 = .ok (.aload_n 0, 1) := by decide +kernel
theorem dX7_undo_5 : decode cX7_undo 5 = .ok (.getfield 10, 3) := by decide +kernel
theorem dX7_undo_8 : decode cX7_undo 8 = .ok (.invokevirtual 219, 3) := by decide +kernel
theorem dX7_undo_11 : decode cX7_undo 11 = .ok (.ireturn, 1) := by decide +kernel
theorem dX7_worth_0 : decode cX7_worth 0 = .ok (.aload_n 0, 1) := by decide +kernel
theorem dX7_worth_1 : decode cX7_worth 1 = .ok (.getfield 10, 3) := by decide +kernel
theorem dX7_worth_4 : decode cX7_worth 4 = .ok (.iload_n 1, 1) := by decide +kernel
theorem dX7_worth_5 : decode cX7_worth 5 = .ok (.invokevirtual 83, 3) := by decide +kernel
theorem dX7_worth_8 : decode cX7_worth 8 = .ok (.ifCond .eq 14, 3) := by decide +kernel
theorem dX7_worth_11 : decode cX7_worth 11 = .ok (.iload_n 2, 1) := by decide +kernel
theorem dX7_worth_12 : decode cX7_worth 12 = .ok (.iconst 1, 1) := by decide +kernel
theorem dX7_worth_13 : decode cX7_worth 13 = .ok (.if_icmp .lt 9, 3) := by decide +kernel
theorem dX7_worth_16 : decode cX7_worth 16 = .ok (.iload_n 2, 1) := by decide +kernel
theorem dX7_worth_17 : decode cX7_worth 17 = .ok (.ldc 223, 2) := by decide +kernel
theorem dX7_worth_19 : decode cX7_worth 19 = .ok (.if_icmp .le 5, 3) := by decide +kernel
theorem dX7_worth_22 : decode cX7_worth 22 = .ok (.iconst (-1), 1) := by decide +kernel
theorem dX7_worth_23 : decode cX7_worth 23 = .ok (.ireturn, 1) := by decide +kernel
theorem dX7_worth_24 : decode cX7_worth 24 = .ok (.aload_n 0, 1) := by decide +kernel
theorem dX7_worth_25 : decode cX7_worth 25 = .ok (.getfield 10, 3) := by decide +kernel
theorem dX7_worth_28 : decode cX7_worth 28 = .ok (.getfield 108, 3) := by decide +kernel
theorem dX7_worth_31 : decode cX7_worth 31 = .ok (.iload_n 1, 1) := by decide +kernel
theorem dX7_worth_32 : decode cX7_worth 32 = .ok (.invokevirtual 224, 3) := by decide +kernel
theorem dX7_worth_35 : decode cX7_worth 35 = .ok (.iload_n 2, 1) := by decide +kernel
theorem dX7_worth_36 : decode cX7_worth 36 = .ok (.if_icmp .ge 6, 3) := by decide +kernel
theorem dX7_worth_39 : decode cX7_worth 39 = .ok (.bipush (-4), 2) := by decide +kernel
theorem dX7_worth_41 : decode cX7_worth 41 = .ok (.ireturn, 1) := by decide +kernel
theorem dX7_worth_42 : decode cX7_worth 42 = .ok (.aload_n 0, 1) := by decide +kernel
theorem dX7_worth_43 : decode cX7_worth 43 = .ok (.getfield 10, 3) := by decide +kernel
theorem dX7_worth_46 : decode cX7_worth 46 = .ok (.getfield 108, 3) := by decide +kernel
theorem dX7_worth_49 : decode cX7_worth 49 = .ok (.iload_n 1, 1) := by decide +kernel
theorem dX7_worth_50 : decode cX7_worth 50 = .ok (.iload_n 2, 1) := by decide +kernel
theorem dX7_worth_51 : decode cX7_worth 51 = .ok (.iconst 0, 1) := by decide +kernel
theorem dX7_worth_52 : decode cX7_worth 52 = .ok (.invokevirtual 227, 3) := by decide +kernel
theorem dX7_worth_55 : decode cX7_worth 55 = .ok (.l2i, 1) := by decide +kernel
theorem dX7_worth_56 : decode cX7_worth 56 = .ok (.ireturn, 1) := by decide +kernel
theorem dX7_toPay_0 : decode cX7_toPay 0 = .ok (.aload_n 0, 1) := by decide +kernel
theorem dX7_toPay_1 : decode cX7_toPay 1 = .ok (.getfield 10, 3) := by decide +kernel
theorem dX7_toPay_4 : decode cX7_toPay 4 = .ok (.invokevirtual 231, 3) := by decide +kernel
theorem dX7_toPay_7 : decode cX7_toPay 7 = .ok (.invokestatic 189, 3) := by decide +kernel
theorem dX7_toPay_10 : decode cX7_toPay 10 = .ok (.ireturn, 1) := by decide +kernel
theorem dX7_runsOut_0 : decode cX7_runsOut 0 = .ok (.aload_n 0, 1) := by decide +kernel
theorem dX7_runsOut_1 : decode cX7_runsOut 1 = .ok (.getfield 10, 3) := by decide +kernel
theorem dX7_runsOut_4 : decode cX7_runsOut 4 = .ok (.getfield 108, 3) := by decide +kernel
theorem dX7_runsOut_7 : decode cX7_runsOut 7 = .ok (.iconst (-1), 1) := by decide +kernel
theorem dX7_runsOut_8 : decode cX7_runsOut 8 = .ok (.iconst (-1), 1) := by decide +kernel
theorem dX7_runsOut_9 : decode cX7_runsOut 9 = .ok (.invokevirtual 136, 3) := by decide +kernel
theorem dX7_runsOut_12 : decode cX7_runsOut 12 = .ok (.istore_n 1, 1) := by decide +kernel
theorem dX7_runsOut_13 : decode cX7_runsOut 13 = .ok (.iload_n 1, 1) := by decide +kernel
theorem dX7_runsOut_14 : decode cX7_runsOut 14 = .ok (.iconst (-1), 1) := by decide +kernel
theorem dX7_runsOut_15 : decode cX7_runsOut 15 = .ok (.if_icmp .ne 8, 3) := by decide +kernel
theorem dX7_runsOut_18 : decode cX7_runsOut 18 = .ok (.bipush (-4), 2) := by decide +kernel
theorem dX7_runsOut_20 : decode cX7_runsOut 20 = .ok (.goto 25, 3) := by decide +kernel
theorem dX7_runsOut_23 : decode cX7_runsOut 23 = .ok (.aload_n 0, 1) := by decide +kernel
theorem dX7_runsOut_24 : decode cX7_runsOut 24 = .ok (.getfield 10, 3) := by decide +kernel
theorem dX7_runsOut_27 : decode cX7_runsOut 27 = .ok (.getfield 108, 3) := by decide +kernel
theorem dX7_runsOut_30 : decode cX7_runsOut 30 = .ok (.getfield 133, 3) := by decide +kernel
theorem dX7_runsOut_33 : decode cX7_runsOut 33 = .ok (.iload_n 1, 1) := by decide +kernel
theorem dX7_runsOut_34 : decode cX7_runsOut 34 = .ok (.iaload, 1) := by decide +kernel
theorem dX7_runsOut_35 : decode cX7_runsOut 35 = .ok (.iconst 1, 1) := by decide +kernel
theorem dX7_runsOut_36 : decode cX7_runsOut 36 = .ok (.iadd, 1) := by decide +kernel
theorem dX7_runsOut_37 : decode cX7_runsOut 37 = .ok (.aload_n 0, 1) := by decide +kernel
theorem dX7_runsOut_38 : decode cX7_runsOut 38 = .ok (.getfield 10, 3) := by decide +kernel
theorem dX7_runsOut_41 : decode cX7_runsOut 41 = .ok (.getfield 207, 3) := by decide +kernel
theorem dX7_runsOut_44 : decode cX7_runsOut 44 = .ok (.isub, 1) := by decide +kernel
theorem dX7_runsOut_45 : decode cX7_runsOut 45 = .ok (.ireturn, 1) := by decide +kernel
theorem dX7_type_0 : decode cX7_type 0 = .ok (.aload_n 0, 1) := by decide +kernel
theorem dX7_type_1 : decode cX7_type 1 = .ok (.getfield 29, 3) := by decide +kernel
theorem dX7_type_4 : decode cX7_type 4 = .ok (.iload_n 1, 1) := by decide +kernel
theorem dX7_type_5 : decode cX7_type 5 = .ok (.invokevirtual 234, 3) := by decide +kernel
theorem dX7_type_8 : decode cX7_type 8 = .ok (.ireturn, 1) := by decide +kernel
theorem dX7_clearText_0 : decode cX7_clearText 0 = .ok (.aload_n 0, 1) := by decide +kernel
theorem dX7_clearText_1 : decode cX7_clearText 1 = .ok (.getfield 29, 3) := by decide +kernel
theorem dX7_clearText_4 : decode cX7_clearText 4 = .ok (.invokevirtual 237, 3) := by decide +kernel
theorem dX7_clearText_7 : decode cX7_clearText 7 = .ok (.ireturn, 1) := by decide +kernel
theorem dX7_fault_0 : decode cX7_fault 0 = .ok (.iload_n 1, 1) := by decide +kernel
theorem dX7_fault_1 : decode cX7_fault 1 = .ok (.ifCond .lt 8, 3) := by decide +kernel
theorem dX7_fault_4 : decode cX7_fault 4 = .ok (.iload_n 1, 1) := by decide +kernel
theorem dX7_fault_5 : decode cX7_fault 5 = .ok (.iconst 2, 1) := by decide +kernel
theorem dX7_fault_6 : decode cX7_fault 6 = .ok (.if_icmp .le 5, 3) := by decide +kernel
theorem dX7_fault_9 : decode cX7_fault 9 = .ok (.iconst (-1), 1) := by decide +kernel
theorem dX7_fault_10 : decode cX7_fault 10 = .ok (.ireturn, 1) := by decide +kernel
theorem dX7_fault_11 : decode cX7_fault 11 = .ok (.aload_n 0, 1) := by decide +kernel
theorem dX7_fault_12 : decode cX7_fault 12 = .ok (.getfield 29, 3) := by decide +kernel
theorem dX7_fault_15 : decode cX7_fault 15 = .ok (.aload_n 0, 1) := by decide +kernel
theorem dX7_fault_16 : decode cX7_fault 16 = .ok (.getfield 16, 3) := by decide +kernel
theorem dX7_fault_19 : decode cX7_fault 19 = .ok (.aload_n 0, 1) := by decide +kernel
theorem dX7_fault_20 : decode cX7_fault 20 = .ok (.getfield 10, 3) := by decide +kernel
theorem dX7_fault_23 : decode cX7_fault 23 = .ok (.invokevirtual 240, 3) := by decide +kernel
theorem dX7_fault_26 : decode cX7_fault 26 = .ok (.aload_n 0, 1) := by decide +kernel
theorem dX7_fault_27 : decode cX7_fault 27 = .ok (.getfield 29, 3) := by decide +kernel
theorem dX7_fault_30 : decode cX7_fault 30 = .ok (.getfield 244, 3) := by decide +kernel
theorem dX7_fault_33 : decode cX7_fault 33 = .ok (.ifCond .ne 6, 3) := by decide +kernel
theorem dX7_fault_36 : decode cX7_fault 36 = .ok (.bipush (-4), 2) := by decide +kernel
theorem dX7_fault_38 : decode cX7_fault 38 = .ok (.ireturn, 1) := by decide +kernel
theorem dX7_fault_39 : decode cX7_fault 39 = .ok (.iload_n 1, 1) := by decide +kernel
theorem dX7_fault_40 : decode cX7_fault 40 = .ok (.lookupswitch 44 #[(0, 28), (1, 36)], 28) := by decide +kernel
theorem dX7_fault_68 : decode cX7_fault 68 = .ok (.aload_n 0, 1) := by decide +kernel
theorem dX7_fault_69 : decode cX7_fault 69 = .ok (.getfield 29, 3) := by decide +kernel
theorem dX7_fault_72 : decode cX7_fault 72 = .ok (.getfield 247, 3) := by decide +kernel
theorem dX7_fault_75 : decode cX7_fault 75 = .ok (.ireturn, 1) := by decide +kernel
theorem dX7_fault_76 : decode cX7_fault 76 = .ok (.aload_n 0, 1) := by decide +kernel
theorem dX7_fault_77 : decode cX7_fault 77 = .ok (.getfield 29, 3) := by decide +kernel
theorem dX7_fault_80 : decode cX7_fault 80 = .ok (.getfield 244, 3) := by decide +kernel
theorem dX7_fault_83 : decode cX7_fault 83 = .ok (.ireturn, 1) := by decide +kernel
theorem dX7_fault_84 : decode cX7_fault 84 = .ok (.aload_n 0, 1) := by decide +kernel
theorem dX7_fault_85 : decode cX7_fault 85 = .ok (.getfield 29, 3) := by decide +kernel
theorem dX7_fault_88 : decode cX7_fault 88 = .ok (.getfield 244, 3) := by decide +kernel
theorem dX7_fault_91 : decode cX7_fault 91 = .ok (.iconst 2, 1) := by decide +kernel
theorem dX7_fault_92 : decode cX7_fault 92 = .ok (.if_icmp .ne 13, 3) := by decide +kernel
theorem dX7_fault_95 : decode cX7_fault 95 = .ok (.aload_n 0, 1) := by decide +kernel
theorem dX7_fault_96 : decode cX7_fault 96 = .ok (.getfield 29, 3) := by decide +kernel
theorem dX7_fault_99 : decode cX7_fault 99 = .ok (.getfield 250, 3) := by decide +kernel
theorem dX7_fault_102 : decode cX7_fault 102 = .ok (.goto 5, 3) := by decide +kernel
theorem dX7_fault_105 : decode cX7_fault 105 = .ok (.bipush (-4), 2) := by decide +kernel
theorem dX7_fault_107 : decode cX7_fault 107 = .ok (.ireturn, 1) := by decide +kernel
theorem dX7_play_0 : decode cX7_play 0 = .ok (.aload_n 0, 1) := by decide +kernel
theorem dX7_play_1 : decode cX7_play 1 = .ok (.getfield 29, 3) := by decide +kernel
theorem dX7_play_4 : decode cX7_play 4 = .ok (.aload_n 0, 1) := by decide +kernel
theorem dX7_play_5 : decode cX7_play 5 = .ok (.getfield 16, 3) := by decide +kernel
theorem dX7_play_8 : decode cX7_play 8 = .ok (.aload_n 0, 1) := by decide +kernel
theorem dX7_play_9 : decode cX7_play 9 = .ok (.getfield 10, 3) := by decide +kernel
theorem dX7_play_12 : decode cX7_play 12 = .ok (.invokevirtual 240, 3) := by decide +kernel
theorem dX7_play_15 : decode cX7_play 15 = .ok (.aload_n 0, 1) := by decide +kernel
theorem dX7_play_16 : decode cX7_play 16 = .ok (.getfield 29, 3) := by decide +kernel
theorem dX7_play_19 : decode cX7_play 19 = .ok (.getfield 244, 3) := by decide +kernel
theorem dX7_play_22 : decode cX7_play 22 = .ok (.ifCond .eq 6, 3) := by decide +kernel
theorem dX7_play_25 : decode cX7_play 25 = .ok (.bipush (-2), 2) := by decide +kernel
theorem dX7_play_27 : decode cX7_play 27 = .ok (.ireturn, 1) := by decide +kernel
theorem dX7_play_28 : decode cX7_play 28 = .ok (.aload_n 0, 1) := by decide +kernel
theorem dX7_play_29 : decode cX7_play 29 = .ok (.getfield 22, 3) := by decide +kernel
theorem dX7_play_32 : decode cX7_play 32 = .ok (.aload_n 0, 1) := by decide +kernel
theorem dX7_play_33 : decode cX7_play 33 = .ok (.getfield 10, 3) := by decide +kernel
theorem dX7_play_36 : decode cX7_play 36 = .ok (.invokevirtual 33, 3) := by decide +kernel
theorem dX7_play_39 : decode cX7_play 39 = .ok (.aload_n 0, 1) := by decide +kernel
theorem dX7_play_40 : decode cX7_play 40 = .ok (.getfield 10, 3) := by decide +kernel
theorem dX7_play_43 : decode cX7_play 43 = .ok (.aload_n 0, 1) := by decide +kernel
theorem dX7_play_44 : decode cX7_play 44 = .ok (.getfield 16, 3) := by decide +kernel
theorem dX7_play_47 : decode cX7_play 47 = .ok (.invokevirtual 253, 3) := by decide +kernel
theorem dX7_play_50 : decode cX7_play 50 = .ok (.aload_n 0, 1) := by decide +kernel
theorem dX7_play_51 : decode cX7_play 51 = .ok (.getfield 22, 3) := by decide +kernel
theorem dX7_play_54 : decode cX7_play 54 = .ok (.aload_n 0, 1) := by decide +kernel
theorem dX7_play_55 : decode cX7_play 55 = .ok (.getfield 29, 3) := by decide +kernel
theorem dX7_play_58 : decode cX7_play 58 = .ok (.getfield 256, 3) := by decide +kernel
theorem dX7_play_61 : decode cX7_play 61 = .ok (.invokevirtual 41, 3) := by decide +kernel
theorem dX7_play_64 : decode cX7_play 64 = .ok (.ireturn, 1) := by decide +kernel
theorem dX7_centsOrLimit_0 : decode cX7_centsOrLimit 0 = .ok (.lload_n 0, 1) := by decide +kernel
theorem dX7_centsOrLimit_1 : decode cX7_centsOrLimit 1 = .ok (.ldc2_w 259, 3) := by decide +kernel
theorem dX7_centsOrLimit_4 : decode cX7_centsOrLimit 4 = .ok (.lcmp, 1) := by decide +kernel
theorem dX7_centsOrLimit_5 : decode cX7_centsOrLimit 5 = .ok (.ifCond .le 8, 3) := by decide +kernel
theorem dX7_centsOrLimit_8 : decode cX7_centsOrLimit 8 = .ok (.bipush (-3), 2) := by decide +kernel
theorem dX7_centsOrLimit_10 : decode cX7_centsOrLimit 10 = .ok (.goto 5, 3) := by decide +kernel
theorem dX7_centsOrLimit_13 : decode cX7_centsOrLimit 13 = .ok (.lload_n 0, 1) := by decide +kernel
theorem dX7_centsOrLimit_14 : decode cX7_centsOrLimit 14 = .ok (.l2i, 1) := by decide +kernel
theorem dX7_centsOrLimit_15 : decode cX7_centsOrLimit 15 = .ok (.ireturn, 1) := by decide +kernel
end
section
theorem dX8_init_0 : decode cX8_init 0 = .ok (.aload_n 0, 1) := by decide +kernel
theorem dX8_init_1 : decode cX8_init 1 = .ok (.invokespecial 1, 3) := by decide +kernel
theorem dX8_init_4 : decode cX8_init 4 = .ok (.aload_n 0, 1) := by decide +kernel
theorem dX8_init_5 : decode cX8_init 5 = .ok (.sipush 1055, 3) := by decide +kernel
theorem dX8_init_8 : decode cX8_init 8 = .ok (.newarray .int, 2) := by decide +kernel
theorem dX8_init_10 : decode cX8_init 10 = .ok (.putfield 7, 3) := by decide +kernel
theorem dX8_init_13 : decode cX8_init 13 = .ok (.aload_n 0, 1) := by decide +kernel
theorem dX8_init_14 : decode cX8_init 14 = .ok (.sipush 1055, 3) := by decide +kernel
theorem dX8_init_17 : decode cX8_init 17 = .ok (.newarray .int, 2) := by decide +kernel
theorem dX8_init_19 : decode cX8_init 19 = .ok (.putfield 13, 3) := by decide +kernel
theorem dX8_init_22 : decode cX8_init 22 = .ok (.aload_n 0, 1) := by decide +kernel
theorem dX8_init_23 : decode cX8_init 23 = .ok (.sipush 4220, 3) := by decide +kernel
theorem dX8_init_26 : decode cX8_init 26 = .ok (.newarray .int, 2) := by decide +kernel
theorem dX8_init_28 : decode cX8_init 28 = .ok (.putfield 16, 3) := by decide +kernel
theorem dX8_init_31 : decode cX8_init 31 = .ok (.aload_n 0, 1) := by decide +kernel
theorem dX8_init_32 : decode cX8_init 32 = .ok (.bipush 80, 2) := by decide +kernel
theorem dX8_init_34 : decode cX8_init 34 = .ok (.newarray .int, 2) := by decide +kernel
theorem dX8_init_36 : decode cX8_init 36 = .ok (.putfield 19, 3) := by decide +kernel
theorem dX8_init_39 : decode cX8_init 39 = .ok (.aload_n 0, 1) := by decide +kernel
theorem dX8_init_40 : decode cX8_init 40 = .ok (.getfield 7, 3) := by decide +kernel
theorem dX8_init_43 : decode cX8_init 43 = .ok (.iconst 0, 1) := by decide +kernel
theorem dX8_init_44 : decode cX8_init 44 = .ok (.iconst 2, 1) := by decide +kernel
theorem dX8_init_45 : decode cX8_init 45 = .ok (.iastore, 1) := by decide +kernel
theorem dX8_init_46 : decode cX8_init 46 = .ok (.aload_n 0, 1) := by decide +kernel
theorem dX8_init_47 : decode cX8_init 47 = .ok (.getfield 7, 3) := by decide +kernel
theorem dX8_init_50 : decode cX8_init 50 = .ok (.iconst 2, 1) := by decide +kernel
theorem dX8_init_51 : decode cX8_init 51 = .ok (.sipush 5000, 3) := by decide +kernel
theorem dX8_init_54 : decode cX8_init 54 = .ok (.iastore, 1) := by decide +kernel
theorem dX8_init_55 : decode cX8_init 55 = .ok (.aload_n 0, 1) := by decide +kernel
theorem dX8_init_56 : decode cX8_init 56 = .ok (.getfield 7, 3) := by decide +kernel
theorem dX8_init_59 : decode cX8_init 59 = .ok (.iconst 3, 1) := by decide +kernel
theorem dX8_init_60 : decode cX8_init 60 = .ok (.bipush 30, 2) := by decide +kernel
theorem dX8_init_62 : decode cX8_init 62 = .ok (.iastore, 1) := by decide +kernel
theorem dX8_init_63 : decode cX8_init 63 = .ok (.return_, 1) := by decide +kernel
theorem dX8_in_0 : decode cX8_in 0 = .ok (.iload_n 0, 1) := by decide +kernel
theorem dX8_in_1 : decode cX8_in 1 = .ok (.iload_n 1, 1) := by decide +kernel
theorem dX8_in_2 : decode cX8_in 2 = .ok (.if_icmp .lt 12, 3) := by decide +kernel
theorem dX8_in_5 : decode cX8_in 5 = .ok (.iload_n 0, 1) := by decide +kernel
theorem dX8_in_6 : decode cX8_in 6 = .ok (.iload_n 2, 1) := by decide +kernel
theorem dX8_in_7 : decode cX8_in 7 = .ok (.if_icmp .gt 7, 3) := by decide +kernel
theorem dX8_in_10 : decode cX8_in 10 = .ok (.iconst 1, 1) := by decide +kernel
theorem dX8_in_11 : decode cX8_in 11 = .ok (.goto 4, 3) := by decide +kernel
theorem dX8_in_14 : decode cX8_in 14 = .ok (.iconst 0, 1) := by decide +kernel
theorem dX8_in_15 : decode cX8_in 15 = .ok (.ireturn, 1) := by decide +kernel
theorem dX8_isLocker_0 : decode cX8_isLocker 0 = .ok (.iload_n 1, 1) := by decide +kernel
theorem dX8_isLocker_1 : decode cX8_isLocker 1 = .ok (.iconst 0, 1) := by decide +kernel
theorem dX8_isLocker_2 : decode cX8_isLocker 2 = .ok (.aload_n 0, 1) := by decide +kernel
theorem dX8_isLocker_3 : decode cX8_isLocker 3 = .ok (.getfield 7, 3) := by decide +kernel
theorem dX8_isLocker_6 : decode cX8_isLocker 6 = .ok (.iconst 4, 1) := by decide +kernel
theorem dX8_isLocker_7 : decode cX8_isLocker 7 = .ok (.iaload, 1) := by decide +kernel
theorem dX8_isLocker_8 : decode cX8_isLocker 8 = .ok (.iconst 1, 1) := by decide +kernel
theorem dX8_isLocker_9 : decode cX8_isLocker 9 = .ok (.isub, 1) := by decide +kernel
theorem dX8_isLocker_10 : decode cX8_isLocker 10 = .ok (.invokestatic 22, 3) := by decide +kernel
theorem dX8_isLocker_13 : decode cX8_isLocker 13 = .ok (.ireturn, 1) := by decide +kernel
theorem dX8_isGood_0 : decode cX8_isGood 0 = .ok (.iload_n 1, 1) := by decide +kernel
theorem dX8_isGood_1 : decode cX8_isGood 1 = .ok (.iconst 0, 1) := by decide +kernel
theorem dX8_isGood_2 : decode cX8_isGood 2 = .ok (.aload_n 0, 1) := by decide +kernel
theorem dX8_isGood_3 : decode cX8_isGood 3 = .ok (.getfield 7, 3) := by decide +kernel
theorem dX8_isGood_6 : decode cX8_isGood 6 = .ok (.iconst 5, 1) := by decide +kernel
theorem dX8_isGood_7 : decode cX8_isGood 7 = .ok (.iaload, 1) := by decide +kernel
theorem dX8_isGood_8 : decode cX8_isGood 8 = .ok (.iconst 1, 1) := by decide +kernel
theorem dX8_isGood_9 : decode cX8_isGood 9 = .ok (.isub, 1) := by decide +kernel
theorem dX8_isGood_10 : decode cX8_isGood 10 = .ok (.invokestatic 22, 3) := by decide +kernel
theorem dX8_isGood_13 : decode cX8_isGood 13 = .ok (.ireturn, 1) := by decide +kernel
theorem dX8_copy_0 : decode cX8_copy 0 = .ok (.iconst 0, 1) := by decide +kernel
theorem dX8_copy_1 : decode cX8_copy 1 = .ok (.istore_n 1, 1) := by decide +kernel
theorem dX8_copy_2 : decode cX8_copy 2 = .ok (.iload_n 1, 1) := by decide +kernel
theorem dX8_copy_3 : decode cX8_copy 3 = .ok (.sipush 1055, 3) := by decide +kernel
theorem dX8_copy_6 : decode cX8_copy 6 = .ok (.if_icmp .ge 21, 3) := by decide +kernel
theorem dX8_copy_9 : decode cX8_copy 9 = .ok (.aload_n 0, 1) := by decide +kernel
theorem dX8_copy_10 : decode cX8_copy 10 = .ok (.getfield 13, 3) := by decide +kernel
theorem dX8_copy_13 : decode cX8_copy 13 = .ok (.iload_n 1, 1) := by decide +kernel
theorem dX8_copy_14 : decode cX8_copy 14 = .ok (.aload_n 0, 1) := by decide +kernel
theorem dX8_copy_15 : decode cX8_copy 15 = .ok (.getfield 7, 3) := by decide +kernel
theorem dX8_copy_18 : decode cX8_copy 18 = .ok (.iload_n 1, 1) := by decide +kernel
theorem dX8_copy_19 : decode cX8_copy 19 = .ok (.iaload, 1) := by decide +kernel
theorem dX8_copy_20 : decode cX8_copy 20 = .ok (.iastore, 1) := by decide +kernel
theorem dX8_copy_21 : decode cX8_copy 21 = .ok (.iinc 1 1, 3) := by decide +kernel
theorem dX8_copy_24 : decode cX8_copy 24 = .ok (.goto (-22), 3) := by decide +kernel
theorem dX8_copy_27 : decode cX8_copy 27 = .ok (.return_, 1) := by decide +kernel
theorem dX8_back_0 : decode cX8_back 0 = .ok (.iconst 0, 1) := by decide +kernel
theorem dX8_back_1 : decode cX8_back 1 = .ok (.istore_n 1, 1) := by decide +kernel
theorem dX8_back_2 : decode cX8_back 2 = .ok (.iload_n 1, 1) := by decide +kernel
theorem dX8_back_3 : decode cX8_back 3 = .ok (.sipush 1055, 3) := by decide +kernel
theorem dX8_back_6 : decode cX8_back 6 = .ok (.if_icmp .ge 21, 3) := by decide +kernel
theorem dX8_back_9 : decode cX8_back 9 = .ok (.aload_n 0, 1) := by decide +kernel
theorem dX8_back_10 : decode cX8_back 10 = .ok (.getfield 7, 3) := by decide +kernel
theorem dX8_back_13 : decode cX8_back 13 = .ok (.iload_n 1, 1) := by decide +kernel
theorem dX8_back_14 : decode cX8_back 14 = .ok (.aload_n 0, 1) := by decide +kernel
theorem dX8_back_15 : decode cX8_back 15 = .ok (.getfield 13, 3) := by decide +kernel
theorem dX8_back_18 : decode cX8_back 18 = .ok (.iload_n 1, 1) := by decide +kernel
theorem dX8_back_19 : decode cX8_back 19 = .ok (.iaload, 1) := by decide +kernel
theorem dX8_back_20 : decode cX8_back 20 = .ok (.iastore, 1) := by decide +kernel
theorem dX8_back_21 : decode cX8_back 21 = .ok (.iinc 1 1, 3) := by decide +kernel
theorem dX8_back_24 : decode cX8_back 24 = .ok (.goto (-22), 3) := by decide +kernel
theorem dX8_back_27 : decode cX8_back 27 = .ok (.return_, 1) := by decide +kernel
theorem dX8_recorded_0 : decode cX8_recorded 0 = .ok (.iload_n 1, 1) := by decide +kernel
theorem dX8_recorded_1 : decode cX8_recorded 1 = .ok (.ifCond .lt 73, 3) := by decide +kernel
theorem dX8_recorded_4 : decode cX8_recorded 4 = .ok (.iconst 0, 1) := by decide +kernel
theorem dX8_recorded_5 : decode cX8_recorded 5 = .ok (.istore_n 2, 1) := by decide +kernel
theorem dX8_recorded_6 : decode cX8_recorded 6 = .ok (.iload_n 2, 1) := by decide +kernel
theorem dX8_recorded_7 : decode cX8_recorded 7 = .ok (.sipush 1055, 3) := by decide +kernel
theorem dX8_recorded_10 : decode cX8_recorded 10 = .ok (.if_icmp .ge 30, 3) := by decide +kernel
theorem dX8_recorded_13 : decode cX8_recorded 13 = .ok (.aload_n 0, 1) := by decide +kernel
theorem dX8_recorded_14 : decode cX8_recorded 14 = .ok (.getfield 16, 3) := by decide +kernel
theorem dX8_recorded_17 : decode cX8_recorded 17 = .ok (.sipush 1055, 3) := by decide +kernel
theorem dX8_recorded_20 : decode cX8_recorded 20 = .ok (.aload_n 0, 1) := by decide +kernel
theorem dX8_recorded_21 : decode cX8_recorded 21 = .ok (.getfield 26, 3) := by decide +kernel
theorem dX8_recorded_24 : decode cX8_recorded 24 = .ok (.imul, 1) := by decide +kernel
theorem dX8_recorded_25 : decode cX8_recorded 25 = .ok (.iload_n 2, 1) := by decide +kernel
theorem dX8_recorded_26 : decode cX8_recorded 26 = .ok (.iadd, 1) := by decide +kernel
theorem dX8_recorded_27 : decode cX8_recorded 27 = .ok (.aload_n 0, 1) := by decide +kernel
theorem dX8_recorded_28 : decode cX8_recorded 28 = .ok (.getfield 13, 3) := by decide +kernel
theorem dX8_recorded_31 : decode cX8_recorded 31 = .ok (.iload_n 2, 1) := by decide +kernel
theorem dX8_recorded_32 : decode cX8_recorded 32 = .ok (.iaload, 1) := by decide +kernel
theorem dX8_recorded_33 : decode cX8_recorded 33 = .ok (.iastore, 1) := by decide +kernel
theorem dX8_recorded_34 : decode cX8_recorded 34 = .ok (.iinc 2 1, 3) := by decide +kernel
theorem dX8_recorded_37 : decode cX8_recorded 37 = .ok (.goto (-31), 3) := by decide +kernel
theorem dX8_recorded_40 : decode cX8_recorded 40 = .ok (.aload_n 0, 1) := by decide +kernel
theorem dX8_recorded_41 : decode cX8_recorded 41 = .ok (.aload_n 0, 1) := by decide +kernel
theorem dX8_recorded_42 : decode cX8_recorded 42 = .ok (.getfield 26, 3) := by decide +kernel
theorem dX8_recorded_45 : decode cX8_recorded 45 = .ok (.iconst 1, 1) := by decide +kernel
theorem dX8_recorded_46 : decode cX8_recorded 46 = .ok (.iadd, 1) := by decide +kernel
theorem dX8_recorded_47 : decode cX8_recorded 47 = .ok (.iconst 4, 1) := by decide +kernel
theorem dX8_recorded_48 : decode cX8_recorded 48 = .ok (.irem, 1) := by decide +kernel
theorem dX8_recorded_49 : decode cX8_recorded 49 = .ok (.putfield 26, 3) := by decide +kernel
theorem dX8_recorded_52 : decode cX8_recorded 52 = .ok (.aload_n 0, 1) := by decide +kernel
theorem dX8_recorded_53 : decode cX8_recorded 53 = .ok (.aload_n 0, 1) := by decide +kernel
theorem dX8_recorded_54 : decode cX8_recorded 54 = .ok (.getfield 30, 3) := by decide +kernel
theorem dX8_recorded_57 : decode cX8_recorded 57 = .ok (.iconst 4, 1) := by decide +kernel
theorem dX8_recorded_58 : decode cX8_recorded 58 = .ok (.if_icmp .ge 12, 3) := by decide +kernel
theorem dX8_recorded_61 : decode cX8_recorded 61 = .ok (.aload_n 0, 1) := by decide +kernel
theorem dX8_recorded_62 : decode cX8_recorded 62 = .ok (.getfield 30, 3) := by decide +kernel
theorem dX8_recorded_65 : decode cX8_recorded 65 = .ok (.iconst 1, 1) := by decide +kernel
theorem dX8_recorded_66 : decode cX8_recorded 66 = .ok (.iadd, 1) := by decide +kernel
theorem dX8_recorded_67 : decode cX8_recorded 67 = .ok (.goto 4, 3) := by decide +kernel
theorem dX8_recorded_70 : decode cX8_recorded 70 = .ok (.iconst 4, 1) := by decide +kernel
theorem dX8_recorded_71 : decode cX8_recorded 71 = .ok (.putfield 30, 3) := by decide +kernel
theorem dX8_recorded_74 : decode cX8_recorded 74 = .ok (.iload_n 1, 1) := by decide +kernel
theorem dX8_recorded_75 : decode cX8_recorded 75 = .ok (.ireturn, 1) := by decide +kernel
theorem dX8_undo_0 : decode cX8_undo 0 = .ok (.aload_n 0, 1) := by decide +kernel
theorem dX8_undo_1 : decode cX8_undo 1 = .ok (.getfield 30, 3) := by decide +kernel
theorem dX8_undo_4 : decode cX8_undo 4 = .ok (.ifCond .ne 6, 3) := by decide +kernel
theorem dX8_undo_7 : decode cX8_undo 7 = .ok (.bipush (-2), 2) := by decide +kernel
theorem dX8_undo_9 : decode cX8_undo 9 = .ok (.ireturn, 1) := by decide +kernel
theorem dX8_undo_10 : decode cX8_undo 10 = .ok (.aload_n 0, 1) := by decide +kernel
theorem dX8_undo_11 : decode cX8_undo 11 = .ok (.aload_n 0, 1) := by decide +kernel
theorem dX8_undo_12 : decode cX8_undo 12 = .ok (.getfield 26, 3) := by decide +kernel
theorem dX8_undo_15 : decode cX8_undo 15 = .ok (.iconst 4, 1) := by decide +kernel
theorem dX8_undo_16 : decode cX8_undo 16 = .ok (.iadd, 1) := by decide +kernel
theorem dX8_undo_17 : decode cX8_undo 17 = .ok (.iconst 1, 1) := by decide +kernel
theorem dX8_undo_18 : decode cX8_undo 18 = .ok (.isub, 1) := by decide +kernel
theorem dX8_undo_19 : decode cX8_undo 19 = .ok (.iconst 4, 1) := by decide +kernel
theorem dX8_undo_20 : decode cX8_undo 20 = .ok (.irem, 1) := by decide +kernel
theorem dX8_undo_21 : decode cX8_undo 21 = .ok (.putfield 26, 3) := by decide +kernel
theorem dX8_undo_24 : decode cX8_undo 24 = .ok (.aload_n 0, 1) := by decide +kernel
theorem dX8_undo_25 : decode cX8_undo 25 = .ok (.dup, 1) := by decide +kernel
theorem dX8_undo_26 : decode cX8_undo 26 = .ok (.getfield 30, 3) := by decide +kernel
theorem dX8_undo_29 : decode cX8_undo 29 = .ok (.iconst 1, 1) := by decide +kernel
theorem dX8_undo_30 : decode cX8_undo 30 = .ok (.isub, 1) := by decide +kernel
theorem dX8_undo_31 : decode cX8_undo 31 = .ok (.putfield 30, 3) := by decide +kernel
theorem dX8_undo_34 : decode cX8_undo 34 = .ok (.iconst 0, 1) := by decide +kernel
theorem dX8_undo_35 : decode cX8_undo 35 = .ok (.istore_n 1, 1) := by decide +kernel
theorem dX8_undo_36 : decode cX8_undo 36 = .ok (.iload_n 1, 1) := by decide +kernel
theorem dX8_undo_37 : decode cX8_undo 37 = .ok (.sipush 1055, 3) := by decide +kernel
theorem dX8_undo_40 : decode cX8_undo 40 = .ok (.if_icmp .ge 30, 3) := by decide +kernel
theorem dX8_undo_43 : decode cX8_undo 43 = .ok (.aload_n 0, 1) := by decide +kernel
theorem dX8_undo_44 : decode cX8_undo 44 = .ok (.getfield 7, 3) := by decide +kernel
theorem dX8_undo_47 : decode cX8_undo 47 = .ok (.iload_n 1, 1) := by decide +kernel
theorem dX8_undo_48 : decode cX8_undo 48 = .ok (.aload_n 0, 1) := by decide +kernel
theorem dX8_undo_49 : decode cX8_undo 49 = .ok (.getfield 16, 3) := by decide +kernel
theorem dX8_undo_52 : decode cX8_undo 52 = .ok (.sipush 1055, 3) := by decide +kernel
theorem dX8_undo_55 : decode cX8_undo 55 = .ok (.aload_n 0, 1) := by decide +kernel
theorem dX8_undo_56 : decode cX8_undo 56 = .ok (.getfield 26, 3) := by decide +kernel
theorem dX8_undo_59 : decode cX8_undo 59 = .ok (.imul, 1) := by decide +kernel
theorem dX8_undo_60 : decode cX8_undo 60 = .ok (.iload_n 1, 1) := by decide +kernel
theorem dX8_undo_61 : decode cX8_undo 61 = .ok (.iadd, 1) := by decide +kernel
theorem dX8_undo_62 : decode cX8_undo 62 = .ok (.iaload, 1) := by decide +kernel
theorem dX8_undo_63 : decode cX8_undo 63 = .ok (.iastore, 1) := by decide +kernel
theorem dX8_undo_64 : decode cX8_undo 64 = .ok (.iinc 1 1, 3) := by decide +kernel
theorem dX8_undo_67 : decode cX8_undo 67 = .ok (.goto (-31), 3) := by decide +kernel
theorem dX8_undo_70 : decode cX8_undo 70 = .ok (.aload_n 0, 1) := by decide +kernel
theorem dX8_undo_71 : decode cX8_undo 71 = .ok (.getfield 30, 3) := by decide +kernel
theorem dX8_undo_74 : decode cX8_undo 74 = .ok (.ireturn, 1) := by decide +kernel
theorem dX8_hasSeals_0 : decode cX8_hasSeals 0 = .ok (.aload_n 0, 1) := by decide +kernel
theorem dX8_hasSeals_1 : decode cX8_hasSeals 1 = .ok (.getfield 7, 3) := by decide +kernel
theorem dX8_hasSeals_4 : decode cX8_hasSeals 4 = .ok (.bipush 7, 2) := by decide +kernel
theorem dX8_hasSeals_6 : decode cX8_hasSeals 6 = .ok (.iaload, 1) := by decide +kernel
theorem dX8_hasSeals_7 : decode cX8_hasSeals 7 = .ok (.iload_n 1, 1) := by decide +kernel
theorem dX8_hasSeals_8 : decode cX8_hasSeals 8 = .ok (.iadd, 1) := by decide +kernel
theorem dX8_hasSeals_9 : decode cX8_hasSeals 9 = .ok (.sipush 200, 3) := by decide +kernel
theorem dX8_hasSeals_12 : decode cX8_hasSeals 12 = .ok (.if_icmp .gt 7, 3) := by decide +kernel
theorem dX8_hasSeals_15 : decode cX8_hasSeals 15 = .ok (.iconst 1, 1) := by decide +kernel
theorem dX8_hasSeals_16 : decode cX8_hasSeals 16 = .ok (.goto 4, 3) := by decide +kernel
theorem dX8_hasSeals_19 : decode cX8_hasSeals 19 = .ok (.iconst 0, 1) := by decide +kernel
theorem dX8_hasSeals_20 : decode cX8_hasSeals 20 = .ok (.ireturn, 1) := by decide +kernel
theorem dX8_seals_0 : decode cX8_seals 0 = .ok (.aload_n 0, 1) := by decide +kernel
theorem dX8_seals_1 : decode cX8_seals 1 = .ok (.getfield 7, 3) := by decide +kernel
theorem dX8_seals_4 : decode cX8_seals 4 = .ok (.bipush 7, 2) := by decide +kernel
theorem dX8_seals_6 : decode cX8_seals 6 = .ok (.dup2, 1) := by decide +kernel
theorem dX8_seals_7 : decode cX8_seals 7 = .ok (.iaload, 1) := by decide +kernel
theorem dX8_seals_8 : decode cX8_seals 8 = .ok (.iconst 1, 1) := by decide +kernel
theorem dX8_seals_9 : decode cX8_seals 9 = .ok (.iadd, 1) := by decide +kernel
theorem dX8_seals_10 : decode cX8_seals 10 = .ok (.iastore, 1) := by decide +kernel
theorem dX8_seals_11 : decode cX8_seals 11 = .ok (.aload_n 0, 1) := by decide +kernel
theorem dX8_seals_12 : decode cX8_seals 12 = .ok (.getfield 7, 3) := by decide +kernel
theorem dX8_seals_15 : decode cX8_seals 15 = .ok (.bipush 7, 2) := by decide +kernel
theorem dX8_seals_17 : decode cX8_seals 17 = .ok (.iaload, 1) := by decide +kernel
theorem dX8_seals_18 : decode cX8_seals 18 = .ok (.istore_n 2, 1) := by decide +kernel
theorem dX8_seals_19 : decode cX8_seals 19 = .ok (.aload_n 0, 1) := by decide +kernel
theorem dX8_seals_20 : decode cX8_seals 20 = .ok (.getfield 7, 3) := by decide +kernel
theorem dX8_seals_23 : decode cX8_seals 23 = .ok (.bipush 14, 2) := by decide +kernel
theorem dX8_seals_25 : decode cX8_seals 25 = .ok (.iload_n 1, 1) := by decide +kernel
theorem dX8_seals_26 : decode cX8_seals 26 = .ok (.iadd, 1) := by decide +kernel
theorem dX8_seals_27 : decode cX8_seals 27 = .ok (.iconst 1, 1) := by decide +kernel
theorem dX8_seals_28 : decode cX8_seals 28 = .ok (.iastore, 1) := by decide +kernel
theorem dX8_seals_29 : decode cX8_seals 29 = .ok (.aload_n 0, 1) := by decide +kernel
theorem dX8_seals_30 : decode cX8_seals 30 = .ok (.getfield 7, 3) := by decide +kernel
theorem dX8_seals_33 : decode cX8_seals 33 = .ok (.bipush 19, 2) := by decide +kernel
theorem dX8_seals_35 : decode cX8_seals 35 = .ok (.iload_n 1, 1) := by decide +kernel
theorem dX8_seals_36 : decode cX8_seals 36 = .ok (.iadd, 1) := by decide +kernel
theorem dX8_seals_37 : decode cX8_seals 37 = .ok (.iload_n 2, 1) := by decide +kernel
theorem dX8_seals_38 : decode cX8_seals 38 = .ok (.iastore, 1) := by decide +kernel
theorem dX8_seals_39 : decode cX8_seals 39 = .ok (.aload_n 0, 1) := by decide +kernel
theorem dX8_seals_40 : decode cX8_seals 40 = .ok (.getfield 7, 3) := by decide +kernel
theorem dX8_seals_43 : decode cX8_seals 43 = .ok (.sipush 452, 3) := by decide +kernel
theorem dX8_seals_46 : decode cX8_seals 46 = .ok (.iload_n 2, 1) := by decide +kernel
theorem dX8_seals_47 : decode cX8_seals 47 = .ok (.iadd, 1) := by decide +kernel
theorem dX8_seals_48 : decode cX8_seals 48 = .ok (.iload_n 1, 1) := by decide +kernel
theorem dX8_seals_49 : decode cX8_seals 49 = .ok (.iastore, 1) := by decide +kernel
theorem dX8_seals_50 : decode cX8_seals 50 = .ok (.aload_n 0, 1) := by decide +kernel
theorem dX8_seals_51 : decode cX8_seals 51 = .ok (.getfield 7, 3) := by decide +kernel
theorem dX8_seals_54 : decode cX8_seals 54 = .ok (.sipush 653, 3) := by decide +kernel
theorem dX8_seals_57 : decode cX8_seals 57 = .ok (.iload_n 2, 1) := by decide +kernel
theorem dX8_seals_58 : decode cX8_seals 58 = .ok (.iadd, 1) := by decide +kernel
theorem dX8_seals_59 : decode cX8_seals 59 = .ok (.aload_n 0, 1) := by decide +kernel
theorem dX8_seals_60 : decode cX8_seals 60 = .ok (.getfield 7, 3) := by decide +kernel
theorem dX8_seals_63 : decode cX8_seals 63 = .ok (.iconst 1, 1) := by decide +kernel
theorem dX8_seals_64 : decode cX8_seals 64 = .ok (.iaload, 1) := by decide +kernel
theorem dX8_seals_65 : decode cX8_seals 65 = .ok (.iastore, 1) := by decide +kernel
theorem dX8_seals_66 : decode cX8_seals 66 = .ok (.aload_n 0, 1) := by decide +kernel
theorem dX8_seals_67 : decode cX8_seals 67 = .ok (.getfield 7, 3) := by decide +kernel
theorem dX8_seals_70 : decode cX8_seals 70 = .ok (.sipush 854, 3) := by decide +kernel
theorem dX8_seals_73 : decode cX8_seals 73 = .ok (.iload_n 2, 1) := by decide +kernel
theorem dX8_seals_74 : decode cX8_seals 74 = .ok (.iadd, 1) := by decide +kernel
theorem dX8_seals_75 : decode cX8_seals 75 = .ok (.iconst 0, 1) := by decide +kernel
theorem dX8_seals_76 : decode cX8_seals 76 = .ok (.iastore, 1) := by decide +kernel
theorem dX8_seals_77 : decode cX8_seals 77 = .ok (.return_, 1) := by decide +kernel
theorem dX8_takesOff_0 : decode cX8_takesOff 0 = .ok (.aload_n 0, 1) := by decide +kernel
theorem dX8_takesOff_1 : decode cX8_takesOff 1 = .ok (.getfield 7, 3) := by decide +kernel
theorem dX8_takesOff_4 : decode cX8_takesOff 4 = .ok (.bipush 14, 2) := by decide +kernel
theorem dX8_takesOff_6 : decode cX8_takesOff 6 = .ok (.iload_n 1, 1) := by decide +kernel
theorem dX8_takesOff_7 : decode cX8_takesOff 7 = .ok (.iadd, 1) := by decide +kernel
theorem dX8_takesOff_8 : decode cX8_takesOff 8 = .ok (.iaload, 1) := by decide +kernel
theorem dX8_takesOff_9 : decode cX8_takesOff 9 = .ok (.iconst 1, 1) := by decide +kernel
theorem dX8_takesOff_10 : decode cX8_takesOff 10 = .ok (.if_icmp .ne 32, 3) := by decide +kernel
theorem dX8_takesOff_13 : decode cX8_takesOff 13 = .ok (.aload_n 0, 1) := by decide +kernel
theorem dX8_takesOff_14 : decode cX8_takesOff 14 = .ok (.getfield 7, 3) := by decide +kernel
theorem dX8_takesOff_17 : decode cX8_takesOff 17 = .ok (.sipush 854, 3) := by decide +kernel
theorem dX8_takesOff_20 : decode cX8_takesOff 20 = .ok (.aload_n 0, 1) := by decide +kernel
theorem dX8_takesOff_21 : decode cX8_takesOff 21 = .ok (.getfield 7, 3) := by decide +kernel
theorem dX8_takesOff_24 : decode cX8_takesOff 24 = .ok (.bipush 19, 2) := by decide +kernel
theorem dX8_takesOff_26 : decode cX8_takesOff 26 = .ok (.iload_n 1, 1) := by decide +kernel
theorem dX8_takesOff_27 : decode cX8_takesOff 27 = .ok (.iadd, 1) := by decide +kernel
theorem dX8_takesOff_28 : decode cX8_takesOff 28 = .ok (.iaload, 1) := by decide +kernel
theorem dX8_takesOff_29 : decode cX8_takesOff 29 = .ok (.iadd, 1) := by decide +kernel
theorem dX8_takesOff_30 : decode cX8_takesOff 30 = .ok (.iload_n 2, 1) := by decide +kernel
theorem dX8_takesOff_31 : decode cX8_takesOff 31 = .ok (.iastore, 1) := by decide +kernel
theorem dX8_takesOff_32 : decode cX8_takesOff 32 = .ok (.aload_n 0, 1) := by decide +kernel
theorem dX8_takesOff_33 : decode cX8_takesOff 33 = .ok (.getfield 7, 3) := by decide +kernel
theorem dX8_takesOff_36 : decode cX8_takesOff 36 = .ok (.bipush 14, 2) := by decide +kernel
theorem dX8_takesOff_38 : decode cX8_takesOff 38 = .ok (.iload_n 1, 1) := by decide +kernel
theorem dX8_takesOff_39 : decode cX8_takesOff 39 = .ok (.iadd, 1) := by decide +kernel
theorem dX8_takesOff_40 : decode cX8_takesOff 40 = .ok (.iconst 0, 1) := by decide +kernel
theorem dX8_takesOff_41 : decode cX8_takesOff 41 = .ok (.iastore, 1) := by decide +kernel
theorem dX8_takesOff_42 : decode cX8_takesOff 42 = .ok (.return_, 1) := by decide +kernel
theorem dX8_nextOf_0 : decode cX8_nextOf 0 = .ok (.bipush (-4), 2) := by decide +kernel
theorem dX8_nextOf_2 : decode cX8_nextOf 2 = .ok (.istore_n 3, 1) := by decide +kernel
theorem dX8_nextOf_3 : decode cX8_nextOf 3 = .ok (.aload_n 0, 1) := by decide +kernel
theorem dX8_nextOf_4 : decode cX8_nextOf 4 = .ok (.getfield 7, 3) := by decide +kernel
theorem dX8_nextOf_7 : decode cX8_nextOf 7 = .ok (.bipush 6, 2) := by decide +kernel
theorem dX8_nextOf_9 : decode cX8_nextOf 9 = .ok (.iaload, 1) := by decide +kernel
theorem dX8_nextOf_10 : decode cX8_nextOf 10 = .ok (.iconst 1, 1) := by decide +kernel
theorem dX8_nextOf_11 : decode cX8_nextOf 11 = .ok (.isub, 1) := by decide +kernel
theorem dX8_nextOf_12 : decode cX8_nextOf 12 = .ok (.istore 4, 2) := by decide +kernel
theorem dX8_nextOf_14 : decode cX8_nextOf 14 = .ok (.iload 4, 2) := by decide +kernel
theorem dX8_nextOf_16 : decode cX8_nextOf 16 = .ok (.ifCond .lt 155, 3) := by decide +kernel
theorem dX8_nextOf_19 : decode cX8_nextOf 19 = .ok (.aload_n 0, 1) := by decide +kernel
theorem dX8_nextOf_20 : decode cX8_nextOf 20 = .ok (.getfield 7, 3) := by decide +kernel
theorem dX8_nextOf_23 : decode cX8_nextOf 23 = .ok (.sipush 272, 3) := by decide +kernel
theorem dX8_nextOf_26 : decode cX8_nextOf 26 = .ok (.iload 4, 2) := by decide +kernel
theorem dX8_nextOf_28 : decode cX8_nextOf 28 = .ok (.iadd, 1) := by decide +kernel
theorem dX8_nextOf_29 : decode cX8_nextOf 29 = .ok (.iaload, 1) := by decide +kernel
theorem dX8_nextOf_30 : decode cX8_nextOf 30 = .ok (.ifCond .le 26, 3) := by decide +kernel
theorem dX8_nextOf_33 : decode cX8_nextOf 33 = .ok (.iload_n 1, 1) := by decide +kernel
theorem dX8_nextOf_34 : decode cX8_nextOf 34 = .ok (.ifCond .lt 18, 3) := by decide +kernel
theorem dX8_nextOf_37 : decode cX8_nextOf 37 = .ok (.aload_n 0, 1) := by decide +kernel
theorem dX8_nextOf_38 : decode cX8_nextOf 38 = .ok (.getfield 7, 3) := by decide +kernel
theorem dX8_nextOf_41 : decode cX8_nextOf 41 = .ok (.sipush 152, 3) := by decide +kernel
theorem dX8_nextOf_44 : decode cX8_nextOf 44 = .ok (.iload 4, 2) := by decide +kernel
theorem dX8_nextOf_46 : decode cX8_nextOf 46 = .ok (.iadd, 1) := by decide +kernel
theorem dX8_nextOf_47 : decode cX8_nextOf 47 = .ok (.iaload, 1) := by decide +kernel
theorem dX8_nextOf_48 : decode cX8_nextOf 48 = .ok (.iload_n 1, 1) := by decide +kernel
theorem dX8_nextOf_49 : decode cX8_nextOf 49 = .ok (.if_icmp .ne 7, 3) := by decide +kernel
theorem dX8_nextOf_52 : decode cX8_nextOf 52 = .ok (.iconst 1, 1) := by decide +kernel
theorem dX8_nextOf_53 : decode cX8_nextOf 53 = .ok (.goto 4, 3) := by decide +kernel
theorem dX8_nextOf_56 : decode cX8_nextOf 56 = .ok (.iconst 0, 1) := by decide +kernel
theorem dX8_nextOf_57 : decode cX8_nextOf 57 = .ok (.istore 5, 2) := by decide +kernel
theorem dX8_nextOf_59 : decode cX8_nextOf 59 = .ok (.iload_n 2, 1) := by decide +kernel
theorem dX8_nextOf_60 : decode cX8_nextOf 60 = .ok (.ifCond .lt 57, 3) := by decide +kernel
theorem dX8_nextOf_63 : decode cX8_nextOf 63 = .ok (.aload_n 0, 1) := by decide +kernel
theorem dX8_nextOf_64 : decode cX8_nextOf 64 = .ok (.getfield 7, 3) := by decide +kernel
theorem dX8_nextOf_67 : decode cX8_nextOf 67 = .ok (.sipush 392, 3) := by decide +kernel
theorem dX8_nextOf_70 : decode cX8_nextOf 70 = .ok (.iload 4, 2) := by decide +kernel
theorem dX8_nextOf_72 : decode cX8_nextOf 72 = .ok (.iadd, 1) := by decide +kernel
theorem dX8_nextOf_73 : decode cX8_nextOf 73 = .ok (.iaload, 1) := by decide +kernel
theorem dX8_nextOf_74 : decode cX8_nextOf 74 = .ok (.aload_n 0, 1) := by decide +kernel
theorem dX8_nextOf_75 : decode cX8_nextOf 75 = .ok (.getfield 7, 3) := by decide +kernel
theorem dX8_nextOf_78 : decode cX8_nextOf 78 = .ok (.sipush 392, 3) := by decide +kernel
theorem dX8_nextOf_81 : decode cX8_nextOf 81 = .ok (.iload_n 2, 1) := by decide +kernel
theorem dX8_nextOf_82 : decode cX8_nextOf 82 = .ok (.iadd, 1) := by decide +kernel
theorem dX8_nextOf_83 : decode cX8_nextOf 83 = .ok (.iaload, 1) := by decide +kernel
theorem dX8_nextOf_84 : decode cX8_nextOf 84 = .ok (.if_icmp .gt 33, 3) := by decide +kernel
theorem dX8_nextOf_87 : decode cX8_nextOf 87 = .ok (.aload_n 0, 1) := by decide +kernel
theorem dX8_nextOf_88 : decode cX8_nextOf 88 = .ok (.getfield 7, 3) := by decide +kernel
theorem dX8_nextOf_91 : decode cX8_nextOf 91 = .ok (.sipush 392, 3) := by decide +kernel
theorem dX8_nextOf_94 : decode cX8_nextOf 94 = .ok (.iload 4, 2) := by decide +kernel
theorem dX8_nextOf_96 : decode cX8_nextOf 96 = .ok (.iadd, 1) := by decide +kernel
theorem dX8_nextOf_97 : decode cX8_nextOf 97 = .ok (.iaload, 1) := by decide +kernel
theorem dX8_nextOf_98 : decode cX8_nextOf 98 = .ok (.aload_n 0, 1) := by decide +kernel
theorem dX8_nextOf_99 : decode cX8_nextOf 99 = .ok (.getfield 7, 3) := by decide +kernel
theorem dX8_nextOf_102 : decode cX8_nextOf 102 = .ok (.sipush 392, 3) := by decide +kernel
theorem dX8_nextOf_105 : decode cX8_nextOf 105 = .ok (.iload_n 2, 1) := by decide +kernel
theorem dX8_nextOf_106 : decode cX8_nextOf 106 = .ok (.iadd, 1) := by decide +kernel
theorem dX8_nextOf_107 : decode cX8_nextOf 107 = .ok (.iaload, 1) := by decide +kernel
theorem dX8_nextOf_108 : decode cX8_nextOf 108 = .ok (.if_icmp .ne 13, 3) := by decide +kernel
theorem dX8_nextOf_111 : decode cX8_nextOf 111 = .ok (.iload 4, 2) := by decide +kernel
theorem dX8_nextOf_113 : decode cX8_nextOf 113 = .ok (.iload_n 2, 1) := by decide +kernel
theorem dX8_nextOf_114 : decode cX8_nextOf 114 = .ok (.if_icmp .le 7, 3) := by decide +kernel
theorem dX8_nextOf_117 : decode cX8_nextOf 117 = .ok (.iconst 1, 1) := by decide +kernel
theorem dX8_nextOf_118 : decode cX8_nextOf 118 = .ok (.goto 4, 3) := by decide +kernel
theorem dX8_nextOf_121 : decode cX8_nextOf 121 = .ok (.iconst 0, 1) := by decide +kernel
theorem dX8_nextOf_122 : decode cX8_nextOf 122 = .ok (.istore 6, 2) := by decide +kernel
theorem dX8_nextOf_124 : decode cX8_nextOf 124 = .ok (.iload 5, 2) := by decide +kernel
theorem dX8_nextOf_126 : decode cX8_nextOf 126 = .ok (.ifCond .eq 39, 3) := by decide +kernel
theorem dX8_nextOf_129 : decode cX8_nextOf 129 = .ok (.iload 6, 2) := by decide +kernel
theorem dX8_nextOf_131 : decode cX8_nextOf 131 = .ok (.ifCond .eq 34, 3) := by decide +kernel
theorem dX8_nextOf_134 : decode cX8_nextOf 134 = .ok (.iload_n 3, 1) := by decide +kernel
theorem dX8_nextOf_135 : decode cX8_nextOf 135 = .ok (.ifCond .lt 27, 3) := by decide +kernel
theorem dX8_nextOf_138 : decode cX8_nextOf 138 = .ok (.aload_n 0, 1) := by decide +kernel
theorem dX8_nextOf_139 : decode cX8_nextOf 139 = .ok (.getfield 7, 3) := by decide +kernel
theorem dX8_nextOf_142 : decode cX8_nextOf 142 = .ok (.sipush 392, 3) := by decide +kernel
theorem dX8_nextOf_145 : decode cX8_nextOf 145 = .ok (.iload 4, 2) := by decide +kernel
theorem dX8_nextOf_147 : decode cX8_nextOf 147 = .ok (.iadd, 1) := by decide +kernel
theorem dX8_nextOf_148 : decode cX8_nextOf 148 = .ok (.iaload, 1) := by decide +kernel
theorem dX8_nextOf_149 : decode cX8_nextOf 149 = .ok (.aload_n 0, 1) := by decide +kernel
theorem dX8_nextOf_150 : decode cX8_nextOf 150 = .ok (.getfield 7, 3) := by decide +kernel
theorem dX8_nextOf_153 : decode cX8_nextOf 153 = .ok (.sipush 392, 3) := by decide +kernel
theorem dX8_nextOf_156 : decode cX8_nextOf 156 = .ok (.iload_n 3, 1) := by decide +kernel
theorem dX8_nextOf_157 : decode cX8_nextOf 157 = .ok (.iadd, 1) := by decide +kernel
theorem dX8_nextOf_158 : decode cX8_nextOf 158 = .ok (.iaload, 1) := by decide +kernel
theorem dX8_nextOf_159 : decode cX8_nextOf 159 = .ok (.if_icmp .gt 6, 3) := by decide +kernel
theorem dX8_nextOf_162 : decode cX8_nextOf 162 = .ok (.iload 4, 2) := by decide +kernel
theorem dX8_nextOf_164 : decode cX8_nextOf 164 = .ok (.istore_n 3, 1) := by decide +kernel
theorem dX8_nextOf_165 : decode cX8_nextOf 165 = .ok (.iinc 4 (-1), 3) := by decide +kernel
theorem dX8_nextOf_168 : decode cX8_nextOf 168 = .ok (.goto (-154), 3) := by decide +kernel
theorem dX8_nextOf_171 : decode cX8_nextOf 171 = .ok (.iload_n 3, 1) := by decide +kernel
theorem dX8_nextOf_172 : decode cX8_nextOf 172 = .ok (.ireturn, 1) := by decide +kernel
theorem dX8_least_0 : decode cX8_least 0 = .ok (.iload_n 0, 1) := by decide +kernel
theorem dX8_least_1 : decode cX8_least 1 = .ok (.iload_n 1, 1) := by decide +kernel
theorem dX8_least_2 : decode cX8_least 2 = .ok (.if_icmp .ge 7, 3) := by decide +kernel
theorem dX8_least_5 : decode cX8_least 5 = .ok (.iload_n 0, 1) := by decide +kernel
theorem dX8_least_6 : decode cX8_least 6 = .ok (.goto 4, 3) := by decide +kernel
theorem dX8_least_9 : decode cX8_least 9 = .ok (.iload_n 1, 1) := by decide +kernel
theorem dX8_least_10 : decode cX8_least 10 = .ok (.ireturn, 1) := by decide +kernel
theorem dX8_worthOf_0 : decode cX8_worthOf 0 = .ok (.lconst 0, 1) := by decide +kernel
theorem dX8_worthOf_1 : decode cX8_worthOf 1 = .ok (.lstore_n 3, 1) := by decide +kernel
theorem dX8_worthOf_2 : decode cX8_worthOf 2 = .ok (.iload_n 2, 1) := by decide +kernel
theorem dX8_worthOf_3 : decode cX8_worthOf 3 = .ok (.istore 5, 2) := by decide +kernel
theorem dX8_worthOf_5 : decode cX8_worthOf 5 = .ok (.aload_n 0, 1) := by decide +kernel
theorem dX8_worthOf_6 : decode cX8_worthOf 6 = .ok (.iload_n 1, 1) := by decide +kernel
theorem dX8_worthOf_7 : decode cX8_worthOf 7 = .ok (.iconst (-1), 1) := by decide +kernel
theorem dX8_worthOf_8 : decode cX8_worthOf 8 = .ok (.invokevirtual 33, 3) := by decide +kernel
theorem dX8_worthOf_11 : decode cX8_worthOf 11 = .ok (.istore 6, 2) := by decide +kernel
theorem dX8_worthOf_13 : decode cX8_worthOf 13 = .ok (.iload 6, 2) := by decide +kernel
theorem dX8_worthOf_15 : decode cX8_worthOf 15 = .ok (.ifCond .lt 64, 3) := by decide +kernel
theorem dX8_worthOf_18 : decode cX8_worthOf 18 = .ok (.iload 5, 2) := by decide +kernel
theorem dX8_worthOf_20 : decode cX8_worthOf 20 = .ok (.ifCond .le 59, 3) := by decide +kernel
theorem dX8_worthOf_23 : decode cX8_worthOf 23 = .ok (.iload 5, 2) := by decide +kernel
theorem dX8_worthOf_25 : decode cX8_worthOf 25 = .ok (.aload_n 0, 1) := by decide +kernel
theorem dX8_worthOf_26 : decode cX8_worthOf 26 = .ok (.getfield 7, 3) := by decide +kernel
theorem dX8_worthOf_29 : decode cX8_worthOf 29 = .ok (.sipush 272, 3) := by decide +kernel
theorem dX8_worthOf_32 : decode cX8_worthOf 32 = .ok (.iload 6, 2) := by decide +kernel
theorem dX8_worthOf_34 : decode cX8_worthOf 34 = .ok (.iadd, 1) := by decide +kernel
theorem dX8_worthOf_35 : decode cX8_worthOf 35 = .ok (.iaload, 1) := by decide +kernel
theorem dX8_worthOf_36 : decode cX8_worthOf 36 = .ok (.invokestatic 37, 3) := by decide +kernel
theorem dX8_worthOf_39 : decode cX8_worthOf 39 = .ok (.istore 7, 2) := by decide +kernel
theorem dX8_worthOf_41 : decode cX8_worthOf 41 = .ok (.lload_n 3, 1) := by decide +kernel
theorem dX8_worthOf_42 : decode cX8_worthOf 42 = .ok (.iload 7, 2) := by decide +kernel
theorem dX8_worthOf_44 : decode cX8_worthOf 44 = .ok (.i2l, 1) := by decide +kernel
theorem dX8_worthOf_45 : decode cX8_worthOf 45 = .ok (.aload_n 0, 1) := by decide +kernel
theorem dX8_worthOf_46 : decode cX8_worthOf 46 = .ok (.getfield 7, 3) := by decide +kernel
theorem dX8_worthOf_49 : decode cX8_worthOf 49 = .ok (.sipush 332, 3) := by decide +kernel
theorem dX8_worthOf_52 : decode cX8_worthOf 52 = .ok (.iload 6, 2) := by decide +kernel
theorem dX8_worthOf_54 : decode cX8_worthOf 54 = .ok (.iadd, 1) := by decide +kernel
theorem dX8_worthOf_55 : decode cX8_worthOf 55 = .ok (.iaload, 1) := by decide +kernel
theorem dX8_worthOf_56 : decode cX8_worthOf 56 = .ok (.i2l, 1) := by decide +kernel
theorem dX8_worthOf_57 : decode cX8_worthOf 57 = .ok (.lmul, 1) := by decide +kernel
theorem dX8_worthOf_58 : decode cX8_worthOf 58 = .ok (.ladd, 1) := by decide +kernel
theorem dX8_worthOf_59 : decode cX8_worthOf 59 = .ok (.lstore_n 3, 1) := by decide +kernel
theorem dX8_worthOf_60 : decode cX8_worthOf 60 = .ok (.iload 5, 2) := by decide +kernel
theorem dX8_worthOf_62 : decode cX8_worthOf 62 = .ok (.iload 7, 2) := by decide +kernel
theorem dX8_worthOf_64 : decode cX8_worthOf 64 = .ok (.isub, 1) := by decide +kernel
theorem dX8_worthOf_65 : decode cX8_worthOf 65 = .ok (.istore 5, 2) := by decide +kernel
theorem dX8_worthOf_67 : decode cX8_worthOf 67 = .ok (.aload_n 0, 1) := by decide +kernel
theorem dX8_worthOf_68 : decode cX8_worthOf 68 = .ok (.iload_n 1, 1) := by decide +kernel
theorem dX8_worthOf_69 : decode cX8_worthOf 69 = .ok (.iload 6, 2) := by decide +kernel
theorem dX8_worthOf_71 : decode cX8_worthOf 71 = .ok (.invokevirtual 33, 3) := by decide +kernel
theorem dX8_worthOf_74 : decode cX8_worthOf 74 = .ok (.istore 6, 2) := by decide +kernel
theorem dX8_worthOf_76 : decode cX8_worthOf 76 = .ok (.goto (-63), 3) := by decide +kernel
theorem dX8_worthOf_79 : decode cX8_worthOf 79 = .ok (.iload 5, 2) := by decide +kernel
theorem dX8_worthOf_81 : decode cX8_worthOf 81 = .ok (.ifCond .le 9, 3) := by decide +kernel
theorem dX8_worthOf_84 : decode cX8_worthOf 84 = .ok (.ldc2_w 40, 3) := by decide +kernel
theorem dX8_worthOf_87 : decode cX8_worthOf 87 = .ok (.goto 4, 3) := by decide +kernel
theorem dX8_worthOf_90 : decode cX8_worthOf 90 = .ok (.lload_n 3, 1) := by decide +kernel
theorem dX8_worthOf_91 : decode cX8_worthOf 91 = .ok (.lreturn, 1) := by decide +kernel
theorem dX8_takes_0 : decode cX8_takes 0 = .ok (.iload_n 2, 1) := by decide +kernel
theorem dX8_takes_1 : decode cX8_takes 1 = .ok (.aload_n 0, 1) := by decide +kernel
theorem dX8_takes_2 : decode cX8_takes 2 = .ok (.getfield 7, 3) := by decide +kernel
theorem dX8_takes_5 : decode cX8_takes 5 = .ok (.sipush 332, 3) := by decide +kernel
theorem dX8_takes_8 : decode cX8_takes 8 = .ok (.iload_n 1, 1) := by decide +kernel
theorem dX8_takes_9 : decode cX8_takes 9 = .ok (.iadd, 1) := by decide +kernel
theorem dX8_takes_10 : decode cX8_takes 10 = .ok (.iaload, 1) := by decide +kernel
theorem dX8_takes_11 : decode cX8_takes 11 = .ok (.imul, 1) := by decide +kernel
theorem dX8_takes_12 : decode cX8_takes 12 = .ok (.istore 4, 2) := by decide +kernel
theorem dX8_takes_14 : decode cX8_takes 14 = .ok (.aload_n 0, 1) := by decide +kernel
theorem dX8_takes_15 : decode cX8_takes 15 = .ok (.getfield 7, 3) := by decide +kernel
theorem dX8_takes_18 : decode cX8_takes 18 = .ok (.sipush 272, 3) := by decide +kernel
theorem dX8_takes_21 : decode cX8_takes 21 = .ok (.iload_n 1, 1) := by decide +kernel
theorem dX8_takes_22 : decode cX8_takes 22 = .ok (.iadd, 1) := by decide +kernel
theorem dX8_takes_23 : decode cX8_takes 23 = .ok (.dup2, 1) := by decide +kernel
theorem dX8_takes_24 : decode cX8_takes 24 = .ok (.iaload, 1) := by decide +kernel
theorem dX8_takes_25 : decode cX8_takes 25 = .ok (.iload_n 2, 1) := by decide +kernel
theorem dX8_takes_26 : decode cX8_takes 26 = .ok (.isub, 1) := by decide +kernel
theorem dX8_takes_27 : decode cX8_takes 27 = .ok (.iastore, 1) := by decide +kernel
theorem dX8_takes_28 : decode cX8_takes 28 = .ok (.aload_n 0, 1) := by decide +kernel
theorem dX8_takes_29 : decode cX8_takes 29 = .ok (.getfield 7, 3) := by decide +kernel
theorem dX8_takes_32 : decode cX8_takes 32 = .ok (.bipush 10, 2) := by decide +kernel
theorem dX8_takes_34 : decode cX8_takes 34 = .ok (.iload_n 3, 1) := by decide +kernel
theorem dX8_takes_35 : decode cX8_takes 35 = .ok (.iadd, 1) := by decide +kernel
theorem dX8_takes_36 : decode cX8_takes 36 = .ok (.dup2, 1) := by decide +kernel
theorem dX8_takes_37 : decode cX8_takes 37 = .ok (.iaload, 1) := by decide +kernel
theorem dX8_takes_38 : decode cX8_takes 38 = .ok (.iload 4, 2) := by decide +kernel
theorem dX8_takes_40 : decode cX8_takes 40 = .ok (.iadd, 1) := by decide +kernel
theorem dX8_takes_41 : decode cX8_takes 41 = .ok (.iastore, 1) := by decide +kernel
theorem dX8_takes_42 : decode cX8_takes 42 = .ok (.aload_n 0, 1) := by decide +kernel
theorem dX8_takes_43 : decode cX8_takes 43 = .ok (.getfield 7, 3) := by decide +kernel
theorem dX8_takes_46 : decode cX8_takes 46 = .ok (.bipush 120, 2) := by decide +kernel
theorem dX8_takes_48 : decode cX8_takes 48 = .ok (.iconst 4, 1) := by decide +kernel
theorem dX8_takes_49 : decode cX8_takes 49 = .ok (.aload_n 0, 1) := by decide +kernel
theorem dX8_takes_50 : decode cX8_takes 50 = .ok (.getfield 7, 3) := by decide +kernel
theorem dX8_takes_53 : decode cX8_takes 53 = .ok (.sipush 152, 3) := by decide +kernel
theorem dX8_takes_56 : decode cX8_takes 56 = .ok (.iload_n 1, 1) := by decide +kernel
theorem dX8_takes_57 : decode cX8_takes 57 = .ok (.iadd, 1) := by decide +kernel
theorem dX8_takes_58 : decode cX8_takes 58 = .ok (.iaload, 1) := by decide +kernel
theorem dX8_takes_59 : decode cX8_takes 59 = .ok (.imul, 1) := by decide +kernel
theorem dX8_takes_60 : decode cX8_takes 60 = .ok (.iadd, 1) := by decide +kernel
theorem dX8_takes_61 : decode cX8_takes 61 = .ok (.iload_n 3, 1) := by decide +kernel
theorem dX8_takes_62 : decode cX8_takes 62 = .ok (.iadd, 1) := by decide +kernel
theorem dX8_takes_63 : decode cX8_takes 63 = .ok (.dup2, 1) := by decide +kernel
theorem dX8_takes_64 : decode cX8_takes 64 = .ok (.iaload, 1) := by decide +kernel
theorem dX8_takes_65 : decode cX8_takes 65 = .ok (.iload_n 2, 1) := by decide +kernel
theorem dX8_takes_66 : decode cX8_takes 66 = .ok (.iadd, 1) := by decide +kernel
theorem dX8_takes_67 : decode cX8_takes 67 = .ok (.iastore, 1) := by decide +kernel
theorem dX8_takes_68 : decode cX8_takes 68 = .ok (.iload 4, 2) := by decide +kernel
theorem dX8_takes_70 : decode cX8_takes 70 = .ok (.ireturn, 1) := by decide +kernel
theorem dX8_releases_0 : decode cX8_releases 0 = .ok (.iconst 0, 1) := by decide +kernel
theorem dX8_releases_1 : decode cX8_releases 1 = .ok (.istore 4, 2) := by decide +kernel
theorem dX8_releases_3 : decode cX8_releases 3 = .ok (.iload_n 2, 1) := by decide +kernel
theorem dX8_releases_4 : decode cX8_releases 4 = .ok (.istore 5, 2) := by decide +kernel
theorem dX8_releases_6 : decode cX8_releases 6 = .ok (.iload 5, 2) := by decide +kernel
theorem dX8_releases_8 : decode cX8_releases 8 = .ok (.ifCond .le 53, 3) := by decide +kernel
theorem dX8_releases_11 : decode cX8_releases 11 = .ok (.aload_n 0, 1) := by decide +kernel
theorem dX8_releases_12 : decode cX8_releases 12 = .ok (.iload_n 1, 1) := by decide +kernel
theorem dX8_releases_13 : decode cX8_releases 13 = .ok (.iconst (-1), 1) := by decide +kernel
theorem dX8_releases_14 : decode cX8_releases 14 = .ok (.invokevirtual 33, 3) := by decide +kernel
theorem dX8_releases_17 : decode cX8_releases 17 = .ok (.istore 6, 2) := by decide +kernel
theorem dX8_releases_19 : decode cX8_releases 19 = .ok (.iload 5, 2) := by decide +kernel
theorem dX8_releases_21 : decode cX8_releases 21 = .ok (.aload_n 0, 1) := by decide +kernel
theorem dX8_releases_22 : decode cX8_releases 22 = .ok (.getfield 7, 3) := by decide +kernel
theorem dX8_releases_25 : decode cX8_releases 25 = .ok (.sipush 272, 3) := by decide +kernel
theorem dX8_releases_28 : decode cX8_releases 28 = .ok (.iload 6, 2) := by decide +kernel
theorem dX8_releases_30 : decode cX8_releases 30 = .ok (.iadd, 1) := by decide +kernel
theorem dX8_releases_31 : decode cX8_releases 31 = .ok (.iaload, 1) := by decide +kernel
theorem dX8_releases_32 : decode cX8_releases 32 = .ok (.invokestatic 37, 3) := by decide +kernel
theorem dX8_releases_35 : decode cX8_releases 35 = .ok (.istore 7, 2) := by decide +kernel
theorem dX8_releases_37 : decode cX8_releases 37 = .ok (.iload 4, 2) := by decide +kernel
theorem dX8_releases_39 : decode cX8_releases 39 = .ok (.aload_n 0, 1) := by decide +kernel
theorem dX8_releases_40 : decode cX8_releases 40 = .ok (.iload 6, 2) := by decide +kernel
theorem dX8_releases_42 : decode cX8_releases 42 = .ok (.iload 7, 2) := by decide +kernel
theorem dX8_releases_44 : decode cX8_releases 44 = .ok (.iload_n 3, 1) := by decide +kernel
theorem dX8_releases_45 : decode cX8_releases 45 = .ok (.invokevirtual 42, 3) := by decide +kernel
theorem dX8_releases_48 : decode cX8_releases 48 = .ok (.iadd, 1) := by decide +kernel
theorem dX8_releases_49 : decode cX8_releases 49 = .ok (.istore 4, 2) := by decide +kernel
theorem dX8_releases_51 : decode cX8_releases 51 = .ok (.iload 5, 2) := by decide +kernel
theorem dX8_releases_53 : decode cX8_releases 53 = .ok (.iload 7, 2) := by decide +kernel
theorem dX8_releases_55 : decode cX8_releases 55 = .ok (.isub, 1) := by decide +kernel
theorem dX8_releases_56 : decode cX8_releases 56 = .ok (.istore 5, 2) := by decide +kernel
theorem dX8_releases_58 : decode cX8_releases 58 = .ok (.goto (-52), 3) := by decide +kernel
theorem dX8_releases_61 : decode cX8_releases 61 = .ok (.iload 4, 2) := by decide +kernel
theorem dX8_releases_63 : decode cX8_releases 63 = .ok (.ireturn, 1) := by decide +kernel
theorem dX8_addsLocker_0 : decode cX8_addsLocker 0 = .ok (.aload_n 0, 1) := by decide +kernel
theorem dX8_addsLocker_1 : decode cX8_addsLocker 1 = .ok (.getfield 7, 3) := by decide +kernel
theorem dX8_addsLocker_4 : decode cX8_addsLocker 4 = .ok (.iconst 0, 1) := by decide +kernel
theorem dX8_addsLocker_5 : decode cX8_addsLocker 5 = .ok (.iaload, 1) := by decide +kernel
theorem dX8_addsLocker_6 : decode cX8_addsLocker 6 = .ok (.iconst 2, 1) := by decide +kernel
theorem dX8_addsLocker_7 : decode cX8_addsLocker 7 = .ok (.if_icmp .eq 6, 3) := by decide +kernel
theorem dX8_addsLocker_10 : decode cX8_addsLocker 10 = .ok (.bipush (-2), 2) := by decide +kernel
theorem dX8_addsLocker_12 : decode cX8_addsLocker 12 = .ok (.ireturn, 1) := by decide +kernel
theorem dX8_addsLocker_13 : decode cX8_addsLocker 13 = .ok (.aload_n 0, 1) := by decide +kernel
theorem dX8_addsLocker_14 : decode cX8_addsLocker 14 = .ok (.getfield 7, 3) := by decide +kernel
theorem dX8_addsLocker_17 : decode cX8_addsLocker 17 = .ok (.iconst 4, 1) := by decide +kernel
theorem dX8_addsLocker_18 : decode cX8_addsLocker 18 = .ok (.iaload, 1) := by decide +kernel
theorem dX8_addsLocker_19 : decode cX8_addsLocker 19 = .ok (.iconst 5, 1) := by decide +kernel
theorem dX8_addsLocker_20 : decode cX8_addsLocker 20 = .ok (.if_icmp .eq 11, 3) := by decide +kernel
theorem dX8_addsLocker_23 : decode cX8_addsLocker 23 = .ok (.aload_n 0, 1) := by decide +kernel
theorem dX8_addsLocker_24 : decode cX8_addsLocker 24 = .ok (.iconst 1, 1) := by decide +kernel
theorem dX8_addsLocker_25 : decode cX8_addsLocker 25 = .ok (.invokevirtual 46, 3) := by decide +kernel
theorem dX8_addsLocker_28 : decode cX8_addsLocker 28 = .ok (.ifCond .ne 6, 3) := by decide +kernel
theorem dX8_addsLocker_31 : decode cX8_addsLocker 31 = .ok (.bipush (-3), 2) := by decide +kernel
theorem dX8_addsLocker_33 : decode cX8_addsLocker 33 = .ok (.ireturn, 1) := by decide +kernel
theorem dX8_addsLocker_34 : decode cX8_addsLocker 34 = .ok (.aload_n 0, 1) := by decide +kernel
theorem dX8_addsLocker_35 : decode cX8_addsLocker 35 = .ok (.aload_n 0, 1) := by decide +kernel
theorem dX8_addsLocker_36 : decode cX8_addsLocker 36 = .ok (.getfield 7, 3) := by decide +kernel
theorem dX8_addsLocker_39 : decode cX8_addsLocker 39 = .ok (.iconst 4, 1) := by decide +kernel
theorem dX8_addsLocker_40 : decode cX8_addsLocker 40 = .ok (.iaload, 1) := by decide +kernel
theorem dX8_addsLocker_41 : decode cX8_addsLocker 41 = .ok (.invokevirtual 50, 3) := by decide +kernel
theorem dX8_addsLocker_44 : decode cX8_addsLocker 44 = .ok (.aload_n 0, 1) := by decide +kernel
theorem dX8_addsLocker_45 : decode cX8_addsLocker 45 = .ok (.getfield 7, 3) := by decide +kernel
theorem dX8_addsLocker_48 : decode cX8_addsLocker 48 = .ok (.iconst 4, 1) := by decide +kernel
theorem dX8_addsLocker_49 : decode cX8_addsLocker 49 = .ok (.dup2, 1) := by decide +kernel
theorem dX8_addsLocker_50 : decode cX8_addsLocker 50 = .ok (.iaload, 1) := by decide +kernel
theorem dX8_addsLocker_51 : decode cX8_addsLocker 51 = .ok (.iconst 1, 1) := by decide +kernel
theorem dX8_addsLocker_52 : decode cX8_addsLocker 52 = .ok (.iadd, 1) := by decide +kernel
theorem dX8_addsLocker_53 : decode cX8_addsLocker 53 = .ok (.iastore, 1) := by decide +kernel
theorem dX8_addsLocker_54 : decode cX8_addsLocker 54 = .ok (.aload_n 0, 1) := by decide +kernel
theorem dX8_addsLocker_55 : decode cX8_addsLocker 55 = .ok (.getfield 7, 3) := by decide +kernel
theorem dX8_addsLocker_58 : decode cX8_addsLocker 58 = .ok (.iconst 4, 1) := by decide +kernel
theorem dX8_addsLocker_59 : decode cX8_addsLocker 59 = .ok (.iaload, 1) := by decide +kernel
theorem dX8_addsLocker_60 : decode cX8_addsLocker 60 = .ok (.iconst 1, 1) := by decide +kernel
theorem dX8_addsLocker_61 : decode cX8_addsLocker 61 = .ok (.isub, 1) := by decide +kernel
theorem dX8_addsLocker_62 : decode cX8_addsLocker 62 = .ok (.ireturn, 1) := by decide +kernel
theorem dX8_locker_0 : decode cX8_locker 0 = .ok (.aload_n 0, 1) := by decide +kernel
theorem dX8_locker_1 : decode cX8_locker 1 = .ok (.invokevirtual 54, 3) := by decide +kernel
theorem dX8_locker_4 : decode cX8_locker 4 = .ok (.aload_n 0, 1) := by decide +kernel
theorem dX8_locker_5 : decode cX8_locker 5 = .ok (.aload_n 0, 1) := by decide +kernel
theorem dX8_locker_6 : decode cX8_locker 6 = .ok (.invokevirtual 57, 3) := by decide +kernel
theorem dX8_locker_9 : decode cX8_locker 9 = .ok (.invokevirtual 61, 3) := by decide +kernel
theorem dX8_locker_12 : decode cX8_locker 12 = .ok (.ireturn, 1) := by decide +kernel
theorem dX8_isDuty_0 : decode cX8_isDuty 0 = .ok (.iload_n 0, 1) := by decide +kernel
theorem dX8_isDuty_1 : decode cX8_isDuty 1 = .ok (.iconst 1, 1) := by decide +kernel
theorem dX8_isDuty_2 : decode cX8_isDuty 2 = .ok (.ldc 65, 2) := by decide +kernel
theorem dX8_isDuty_4 : decode cX8_isDuty 4 = .ok (.invokestatic 22, 3) := by decide +kernel
theorem dX8_isDuty_7 : decode cX8_isDuty 7 = .ok (.ireturn, 1) := by decide +kernel
theorem dX8_addsGood_0 : decode cX8_addsGood 0 = .ok (.iload_n 1, 1) := by decide +kernel
theorem dX8_addsGood_1 : decode cX8_addsGood 1 = .ok (.invokestatic 66, 3) := by decide +kernel
theorem dX8_addsGood_4 : decode cX8_addsGood 4 = .ok (.ifCond .ne 5, 3) := by decide +kernel
theorem dX8_addsGood_7 : decode cX8_addsGood 7 = .ok (.iconst (-1), 1) := by decide +kernel
theorem dX8_addsGood_8 : decode cX8_addsGood 8 = .ok (.ireturn, 1) := by decide +kernel
theorem dX8_addsGood_9 : decode cX8_addsGood 9 = .ok (.aload_n 0, 1) := by decide +kernel
theorem dX8_addsGood_10 : decode cX8_addsGood 10 = .ok (.getfield 7, 3) := by decide +kernel
theorem dX8_addsGood_13 : decode cX8_addsGood 13 = .ok (.iconst 5, 1) := by decide +kernel
theorem dX8_addsGood_14 : decode cX8_addsGood 14 = .ok (.iaload, 1) := by decide +kernel
theorem dX8_addsGood_15 : decode cX8_addsGood 15 = .ok (.bipush 8, 2) := by decide +kernel
theorem dX8_addsGood_17 : decode cX8_addsGood 17 = .ok (.if_icmp .ne 6, 3) := by decide +kernel
theorem dX8_addsGood_20 : decode cX8_addsGood 20 = .ok (.bipush (-3), 2) := by decide +kernel
theorem dX8_addsGood_22 : decode cX8_addsGood 22 = .ok (.ireturn, 1) := by decide +kernel
theorem dX8_addsGood_23 : decode cX8_addsGood 23 = .ok (.aload_n 0, 1) := by decide +kernel
theorem dX8_addsGood_24 : decode cX8_addsGood 24 = .ok (.getfield 7, 3) := by decide +kernel
theorem dX8_addsGood_27 : decode cX8_addsGood 27 = .ok (.bipush 104, 2) := by decide +kernel
theorem dX8_addsGood_29 : decode cX8_addsGood 29 = .ok (.aload_n 0, 1) := by decide +kernel
theorem dX8_addsGood_30 : decode cX8_addsGood 30 = .ok (.getfield 7, 3) := by decide +kernel
theorem dX8_addsGood_33 : decode cX8_addsGood 33 = .ok (.iconst 5, 1) := by decide +kernel
theorem dX8_addsGood_34 : decode cX8_addsGood 34 = .ok (.iaload, 1) := by decide +kernel
theorem dX8_addsGood_35 : decode cX8_addsGood 35 = .ok (.iadd, 1) := by decide +kernel
theorem dX8_addsGood_36 : decode cX8_addsGood 36 = .ok (.iload_n 1, 1) := by decide +kernel
theorem dX8_addsGood_37 : decode cX8_addsGood 37 = .ok (.iastore, 1) := by decide +kernel
theorem dX8_addsGood_38 : decode cX8_addsGood 38 = .ok (.aload_n 0, 1) := by decide +kernel
theorem dX8_addsGood_39 : decode cX8_addsGood 39 = .ok (.getfield 7, 3) := by decide +kernel
theorem dX8_addsGood_42 : decode cX8_addsGood 42 = .ok (.iconst 5, 1) := by decide +kernel
theorem dX8_addsGood_43 : decode cX8_addsGood 43 = .ok (.dup2, 1) := by decide +kernel
theorem dX8_addsGood_44 : decode cX8_addsGood 44 = .ok (.iaload, 1) := by decide +kernel
theorem dX8_addsGood_45 : decode cX8_addsGood 45 = .ok (.iconst 1, 1) := by decide +kernel
theorem dX8_addsGood_46 : decode cX8_addsGood 46 = .ok (.iadd, 1) := by decide +kernel
theorem dX8_addsGood_47 : decode cX8_addsGood 47 = .ok (.iastore, 1) := by decide +kernel
theorem dX8_addsGood_48 : decode cX8_addsGood 48 = .ok (.aload_n 0, 1) := by decide +kernel
theorem dX8_addsGood_49 : decode cX8_addsGood 49 = .ok (.getfield 7, 3) := by decide +kernel
theorem dX8_addsGood_52 : decode cX8_addsGood 52 = .ok (.iconst 5, 1) := by decide +kernel
theorem dX8_addsGood_53 : decode cX8_addsGood 53 = .ok (.iaload, 1) := by decide +kernel
theorem dX8_addsGood_54 : decode cX8_addsGood 54 = .ok (.iconst 1, 1) := by decide +kernel
theorem dX8_addsGood_55 : decode cX8_addsGood 55 = .ok (.isub, 1) := by decide +kernel
theorem dX8_addsGood_56 : decode cX8_addsGood 56 = .ok (.ireturn, 1) := by decide +kernel
theorem dX8_good_0 : decode cX8_good 0 = .ok (.aload_n 0, 1) := by decide +kernel
theorem dX8_good_1 : decode cX8_good 1 = .ok (.invokevirtual 54, 3) := by decide +kernel
theorem dX8_good_4 : decode cX8_good 4 = .ok (.aload_n 0, 1) := by decide +kernel
theorem dX8_good_5 : decode cX8_good 5 = .ok (.aload_n 0, 1) := by decide +kernel
theorem dX8_good_6 : decode cX8_good 6 = .ok (.iload_n 1, 1) := by decide +kernel
theorem dX8_good_7 : decode cX8_good 7 = .ok (.invokevirtual 69, 3) := by decide +kernel
theorem dX8_good_10 : decode cX8_good 10 = .ok (.invokevirtual 61, 3) := by decide +kernel
theorem dX8_good_13 : decode cX8_good 13 = .ok (.ireturn, 1) := by decide +kernel
theorem dX8_duty_0 : decode cX8_duty 0 = .ok (.aload_n 0, 1) := by decide +kernel
theorem dX8_duty_1 : decode cX8_duty 1 = .ok (.iload_n 1, 1) := by decide +kernel
theorem dX8_duty_2 : decode cX8_duty 2 = .ok (.invokevirtual 72, 3) := by decide +kernel
theorem dX8_duty_5 : decode cX8_duty 5 = .ok (.ifCond .eq 10, 3) := by decide +kernel
theorem dX8_duty_8 : decode cX8_duty 8 = .ok (.iload_n 2, 1) := by decide +kernel
theorem dX8_duty_9 : decode cX8_duty 9 = .ok (.invokestatic 66, 3) := by decide +kernel
theorem dX8_duty_12 : decode cX8_duty 12 = .ok (.ifCond .ne 5, 3) := by decide +kernel
theorem dX8_duty_15 : decode cX8_duty 15 = .ok (.iconst (-1), 1) := by decide +kernel
theorem dX8_duty_16 : decode cX8_duty 16 = .ok (.ireturn, 1) := by decide +kernel
theorem dX8_duty_17 : decode cX8_duty 17 = .ok (.aload_n 0, 1) := by decide +kernel
theorem dX8_duty_18 : decode cX8_duty 18 = .ok (.invokevirtual 54, 3) := by decide +kernel
theorem dX8_duty_21 : decode cX8_duty 21 = .ok (.aload_n 0, 1) := by decide +kernel
theorem dX8_duty_22 : decode cX8_duty 22 = .ok (.getfield 7, 3) := by decide +kernel
theorem dX8_duty_25 : decode cX8_duty 25 = .ok (.bipush 104, 2) := by decide +kernel
theorem dX8_duty_27 : decode cX8_duty 27 = .ok (.iload_n 1, 1) := by decide +kernel
theorem dX8_duty_28 : decode cX8_duty 28 = .ok (.iadd, 1) := by decide +kernel
theorem dX8_duty_29 : decode cX8_duty 29 = .ok (.iaload, 1) := by decide +kernel
theorem dX8_duty_30 : decode cX8_duty 30 = .ok (.istore_n 3, 1) := by decide +kernel
theorem dX8_duty_31 : decode cX8_duty 31 = .ok (.aload_n 0, 1) := by decide +kernel
theorem dX8_duty_32 : decode cX8_duty 32 = .ok (.getfield 7, 3) := by decide +kernel
theorem dX8_duty_35 : decode cX8_duty 35 = .ok (.bipush 104, 2) := by decide +kernel
theorem dX8_duty_37 : decode cX8_duty 37 = .ok (.iload_n 1, 1) := by decide +kernel
theorem dX8_duty_38 : decode cX8_duty 38 = .ok (.iadd, 1) := by decide +kernel
theorem dX8_duty_39 : decode cX8_duty 39 = .ok (.iload_n 2, 1) := by decide +kernel
theorem dX8_duty_40 : decode cX8_duty 40 = .ok (.iastore, 1) := by decide +kernel
theorem dX8_duty_41 : decode cX8_duty 41 = .ok (.aload_n 0, 1) := by decide +kernel
theorem dX8_duty_42 : decode cX8_duty 42 = .ok (.iload_n 3, 1) := by decide +kernel
theorem dX8_duty_43 : decode cX8_duty 43 = .ok (.invokevirtual 61, 3) := by decide +kernel
theorem dX8_duty_46 : decode cX8_duty 46 = .ok (.ireturn, 1) := by decide +kernel
theorem dX8_isMove_0 : decode cX8_isMove 0 = .ok (.aload_n 0, 1) := by decide +kernel
theorem dX8_isMove_1 : decode cX8_isMove 1 = .ok (.iload_n 1, 1) := by decide +kernel
theorem dX8_isMove_2 : decode cX8_isMove 2 = .ok (.invokevirtual 75, 3) := by decide +kernel
theorem dX8_isMove_5 : decode cX8_isMove 5 = .ok (.ifCond .eq 26, 3) := by decide +kernel
theorem dX8_isMove_8 : decode cX8_isMove 8 = .ok (.aload_n 0, 1) := by decide +kernel
theorem dX8_isMove_9 : decode cX8_isMove 9 = .ok (.iload_n 2, 1) := by decide +kernel
theorem dX8_isMove_10 : decode cX8_isMove 10 = .ok (.invokevirtual 72, 3) := by decide +kernel
theorem dX8_isMove_13 : decode cX8_isMove 13 = .ok (.ifCond .eq 18, 3) := by decide +kernel
theorem dX8_isMove_16 : decode cX8_isMove 16 = .ok (.iload_n 3, 1) := by decide +kernel
theorem dX8_isMove_17 : decode cX8_isMove 17 = .ok (.iconst 1, 1) := by decide +kernel
theorem dX8_isMove_18 : decode cX8_isMove 18 = .ok (.sipush 9999, 3) := by decide +kernel
theorem dX8_isMove_21 : decode cX8_isMove 21 = .ok (.invokestatic 22, 3) := by decide +kernel
theorem dX8_isMove_24 : decode cX8_isMove 24 = .ok (.ifCond .eq 7, 3) := by decide +kernel
theorem dX8_isMove_27 : decode cX8_isMove 27 = .ok (.iconst 1, 1) := by decide +kernel
theorem dX8_isMove_28 : decode cX8_isMove 28 = .ok (.goto 4, 3) := by decide +kernel
theorem dX8_isMove_31 : decode cX8_isMove 31 = .ok (.iconst 0, 1) := by decide +kernel
theorem dX8_isMove_32 : decode cX8_isMove 32 = .ok (.ireturn, 1) := by decide +kernel
theorem dX8_loads_0 : decode cX8_loads 0 = .ok (.aload_n 0, 1) := by decide +kernel
theorem dX8_loads_1 : decode cX8_loads 1 = .ok (.iload_n 1, 1) := by decide +kernel
theorem dX8_loads_2 : decode cX8_loads 2 = .ok (.iload_n 2, 1) := by decide +kernel
theorem dX8_loads_3 : decode cX8_loads 3 = .ok (.iload_n 3, 1) := by decide +kernel
theorem dX8_loads_4 : decode cX8_loads 4 = .ok (.invokevirtual 78, 3) := by decide +kernel
theorem dX8_loads_7 : decode cX8_loads 7 = .ok (.ifCond .ne 5, 3) := by decide +kernel
theorem dX8_loads_10 : decode cX8_loads 10 = .ok (.iconst (-1), 1) := by decide +kernel
theorem dX8_loads_11 : decode cX8_loads 11 = .ok (.ireturn, 1) := by decide +kernel
theorem dX8_loads_12 : decode cX8_loads 12 = .ok (.aload_n 0, 1) := by decide +kernel
theorem dX8_loads_13 : decode cX8_loads 13 = .ok (.getfield 7, 3) := by decide +kernel
theorem dX8_loads_16 : decode cX8_loads 16 = .ok (.iconst 0, 1) := by decide +kernel
theorem dX8_loads_17 : decode cX8_loads 17 = .ok (.iaload, 1) := by decide +kernel
theorem dX8_loads_18 : decode cX8_loads 18 = .ok (.iconst 2, 1) := by decide +kernel
theorem dX8_loads_19 : decode cX8_loads 19 = .ok (.if_icmp .ne 16, 3) := by decide +kernel
theorem dX8_loads_22 : decode cX8_loads 22 = .ok (.aload_n 0, 1) := by decide +kernel
theorem dX8_loads_23 : decode cX8_loads 23 = .ok (.getfield 7, 3) := by decide +kernel
theorem dX8_loads_26 : decode cX8_loads 26 = .ok (.bipush 14, 2) := by decide +kernel
theorem dX8_loads_28 : decode cX8_loads 28 = .ok (.iload_n 1, 1) := by decide +kernel
theorem dX8_loads_29 : decode cX8_loads 29 = .ok (.iadd, 1) := by decide +kernel
theorem dX8_loads_30 : decode cX8_loads 30 = .ok (.iaload, 1) := by decide +kernel
theorem dX8_loads_31 : decode cX8_loads 31 = .ok (.iconst 2, 1) := by decide +kernel
theorem dX8_loads_32 : decode cX8_loads 32 = .ok (.if_icmp .ne 6, 3) := by decide +kernel
theorem dX8_loads_35 : decode cX8_loads 35 = .ok (.bipush (-2), 2) := by decide +kernel
theorem dX8_loads_37 : decode cX8_loads 37 = .ok (.ireturn, 1) := by decide +kernel
theorem dX8_loads_38 : decode cX8_loads 38 = .ok (.iload_n 3, 1) := by decide +kernel
theorem dX8_loads_39 : decode cX8_loads 39 = .ok (.i2l, 1) := by decide +kernel
theorem dX8_loads_40 : decode cX8_loads 40 = .ok (.aload_n 0, 1) := by decide +kernel
theorem dX8_loads_41 : decode cX8_loads 41 = .ok (.getfield 7, 3) := by decide +kernel
theorem dX8_loads_44 : decode cX8_loads 44 = .ok (.bipush 104, 2) := by decide +kernel
theorem dX8_loads_46 : decode cX8_loads 46 = .ok (.iload_n 2, 1) := by decide +kernel
theorem dX8_loads_47 : decode cX8_loads 47 = .ok (.iadd, 1) := by decide +kernel
theorem dX8_loads_48 : decode cX8_loads 48 = .ok (.iaload, 1) := by decide +kernel
theorem dX8_loads_49 : decode cX8_loads 49 = .ok (.i2l, 1) := by decide +kernel
theorem dX8_loads_50 : decode cX8_loads 50 = .ok (.lmul, 1) := by decide +kernel
theorem dX8_loads_51 : decode cX8_loads 51 = .ok (.lstore 4, 2) := by decide +kernel
theorem dX8_loads_53 : decode cX8_loads 53 = .ok (.aload_n 0, 1) := by decide +kernel
theorem dX8_loads_54 : decode cX8_loads 54 = .ok (.getfield 7, 3) := by decide +kernel
theorem dX8_loads_57 : decode cX8_loads 57 = .ok (.bipush 6, 2) := by decide +kernel
theorem dX8_loads_59 : decode cX8_loads 59 = .ok (.iaload, 1) := by decide +kernel
theorem dX8_loads_60 : decode cX8_loads 60 = .ok (.bipush 60, 2) := by decide +kernel
theorem dX8_loads_62 : decode cX8_loads 62 = .ok (.if_icmp .eq 50, 3) := by decide +kernel
theorem dX8_loads_65 : decode cX8_loads 65 = .ok (.aload_n 0, 1) := by decide +kernel
theorem dX8_loads_66 : decode cX8_loads 66 = .ok (.iconst 1, 1) := by decide +kernel
theorem dX8_loads_67 : decode cX8_loads 67 = .ok (.invokevirtual 46, 3) := by decide +kernel
theorem dX8_loads_70 : decode cX8_loads 70 = .ok (.ifCond .eq 42, 3) := by decide +kernel
theorem dX8_loads_73 : decode cX8_loads 73 = .ok (.aload_n 0, 1) := by decide +kernel
theorem dX8_loads_74 : decode cX8_loads 74 = .ok (.getfield 7, 3) := by decide +kernel
theorem dX8_loads_77 : decode cX8_loads 77 = .ok (.bipush 24, 2) := by decide +kernel
theorem dX8_loads_79 : decode cX8_loads 79 = .ok (.bipush 8, 2) := by decide +kernel
theorem dX8_loads_81 : decode cX8_loads 81 = .ok (.iload_n 1, 1) := by decide +kernel
theorem dX8_loads_82 : decode cX8_loads 82 = .ok (.imul, 1) := by decide +kernel
theorem dX8_loads_83 : decode cX8_loads 83 = .ok (.iadd, 1) := by decide +kernel
theorem dX8_loads_84 : decode cX8_loads 84 = .ok (.iload_n 2, 1) := by decide +kernel
theorem dX8_loads_85 : decode cX8_loads 85 = .ok (.iadd, 1) := by decide +kernel
theorem dX8_loads_86 : decode cX8_loads 86 = .ok (.iaload, 1) := by decide +kernel
theorem dX8_loads_87 : decode cX8_loads 87 = .ok (.iload_n 3, 1) := by decide +kernel
theorem dX8_loads_88 : decode cX8_loads 88 = .ok (.iadd, 1) := by decide +kernel
theorem dX8_loads_89 : decode cX8_loads 89 = .ok (.ldc 81, 2) := by decide +kernel
theorem dX8_loads_91 : decode cX8_loads 91 = .ok (.if_icmp .gt 21, 3) := by decide +kernel
theorem dX8_loads_94 : decode cX8_loads 94 = .ok (.aload_n 0, 1) := by decide +kernel
theorem dX8_loads_95 : decode cX8_loads 95 = .ok (.getfield 7, 3) := by decide +kernel
theorem dX8_loads_98 : decode cX8_loads 98 = .ok (.bipush 9, 2) := by decide +kernel
theorem dX8_loads_100 : decode cX8_loads 100 = .ok (.iaload, 1) := by decide +kernel
theorem dX8_loads_101 : decode cX8_loads 101 = .ok (.i2l, 1) := by decide +kernel
theorem dX8_loads_102 : decode cX8_loads 102 = .ok (.lload 4, 2) := by decide +kernel
theorem dX8_loads_104 : decode cX8_loads 104 = .ok (.ladd, 1) := by decide +kernel
theorem dX8_loads_105 : decode cX8_loads 105 = .ok (.ldc2_w 82, 3) := by decide +kernel
theorem dX8_loads_108 : decode cX8_loads 108 = .ok (.lcmp, 1) := by decide +kernel
theorem dX8_loads_109 : decode cX8_loads 109 = .ok (.ifCond .le 6, 3) := by decide +kernel
theorem dX8_loads_112 : decode cX8_loads 112 = .ok (.bipush (-3), 2) := by decide +kernel
theorem dX8_loads_114 : decode cX8_loads 114 = .ok (.ireturn, 1) := by decide +kernel
theorem dX8_loads_115 : decode cX8_loads 115 = .ok (.aload_n 0, 1) := by decide +kernel
theorem dX8_loads_116 : decode cX8_loads 116 = .ok (.getfield 7, 3) := by decide +kernel
theorem dX8_loads_119 : decode cX8_loads 119 = .ok (.bipush 6, 2) := by decide +kernel
theorem dX8_loads_121 : decode cX8_loads 121 = .ok (.iaload, 1) := by decide +kernel
theorem dX8_loads_122 : decode cX8_loads 122 = .ok (.istore 6, 2) := by decide +kernel
theorem dX8_loads_124 : decode cX8_loads 124 = .ok (.aload_n 0, 1) := by decide +kernel
theorem dX8_loads_125 : decode cX8_loads 125 = .ok (.iload_n 1, 1) := by decide +kernel
theorem dX8_loads_126 : decode cX8_loads 126 = .ok (.iconst 2, 1) := by decide +kernel
theorem dX8_loads_127 : decode cX8_loads 127 = .ok (.invokevirtual 84, 3) := by decide +kernel
theorem dX8_loads_130 : decode cX8_loads 130 = .ok (.aload_n 0, 1) := by decide +kernel
theorem dX8_loads_131 : decode cX8_loads 131 = .ok (.getfield 7, 3) := by decide +kernel
theorem dX8_loads_134 : decode cX8_loads 134 = .ok (.sipush 152, 3) := by decide +kernel
theorem dX8_loads_137 : decode cX8_loads 137 = .ok (.iload 6, 2) := by decide +kernel
theorem dX8_loads_139 : decode cX8_loads 139 = .ok (.iadd, 1) := by decide +kernel
theorem dX8_loads_140 : decode cX8_loads 140 = .ok (.iload_n 2, 1) := by decide +kernel
theorem dX8_loads_141 : decode cX8_loads 141 = .ok (.iastore, 1) := by decide +kernel
theorem dX8_loads_142 : decode cX8_loads 142 = .ok (.aload_n 0, 1) := by decide +kernel
theorem dX8_loads_143 : decode cX8_loads 143 = .ok (.getfield 7, 3) := by decide +kernel
theorem dX8_loads_146 : decode cX8_loads 146 = .ok (.sipush 212, 3) := by decide +kernel
theorem dX8_loads_149 : decode cX8_loads 149 = .ok (.iload 6, 2) := by decide +kernel
theorem dX8_loads_151 : decode cX8_loads 151 = .ok (.iadd, 1) := by decide +kernel
theorem dX8_loads_152 : decode cX8_loads 152 = .ok (.iload_n 3, 1) := by decide +kernel
theorem dX8_loads_153 : decode cX8_loads 153 = .ok (.iastore, 1) := by decide +kernel
theorem dX8_loads_154 : decode cX8_loads 154 = .ok (.aload_n 0, 1) := by decide +kernel
theorem dX8_loads_155 : decode cX8_loads 155 = .ok (.getfield 7, 3) := by decide +kernel
theorem dX8_loads_158 : decode cX8_loads 158 = .ok (.sipush 272, 3) := by decide +kernel
theorem dX8_loads_161 : decode cX8_loads 161 = .ok (.iload 6, 2) := by decide +kernel
theorem dX8_loads_163 : decode cX8_loads 163 = .ok (.iadd, 1) := by decide +kernel
theorem dX8_loads_164 : decode cX8_loads 164 = .ok (.iload_n 3, 1) := by decide +kernel
theorem dX8_loads_165 : decode cX8_loads 165 = .ok (.iastore, 1) := by decide +kernel
theorem dX8_loads_166 : decode cX8_loads 166 = .ok (.aload_n 0, 1) := by decide +kernel
theorem dX8_loads_167 : decode cX8_loads 167 = .ok (.getfield 7, 3) := by decide +kernel
theorem dX8_loads_170 : decode cX8_loads 170 = .ok (.sipush 332, 3) := by decide +kernel
theorem dX8_loads_173 : decode cX8_loads 173 = .ok (.iload 6, 2) := by decide +kernel
theorem dX8_loads_175 : decode cX8_loads 175 = .ok (.iadd, 1) := by decide +kernel
theorem dX8_loads_176 : decode cX8_loads 176 = .ok (.aload_n 0, 1) := by decide +kernel
theorem dX8_loads_177 : decode cX8_loads 177 = .ok (.getfield 7, 3) := by decide +kernel
theorem dX8_loads_180 : decode cX8_loads 180 = .ok (.bipush 104, 2) := by decide +kernel
theorem dX8_loads_182 : decode cX8_loads 182 = .ok (.iload_n 2, 1) := by decide +kernel
theorem dX8_loads_183 : decode cX8_loads 183 = .ok (.iadd, 1) := by decide +kernel
theorem dX8_loads_184 : decode cX8_loads 184 = .ok (.iaload, 1) := by decide +kernel
theorem dX8_loads_185 : decode cX8_loads 185 = .ok (.iastore, 1) := by decide +kernel
theorem dX8_loads_186 : decode cX8_loads 186 = .ok (.aload_n 0, 1) := by decide +kernel
theorem dX8_loads_187 : decode cX8_loads 187 = .ok (.getfield 7, 3) := by decide +kernel
theorem dX8_loads_190 : decode cX8_loads 190 = .ok (.sipush 392, 3) := by decide +kernel
theorem dX8_loads_193 : decode cX8_loads 193 = .ok (.iload 6, 2) := by decide +kernel
theorem dX8_loads_195 : decode cX8_loads 195 = .ok (.iadd, 1) := by decide +kernel
theorem dX8_loads_196 : decode cX8_loads 196 = .ok (.aload_n 0, 1) := by decide +kernel
theorem dX8_loads_197 : decode cX8_loads 197 = .ok (.getfield 7, 3) := by decide +kernel
theorem dX8_loads_200 : decode cX8_loads 200 = .ok (.iconst 1, 1) := by decide +kernel
theorem dX8_loads_201 : decode cX8_loads 201 = .ok (.iaload, 1) := by decide +kernel
theorem dX8_loads_202 : decode cX8_loads 202 = .ok (.aload_n 0, 1) := by decide +kernel
theorem dX8_loads_203 : decode cX8_loads 203 = .ok (.getfield 7, 3) := by decide +kernel
theorem dX8_loads_206 : decode cX8_loads 206 = .ok (.iconst 3, 1) := by decide +kernel
theorem dX8_loads_207 : decode cX8_loads 207 = .ok (.iaload, 1) := by decide +kernel
theorem dX8_loads_208 : decode cX8_loads 208 = .ok (.iadd, 1) := by decide +kernel
theorem dX8_loads_209 : decode cX8_loads 209 = .ok (.iastore, 1) := by decide +kernel
theorem dX8_loads_210 : decode cX8_loads 210 = .ok (.aload_n 0, 1) := by decide +kernel
theorem dX8_loads_211 : decode cX8_loads 211 = .ok (.getfield 7, 3) := by decide +kernel
theorem dX8_loads_214 : decode cX8_loads 214 = .ok (.bipush 6, 2) := by decide +kernel
theorem dX8_loads_216 : decode cX8_loads 216 = .ok (.dup2, 1) := by decide +kernel
theorem dX8_loads_217 : decode cX8_loads 217 = .ok (.iaload, 1) := by decide +kernel
theorem dX8_loads_218 : decode cX8_loads 218 = .ok (.iconst 1, 1) := by decide +kernel
theorem dX8_loads_219 : decode cX8_loads 219 = .ok (.iadd, 1) := by decide +kernel
theorem dX8_loads_220 : decode cX8_loads 220 = .ok (.iastore, 1) := by decide +kernel
theorem dX8_loads_221 : decode cX8_loads 221 = .ok (.aload_n 0, 1) := by decide +kernel
theorem dX8_loads_222 : decode cX8_loads 222 = .ok (.getfield 7, 3) := by decide +kernel
theorem dX8_loads_225 : decode cX8_loads 225 = .ok (.bipush 9, 2) := by decide +kernel
theorem dX8_loads_227 : decode cX8_loads 227 = .ok (.dup2, 1) := by decide +kernel
theorem dX8_loads_228 : decode cX8_loads 228 = .ok (.iaload, 1) := by decide +kernel
theorem dX8_loads_229 : decode cX8_loads 229 = .ok (.lload 4, 2) := by decide +kernel
theorem dX8_loads_231 : decode cX8_loads 231 = .ok (.l2i, 1) := by decide +kernel
theorem dX8_loads_232 : decode cX8_loads 232 = .ok (.iadd, 1) := by decide +kernel
theorem dX8_loads_233 : decode cX8_loads 233 = .ok (.iastore, 1) := by decide +kernel
theorem dX8_loads_234 : decode cX8_loads 234 = .ok (.aload_n 0, 1) := by decide +kernel
theorem dX8_loads_235 : decode cX8_loads 235 = .ok (.getfield 7, 3) := by decide +kernel
theorem dX8_loads_238 : decode cX8_loads 238 = .ok (.bipush 112, 2) := by decide +kernel
theorem dX8_loads_240 : decode cX8_loads 240 = .ok (.iload_n 2, 1) := by decide +kernel
theorem dX8_loads_241 : decode cX8_loads 241 = .ok (.iadd, 1) := by decide +kernel
theorem dX8_loads_242 : decode cX8_loads 242 = .ok (.dup2, 1) := by decide +kernel
theorem dX8_loads_243 : decode cX8_loads 243 = .ok (.iaload, 1) := by decide +kernel
theorem dX8_loads_244 : decode cX8_loads 244 = .ok (.iload_n 3, 1) := by decide +kernel
theorem dX8_loads_245 : decode cX8_loads 245 = .ok (.iadd, 1) := by decide +kernel
theorem dX8_loads_246 : decode cX8_loads 246 = .ok (.iastore, 1) := by decide +kernel
theorem dX8_loads_247 : decode cX8_loads 247 = .ok (.aload_n 0, 1) := by decide +kernel
theorem dX8_loads_248 : decode cX8_loads 248 = .ok (.getfield 7, 3) := by decide +kernel
theorem dX8_loads_251 : decode cX8_loads 251 = .ok (.bipush 24, 2) := by decide +kernel
theorem dX8_loads_253 : decode cX8_loads 253 = .ok (.bipush 8, 2) := by decide +kernel
theorem dX8_loads_255 : decode cX8_loads 255 = .ok (.iload_n 1, 1) := by decide +kernel
theorem dX8_loads_256 : decode cX8_loads 256 = .ok (.imul, 1) := by decide +kernel
theorem dX8_loads_257 : decode cX8_loads 257 = .ok (.iadd, 1) := by decide +kernel
theorem dX8_loads_258 : decode cX8_loads 258 = .ok (.iload_n 2, 1) := by decide +kernel
theorem dX8_loads_259 : decode cX8_loads 259 = .ok (.iadd, 1) := by decide +kernel
theorem dX8_loads_260 : decode cX8_loads 260 = .ok (.dup2, 1) := by decide +kernel
theorem dX8_loads_261 : decode cX8_loads 261 = .ok (.iaload, 1) := by decide +kernel
theorem dX8_loads_262 : decode cX8_loads 262 = .ok (.iload_n 3, 1) := by decide +kernel
theorem dX8_loads_263 : decode cX8_loads 263 = .ok (.iadd, 1) := by decide +kernel
theorem dX8_loads_264 : decode cX8_loads 264 = .ok (.iastore, 1) := by decide +kernel
theorem dX8_loads_265 : decode cX8_loads 265 = .ok (.aload_n 0, 1) := by decide +kernel
theorem dX8_loads_266 : decode cX8_loads 266 = .ok (.iload_n 1, 1) := by decide +kernel
theorem dX8_loads_267 : decode cX8_loads 267 = .ok (.invokevirtual 50, 3) := by decide +kernel
theorem dX8_loads_270 : decode cX8_loads 270 = .ok (.iload 6, 2) := by decide +kernel
theorem dX8_loads_272 : decode cX8_loads 272 = .ok (.ireturn, 1) := by decide +kernel
theorem dX8_load_0 : decode cX8_load 0 = .ok (.aload_n 0, 1) := by decide +kernel
theorem dX8_load_1 : decode cX8_load 1 = .ok (.invokevirtual 54, 3) := by decide +kernel
theorem dX8_load_4 : decode cX8_load 4 = .ok (.aload_n 0, 1) := by decide +kernel
theorem dX8_load_5 : decode cX8_load 5 = .ok (.aload_n 0, 1) := by decide +kernel
theorem dX8_load_6 : decode cX8_load 6 = .ok (.iload_n 1, 1) := by decide +kernel
theorem dX8_load_7 : decode cX8_load 7 = .ok (.iload_n 2, 1) := by decide +kernel
theorem dX8_load_8 : decode cX8_load 8 = .ok (.iload_n 3, 1) := by decide +kernel
theorem dX8_load_9 : decode cX8_load 9 = .ok (.invokevirtual 88, 3) := by decide +kernel
theorem dX8_load_12 : decode cX8_load 12 = .ok (.invokevirtual 61, 3) := by decide +kernel
theorem dX8_load_15 : decode cX8_load 15 = .ok (.ireturn, 1) := by decide +kernel
theorem dX8_sum_0 : decode cX8_sum 0 = .ok (.iconst 0, 1) := by decide +kernel
theorem dX8_sum_1 : decode cX8_sum 1 = .ok (.istore_n 2, 1) := by decide +kernel
theorem dX8_sum_2 : decode cX8_sum 2 = .ok (.iconst 0, 1) := by decide +kernel
theorem dX8_sum_3 : decode cX8_sum 3 = .ok (.istore_n 3, 1) := by decide +kernel
theorem dX8_sum_4 : decode cX8_sum 4 = .ok (.iload_n 3, 1) := by decide +kernel
theorem dX8_sum_5 : decode cX8_sum 5 = .ok (.bipush 8, 2) := by decide +kernel
theorem dX8_sum_7 : decode cX8_sum 7 = .ok (.if_icmp .ge 20, 3) := by decide +kernel
theorem dX8_sum_10 : decode cX8_sum 10 = .ok (.iload_n 2, 1) := by decide +kernel
theorem dX8_sum_11 : decode cX8_sum 11 = .ok (.aload_n 0, 1) := by decide +kernel
theorem dX8_sum_12 : decode cX8_sum 12 = .ok (.getfield 7, 3) := by decide +kernel
theorem dX8_sum_15 : decode cX8_sum 15 = .ok (.iload_n 1, 1) := by decide +kernel
theorem dX8_sum_16 : decode cX8_sum 16 = .ok (.iload_n 3, 1) := by decide +kernel
theorem dX8_sum_17 : decode cX8_sum 17 = .ok (.iadd, 1) := by decide +kernel
theorem dX8_sum_18 : decode cX8_sum 18 = .ok (.iaload, 1) := by decide +kernel
theorem dX8_sum_19 : decode cX8_sum 19 = .ok (.iadd, 1) := by decide +kernel
theorem dX8_sum_20 : decode cX8_sum 20 = .ok (.istore_n 2, 1) := by decide +kernel
theorem dX8_sum_21 : decode cX8_sum 21 = .ok (.iinc 3 1, 3) := by decide +kernel
theorem dX8_sum_24 : decode cX8_sum 24 = .ok (.goto (-20), 3) := by decide +kernel
theorem dX8_sum_27 : decode cX8_sum 27 = .ok (.iload_n 2, 1) := by decide +kernel
theorem dX8_sum_28 : decode cX8_sum 28 = .ok (.ireturn, 1) := by decide +kernel
theorem dX8_lockerOf_0 : decode cX8_lockerOf 0 = .ok (.aload_n 0, 1) := by decide +kernel
theorem dX8_lockerOf_1 : decode cX8_lockerOf 1 = .ok (.iload_n 1, 1) := by decide +kernel
theorem dX8_lockerOf_2 : decode cX8_lockerOf 2 = .ok (.invokevirtual 75, 3) := by decide +kernel
theorem dX8_lockerOf_5 : decode cX8_lockerOf 5 = .ok (.ifCond .eq 27, 3) := by decide +kernel
theorem dX8_lockerOf_8 : decode cX8_lockerOf 8 = .ok (.iload_n 2, 1) := by decide +kernel
theorem dX8_lockerOf_9 : decode cX8_lockerOf 9 = .ok (.iconst 0, 1) := by decide +kernel
theorem dX8_lockerOf_10 : decode cX8_lockerOf 10 = .ok (.bipush 11, 2) := by decide +kernel
theorem dX8_lockerOf_12 : decode cX8_lockerOf 12 = .ok (.invokestatic 22, 3) := by decide +kernel
theorem dX8_lockerOf_15 : decode cX8_lockerOf 15 = .ok (.ifCond .eq 17, 3) := by decide +kernel
theorem dX8_lockerOf_18 : decode cX8_lockerOf 18 = .ok (.iload_n 2, 1) := by decide +kernel
theorem dX8_lockerOf_19 : decode cX8_lockerOf 19 = .ok (.bipush 8, 2) := by decide +kernel
theorem dX8_lockerOf_21 : decode cX8_lockerOf 21 = .ok (.if_icmp .ge 13, 3) := by decide +kernel
theorem dX8_lockerOf_24 : decode cX8_lockerOf 24 = .ok (.aload_n 0, 1) := by decide +kernel
theorem dX8_lockerOf_25 : decode cX8_lockerOf 25 = .ok (.iload_n 2, 1) := by decide +kernel
theorem dX8_lockerOf_26 : decode cX8_lockerOf 26 = .ok (.invokevirtual 72, 3) := by decide +kernel
theorem dX8_lockerOf_29 : decode cX8_lockerOf 29 = .ok (.ifCond .ne 5, 3) := by decide +kernel
theorem dX8_lockerOf_32 : decode cX8_lockerOf 32 = .ok (.iconst (-1), 1) := by decide +kernel
theorem dX8_lockerOf_33 : decode cX8_lockerOf 33 = .ok (.ireturn, 1) := by decide +kernel
theorem dX8_lockerOf_34 : decode cX8_lockerOf 34 = .ok (.bipush 24, 2) := by decide +kernel
theorem dX8_lockerOf_36 : decode cX8_lockerOf 36 = .ok (.bipush 8, 2) := by decide +kernel
theorem dX8_lockerOf_38 : decode cX8_lockerOf 38 = .ok (.iload_n 1, 1) := by decide +kernel
theorem dX8_lockerOf_39 : decode cX8_lockerOf 39 = .ok (.imul, 1) := by decide +kernel
theorem dX8_lockerOf_40 : decode cX8_lockerOf 40 = .ok (.iadd, 1) := by decide +kernel
theorem dX8_lockerOf_41 : decode cX8_lockerOf 41 = .ok (.istore_n 3, 1) := by decide +kernel
theorem dX8_lockerOf_42 : decode cX8_lockerOf 42 = .ok (.iload_n 2, 1) := by decide +kernel
theorem dX8_lockerOf_43 : decode cX8_lockerOf 43 = .ok (.tableswitch 85 8 11 #[29, 39, 67, 73], 29) := by decide +kernel
theorem dX8_lockerOf_72 : decode cX8_lockerOf 72 = .ok (.aload_n 0, 1) := by decide +kernel
theorem dX8_lockerOf_73 : decode cX8_lockerOf 73 = .ok (.getfield 7, 3) := by decide +kernel
theorem dX8_lockerOf_76 : decode cX8_lockerOf 76 = .ok (.bipush 14, 2) := by decide +kernel
theorem dX8_lockerOf_78 : decode cX8_lockerOf 78 = .ok (.iload_n 1, 1) := by decide +kernel
theorem dX8_lockerOf_79 : decode cX8_lockerOf 79 = .ok (.iadd, 1) := by decide +kernel
theorem dX8_lockerOf_80 : decode cX8_lockerOf 80 = .ok (.iaload, 1) := by decide +kernel
theorem dX8_lockerOf_81 : decode cX8_lockerOf 81 = .ok (.ireturn, 1) := by decide +kernel
theorem dX8_lockerOf_82 : decode cX8_lockerOf 82 = .ok (.aload_n 0, 1) := by decide +kernel
theorem dX8_lockerOf_83 : decode cX8_lockerOf 83 = .ok (.getfield 7, 3) := by decide +kernel
theorem dX8_lockerOf_86 : decode cX8_lockerOf 86 = .ok (.bipush 14, 2) := by decide +kernel
theorem dX8_lockerOf_88 : decode cX8_lockerOf 88 = .ok (.iload_n 1, 1) := by decide +kernel
theorem dX8_lockerOf_89 : decode cX8_lockerOf 89 = .ok (.iadd, 1) := by decide +kernel
theorem dX8_lockerOf_90 : decode cX8_lockerOf 90 = .ok (.iaload, 1) := by decide +kernel
theorem dX8_lockerOf_91 : decode cX8_lockerOf 91 = .ok (.iconst 1, 1) := by decide +kernel
theorem dX8_lockerOf_92 : decode cX8_lockerOf 92 = .ok (.if_icmp .ne 15, 3) := by decide +kernel
theorem dX8_lockerOf_95 : decode cX8_lockerOf 95 = .ok (.aload_n 0, 1) := by decide +kernel
theorem dX8_lockerOf_96 : decode cX8_lockerOf 96 = .ok (.getfield 7, 3) := by decide +kernel
theorem dX8_lockerOf_99 : decode cX8_lockerOf 99 = .ok (.bipush 19, 2) := by decide +kernel
theorem dX8_lockerOf_101 : decode cX8_lockerOf 101 = .ok (.iload_n 1, 1) := by decide +kernel
theorem dX8_lockerOf_102 : decode cX8_lockerOf 102 = .ok (.iadd, 1) := by decide +kernel
theorem dX8_lockerOf_103 : decode cX8_lockerOf 103 = .ok (.iaload, 1) := by decide +kernel
theorem dX8_lockerOf_104 : decode cX8_lockerOf 104 = .ok (.goto 5, 3) := by decide +kernel
theorem dX8_lockerOf_107 : decode cX8_lockerOf 107 = .ok (.bipush (-4), 2) := by decide +kernel
theorem dX8_lockerOf_109 : decode cX8_lockerOf 109 = .ok (.ireturn, 1) := by decide +kernel
theorem dX8_lockerOf_110 : decode cX8_lockerOf 110 = .ok (.aload_n 0, 1) := by decide +kernel
theorem dX8_lockerOf_111 : decode cX8_lockerOf 111 = .ok (.iload_n 3, 1) := by decide +kernel
theorem dX8_lockerOf_112 : decode cX8_lockerOf 112 = .ok (.invokevirtual 91, 3) := by decide +kernel
theorem dX8_lockerOf_115 : decode cX8_lockerOf 115 = .ok (.ireturn, 1) := by decide +kernel
theorem dX8_lockerOf_116 : decode cX8_lockerOf 116 = .ok (.aload_n 0, 1) := by decide +kernel
theorem dX8_lockerOf_117 : decode cX8_lockerOf 117 = .ok (.bipush 64, 2) := by decide +kernel
theorem dX8_lockerOf_119 : decode cX8_lockerOf 119 = .ok (.bipush 8, 2) := by decide +kernel
theorem dX8_lockerOf_121 : decode cX8_lockerOf 121 = .ok (.iload_n 1, 1) := by decide +kernel
theorem dX8_lockerOf_122 : decode cX8_lockerOf 122 = .ok (.imul, 1) := by decide +kernel
theorem dX8_lockerOf_123 : decode cX8_lockerOf 123 = .ok (.iadd, 1) := by decide +kernel
theorem dX8_lockerOf_124 : decode cX8_lockerOf 124 = .ok (.invokevirtual 91, 3) := by decide +kernel
theorem dX8_lockerOf_127 : decode cX8_lockerOf 127 = .ok (.ireturn, 1) := by decide +kernel
theorem dX8_lockerOf_128 : decode cX8_lockerOf 128 = .ok (.aload_n 0, 1) := by decide +kernel
theorem dX8_lockerOf_129 : decode cX8_lockerOf 129 = .ok (.getfield 7, 3) := by decide +kernel
theorem dX8_lockerOf_132 : decode cX8_lockerOf 132 = .ok (.iload_n 3, 1) := by decide +kernel
theorem dX8_lockerOf_133 : decode cX8_lockerOf 133 = .ok (.iload_n 2, 1) := by decide +kernel
theorem dX8_lockerOf_134 : decode cX8_lockerOf 134 = .ok (.iadd, 1) := by decide +kernel
theorem dX8_lockerOf_135 : decode cX8_lockerOf 135 = .ok (.iaload, 1) := by decide +kernel
theorem dX8_lockerOf_136 : decode cX8_lockerOf 136 = .ok (.ireturn, 1) := by decide +kernel
theorem dX8_missing_0 : decode cX8_missing 0 = .ok (.aload_n 0, 1) := by decide +kernel
theorem dX8_missing_1 : decode cX8_missing 1 = .ok (.iload_n 1, 1) := by decide +kernel
theorem dX8_missing_2 : decode cX8_missing 2 = .ok (.invokevirtual 75, 3) := by decide +kernel
theorem dX8_missing_5 : decode cX8_missing 5 = .ok (.ifCond .eq 28, 3) := by decide +kernel
theorem dX8_missing_8 : decode cX8_missing 8 = .ok (.aload_n 0, 1) := by decide +kernel
theorem dX8_missing_9 : decode cX8_missing 9 = .ok (.iload_n 2, 1) := by decide +kernel
theorem dX8_missing_10 : decode cX8_missing 10 = .ok (.invokevirtual 72, 3) := by decide +kernel
theorem dX8_missing_13 : decode cX8_missing 13 = .ok (.ifCond .eq 20, 3) := by decide +kernel
theorem dX8_missing_16 : decode cX8_missing 16 = .ok (.aload_n 0, 1) := by decide +kernel
theorem dX8_missing_17 : decode cX8_missing 17 = .ok (.getfield 7, 3) := by decide +kernel
theorem dX8_missing_20 : decode cX8_missing 20 = .ok (.bipush 64, 2) := by decide +kernel
theorem dX8_missing_22 : decode cX8_missing 22 = .ok (.bipush 8, 2) := by decide +kernel
theorem dX8_missing_24 : decode cX8_missing 24 = .ok (.iload_n 1, 1) := by decide +kernel
theorem dX8_missing_25 : decode cX8_missing 25 = .ok (.imul, 1) := by decide +kernel
theorem dX8_missing_26 : decode cX8_missing 26 = .ok (.iadd, 1) := by decide +kernel
theorem dX8_missing_27 : decode cX8_missing 27 = .ok (.iload_n 2, 1) := by decide +kernel
theorem dX8_missing_28 : decode cX8_missing 28 = .ok (.iadd, 1) := by decide +kernel
theorem dX8_missing_29 : decode cX8_missing 29 = .ok (.iaload, 1) := by decide +kernel
theorem dX8_missing_30 : decode cX8_missing 30 = .ok (.goto 4, 3) := by decide +kernel
theorem dX8_missing_33 : decode cX8_missing 33 = .ok (.iconst (-1), 1) := by decide +kernel
theorem dX8_missing_34 : decode cX8_missing 34 = .ok (.ireturn, 1) := by decide +kernel
theorem dX8_seal_0 : decode cX8_seal 0 = .ok (.iload_n 1, 1) := by decide +kernel
theorem dX8_seal_1 : decode cX8_seal 1 = .ok (.iconst 1, 1) := by decide +kernel
theorem dX8_seal_2 : decode cX8_seal 2 = .ok (.aload_n 0, 1) := by decide +kernel
theorem dX8_seal_3 : decode cX8_seal 3 = .ok (.getfield 7, 3) := by decide +kernel
theorem dX8_seal_6 : decode cX8_seal 6 = .ok (.bipush 7, 2) := by decide +kernel
theorem dX8_seal_8 : decode cX8_seal 8 = .ok (.iaload, 1) := by decide +kernel
theorem dX8_seal_9 : decode cX8_seal 9 = .ok (.invokestatic 22, 3) := by decide +kernel
theorem dX8_seal_12 : decode cX8_seal 12 = .ok (.ifCond .eq 12, 3) := by decide +kernel
theorem dX8_seal_15 : decode cX8_seal 15 = .ok (.iload_n 2, 1) := by decide +kernel
theorem dX8_seal_16 : decode cX8_seal 16 = .ok (.iconst 0, 1) := by decide +kernel
theorem dX8_seal_17 : decode cX8_seal 17 = .ok (.iconst 2, 1) := by decide +kernel
theorem dX8_seal_18 : decode cX8_seal 18 = .ok (.invokestatic 22, 3) := by decide +kernel
theorem dX8_seal_21 : decode cX8_seal 21 = .ok (.ifCond .ne 5, 3) := by decide +kernel
theorem dX8_seal_24 : decode cX8_seal 24 = .ok (.iconst (-1), 1) := by decide +kernel
theorem dX8_seal_25 : decode cX8_seal 25 = .ok (.ireturn, 1) := by decide +kernel
theorem dX8_seal_26 : decode cX8_seal 26 = .ok (.iload_n 2, 1) := by decide +kernel
theorem dX8_seal_27 : decode cX8_seal 27 = .ok (.ifCond .ne 16, 3) := by decide +kernel
theorem dX8_seal_30 : decode cX8_seal 30 = .ok (.aload_n 0, 1) := by decide +kernel
theorem dX8_seal_31 : decode cX8_seal 31 = .ok (.getfield 7, 3) := by decide +kernel
theorem dX8_seal_34 : decode cX8_seal 34 = .ok (.sipush 452, 3) := by decide +kernel
theorem dX8_seal_37 : decode cX8_seal 37 = .ok (.iload_n 1, 1) := by decide +kernel
theorem dX8_seal_38 : decode cX8_seal 38 = .ok (.iadd, 1) := by decide +kernel
theorem dX8_seal_39 : decode cX8_seal 39 = .ok (.iaload, 1) := by decide +kernel
theorem dX8_seal_40 : decode cX8_seal 40 = .ok (.goto 31, 3) := by decide +kernel
theorem dX8_seal_43 : decode cX8_seal 43 = .ok (.iload_n 2, 1) := by decide +kernel
theorem dX8_seal_44 : decode cX8_seal 44 = .ok (.iconst 1, 1) := by decide +kernel
theorem dX8_seal_45 : decode cX8_seal 45 = .ok (.if_icmp .ne 16, 3) := by decide +kernel
theorem dX8_seal_48 : decode cX8_seal 48 = .ok (.aload_n 0, 1) := by decide +kernel
theorem dX8_seal_49 : decode cX8_seal 49 = .ok (.getfield 7, 3) := by decide +kernel
theorem dX8_seal_52 : decode cX8_seal 52 = .ok (.sipush 653, 3) := by decide +kernel
theorem dX8_seal_55 : decode cX8_seal 55 = .ok (.iload_n 1, 1) := by decide +kernel
theorem dX8_seal_56 : decode cX8_seal 56 = .ok (.iadd, 1) := by decide +kernel
theorem dX8_seal_57 : decode cX8_seal 57 = .ok (.iaload, 1) := by decide +kernel
theorem dX8_seal_58 : decode cX8_seal 58 = .ok (.goto 13, 3) := by decide +kernel
theorem dX8_seal_61 : decode cX8_seal 61 = .ok (.aload_n 0, 1) := by decide +kernel
theorem dX8_seal_62 : decode cX8_seal 62 = .ok (.getfield 7, 3) := by decide +kernel
theorem dX8_seal_65 : decode cX8_seal 65 = .ok (.sipush 854, 3) := by decide +kernel
theorem dX8_seal_68 : decode cX8_seal 68 = .ok (.iload_n 1, 1) := by decide +kernel
theorem dX8_seal_69 : decode cX8_seal 69 = .ok (.iadd, 1) := by decide +kernel
theorem dX8_seal_70 : decode cX8_seal 70 = .ok (.iaload, 1) := by decide +kernel
theorem dX8_seal_71 : decode cX8_seal 71 = .ok (.ireturn, 1) := by decide +kernel
theorem dX8_bond_0 : decode cX8_bond 0 = .ok (.iload_n 1, 1) := by decide +kernel
theorem dX8_bond_1 : decode cX8_bond 1 = .ok (.iconst 0, 1) := by decide +kernel
theorem dX8_bond_2 : decode cX8_bond 2 = .ok (.aload_n 0, 1) := by decide +kernel
theorem dX8_bond_3 : decode cX8_bond 3 = .ok (.getfield 7, 3) := by decide +kernel
theorem dX8_bond_6 : decode cX8_bond 6 = .ok (.bipush 6, 2) := by decide +kernel
theorem dX8_bond_8 : decode cX8_bond 8 = .ok (.iaload, 1) := by decide +kernel
theorem dX8_bond_9 : decode cX8_bond 9 = .ok (.iconst 1, 1) := by decide +kernel
theorem dX8_bond_10 : decode cX8_bond 10 = .ok (.isub, 1) := by decide +kernel
theorem dX8_bond_11 : decode cX8_bond 11 = .ok (.invokestatic 22, 3) := by decide +kernel
theorem dX8_bond_14 : decode cX8_bond 14 = .ok (.ifCond .eq 12, 3) := by decide +kernel
theorem dX8_bond_17 : decode cX8_bond 17 = .ok (.iload_n 2, 1) := by decide +kernel
theorem dX8_bond_18 : decode cX8_bond 18 = .ok (.iconst 0, 1) := by decide +kernel
theorem dX8_bond_19 : decode cX8_bond 19 = .ok (.iconst 5, 1) := by decide +kernel
theorem dX8_bond_20 : decode cX8_bond 20 = .ok (.invokestatic 22, 3) := by decide +kernel
theorem dX8_bond_23 : decode cX8_bond 23 = .ok (.ifCond .ne 5, 3) := by decide +kernel
theorem dX8_bond_26 : decode cX8_bond 26 = .ok (.iconst (-1), 1) := by decide +kernel
theorem dX8_bond_27 : decode cX8_bond 27 = .ok (.ireturn, 1) := by decide +kernel
theorem dX8_bond_28 : decode cX8_bond 28 = .ok (.iload_n 2, 1) := by decide +kernel
theorem dX8_bond_29 : decode cX8_bond 29 = .ok (.tableswitch 101 0 4 #[35, 46, 57, 68, 79], 35) := by decide +kernel
theorem dX8_bond_64 : decode cX8_bond 64 = .ok (.aload_n 0, 1) := by decide +kernel
theorem dX8_bond_65 : decode cX8_bond 65 = .ok (.getfield 7, 3) := by decide +kernel
theorem dX8_bond_68 : decode cX8_bond 68 = .ok (.sipush 152, 3) := by decide +kernel
theorem dX8_bond_71 : decode cX8_bond 71 = .ok (.iload_n 1, 1) := by decide +kernel
theorem dX8_bond_72 : decode cX8_bond 72 = .ok (.iadd, 1) := by decide +kernel
theorem dX8_bond_73 : decode cX8_bond 73 = .ok (.iaload, 1) := by decide +kernel
theorem dX8_bond_74 : decode cX8_bond 74 = .ok (.ireturn, 1) := by decide +kernel
theorem dX8_bond_75 : decode cX8_bond 75 = .ok (.aload_n 0, 1) := by decide +kernel
theorem dX8_bond_76 : decode cX8_bond 76 = .ok (.getfield 7, 3) := by decide +kernel
theorem dX8_bond_79 : decode cX8_bond 79 = .ok (.sipush 212, 3) := by decide +kernel
theorem dX8_bond_82 : decode cX8_bond 82 = .ok (.iload_n 1, 1) := by decide +kernel
theorem dX8_bond_83 : decode cX8_bond 83 = .ok (.iadd, 1) := by decide +kernel
theorem dX8_bond_84 : decode cX8_bond 84 = .ok (.iaload, 1) := by decide +kernel
theorem dX8_bond_85 : decode cX8_bond 85 = .ok (.ireturn, 1) := by decide +kernel
theorem dX8_bond_86 : decode cX8_bond 86 = .ok (.aload_n 0, 1) := by decide +kernel
theorem dX8_bond_87 : decode cX8_bond 87 = .ok (.getfield 7, 3) := by decide +kernel
theorem dX8_bond_90 : decode cX8_bond 90 = .ok (.sipush 272, 3) := by decide +kernel
theorem dX8_bond_93 : decode cX8_bond 93 = .ok (.iload_n 1, 1) := by decide +kernel
theorem dX8_bond_94 : decode cX8_bond 94 = .ok (.iadd, 1) := by decide +kernel
theorem dX8_bond_95 : decode cX8_bond 95 = .ok (.iaload, 1) := by decide +kernel
theorem dX8_bond_96 : decode cX8_bond 96 = .ok (.ireturn, 1) := by decide +kernel
theorem dX8_bond_97 : decode cX8_bond 97 = .ok (.aload_n 0, 1) := by decide +kernel
theorem dX8_bond_98 : decode cX8_bond 98 = .ok (.getfield 7, 3) := by decide +kernel
theorem dX8_bond_101 : decode cX8_bond 101 = .ok (.sipush 332, 3) := by decide +kernel
theorem dX8_bond_104 : decode cX8_bond 104 = .ok (.iload_n 1, 1) := by decide +kernel
theorem dX8_bond_105 : decode cX8_bond 105 = .ok (.iadd, 1) := by decide +kernel
theorem dX8_bond_106 : decode cX8_bond 106 = .ok (.iaload, 1) := by decide +kernel
theorem dX8_bond_107 : decode cX8_bond 107 = .ok (.ireturn, 1) := by decide +kernel
theorem dX8_bond_108 : decode cX8_bond 108 = .ok (.aload_n 0, 1) := by decide +kernel
theorem dX8_bond_109 : decode cX8_bond 109 = .ok (.getfield 7, 3) := by decide +kernel
theorem dX8_bond_112 : decode cX8_bond 112 = .ok (.sipush 272, 3) := by decide +kernel
theorem dX8_bond_115 : decode cX8_bond 115 = .ok (.iload_n 1, 1) := by decide +kernel
theorem dX8_bond_116 : decode cX8_bond 116 = .ok (.iadd, 1) := by decide +kernel
theorem dX8_bond_117 : decode cX8_bond 117 = .ok (.iaload, 1) := by decide +kernel
theorem dX8_bond_118 : decode cX8_bond 118 = .ok (.aload_n 0, 1) := by decide +kernel
theorem dX8_bond_119 : decode cX8_bond 119 = .ok (.getfield 7, 3) := by decide +kernel
theorem dX8_bond_122 : decode cX8_bond 122 = .ok (.sipush 332, 3) := by decide +kernel
theorem dX8_bond_125 : decode cX8_bond 125 = .ok (.iload_n 1, 1) := by decide +kernel
theorem dX8_bond_126 : decode cX8_bond 126 = .ok (.iadd, 1) := by decide +kernel
theorem dX8_bond_127 : decode cX8_bond 127 = .ok (.iaload, 1) := by decide +kernel
theorem dX8_bond_128 : decode cX8_bond 128 = .ok (.imul, 1) := by decide +kernel
theorem dX8_bond_129 : decode cX8_bond 129 = .ok (.ireturn, 1) := by decide +kernel
theorem dX8_bond_130 : decode cX8_bond 130 = .ok (.aload_n 0, 1) := by decide +kernel
theorem dX8_bond_131 : decode cX8_bond 131 = .ok (.getfield 7, 3) := by decide +kernel
theorem dX8_bond_134 : decode cX8_bond 134 = .ok (.sipush 392, 3) := by decide +kernel
theorem dX8_bond_137 : decode cX8_bond 137 = .ok (.iload_n 1, 1) := by decide +kernel
theorem dX8_bond_138 : decode cX8_bond 138 = .ok (.iadd, 1) := by decide +kernel
theorem dX8_bond_139 : decode cX8_bond 139 = .ok (.iaload, 1) := by decide +kernel
theorem dX8_bond_140 : decode cX8_bond 140 = .ok (.ireturn, 1) := by decide +kernel
theorem dX8_nextBond_0 : decode cX8_nextBond 0 = .ok (.aload_n 0, 1) := by decide +kernel
theorem dX8_nextBond_1 : decode cX8_nextBond 1 = .ok (.iload_n 1, 1) := by decide +kernel
theorem dX8_nextBond_2 : decode cX8_nextBond 2 = .ok (.invokevirtual 72, 3) := by decide +kernel
theorem dX8_nextBond_5 : decode cX8_nextBond 5 = .ok (.ifCond .eq 12, 3) := by decide +kernel
theorem dX8_nextBond_8 : decode cX8_nextBond 8 = .ok (.aload_n 0, 1) := by decide +kernel
theorem dX8_nextBond_9 : decode cX8_nextBond 9 = .ok (.iload_n 1, 1) := by decide +kernel
theorem dX8_nextBond_10 : decode cX8_nextBond 10 = .ok (.iconst (-1), 1) := by decide +kernel
theorem dX8_nextBond_11 : decode cX8_nextBond 11 = .ok (.invokevirtual 33, 3) := by decide +kernel
theorem dX8_nextBond_14 : decode cX8_nextBond 14 = .ok (.goto 4, 3) := by decide +kernel
theorem dX8_nextBond_17 : decode cX8_nextBond 17 = .ok (.iconst (-1), 1) := by decide +kernel
theorem dX8_nextBond_18 : decode cX8_nextBond 18 = .ok (.ireturn, 1) := by decide +kernel
theorem dX8_uses_0 : decode cX8_uses 0 = .ok (.aload_n 0, 1) := by decide +kernel
theorem dX8_uses_1 : decode cX8_uses 1 = .ok (.iload_n 1, 1) := by decide +kernel
theorem dX8_uses_2 : decode cX8_uses 2 = .ok (.iload_n 2, 1) := by decide +kernel
theorem dX8_uses_3 : decode cX8_uses 3 = .ok (.iload_n 3, 1) := by decide +kernel
theorem dX8_uses_4 : decode cX8_uses 4 = .ok (.invokevirtual 78, 3) := by decide +kernel
theorem dX8_uses_7 : decode cX8_uses 7 = .ok (.ifCond .ne 5, 3) := by decide +kernel
theorem dX8_uses_10 : decode cX8_uses 10 = .ok (.iconst (-1), 1) := by decide +kernel
theorem dX8_uses_11 : decode cX8_uses 11 = .ok (.ireturn, 1) := by decide +kernel
theorem dX8_uses_12 : decode cX8_uses 12 = .ok (.bipush 24, 2) := by decide +kernel
theorem dX8_uses_14 : decode cX8_uses 14 = .ok (.bipush 8, 2) := by decide +kernel
theorem dX8_uses_16 : decode cX8_uses 16 = .ok (.iload_n 1, 1) := by decide +kernel
theorem dX8_uses_17 : decode cX8_uses 17 = .ok (.imul, 1) := by decide +kernel
theorem dX8_uses_18 : decode cX8_uses 18 = .ok (.iadd, 1) := by decide +kernel
theorem dX8_uses_19 : decode cX8_uses 19 = .ok (.iload_n 2, 1) := by decide +kernel
theorem dX8_uses_20 : decode cX8_uses 20 = .ok (.iadd, 1) := by decide +kernel
theorem dX8_uses_21 : decode cX8_uses 21 = .ok (.istore 4, 2) := by decide +kernel
theorem dX8_uses_23 : decode cX8_uses 23 = .ok (.aload_n 0, 1) := by decide +kernel
theorem dX8_uses_24 : decode cX8_uses 24 = .ok (.getfield 7, 3) := by decide +kernel
theorem dX8_uses_27 : decode cX8_uses 27 = .ok (.iconst 0, 1) := by decide +kernel
theorem dX8_uses_28 : decode cX8_uses 28 = .ok (.iaload, 1) := by decide +kernel
theorem dX8_uses_29 : decode cX8_uses 29 = .ok (.ifCond .ne 14, 3) := by decide +kernel
theorem dX8_uses_32 : decode cX8_uses 32 = .ok (.aload_n 0, 1) := by decide +kernel
theorem dX8_uses_33 : decode cX8_uses 33 = .ok (.getfield 7, 3) := by decide +kernel
theorem dX8_uses_36 : decode cX8_uses 36 = .ok (.iload 4, 2) := by decide +kernel
theorem dX8_uses_38 : decode cX8_uses 38 = .ok (.iaload, 1) := by decide +kernel
theorem dX8_uses_39 : decode cX8_uses 39 = .ok (.iload_n 3, 1) := by decide +kernel
theorem dX8_uses_40 : decode cX8_uses 40 = .ok (.if_icmp .ge 6, 3) := by decide +kernel
theorem dX8_uses_43 : decode cX8_uses 43 = .ok (.bipush (-2), 2) := by decide +kernel
theorem dX8_uses_45 : decode cX8_uses 45 = .ok (.ireturn, 1) := by decide +kernel
theorem dX8_uses_46 : decode cX8_uses 46 = .ok (.aload_n 0, 1) := by decide +kernel
theorem dX8_uses_47 : decode cX8_uses 47 = .ok (.getfield 7, 3) := by decide +kernel
theorem dX8_uses_50 : decode cX8_uses 50 = .ok (.iload 4, 2) := by decide +kernel
theorem dX8_uses_52 : decode cX8_uses 52 = .ok (.dup2, 1) := by decide +kernel
theorem dX8_uses_53 : decode cX8_uses 53 = .ok (.iaload, 1) := by decide +kernel
theorem dX8_uses_54 : decode cX8_uses 54 = .ok (.iload_n 3, 1) := by decide +kernel
theorem dX8_uses_55 : decode cX8_uses 55 = .ok (.isub, 1) := by decide +kernel
theorem dX8_uses_56 : decode cX8_uses 56 = .ok (.iastore, 1) := by decide +kernel
theorem dX8_uses_57 : decode cX8_uses 57 = .ok (.aload_n 0, 1) := by decide +kernel
theorem dX8_uses_58 : decode cX8_uses 58 = .ok (.iload_n 2, 1) := by decide +kernel
theorem dX8_uses_59 : decode cX8_uses 59 = .ok (.iload_n 3, 1) := by decide +kernel
theorem dX8_uses_60 : decode cX8_uses 60 = .ok (.iconst 0, 1) := by decide +kernel
theorem dX8_uses_61 : decode cX8_uses 61 = .ok (.invokevirtual 94, 3) := by decide +kernel
theorem dX8_uses_64 : decode cX8_uses 64 = .ok (.ireturn, 1) := by decide +kernel
theorem dX8_use_0 : decode cX8_use 0 = .ok (.aload_n 0, 1) := by decide +kernel
theorem dX8_use_1 : decode cX8_use 1 = .ok (.invokevirtual 54, 3) := by decide +kernel
theorem dX8_use_4 : decode cX8_use 4 = .ok (.aload_n 0, 1) := by decide +kernel
theorem dX8_use_5 : decode cX8_use 5 = .ok (.aload_n 0, 1) := by decide +kernel
theorem dX8_use_6 : decode cX8_use 6 = .ok (.iload_n 1, 1) := by decide +kernel
theorem dX8_use_7 : decode cX8_use 7 = .ok (.iload_n 2, 1) := by decide +kernel
theorem dX8_use_8 : decode cX8_use 8 = .ok (.iload_n 3, 1) := by decide +kernel
theorem dX8_use_9 : decode cX8_use 9 = .ok (.invokevirtual 97, 3) := by decide +kernel
theorem dX8_use_12 : decode cX8_use 12 = .ok (.invokevirtual 61, 3) := by decide +kernel
theorem dX8_use_15 : decode cX8_use 15 = .ok (.ireturn, 1) := by decide +kernel
theorem dX8_brings_0 : decode cX8_brings 0 = .ok (.aload_n 0, 1) := by decide +kernel
theorem dX8_brings_1 : decode cX8_brings 1 = .ok (.iload_n 1, 1) := by decide +kernel
theorem dX8_brings_2 : decode cX8_brings 2 = .ok (.iload_n 2, 1) := by decide +kernel
theorem dX8_brings_3 : decode cX8_brings 3 = .ok (.iload_n 3, 1) := by decide +kernel
theorem dX8_brings_4 : decode cX8_brings 4 = .ok (.invokevirtual 78, 3) := by decide +kernel
theorem dX8_brings_7 : decode cX8_brings 7 = .ok (.ifCond .ne 5, 3) := by decide +kernel
theorem dX8_brings_10 : decode cX8_brings 10 = .ok (.iconst (-1), 1) := by decide +kernel
theorem dX8_brings_11 : decode cX8_brings 11 = .ok (.ireturn, 1) := by decide +kernel
theorem dX8_brings_12 : decode cX8_brings 12 = .ok (.bipush 24, 2) := by decide +kernel
theorem dX8_brings_14 : decode cX8_brings 14 = .ok (.bipush 8, 2) := by decide +kernel
theorem dX8_brings_16 : decode cX8_brings 16 = .ok (.iload_n 1, 1) := by decide +kernel
theorem dX8_brings_17 : decode cX8_brings 17 = .ok (.imul, 1) := by decide +kernel
theorem dX8_brings_18 : decode cX8_brings 18 = .ok (.iadd, 1) := by decide +kernel
theorem dX8_brings_19 : decode cX8_brings 19 = .ok (.iload_n 2, 1) := by decide +kernel
theorem dX8_brings_20 : decode cX8_brings 20 = .ok (.iadd, 1) := by decide +kernel
theorem dX8_brings_21 : decode cX8_brings 21 = .ok (.istore 4, 2) := by decide +kernel
theorem dX8_brings_23 : decode cX8_brings 23 = .ok (.aload_n 0, 1) := by decide +kernel
theorem dX8_brings_24 : decode cX8_brings 24 = .ok (.getfield 7, 3) := by decide +kernel
theorem dX8_brings_27 : decode cX8_brings 27 = .ok (.iconst 0, 1) := by decide +kernel
theorem dX8_brings_28 : decode cX8_brings 28 = .ok (.iaload, 1) := by decide +kernel
theorem dX8_brings_29 : decode cX8_brings 29 = .ok (.iconst 2, 1) := by decide +kernel
theorem dX8_brings_30 : decode cX8_brings 30 = .ok (.if_icmp .ne 27, 3) := by decide +kernel
theorem dX8_brings_33 : decode cX8_brings 33 = .ok (.aload_n 0, 1) := by decide +kernel
theorem dX8_brings_34 : decode cX8_brings 34 = .ok (.getfield 7, 3) := by decide +kernel
theorem dX8_brings_37 : decode cX8_brings 37 = .ok (.bipush 14, 2) := by decide +kernel
theorem dX8_brings_39 : decode cX8_brings 39 = .ok (.iload_n 1, 1) := by decide +kernel
theorem dX8_brings_40 : decode cX8_brings 40 = .ok (.iadd, 1) := by decide +kernel
theorem dX8_brings_41 : decode cX8_brings 41 = .ok (.iaload, 1) := by decide +kernel
theorem dX8_brings_42 : decode cX8_brings 42 = .ok (.iconst 2, 1) := by decide +kernel
theorem dX8_brings_43 : decode cX8_brings 43 = .ok (.if_icmp .eq 14, 3) := by decide +kernel
theorem dX8_brings_46 : decode cX8_brings 46 = .ok (.aload_n 0, 1) := by decide +kernel
theorem dX8_brings_47 : decode cX8_brings 47 = .ok (.getfield 7, 3) := by decide +kernel
theorem dX8_brings_50 : decode cX8_brings 50 = .ok (.iload 4, 2) := by decide +kernel
theorem dX8_brings_52 : decode cX8_brings 52 = .ok (.iaload, 1) := by decide +kernel
theorem dX8_brings_53 : decode cX8_brings 53 = .ok (.iload_n 3, 1) := by decide +kernel
theorem dX8_brings_54 : decode cX8_brings 54 = .ok (.if_icmp .ge 6, 3) := by decide +kernel
theorem dX8_brings_57 : decode cX8_brings 57 = .ok (.bipush (-2), 2) := by decide +kernel
theorem dX8_brings_59 : decode cX8_brings 59 = .ok (.ireturn, 1) := by decide +kernel
theorem dX8_brings_60 : decode cX8_brings 60 = .ok (.aload_n 0, 1) := by decide +kernel
theorem dX8_brings_61 : decode cX8_brings 61 = .ok (.iconst 1, 1) := by decide +kernel
theorem dX8_brings_62 : decode cX8_brings 62 = .ok (.invokevirtual 46, 3) := by decide +kernel
theorem dX8_brings_65 : decode cX8_brings 65 = .ok (.ifCond .ne 6, 3) := by decide +kernel
theorem dX8_brings_68 : decode cX8_brings 68 = .ok (.bipush (-3), 2) := by decide +kernel
theorem dX8_brings_70 : decode cX8_brings 70 = .ok (.ireturn, 1) := by decide +kernel
theorem dX8_brings_71 : decode cX8_brings 71 = .ok (.aload_n 0, 1) := by decide +kernel
theorem dX8_brings_72 : decode cX8_brings 72 = .ok (.iload_n 1, 1) := by decide +kernel
theorem dX8_brings_73 : decode cX8_brings 73 = .ok (.iconst 2, 1) := by decide +kernel
theorem dX8_brings_74 : decode cX8_brings 74 = .ok (.invokevirtual 84, 3) := by decide +kernel
theorem dX8_brings_77 : decode cX8_brings 77 = .ok (.aload_n 0, 1) := by decide +kernel
theorem dX8_brings_78 : decode cX8_brings 78 = .ok (.getfield 7, 3) := by decide +kernel
theorem dX8_brings_81 : decode cX8_brings 81 = .ok (.iload 4, 2) := by decide +kernel
theorem dX8_brings_83 : decode cX8_brings 83 = .ok (.dup2, 1) := by decide +kernel
theorem dX8_brings_84 : decode cX8_brings 84 = .ok (.iaload, 1) := by decide +kernel
theorem dX8_brings_85 : decode cX8_brings 85 = .ok (.iload_n 3, 1) := by decide +kernel
theorem dX8_brings_86 : decode cX8_brings 86 = .ok (.isub, 1) := by decide +kernel
theorem dX8_brings_87 : decode cX8_brings 87 = .ok (.iastore, 1) := by decide +kernel
theorem dX8_brings_88 : decode cX8_brings 88 = .ok (.aload_n 0, 1) := by decide +kernel
theorem dX8_brings_89 : decode cX8_brings 89 = .ok (.iload_n 1, 1) := by decide +kernel
theorem dX8_brings_90 : decode cX8_brings 90 = .ok (.invokevirtual 50, 3) := by decide +kernel
theorem dX8_brings_93 : decode cX8_brings 93 = .ok (.aload_n 0, 1) := by decide +kernel
theorem dX8_brings_94 : decode cX8_brings 94 = .ok (.iload_n 2, 1) := by decide +kernel
theorem dX8_brings_95 : decode cX8_brings 95 = .ok (.iload_n 3, 1) := by decide +kernel
theorem dX8_brings_96 : decode cX8_brings 96 = .ok (.iconst 1, 1) := by decide +kernel
theorem dX8_brings_97 : decode cX8_brings 97 = .ok (.invokevirtual 94, 3) := by decide +kernel
theorem dX8_brings_100 : decode cX8_brings 100 = .ok (.ireturn, 1) := by decide +kernel
theorem dX8_bring_0 : decode cX8_bring 0 = .ok (.aload_n 0, 1) := by decide +kernel
theorem dX8_bring_1 : decode cX8_bring 1 = .ok (.invokevirtual 54, 3) := by decide +kernel
theorem dX8_bring_4 : decode cX8_bring 4 = .ok (.aload_n 0, 1) := by decide +kernel
theorem dX8_bring_5 : decode cX8_bring 5 = .ok (.aload_n 0, 1) := by decide +kernel
theorem dX8_bring_6 : decode cX8_bring 6 = .ok (.iload_n 1, 1) := by decide +kernel
theorem dX8_bring_7 : decode cX8_bring 7 = .ok (.iload_n 2, 1) := by decide +kernel
theorem dX8_bring_8 : decode cX8_bring 8 = .ok (.iload_n 3, 1) := by decide +kernel
theorem dX8_bring_9 : decode cX8_bring 9 = .ok (.invokevirtual 100, 3) := by decide +kernel
theorem dX8_bring_12 : decode cX8_bring 12 = .ok (.invokevirtual 61, 3) := by decide +kernel
theorem dX8_bring_15 : decode cX8_bring 15 = .ok (.ireturn, 1) := by decide +kernel
theorem dX8_smashes_0 : decode cX8_smashes 0 = .ok (.aload_n 0, 1) := by decide +kernel
theorem dX8_smashes_1 : decode cX8_smashes 1 = .ok (.iload_n 1, 1) := by decide +kernel
theorem dX8_smashes_2 : decode cX8_smashes 2 = .ok (.iload_n 2, 1) := by decide +kernel
theorem dX8_smashes_3 : decode cX8_smashes 3 = .ok (.iload_n 3, 1) := by decide +kernel
theorem dX8_smashes_4 : decode cX8_smashes 4 = .ok (.invokevirtual 78, 3) := by decide +kernel
theorem dX8_smashes_7 : decode cX8_smashes 7 = .ok (.ifCond .eq 14, 3) := by decide +kernel
theorem dX8_smashes_10 : decode cX8_smashes 10 = .ok (.iload 4, 2) := by decide +kernel
theorem dX8_smashes_12 : decode cX8_smashes 12 = .ok (.iconst 0, 1) := by decide +kernel
theorem dX8_smashes_13 : decode cX8_smashes 13 = .ok (.bipush 9, 2) := by decide +kernel
theorem dX8_smashes_15 : decode cX8_smashes 15 = .ok (.invokestatic 22, 3) := by decide +kernel
theorem dX8_smashes_18 : decode cX8_smashes 18 = .ok (.ifCond .ne 5, 3) := by decide +kernel
theorem dX8_smashes_21 : decode cX8_smashes 21 = .ok (.iconst (-1), 1) := by decide +kernel
theorem dX8_smashes_22 : decode cX8_smashes 22 = .ok (.ireturn, 1) := by decide +kernel
theorem dX8_smashes_23 : decode cX8_smashes 23 = .ok (.bipush 8, 2) := by decide +kernel
theorem dX8_smashes_25 : decode cX8_smashes 25 = .ok (.iload_n 1, 1) := by decide +kernel
theorem dX8_smashes_26 : decode cX8_smashes 26 = .ok (.imul, 1) := by decide +kernel
theorem dX8_smashes_27 : decode cX8_smashes 27 = .ok (.iload_n 2, 1) := by decide +kernel
theorem dX8_smashes_28 : decode cX8_smashes 28 = .ok (.iadd, 1) := by decide +kernel
theorem dX8_smashes_29 : decode cX8_smashes 29 = .ok (.istore 5, 2) := by decide +kernel
theorem dX8_smashes_31 : decode cX8_smashes 31 = .ok (.aload_n 0, 1) := by decide +kernel
theorem dX8_smashes_32 : decode cX8_smashes 32 = .ok (.getfield 7, 3) := by decide +kernel
theorem dX8_smashes_35 : decode cX8_smashes 35 = .ok (.iconst 0, 1) := by decide +kernel
theorem dX8_smashes_36 : decode cX8_smashes 36 = .ok (.iaload, 1) := by decide +kernel
theorem dX8_smashes_37 : decode cX8_smashes 37 = .ok (.ifCond .ne 17, 3) := by decide +kernel
theorem dX8_smashes_40 : decode cX8_smashes 40 = .ok (.aload_n 0, 1) := by decide +kernel
theorem dX8_smashes_41 : decode cX8_smashes 41 = .ok (.getfield 7, 3) := by decide +kernel
theorem dX8_smashes_44 : decode cX8_smashes 44 = .ok (.bipush 24, 2) := by decide +kernel
theorem dX8_smashes_46 : decode cX8_smashes 46 = .ok (.iload 5, 2) := by decide +kernel
theorem dX8_smashes_48 : decode cX8_smashes 48 = .ok (.iadd, 1) := by decide +kernel
theorem dX8_smashes_49 : decode cX8_smashes 49 = .ok (.iaload, 1) := by decide +kernel
theorem dX8_smashes_50 : decode cX8_smashes 50 = .ok (.iload_n 3, 1) := by decide +kernel
theorem dX8_smashes_51 : decode cX8_smashes 51 = .ok (.if_icmp .ge 6, 3) := by decide +kernel
theorem dX8_smashes_54 : decode cX8_smashes 54 = .ok (.bipush (-2), 2) := by decide +kernel
theorem dX8_smashes_56 : decode cX8_smashes 56 = .ok (.ireturn, 1) := by decide +kernel
theorem dX8_smashes_57 : decode cX8_smashes 57 = .ok (.aload_n 0, 1) := by decide +kernel
theorem dX8_smashes_58 : decode cX8_smashes 58 = .ok (.getfield 7, 3) := by decide +kernel
theorem dX8_smashes_61 : decode cX8_smashes 61 = .ok (.bipush 24, 2) := by decide +kernel
theorem dX8_smashes_63 : decode cX8_smashes 63 = .ok (.iload 5, 2) := by decide +kernel
theorem dX8_smashes_65 : decode cX8_smashes 65 = .ok (.iadd, 1) := by decide +kernel
theorem dX8_smashes_66 : decode cX8_smashes 66 = .ok (.dup2, 1) := by decide +kernel
theorem dX8_smashes_67 : decode cX8_smashes 67 = .ok (.iaload, 1) := by decide +kernel
theorem dX8_smashes_68 : decode cX8_smashes 68 = .ok (.iload_n 3, 1) := by decide +kernel
theorem dX8_smashes_69 : decode cX8_smashes 69 = .ok (.isub, 1) := by decide +kernel
theorem dX8_smashes_70 : decode cX8_smashes 70 = .ok (.iastore, 1) := by decide +kernel
theorem dX8_smashes_71 : decode cX8_smashes 71 = .ok (.iload 4, 2) := by decide +kernel
theorem dX8_smashes_73 : decode cX8_smashes 73 = .ok (.ifCond .le 11, 3) := by decide +kernel
theorem dX8_smashes_76 : decode cX8_smashes 76 = .ok (.aload_n 0, 1) := by decide +kernel
theorem dX8_smashes_77 : decode cX8_smashes 77 = .ok (.iload_n 2, 1) := by decide +kernel
theorem dX8_smashes_78 : decode cX8_smashes 78 = .ok (.iload_n 3, 1) := by decide +kernel
theorem dX8_smashes_79 : decode cX8_smashes 79 = .ok (.iconst 2, 1) := by decide +kernel
theorem dX8_smashes_80 : decode cX8_smashes 80 = .ok (.invokevirtual 94, 3) := by decide +kernel
theorem dX8_smashes_83 : decode cX8_smashes 83 = .ok (.ireturn, 1) := by decide +kernel
theorem dX8_smashes_84 : decode cX8_smashes 84 = .ok (.aload_n 0, 1) := by decide +kernel
theorem dX8_smashes_85 : decode cX8_smashes 85 = .ok (.getfield 7, 3) := by decide +kernel
theorem dX8_smashes_88 : decode cX8_smashes 88 = .ok (.bipush 64, 2) := by decide +kernel
theorem dX8_smashes_90 : decode cX8_smashes 90 = .ok (.iload 5, 2) := by decide +kernel
theorem dX8_smashes_92 : decode cX8_smashes 92 = .ok (.iadd, 1) := by decide +kernel
theorem dX8_smashes_93 : decode cX8_smashes 93 = .ok (.dup2, 1) := by decide +kernel
theorem dX8_smashes_94 : decode cX8_smashes 94 = .ok (.iaload, 1) := by decide +kernel
theorem dX8_smashes_95 : decode cX8_smashes 95 = .ok (.iload_n 3, 1) := by decide +kernel
theorem dX8_smashes_96 : decode cX8_smashes 96 = .ok (.iadd, 1) := by decide +kernel
theorem dX8_smashes_97 : decode cX8_smashes 97 = .ok (.iastore, 1) := by decide +kernel
theorem dX8_smashes_98 : decode cX8_smashes 98 = .ok (.iconst 0, 1) := by decide +kernel
theorem dX8_smashes_99 : decode cX8_smashes 99 = .ok (.ireturn, 1) := by decide +kernel
theorem dX8_smash_0 : decode cX8_smash 0 = .ok (.aload_n 0, 1) := by decide +kernel
theorem dX8_smash_1 : decode cX8_smash 1 = .ok (.invokevirtual 54, 3) := by decide +kernel
theorem dX8_smash_4 : decode cX8_smash 4 = .ok (.aload_n 0, 1) := by decide +kernel
theorem dX8_smash_5 : decode cX8_smash 5 = .ok (.aload_n 0, 1) := by decide +kernel
theorem dX8_smash_6 : decode cX8_smash 6 = .ok (.iload_n 1, 1) := by decide +kernel
theorem dX8_smash_7 : decode cX8_smash 7 = .ok (.iload_n 2, 1) := by decide +kernel
theorem dX8_smash_8 : decode cX8_smash 8 = .ok (.iload_n 3, 1) := by decide +kernel
theorem dX8_smash_9 : decode cX8_smash 9 = .ok (.iload 4, 2) := by decide +kernel
theorem dX8_smash_11 : decode cX8_smash 11 = .ok (.invokevirtual 103, 3) := by decide +kernel
theorem dX8_smash_14 : decode cX8_smash 14 = .ok (.invokevirtual 61, 3) := by decide +kernel
theorem dX8_smash_17 : decode cX8_smash 17 = .ok (.ireturn, 1) := by decide +kernel
theorem dX8_tears_0 : decode cX8_tears 0 = .ok (.aload_n 0, 1) := by decide +kernel
theorem dX8_tears_1 : decode cX8_tears 1 = .ok (.iload_n 1, 1) := by decide +kernel
theorem dX8_tears_2 : decode cX8_tears 2 = .ok (.invokevirtual 75, 3) := by decide +kernel
theorem dX8_tears_5 : decode cX8_tears 5 = .ok (.ifCond .ne 5, 3) := by decide +kernel
theorem dX8_tears_8 : decode cX8_tears 8 = .ok (.iconst (-1), 1) := by decide +kernel
theorem dX8_tears_9 : decode cX8_tears 9 = .ok (.ireturn, 1) := by decide +kernel
theorem dX8_tears_10 : decode cX8_tears 10 = .ok (.aload_n 0, 1) := by decide +kernel
theorem dX8_tears_11 : decode cX8_tears 11 = .ok (.getfield 7, 3) := by decide +kernel
theorem dX8_tears_14 : decode cX8_tears 14 = .ok (.bipush 14, 2) := by decide +kernel
theorem dX8_tears_16 : decode cX8_tears 16 = .ok (.iload_n 1, 1) := by decide +kernel
theorem dX8_tears_17 : decode cX8_tears 17 = .ok (.iadd, 1) := by decide +kernel
theorem dX8_tears_18 : decode cX8_tears 18 = .ok (.iaload, 1) := by decide +kernel
theorem dX8_tears_19 : decode cX8_tears 19 = .ok (.iconst 1, 1) := by decide +kernel
theorem dX8_tears_20 : decode cX8_tears 20 = .ok (.if_icmp .eq 6, 3) := by decide +kernel
theorem dX8_tears_23 : decode cX8_tears 23 = .ok (.bipush (-2), 2) := by decide +kernel
theorem dX8_tears_25 : decode cX8_tears 25 = .ok (.ireturn, 1) := by decide +kernel
theorem dX8_tears_26 : decode cX8_tears 26 = .ok (.aload_n 0, 1) := by decide +kernel
theorem dX8_tears_27 : decode cX8_tears 27 = .ok (.getfield 7, 3) := by decide +kernel
theorem dX8_tears_30 : decode cX8_tears 30 = .ok (.bipush 14, 2) := by decide +kernel
theorem dX8_tears_32 : decode cX8_tears 32 = .ok (.iload_n 1, 1) := by decide +kernel
theorem dX8_tears_33 : decode cX8_tears 33 = .ok (.iadd, 1) := by decide +kernel
theorem dX8_tears_34 : decode cX8_tears 34 = .ok (.iconst 2, 1) := by decide +kernel
theorem dX8_tears_35 : decode cX8_tears 35 = .ok (.iastore, 1) := by decide +kernel
theorem dX8_tears_36 : decode cX8_tears 36 = .ok (.aload_n 0, 1) := by decide +kernel
theorem dX8_tears_37 : decode cX8_tears 37 = .ok (.getfield 7, 3) := by decide +kernel
theorem dX8_tears_40 : decode cX8_tears 40 = .ok (.sipush 854, 3) := by decide +kernel
theorem dX8_tears_43 : decode cX8_tears 43 = .ok (.aload_n 0, 1) := by decide +kernel
theorem dX8_tears_44 : decode cX8_tears 44 = .ok (.getfield 7, 3) := by decide +kernel
theorem dX8_tears_47 : decode cX8_tears 47 = .ok (.bipush 19, 2) := by decide +kernel
theorem dX8_tears_49 : decode cX8_tears 49 = .ok (.iload_n 1, 1) := by decide +kernel
theorem dX8_tears_50 : decode cX8_tears 50 = .ok (.iadd, 1) := by decide +kernel
theorem dX8_tears_51 : decode cX8_tears 51 = .ok (.iaload, 1) := by decide +kernel
theorem dX8_tears_52 : decode cX8_tears 52 = .ok (.iadd, 1) := by decide +kernel
theorem dX8_tears_53 : decode cX8_tears 53 = .ok (.iconst 3, 1) := by decide +kernel
theorem dX8_tears_54 : decode cX8_tears 54 = .ok (.iastore, 1) := by decide +kernel
theorem dX8_tears_55 : decode cX8_tears 55 = .ok (.aload_n 0, 1) := by decide +kernel
theorem dX8_tears_56 : decode cX8_tears 56 = .ok (.getfield 7, 3) := by decide +kernel
theorem dX8_tears_59 : decode cX8_tears 59 = .ok (.bipush 19, 2) := by decide +kernel
theorem dX8_tears_61 : decode cX8_tears 61 = .ok (.iload_n 1, 1) := by decide +kernel
theorem dX8_tears_62 : decode cX8_tears 62 = .ok (.iadd, 1) := by decide +kernel
theorem dX8_tears_63 : decode cX8_tears 63 = .ok (.iaload, 1) := by decide +kernel
theorem dX8_tears_64 : decode cX8_tears 64 = .ok (.ireturn, 1) := by decide +kernel
theorem dX8_tear_0 : decode cX8_tear 0 = .ok (.aload_n 0, 1) := by decide +kernel
theorem dX8_tear_1 : decode cX8_tear 1 = .ok (.invokevirtual 54, 3) := by decide +kernel
theorem dX8_tear_4 : decode cX8_tear 4 = .ok (.aload_n 0, 1) := by decide +kernel
theorem dX8_tear_5 : decode cX8_tear 5 = .ok (.aload_n 0, 1) := by decide +kernel
theorem dX8_tear_6 : decode cX8_tear 6 = .ok (.iload_n 1, 1) := by decide +kernel
theorem dX8_tear_7 : decode cX8_tear 7 = .ok (.invokevirtual 107, 3) := by decide +kernel
theorem dX8_tear_10 : decode cX8_tear 10 = .ok (.invokevirtual 61, 3) := by decide +kernel
theorem dX8_tear_13 : decode cX8_tear 13 = .ok (.ireturn, 1) := by decide +kernel
theorem dX8_inspects_0 : decode cX8_inspects 0 = .ok (.aload_n 0, 1) := by decide +kernel
theorem dX8_inspects_1 : decode cX8_inspects 1 = .ok (.iload_n 1, 1) := by decide +kernel
theorem dX8_inspects_2 : decode cX8_inspects 2 = .ok (.invokevirtual 75, 3) := by decide +kernel
theorem dX8_inspects_5 : decode cX8_inspects 5 = .ok (.ifCond .ne 5, 3) := by decide +kernel
theorem dX8_inspects_8 : decode cX8_inspects 8 = .ok (.iconst (-1), 1) := by decide +kernel
theorem dX8_inspects_9 : decode cX8_inspects 9 = .ok (.ireturn, 1) := by decide +kernel
theorem dX8_inspects_10 : decode cX8_inspects 10 = .ok (.aload_n 0, 1) := by decide +kernel
theorem dX8_inspects_11 : decode cX8_inspects 11 = .ok (.getfield 7, 3) := by decide +kernel
theorem dX8_inspects_14 : decode cX8_inspects 14 = .ok (.iconst 0, 1) := by decide +kernel
theorem dX8_inspects_15 : decode cX8_inspects 15 = .ok (.iaload, 1) := by decide +kernel
theorem dX8_inspects_16 : decode cX8_inspects 16 = .ok (.iconst 2, 1) := by decide +kernel
theorem dX8_inspects_17 : decode cX8_inspects 17 = .ok (.if_icmp .eq 6, 3) := by decide +kernel
theorem dX8_inspects_20 : decode cX8_inspects 20 = .ok (.bipush (-2), 2) := by decide +kernel
theorem dX8_inspects_22 : decode cX8_inspects 22 = .ok (.ireturn, 1) := by decide +kernel
theorem dX8_inspects_23 : decode cX8_inspects 23 = .ok (.aload_n 0, 1) := by decide +kernel
theorem dX8_inspects_24 : decode cX8_inspects 24 = .ok (.getfield 7, 3) := by decide +kernel
theorem dX8_inspects_27 : decode cX8_inspects 27 = .ok (.bipush 14, 2) := by decide +kernel
theorem dX8_inspects_29 : decode cX8_inspects 29 = .ok (.iload_n 1, 1) := by decide +kernel
theorem dX8_inspects_30 : decode cX8_inspects 30 = .ok (.iadd, 1) := by decide +kernel
theorem dX8_inspects_31 : decode cX8_inspects 31 = .ok (.iaload, 1) := by decide +kernel
theorem dX8_inspects_32 : decode cX8_inspects 32 = .ok (.iconst 2, 1) := by decide +kernel
theorem dX8_inspects_33 : decode cX8_inspects 33 = .ok (.if_icmp .ne 13, 3) := by decide +kernel
theorem dX8_inspects_36 : decode cX8_inspects 36 = .ok (.aload_n 0, 1) := by decide +kernel
theorem dX8_inspects_37 : decode cX8_inspects 37 = .ok (.getfield 7, 3) := by decide +kernel
theorem dX8_inspects_40 : decode cX8_inspects 40 = .ok (.iconst 2, 1) := by decide +kernel
theorem dX8_inspects_41 : decode cX8_inspects 41 = .ok (.iaload, 1) := by decide +kernel
theorem dX8_inspects_42 : decode cX8_inspects 42 = .ok (.i2l, 1) := by decide +kernel
theorem dX8_inspects_43 : decode cX8_inspects 43 = .ok (.goto 4, 3) := by decide +kernel
theorem dX8_inspects_46 : decode cX8_inspects 46 = .ok (.lconst 0, 1) := by decide +kernel
theorem dX8_inspects_47 : decode cX8_inspects 47 = .ok (.lstore_n 2, 1) := by decide +kernel
theorem dX8_inspects_48 : decode cX8_inspects 48 = .ok (.iconst 0, 1) := by decide +kernel
theorem dX8_inspects_49 : decode cX8_inspects 49 = .ok (.istore 4, 2) := by decide +kernel
theorem dX8_inspects_51 : decode cX8_inspects 51 = .ok (.iload 4, 2) := by decide +kernel
theorem dX8_inspects_53 : decode cX8_inspects 53 = .ok (.aload_n 0, 1) := by decide +kernel
theorem dX8_inspects_54 : decode cX8_inspects 54 = .ok (.getfield 7, 3) := by decide +kernel
theorem dX8_inspects_57 : decode cX8_inspects 57 = .ok (.iconst 5, 1) := by decide +kernel
theorem dX8_inspects_58 : decode cX8_inspects 58 = .ok (.iaload, 1) := by decide +kernel
theorem dX8_inspects_59 : decode cX8_inspects 59 = .ok (.if_icmp .ge 33, 3) := by decide +kernel
theorem dX8_inspects_62 : decode cX8_inspects 62 = .ok (.lload_n 2, 1) := by decide +kernel
theorem dX8_inspects_63 : decode cX8_inspects 63 = .ok (.aload_n 0, 1) := by decide +kernel
theorem dX8_inspects_64 : decode cX8_inspects 64 = .ok (.iload 4, 2) := by decide +kernel
theorem dX8_inspects_66 : decode cX8_inspects 66 = .ok (.aload_n 0, 1) := by decide +kernel
theorem dX8_inspects_67 : decode cX8_inspects 67 = .ok (.getfield 7, 3) := by decide +kernel
theorem dX8_inspects_70 : decode cX8_inspects 70 = .ok (.bipush 64, 2) := by decide +kernel
theorem dX8_inspects_72 : decode cX8_inspects 72 = .ok (.bipush 8, 2) := by decide +kernel
theorem dX8_inspects_74 : decode cX8_inspects 74 = .ok (.iload_n 1, 1) := by decide +kernel
theorem dX8_inspects_75 : decode cX8_inspects 75 = .ok (.imul, 1) := by decide +kernel
theorem dX8_inspects_76 : decode cX8_inspects 76 = .ok (.iadd, 1) := by decide +kernel
theorem dX8_inspects_77 : decode cX8_inspects 77 = .ok (.iload 4, 2) := by decide +kernel
theorem dX8_inspects_79 : decode cX8_inspects 79 = .ok (.iadd, 1) := by decide +kernel
theorem dX8_inspects_80 : decode cX8_inspects 80 = .ok (.iaload, 1) := by decide +kernel
theorem dX8_inspects_81 : decode cX8_inspects 81 = .ok (.invokevirtual 110, 3) := by decide +kernel
theorem dX8_inspects_84 : decode cX8_inspects 84 = .ok (.ladd, 1) := by decide +kernel
theorem dX8_inspects_85 : decode cX8_inspects 85 = .ok (.lstore_n 2, 1) := by decide +kernel
theorem dX8_inspects_86 : decode cX8_inspects 86 = .ok (.iinc 4 1, 3) := by decide +kernel
theorem dX8_inspects_89 : decode cX8_inspects 89 = .ok (.goto (-38), 3) := by decide +kernel
theorem dX8_inspects_92 : decode cX8_inspects 92 = .ok (.aload_n 0, 1) := by decide +kernel
theorem dX8_inspects_93 : decode cX8_inspects 93 = .ok (.iconst 1, 1) := by decide +kernel
theorem dX8_inspects_94 : decode cX8_inspects 94 = .ok (.invokevirtual 46, 3) := by decide +kernel
theorem dX8_inspects_97 : decode cX8_inspects 97 = .ok (.ifCond .eq 11, 3) := by decide +kernel
theorem dX8_inspects_100 : decode cX8_inspects 100 = .ok (.lload_n 2, 1) := by decide +kernel
theorem dX8_inspects_101 : decode cX8_inspects 101 = .ok (.ldc2_w 82, 3) := by decide +kernel
theorem dX8_inspects_104 : decode cX8_inspects 104 = .ok (.lcmp, 1) := by decide +kernel
theorem dX8_inspects_105 : decode cX8_inspects 105 = .ok (.ifCond .le 6, 3) := by decide +kernel
theorem dX8_inspects_108 : decode cX8_inspects 108 = .ok (.bipush (-3), 2) := by decide +kernel
theorem dX8_inspects_110 : decode cX8_inspects 110 = .ok (.ireturn, 1) := by decide +kernel
theorem dX8_inspects_111 : decode cX8_inspects 111 = .ok (.aload_n 0, 1) := by decide +kernel
theorem dX8_inspects_112 : decode cX8_inspects 112 = .ok (.getfield 7, 3) := by decide +kernel
theorem dX8_inspects_115 : decode cX8_inspects 115 = .ok (.bipush 8, 2) := by decide +kernel
theorem dX8_inspects_117 : decode cX8_inspects 117 = .ok (.dup2, 1) := by decide +kernel
theorem dX8_inspects_118 : decode cX8_inspects 118 = .ok (.iaload, 1) := by decide +kernel
theorem dX8_inspects_119 : decode cX8_inspects 119 = .ok (.aload_n 0, 1) := by decide +kernel
theorem dX8_inspects_120 : decode cX8_inspects 120 = .ok (.getfield 7, 3) := by decide +kernel
theorem dX8_inspects_123 : decode cX8_inspects 123 = .ok (.bipush 14, 2) := by decide +kernel
theorem dX8_inspects_125 : decode cX8_inspects 125 = .ok (.iload_n 1, 1) := by decide +kernel
theorem dX8_inspects_126 : decode cX8_inspects 126 = .ok (.iadd, 1) := by decide +kernel
theorem dX8_inspects_127 : decode cX8_inspects 127 = .ok (.iaload, 1) := by decide +kernel
theorem dX8_inspects_128 : decode cX8_inspects 128 = .ok (.iconst 2, 1) := by decide +kernel
theorem dX8_inspects_129 : decode cX8_inspects 129 = .ok (.if_icmp .ne 12, 3) := by decide +kernel
theorem dX8_inspects_132 : decode cX8_inspects 132 = .ok (.aload_n 0, 1) := by decide +kernel
theorem dX8_inspects_133 : decode cX8_inspects 133 = .ok (.getfield 7, 3) := by decide +kernel
theorem dX8_inspects_136 : decode cX8_inspects 136 = .ok (.iconst 2, 1) := by decide +kernel
theorem dX8_inspects_137 : decode cX8_inspects 137 = .ok (.iaload, 1) := by decide +kernel
theorem dX8_inspects_138 : decode cX8_inspects 138 = .ok (.goto 4, 3) := by decide +kernel
theorem dX8_inspects_141 : decode cX8_inspects 141 = .ok (.iconst 0, 1) := by decide +kernel
theorem dX8_inspects_142 : decode cX8_inspects 142 = .ok (.iadd, 1) := by decide +kernel
theorem dX8_inspects_143 : decode cX8_inspects 143 = .ok (.iastore, 1) := by decide +kernel
theorem dX8_inspects_144 : decode cX8_inspects 144 = .ok (.aload_n 0, 1) := by decide +kernel
theorem dX8_inspects_145 : decode cX8_inspects 145 = .ok (.iload_n 1, 1) := by decide +kernel
theorem dX8_inspects_146 : decode cX8_inspects 146 = .ok (.iconst 2, 1) := by decide +kernel
theorem dX8_inspects_147 : decode cX8_inspects 147 = .ok (.invokevirtual 84, 3) := by decide +kernel
theorem dX8_inspects_150 : decode cX8_inspects 150 = .ok (.iconst 0, 1) := by decide +kernel
theorem dX8_inspects_151 : decode cX8_inspects 151 = .ok (.istore 4, 2) := by decide +kernel
theorem dX8_inspects_153 : decode cX8_inspects 153 = .ok (.iload 4, 2) := by decide +kernel
theorem dX8_inspects_155 : decode cX8_inspects 155 = .ok (.aload_n 0, 1) := by decide +kernel
theorem dX8_inspects_156 : decode cX8_inspects 156 = .ok (.getfield 7, 3) := by decide +kernel
theorem dX8_inspects_159 : decode cX8_inspects 159 = .ok (.iconst 5, 1) := by decide +kernel
theorem dX8_inspects_160 : decode cX8_inspects 160 = .ok (.iaload, 1) := by decide +kernel
theorem dX8_inspects_161 : decode cX8_inspects 161 = .ok (.if_icmp .ge 48, 3) := by decide +kernel
theorem dX8_inspects_164 : decode cX8_inspects 164 = .ok (.aload_n 0, 1) := by decide +kernel
theorem dX8_inspects_165 : decode cX8_inspects 165 = .ok (.iload 4, 2) := by decide +kernel
theorem dX8_inspects_167 : decode cX8_inspects 167 = .ok (.aload_n 0, 1) := by decide +kernel
theorem dX8_inspects_168 : decode cX8_inspects 168 = .ok (.getfield 7, 3) := by decide +kernel
theorem dX8_inspects_171 : decode cX8_inspects 171 = .ok (.bipush 64, 2) := by decide +kernel
theorem dX8_inspects_173 : decode cX8_inspects 173 = .ok (.bipush 8, 2) := by decide +kernel
theorem dX8_inspects_175 : decode cX8_inspects 175 = .ok (.iload_n 1, 1) := by decide +kernel
theorem dX8_inspects_176 : decode cX8_inspects 176 = .ok (.imul, 1) := by decide +kernel
theorem dX8_inspects_177 : decode cX8_inspects 177 = .ok (.iadd, 1) := by decide +kernel
theorem dX8_inspects_178 : decode cX8_inspects 178 = .ok (.iload 4, 2) := by decide +kernel
theorem dX8_inspects_180 : decode cX8_inspects 180 = .ok (.iadd, 1) := by decide +kernel
theorem dX8_inspects_181 : decode cX8_inspects 181 = .ok (.iaload, 1) := by decide +kernel
theorem dX8_inspects_182 : decode cX8_inspects 182 = .ok (.iconst 3, 1) := by decide +kernel
theorem dX8_inspects_183 : decode cX8_inspects 183 = .ok (.invokevirtual 94, 3) := by decide +kernel
theorem dX8_inspects_186 : decode cX8_inspects 186 = .ok (.pop, 1) := by decide +kernel
theorem dX8_inspects_187 : decode cX8_inspects 187 = .ok (.aload_n 0, 1) := by decide +kernel
theorem dX8_inspects_188 : decode cX8_inspects 188 = .ok (.getfield 7, 3) := by decide +kernel
theorem dX8_inspects_191 : decode cX8_inspects 191 = .ok (.bipush 64, 2) := by decide +kernel
theorem dX8_inspects_193 : decode cX8_inspects 193 = .ok (.bipush 8, 2) := by decide +kernel
theorem dX8_inspects_195 : decode cX8_inspects 195 = .ok (.iload_n 1, 1) := by decide +kernel
theorem dX8_inspects_196 : decode cX8_inspects 196 = .ok (.imul, 1) := by decide +kernel
theorem dX8_inspects_197 : decode cX8_inspects 197 = .ok (.iadd, 1) := by decide +kernel
theorem dX8_inspects_198 : decode cX8_inspects 198 = .ok (.iload 4, 2) := by decide +kernel
theorem dX8_inspects_200 : decode cX8_inspects 200 = .ok (.iadd, 1) := by decide +kernel
theorem dX8_inspects_201 : decode cX8_inspects 201 = .ok (.iconst 0, 1) := by decide +kernel
theorem dX8_inspects_202 : decode cX8_inspects 202 = .ok (.iastore, 1) := by decide +kernel
theorem dX8_inspects_203 : decode cX8_inspects 203 = .ok (.iinc 4 1, 3) := by decide +kernel
theorem dX8_inspects_206 : decode cX8_inspects 206 = .ok (.goto (-53), 3) := by decide +kernel
theorem dX8_inspects_209 : decode cX8_inspects 209 = .ok (.aload_n 0, 1) := by decide +kernel
theorem dX8_inspects_210 : decode cX8_inspects 210 = .ok (.iload_n 1, 1) := by decide +kernel
theorem dX8_inspects_211 : decode cX8_inspects 211 = .ok (.invokevirtual 50, 3) := by decide +kernel
theorem dX8_inspects_214 : decode cX8_inspects 214 = .ok (.lload_n 2, 1) := by decide +kernel
theorem dX8_inspects_215 : decode cX8_inspects 215 = .ok (.l2i, 1) := by decide +kernel
theorem dX8_inspects_216 : decode cX8_inspects 216 = .ok (.ireturn, 1) := by decide +kernel
theorem dX8_inspect_0 : decode cX8_inspect 0 = .ok (.aload_n 0, 1) := by decide +kernel
theorem dX8_inspect_1 : decode cX8_inspect 1 = .ok (.invokevirtual 54, 3) := by decide +kernel
theorem dX8_inspect_4 : decode cX8_inspect 4 = .ok (.aload_n 0, 1) := by decide +kernel
theorem dX8_inspect_5 : decode cX8_inspect 5 = .ok (.aload_n 0, 1) := by decide +kernel
theorem dX8_inspect_6 : decode cX8_inspect 6 = .ok (.iload_n 1, 1) := by decide +kernel
theorem dX8_inspect_7 : decode cX8_inspect 7 = .ok (.invokevirtual 114, 3) := by decide +kernel
theorem dX8_inspect_10 : decode cX8_inspect 10 = .ok (.invokevirtual 61, 3) := by decide +kernel
theorem dX8_inspect_13 : decode cX8_inspect 13 = .ok (.ireturn, 1) := by decide +kernel
theorem dX8_lockersThat_0 : decode cX8_lockersThat 0 = .ok (.iconst 0, 1) := by decide +kernel
theorem dX8_lockersThat_1 : decode cX8_lockersThat 1 = .ok (.istore_n 2, 1) := by decide +kernel
theorem dX8_lockersThat_2 : decode cX8_lockersThat 2 = .ok (.iconst 0, 1) := by decide +kernel
theorem dX8_lockersThat_3 : decode cX8_lockersThat 3 = .ok (.istore_n 3, 1) := by decide +kernel
theorem dX8_lockersThat_4 : decode cX8_lockersThat 4 = .ok (.iload_n 3, 1) := by decide +kernel
theorem dX8_lockersThat_5 : decode cX8_lockersThat 5 = .ok (.aload_n 0, 1) := by decide +kernel
theorem dX8_lockersThat_6 : decode cX8_lockersThat 6 = .ok (.getfield 7, 3) := by decide +kernel
theorem dX8_lockersThat_9 : decode cX8_lockersThat 9 = .ok (.iconst 4, 1) := by decide +kernel
theorem dX8_lockersThat_10 : decode cX8_lockersThat 10 = .ok (.iaload, 1) := by decide +kernel
theorem dX8_lockersThat_11 : decode cX8_lockersThat 11 = .ok (.if_icmp .ge 30, 3) := by decide +kernel
theorem dX8_lockersThat_14 : decode cX8_lockersThat 14 = .ok (.iload_n 2, 1) := by decide +kernel
theorem dX8_lockersThat_15 : decode cX8_lockersThat 15 = .ok (.aload_n 0, 1) := by decide +kernel
theorem dX8_lockersThat_16 : decode cX8_lockersThat 16 = .ok (.getfield 7, 3) := by decide +kernel
theorem dX8_lockersThat_19 : decode cX8_lockersThat 19 = .ok (.bipush 14, 2) := by decide +kernel
theorem dX8_lockersThat_21 : decode cX8_lockersThat 21 = .ok (.iload_n 3, 1) := by decide +kernel
theorem dX8_lockersThat_22 : decode cX8_lockersThat 22 = .ok (.iadd, 1) := by decide +kernel
theorem dX8_lockersThat_23 : decode cX8_lockersThat 23 = .ok (.iaload, 1) := by decide +kernel
theorem dX8_lockersThat_24 : decode cX8_lockersThat 24 = .ok (.iload_n 1, 1) := by decide +kernel
theorem dX8_lockersThat_25 : decode cX8_lockersThat 25 = .ok (.if_icmp .ne 7, 3) := by decide +kernel
theorem dX8_lockersThat_28 : decode cX8_lockersThat 28 = .ok (.iconst 1, 1) := by decide +kernel
theorem dX8_lockersThat_29 : decode cX8_lockersThat 29 = .ok (.goto 4, 3) := by decide +kernel
theorem dX8_lockersThat_32 : decode cX8_lockersThat 32 = .ok (.iconst 0, 1) := by decide +kernel
theorem dX8_lockersThat_33 : decode cX8_lockersThat 33 = .ok (.iadd, 1) := by decide +kernel
theorem dX8_lockersThat_34 : decode cX8_lockersThat 34 = .ok (.istore_n 2, 1) := by decide +kernel
theorem dX8_lockersThat_35 : decode cX8_lockersThat 35 = .ok (.iinc 3 1, 3) := by decide +kernel
theorem dX8_lockersThat_38 : decode cX8_lockersThat 38 = .ok (.goto (-34), 3) := by decide +kernel
theorem dX8_lockersThat_41 : decode cX8_lockersThat 41 = .ok (.iload_n 2, 1) := by decide +kernel
theorem dX8_lockersThat_42 : decode cX8_lockersThat 42 = .ok (.ireturn, 1) := by decide +kernel
theorem dX8_crosses_0 : decode cX8_crosses 0 = .ok (.iload_n 1, 1) := by decide +kernel
theorem dX8_crosses_1 : decode cX8_crosses 1 = .ok (.iconst 0, 1) := by decide +kernel
theorem dX8_crosses_2 : decode cX8_crosses 2 = .ok (.iconst 2, 1) := by decide +kernel
theorem dX8_crosses_3 : decode cX8_crosses 3 = .ok (.invokestatic 22, 3) := by decide +kernel
theorem dX8_crosses_6 : decode cX8_crosses 6 = .ok (.ifCond .ne 5, 3) := by decide +kernel
theorem dX8_crosses_9 : decode cX8_crosses 9 = .ok (.iconst (-1), 1) := by decide +kernel
theorem dX8_crosses_10 : decode cX8_crosses 10 = .ok (.ireturn, 1) := by decide +kernel
theorem dX8_crosses_11 : decode cX8_crosses 11 = .ok (.aload_n 0, 1) := by decide +kernel
theorem dX8_crosses_12 : decode cX8_crosses 12 = .ok (.getfield 7, 3) := by decide +kernel
theorem dX8_crosses_15 : decode cX8_crosses 15 = .ok (.iconst 0, 1) := by decide +kernel
theorem dX8_crosses_16 : decode cX8_crosses 16 = .ok (.iaload, 1) := by decide +kernel
theorem dX8_crosses_17 : decode cX8_crosses 17 = .ok (.istore_n 2, 1) := by decide +kernel
theorem dX8_crosses_18 : decode cX8_crosses 18 = .ok (.iload_n 2, 1) := by decide +kernel
theorem dX8_crosses_19 : decode cX8_crosses 19 = .ok (.iload_n 1, 1) := by decide +kernel
theorem dX8_crosses_20 : decode cX8_crosses 20 = .ok (.if_icmp .eq 10, 3) := by decide +kernel
theorem dX8_crosses_23 : decode cX8_crosses 23 = .ok (.iload_n 2, 1) := by decide +kernel
theorem dX8_crosses_24 : decode cX8_crosses 24 = .ok (.iload_n 1, 1) := by decide +kernel
theorem dX8_crosses_25 : decode cX8_crosses 25 = .ok (.iadd, 1) := by decide +kernel
theorem dX8_crosses_26 : decode cX8_crosses 26 = .ok (.iconst 2, 1) := by decide +kernel
theorem dX8_crosses_27 : decode cX8_crosses 27 = .ok (.if_icmp .ne 6, 3) := by decide +kernel
theorem dX8_crosses_30 : decode cX8_crosses 30 = .ok (.bipush (-2), 2) := by decide +kernel
theorem dX8_crosses_32 : decode cX8_crosses 32 = .ok (.ireturn, 1) := by decide +kernel
theorem dX8_crosses_33 : decode cX8_crosses 33 = .ok (.iload_n 2, 1) := by decide +kernel
theorem dX8_crosses_34 : decode cX8_crosses 34 = .ok (.ifCond .ne 11, 3) := by decide +kernel
theorem dX8_crosses_37 : decode cX8_crosses 37 = .ok (.aload_n 0, 1) := by decide +kernel
theorem dX8_crosses_38 : decode cX8_crosses 38 = .ok (.iconst 0, 1) := by decide +kernel
theorem dX8_crosses_39 : decode cX8_crosses 39 = .ok (.invokevirtual 117, 3) := by decide +kernel
theorem dX8_crosses_42 : decode cX8_crosses 42 = .ok (.goto 16, 3) := by decide +kernel
theorem dX8_crosses_45 : decode cX8_crosses 45 = .ok (.iload_n 1, 1) := by decide +kernel
theorem dX8_crosses_46 : decode cX8_crosses 46 = .ok (.ifCond .ne 11, 3) := by decide +kernel
theorem dX8_crosses_49 : decode cX8_crosses 49 = .ok (.aload_n 0, 1) := by decide +kernel
theorem dX8_crosses_50 : decode cX8_crosses 50 = .ok (.iconst 1, 1) := by decide +kernel
theorem dX8_crosses_51 : decode cX8_crosses 51 = .ok (.invokevirtual 117, 3) := by decide +kernel
theorem dX8_crosses_54 : decode cX8_crosses 54 = .ok (.goto 4, 3) := by decide +kernel
theorem dX8_crosses_57 : decode cX8_crosses 57 = .ok (.iconst 0, 1) := by decide +kernel
theorem dX8_crosses_58 : decode cX8_crosses 58 = .ok (.istore_n 3, 1) := by decide +kernel
theorem dX8_crosses_59 : decode cX8_crosses 59 = .ok (.iload_n 2, 1) := by decide +kernel
theorem dX8_crosses_60 : decode cX8_crosses 60 = .ok (.ifCond .ne 14, 3) := by decide +kernel
theorem dX8_crosses_63 : decode cX8_crosses 63 = .ok (.aload_n 0, 1) := by decide +kernel
theorem dX8_crosses_64 : decode cX8_crosses 64 = .ok (.iload_n 3, 1) := by decide +kernel
theorem dX8_crosses_65 : decode cX8_crosses 65 = .ok (.invokevirtual 46, 3) := by decide +kernel
theorem dX8_crosses_68 : decode cX8_crosses 68 = .ok (.ifCond .ne 6, 3) := by decide +kernel
theorem dX8_crosses_71 : decode cX8_crosses 71 = .ok (.bipush (-3), 2) := by decide +kernel
theorem dX8_crosses_73 : decode cX8_crosses 73 = .ok (.ireturn, 1) := by decide +kernel
theorem dX8_crosses_74 : decode cX8_crosses 74 = .ok (.aload_n 0, 1) := by decide +kernel
theorem dX8_crosses_75 : decode cX8_crosses 75 = .ok (.getfield 7, 3) := by decide +kernel
theorem dX8_crosses_78 : decode cX8_crosses 78 = .ok (.iconst 0, 1) := by decide +kernel
theorem dX8_crosses_79 : decode cX8_crosses 79 = .ok (.iload_n 1, 1) := by decide +kernel
theorem dX8_crosses_80 : decode cX8_crosses 80 = .ok (.iastore, 1) := by decide +kernel
theorem dX8_crosses_81 : decode cX8_crosses 81 = .ok (.iconst 0, 1) := by decide +kernel
theorem dX8_crosses_82 : decode cX8_crosses 82 = .ok (.istore 4, 2) := by decide +kernel
theorem dX8_crosses_84 : decode cX8_crosses 84 = .ok (.iload 4, 2) := by decide +kernel
theorem dX8_crosses_86 : decode cX8_crosses 86 = .ok (.aload_n 0, 1) := by decide +kernel
theorem dX8_crosses_87 : decode cX8_crosses 87 = .ok (.getfield 7, 3) := by decide +kernel
theorem dX8_crosses_90 : decode cX8_crosses 90 = .ok (.iconst 4, 1) := by decide +kernel
theorem dX8_crosses_91 : decode cX8_crosses 91 = .ok (.iaload, 1) := by decide +kernel
theorem dX8_crosses_92 : decode cX8_crosses 92 = .ok (.if_icmp .ge 44, 3) := by decide +kernel
theorem dX8_crosses_95 : decode cX8_crosses 95 = .ok (.iload_n 1, 1) := by decide +kernel
theorem dX8_crosses_96 : decode cX8_crosses 96 = .ok (.ifCond .ne 24, 3) := by decide +kernel
theorem dX8_crosses_99 : decode cX8_crosses 99 = .ok (.aload_n 0, 1) := by decide +kernel
theorem dX8_crosses_100 : decode cX8_crosses 100 = .ok (.iload 4, 2) := by decide +kernel
theorem dX8_crosses_102 : decode cX8_crosses 102 = .ok (.iconst 1, 1) := by decide +kernel
theorem dX8_crosses_103 : decode cX8_crosses 103 = .ok (.invokevirtual 84, 3) := by decide +kernel
theorem dX8_crosses_106 : decode cX8_crosses 106 = .ok (.aload_n 0, 1) := by decide +kernel
theorem dX8_crosses_107 : decode cX8_crosses 107 = .ok (.getfield 7, 3) := by decide +kernel
theorem dX8_crosses_110 : decode cX8_crosses 110 = .ok (.bipush 14, 2) := by decide +kernel
theorem dX8_crosses_112 : decode cX8_crosses 112 = .ok (.iload 4, 2) := by decide +kernel
theorem dX8_crosses_114 : decode cX8_crosses 114 = .ok (.iadd, 1) := by decide +kernel
theorem dX8_crosses_115 : decode cX8_crosses 115 = .ok (.iconst 0, 1) := by decide +kernel
theorem dX8_crosses_116 : decode cX8_crosses 116 = .ok (.iastore, 1) := by decide +kernel
theorem dX8_crosses_117 : decode cX8_crosses 117 = .ok (.goto 13, 3) := by decide +kernel
theorem dX8_crosses_120 : decode cX8_crosses 120 = .ok (.iload_n 2, 1) := by decide +kernel
theorem dX8_crosses_121 : decode cX8_crosses 121 = .ok (.ifCond .ne 9, 3) := by decide +kernel
theorem dX8_crosses_124 : decode cX8_crosses 124 = .ok (.aload_n 0, 1) := by decide +kernel
theorem dX8_crosses_125 : decode cX8_crosses 125 = .ok (.iload 4, 2) := by decide +kernel
theorem dX8_crosses_127 : decode cX8_crosses 127 = .ok (.invokevirtual 50, 3) := by decide +kernel
theorem dX8_crosses_130 : decode cX8_crosses 130 = .ok (.iinc 4 1, 3) := by decide +kernel
theorem dX8_crosses_133 : decode cX8_crosses 133 = .ok (.goto (-49), 3) := by decide +kernel
theorem dX8_crosses_136 : decode cX8_crosses 136 = .ok (.iload_n 3, 1) := by decide +kernel
theorem dX8_crosses_137 : decode cX8_crosses 137 = .ok (.ireturn, 1) := by decide +kernel
theorem dX8_cross_0 : decode cX8_cross 0 = .ok (.aload_n 0, 1) := by decide +kernel
theorem dX8_cross_1 : decode cX8_cross 1 = .ok (.invokevirtual 54, 3) := by decide +kernel
theorem dX8_cross_4 : decode cX8_cross 4 = .ok (.aload_n 0, 1) := by decide +kernel
theorem dX8_cross_5 : decode cX8_cross 5 = .ok (.aload_n 0, 1) := by decide +kernel
theorem dX8_cross_6 : decode cX8_cross 6 = .ok (.iload_n 1, 1) := by decide +kernel
theorem dX8_cross_7 : decode cX8_cross 7 = .ok (.invokevirtual 120, 3) := by decide +kernel
theorem dX8_cross_10 : decode cX8_cross 10 = .ok (.invokevirtual 61, 3) := by decide +kernel
theorem dX8_cross_13 : decode cX8_cross 13 = .ok (.ireturn, 1) := by decide +kernel
theorem dX8_loses_0 : decode cX8_loses 0 = .ok (.iload_n 2, 1) := by decide +kernel
theorem dX8_loses_1 : decode cX8_loses 1 = .ok (.istore_n 3, 1) := by decide +kernel
theorem dX8_loses_2 : decode cX8_loses 2 = .ok (.iconst 0, 1) := by decide +kernel
theorem dX8_loses_3 : decode cX8_loses 3 = .ok (.istore 4, 2) := by decide +kernel
theorem dX8_loses_5 : decode cX8_loses 5 = .ok (.iload 4, 2) := by decide +kernel
theorem dX8_loses_7 : decode cX8_loses 7 = .ok (.bipush 10, 2) := by decide +kernel
theorem dX8_loses_9 : decode cX8_loses 9 = .ok (.if_icmp .ge 64, 3) := by decide +kernel
theorem dX8_loses_12 : decode cX8_loses 12 = .ok (.iload 4, 2) := by decide +kernel
theorem dX8_loses_14 : decode cX8_loses 14 = .ok (.iconst 5, 1) := by decide +kernel
theorem dX8_loses_15 : decode cX8_loses 15 = .ok (.if_icmp .ge 8, 3) := by decide +kernel
theorem dX8_loses_18 : decode cX8_loses 18 = .ok (.bipush 64, 2) := by decide +kernel
theorem dX8_loses_20 : decode cX8_loses 20 = .ok (.goto 5, 3) := by decide +kernel
theorem dX8_loses_23 : decode cX8_loses 23 = .ok (.bipush 24, 2) := by decide +kernel
theorem dX8_loses_25 : decode cX8_loses 25 = .ok (.bipush 8, 2) := by decide +kernel
theorem dX8_loses_27 : decode cX8_loses 27 = .ok (.iload 4, 2) := by decide +kernel
theorem dX8_loses_29 : decode cX8_loses 29 = .ok (.iconst 5, 1) := by decide +kernel
theorem dX8_loses_30 : decode cX8_loses 30 = .ok (.irem, 1) := by decide +kernel
theorem dX8_loses_31 : decode cX8_loses 31 = .ok (.imul, 1) := by decide +kernel
theorem dX8_loses_32 : decode cX8_loses 32 = .ok (.iadd, 1) := by decide +kernel
theorem dX8_loses_33 : decode cX8_loses 33 = .ok (.iload_n 1, 1) := by decide +kernel
theorem dX8_loses_34 : decode cX8_loses 34 = .ok (.iadd, 1) := by decide +kernel
theorem dX8_loses_35 : decode cX8_loses 35 = .ok (.istore 5, 2) := by decide +kernel
theorem dX8_loses_37 : decode cX8_loses 37 = .ok (.iload_n 3, 1) := by decide +kernel
theorem dX8_loses_38 : decode cX8_loses 38 = .ok (.aload_n 0, 1) := by decide +kernel
theorem dX8_loses_39 : decode cX8_loses 39 = .ok (.getfield 7, 3) := by decide +kernel
theorem dX8_loses_42 : decode cX8_loses 42 = .ok (.iload 5, 2) := by decide +kernel
theorem dX8_loses_44 : decode cX8_loses 44 = .ok (.iaload, 1) := by decide +kernel
theorem dX8_loses_45 : decode cX8_loses 45 = .ok (.invokestatic 37, 3) := by decide +kernel
theorem dX8_loses_48 : decode cX8_loses 48 = .ok (.istore 6, 2) := by decide +kernel
theorem dX8_loses_50 : decode cX8_loses 50 = .ok (.aload_n 0, 1) := by decide +kernel
theorem dX8_loses_51 : decode cX8_loses 51 = .ok (.getfield 7, 3) := by decide +kernel
theorem dX8_loses_54 : decode cX8_loses 54 = .ok (.iload 5, 2) := by decide +kernel
theorem dX8_loses_56 : decode cX8_loses 56 = .ok (.dup2, 1) := by decide +kernel
theorem dX8_loses_57 : decode cX8_loses 57 = .ok (.iaload, 1) := by decide +kernel
theorem dX8_loses_58 : decode cX8_loses 58 = .ok (.iload 6, 2) := by decide +kernel
theorem dX8_loses_60 : decode cX8_loses 60 = .ok (.isub, 1) := by decide +kernel
theorem dX8_loses_61 : decode cX8_loses 61 = .ok (.iastore, 1) := by decide +kernel
theorem dX8_loses_62 : decode cX8_loses 62 = .ok (.iload_n 3, 1) := by decide +kernel
theorem dX8_loses_63 : decode cX8_loses 63 = .ok (.iload 6, 2) := by decide +kernel
theorem dX8_loses_65 : decode cX8_loses 65 = .ok (.isub, 1) := by decide +kernel
theorem dX8_loses_66 : decode cX8_loses 66 = .ok (.istore_n 3, 1) := by decide +kernel
theorem dX8_loses_67 : decode cX8_loses 67 = .ok (.iinc 4 1, 3) := by decide +kernel
theorem dX8_loses_70 : decode cX8_loses 70 = .ok (.goto (-65), 3) := by decide +kernel
theorem dX8_loses_73 : decode cX8_loses 73 = .ok (.return_, 1) := by decide +kernel
theorem dX8_passes_0 : decode cX8_passes 0 = .ok (.iload_n 1, 1) := by decide +kernel
theorem dX8_passes_1 : decode cX8_passes 1 = .ok (.iconst 1, 1) := by decide +kernel
theorem dX8_passes_2 : decode cX8_passes 2 = .ok (.bipush 60, 2) := by decide +kernel
theorem dX8_passes_4 : decode cX8_passes 4 = .ok (.invokestatic 22, 3) := by decide +kernel
theorem dX8_passes_7 : decode cX8_passes 7 = .ok (.ifCond .ne 5, 3) := by decide +kernel
theorem dX8_passes_10 : decode cX8_passes 10 = .ok (.iconst (-1), 1) := by decide +kernel
theorem dX8_passes_11 : decode cX8_passes 11 = .ok (.ireturn, 1) := by decide +kernel
theorem dX8_passes_12 : decode cX8_passes 12 = .ok (.aload_n 0, 1) := by decide +kernel
theorem dX8_passes_13 : decode cX8_passes 13 = .ok (.getfield 7, 3) := by decide +kernel
theorem dX8_passes_16 : decode cX8_passes 16 = .ok (.iconst 1, 1) := by decide +kernel
theorem dX8_passes_17 : decode cX8_passes 17 = .ok (.iaload, 1) := by decide +kernel
theorem dX8_passes_18 : decode cX8_passes 18 = .ok (.iload_n 1, 1) := by decide +kernel
theorem dX8_passes_19 : decode cX8_passes 19 = .ok (.iadd, 1) := by decide +kernel
theorem dX8_passes_20 : decode cX8_passes 20 = .ok (.sipush 5000, 3) := by decide +kernel
theorem dX8_passes_23 : decode cX8_passes 23 = .ok (.if_icmp .le 6, 3) := by decide +kernel
theorem dX8_passes_26 : decode cX8_passes 26 = .ok (.bipush (-3), 2) := by decide +kernel
theorem dX8_passes_28 : decode cX8_passes 28 = .ok (.ireturn, 1) := by decide +kernel
theorem dX8_passes_29 : decode cX8_passes 29 = .ok (.iconst 0, 1) := by decide +kernel
theorem dX8_passes_30 : decode cX8_passes 30 = .ok (.istore_n 2, 1) := by decide +kernel
theorem dX8_passes_31 : decode cX8_passes 31 = .ok (.iconst 0, 1) := by decide +kernel
theorem dX8_passes_32 : decode cX8_passes 32 = .ok (.istore_n 3, 1) := by decide +kernel
theorem dX8_passes_33 : decode cX8_passes 33 = .ok (.iload_n 3, 1) := by decide +kernel
theorem dX8_passes_34 : decode cX8_passes 34 = .ok (.iload_n 1, 1) := by decide +kernel
theorem dX8_passes_35 : decode cX8_passes 35 = .ok (.if_icmp .ge 105, 3) := by decide +kernel
theorem dX8_passes_38 : decode cX8_passes 38 = .ok (.aload_n 0, 1) := by decide +kernel
theorem dX8_passes_39 : decode cX8_passes 39 = .ok (.getfield 7, 3) := by decide +kernel
theorem dX8_passes_42 : decode cX8_passes 42 = .ok (.iconst 1, 1) := by decide +kernel
theorem dX8_passes_43 : decode cX8_passes 43 = .ok (.dup2, 1) := by decide +kernel
theorem dX8_passes_44 : decode cX8_passes 44 = .ok (.iaload, 1) := by decide +kernel
theorem dX8_passes_45 : decode cX8_passes 45 = .ok (.iconst 1, 1) := by decide +kernel
theorem dX8_passes_46 : decode cX8_passes 46 = .ok (.iadd, 1) := by decide +kernel
theorem dX8_passes_47 : decode cX8_passes 47 = .ok (.iastore, 1) := by decide +kernel
theorem dX8_passes_48 : decode cX8_passes 48 = .ok (.aload_n 0, 1) := by decide +kernel
theorem dX8_passes_49 : decode cX8_passes 49 = .ok (.iconst (-1), 1) := by decide +kernel
theorem dX8_passes_50 : decode cX8_passes 50 = .ok (.iconst (-1), 1) := by decide +kernel
theorem dX8_passes_51 : decode cX8_passes 51 = .ok (.invokevirtual 33, 3) := by decide +kernel
theorem dX8_passes_54 : decode cX8_passes 54 = .ok (.istore 4, 2) := by decide +kernel
theorem dX8_passes_56 : decode cX8_passes 56 = .ok (.iload 4, 2) := by decide +kernel
theorem dX8_passes_58 : decode cX8_passes 58 = .ok (.ifCond .lt 76, 3) := by decide +kernel
theorem dX8_passes_61 : decode cX8_passes 61 = .ok (.aload_n 0, 1) := by decide +kernel
theorem dX8_passes_62 : decode cX8_passes 62 = .ok (.getfield 7, 3) := by decide +kernel
theorem dX8_passes_65 : decode cX8_passes 65 = .ok (.sipush 392, 3) := by decide +kernel
theorem dX8_passes_68 : decode cX8_passes 68 = .ok (.iload 4, 2) := by decide +kernel
theorem dX8_passes_70 : decode cX8_passes 70 = .ok (.iadd, 1) := by decide +kernel
theorem dX8_passes_71 : decode cX8_passes 71 = .ok (.iaload, 1) := by decide +kernel
theorem dX8_passes_72 : decode cX8_passes 72 = .ok (.aload_n 0, 1) := by decide +kernel
theorem dX8_passes_73 : decode cX8_passes 73 = .ok (.getfield 7, 3) := by decide +kernel
theorem dX8_passes_76 : decode cX8_passes 76 = .ok (.iconst 1, 1) := by decide +kernel
theorem dX8_passes_77 : decode cX8_passes 77 = .ok (.iaload, 1) := by decide +kernel
theorem dX8_passes_78 : decode cX8_passes 78 = .ok (.if_icmp .ge 56, 3) := by decide +kernel
theorem dX8_passes_81 : decode cX8_passes 81 = .ok (.aload_n 0, 1) := by decide +kernel
theorem dX8_passes_82 : decode cX8_passes 82 = .ok (.getfield 7, 3) := by decide +kernel
theorem dX8_passes_85 : decode cX8_passes 85 = .ok (.sipush 272, 3) := by decide +kernel
theorem dX8_passes_88 : decode cX8_passes 88 = .ok (.iload 4, 2) := by decide +kernel
theorem dX8_passes_90 : decode cX8_passes 90 = .ok (.iadd, 1) := by decide +kernel
theorem dX8_passes_91 : decode cX8_passes 91 = .ok (.iaload, 1) := by decide +kernel
theorem dX8_passes_92 : decode cX8_passes 92 = .ok (.istore 5, 2) := by decide +kernel
theorem dX8_passes_94 : decode cX8_passes 94 = .ok (.iload_n 2, 1) := by decide +kernel
theorem dX8_passes_95 : decode cX8_passes 95 = .ok (.aload_n 0, 1) := by decide +kernel
theorem dX8_passes_96 : decode cX8_passes 96 = .ok (.iload 4, 2) := by decide +kernel
theorem dX8_passes_98 : decode cX8_passes 98 = .ok (.iload 5, 2) := by decide +kernel
theorem dX8_passes_100 : decode cX8_passes 100 = .ok (.iconst 3, 1) := by decide +kernel
theorem dX8_passes_101 : decode cX8_passes 101 = .ok (.invokevirtual 42, 3) := by decide +kernel
theorem dX8_passes_104 : decode cX8_passes 104 = .ok (.iadd, 1) := by decide +kernel
theorem dX8_passes_105 : decode cX8_passes 105 = .ok (.istore_n 2, 1) := by decide +kernel
theorem dX8_passes_106 : decode cX8_passes 106 = .ok (.aload_n 0, 1) := by decide +kernel
theorem dX8_passes_107 : decode cX8_passes 107 = .ok (.aload_n 0, 1) := by decide +kernel
theorem dX8_passes_108 : decode cX8_passes 108 = .ok (.getfield 7, 3) := by decide +kernel
theorem dX8_passes_111 : decode cX8_passes 111 = .ok (.sipush 152, 3) := by decide +kernel
theorem dX8_passes_114 : decode cX8_passes 114 = .ok (.iload 4, 2) := by decide +kernel
theorem dX8_passes_116 : decode cX8_passes 116 = .ok (.iadd, 1) := by decide +kernel
theorem dX8_passes_117 : decode cX8_passes 117 = .ok (.iaload, 1) := by decide +kernel
theorem dX8_passes_118 : decode cX8_passes 118 = .ok (.iload 5, 2) := by decide +kernel
theorem dX8_passes_120 : decode cX8_passes 120 = .ok (.invokevirtual 123, 3) := by decide +kernel
theorem dX8_passes_123 : decode cX8_passes 123 = .ok (.aload_n 0, 1) := by decide +kernel
theorem dX8_passes_124 : decode cX8_passes 124 = .ok (.iconst (-1), 1) := by decide +kernel
theorem dX8_passes_125 : decode cX8_passes 125 = .ok (.iconst (-1), 1) := by decide +kernel
theorem dX8_passes_126 : decode cX8_passes 126 = .ok (.invokevirtual 33, 3) := by decide +kernel
theorem dX8_passes_129 : decode cX8_passes 129 = .ok (.istore 4, 2) := by decide +kernel
theorem dX8_passes_131 : decode cX8_passes 131 = .ok (.goto (-75), 3) := by decide +kernel
theorem dX8_passes_134 : decode cX8_passes 134 = .ok (.iinc 3 1, 3) := by decide +kernel
theorem dX8_passes_137 : decode cX8_passes 137 = .ok (.goto (-104), 3) := by decide +kernel
theorem dX8_passes_140 : decode cX8_passes 140 = .ok (.iload_n 2, 1) := by decide +kernel
theorem dX8_passes_141 : decode cX8_passes 141 = .ok (.ireturn, 1) := by decide +kernel
theorem dX8_pass_0 : decode cX8_pass 0 = .ok (.aload_n 0, 1) := by decide +kernel
theorem dX8_pass_1 : decode cX8_pass 1 = .ok (.invokevirtual 54, 3) := by decide +kernel
theorem dX8_pass_4 : decode cX8_pass 4 = .ok (.aload_n 0, 1) := by decide +kernel
theorem dX8_pass_5 : decode cX8_pass 5 = .ok (.aload_n 0, 1) := by decide +kernel
theorem dX8_pass_6 : decode cX8_pass 6 = .ok (.iload_n 1, 1) := by decide +kernel
theorem dX8_pass_7 : decode cX8_pass 7 = .ok (.invokevirtual 126, 3) := by decide +kernel
theorem dX8_pass_10 : decode cX8_pass 10 = .ok (.invokevirtual 61, 3) := by decide +kernel
theorem dX8_pass_13 : decode cX8_pass 13 = .ok (.ireturn, 1) := by decide +kernel
theorem dX8_set_0 : decode cX8_set 0 = .ok (.iload_n 1, 1) := by decide +kernel
theorem dX8_set_1 : decode cX8_set 1 = .ok (.iconst 0, 1) := by decide +kernel
theorem dX8_set_2 : decode cX8_set 2 = .ok (.iconst 1, 1) := by decide +kernel
theorem dX8_set_3 : decode cX8_set 3 = .ok (.invokestatic 22, 3) := by decide +kernel
theorem dX8_set_6 : decode cX8_set 6 = .ok (.ifCond .eq 22, 3) := by decide +kernel
theorem dX8_set_9 : decode cX8_set 9 = .ok (.iload_n 2, 1) := by decide +kernel
theorem dX8_set_10 : decode cX8_set 10 = .ok (.iload_n 1, 1) := by decide +kernel
theorem dX8_set_11 : decode cX8_set 11 = .ok (.iload_n 1, 1) := by decide +kernel
theorem dX8_set_12 : decode cX8_set 12 = .ok (.ifCond .ne 8, 3) := by decide +kernel
theorem dX8_set_15 : decode cX8_set 15 = .ok (.ldc 129, 2) := by decide +kernel
theorem dX8_set_17 : decode cX8_set 17 = .ok (.goto 5, 3) := by decide +kernel
theorem dX8_set_20 : decode cX8_set 20 = .ok (.bipush 99, 2) := by decide +kernel
theorem dX8_set_22 : decode cX8_set 22 = .ok (.invokestatic 22, 3) := by decide +kernel
theorem dX8_set_25 : decode cX8_set 25 = .ok (.ifCond .ne 5, 3) := by decide +kernel
theorem dX8_set_28 : decode cX8_set 28 = .ok (.iconst (-1), 1) := by decide +kernel
theorem dX8_set_29 : decode cX8_set 29 = .ok (.ireturn, 1) := by decide +kernel
theorem dX8_set_30 : decode cX8_set 30 = .ok (.aload_n 0, 1) := by decide +kernel
theorem dX8_set_31 : decode cX8_set 31 = .ok (.invokevirtual 54, 3) := by decide +kernel
theorem dX8_set_34 : decode cX8_set 34 = .ok (.aload_n 0, 1) := by decide +kernel
theorem dX8_set_35 : decode cX8_set 35 = .ok (.getfield 7, 3) := by decide +kernel
theorem dX8_set_38 : decode cX8_set 38 = .ok (.iconst 2, 1) := by decide +kernel
theorem dX8_set_39 : decode cX8_set 39 = .ok (.iload_n 1, 1) := by decide +kernel
theorem dX8_set_40 : decode cX8_set 40 = .ok (.iadd, 1) := by decide +kernel
theorem dX8_set_41 : decode cX8_set 41 = .ok (.iaload, 1) := by decide +kernel
theorem dX8_set_42 : decode cX8_set 42 = .ok (.istore_n 3, 1) := by decide +kernel
theorem dX8_set_43 : decode cX8_set 43 = .ok (.aload_n 0, 1) := by decide +kernel
theorem dX8_set_44 : decode cX8_set 44 = .ok (.getfield 7, 3) := by decide +kernel
theorem dX8_set_47 : decode cX8_set 47 = .ok (.iconst 2, 1) := by decide +kernel
theorem dX8_set_48 : decode cX8_set 48 = .ok (.iload_n 1, 1) := by decide +kernel
theorem dX8_set_49 : decode cX8_set 49 = .ok (.iadd, 1) := by decide +kernel
theorem dX8_set_50 : decode cX8_set 50 = .ok (.iload_n 2, 1) := by decide +kernel
theorem dX8_set_51 : decode cX8_set 51 = .ok (.iastore, 1) := by decide +kernel
theorem dX8_set_52 : decode cX8_set 52 = .ok (.aload_n 0, 1) := by decide +kernel
theorem dX8_set_53 : decode cX8_set 53 = .ok (.iload_n 3, 1) := by decide +kernel
theorem dX8_set_54 : decode cX8_set 54 = .ok (.invokevirtual 61, 3) := by decide +kernel
theorem dX8_set_57 : decode cX8_set 57 = .ok (.ireturn, 1) := by decide +kernel
theorem dX8_overLockers_0 : decode cX8_overLockers 0 = .ok (.iconst 0, 1) := by decide +kernel
theorem dX8_overLockers_1 : decode cX8_overLockers 1 = .ok (.istore_n 3, 1) := by decide +kernel
theorem dX8_overLockers_2 : decode cX8_overLockers 2 = .ok (.iconst 0, 1) := by decide +kernel
theorem dX8_overLockers_3 : decode cX8_overLockers 3 = .ok (.istore 4, 2) := by decide +kernel
theorem dX8_overLockers_5 : decode cX8_overLockers 5 = .ok (.iload 4, 2) := by decide +kernel
theorem dX8_overLockers_7 : decode cX8_overLockers 7 = .ok (.iconst 5, 1) := by decide +kernel
theorem dX8_overLockers_8 : decode cX8_overLockers 8 = .ok (.if_icmp .ge 26, 3) := by decide +kernel
theorem dX8_overLockers_11 : decode cX8_overLockers 11 = .ok (.iload_n 3, 1) := by decide +kernel
theorem dX8_overLockers_12 : decode cX8_overLockers 12 = .ok (.aload_n 0, 1) := by decide +kernel
theorem dX8_overLockers_13 : decode cX8_overLockers 13 = .ok (.getfield 7, 3) := by decide +kernel
theorem dX8_overLockers_16 : decode cX8_overLockers 16 = .ok (.iload_n 1, 1) := by decide +kernel
theorem dX8_overLockers_17 : decode cX8_overLockers 17 = .ok (.bipush 8, 2) := by decide +kernel
theorem dX8_overLockers_19 : decode cX8_overLockers 19 = .ok (.iload 4, 2) := by decide +kernel
theorem dX8_overLockers_21 : decode cX8_overLockers 21 = .ok (.imul, 1) := by decide +kernel
theorem dX8_overLockers_22 : decode cX8_overLockers 22 = .ok (.iadd, 1) := by decide +kernel
theorem dX8_overLockers_23 : decode cX8_overLockers 23 = .ok (.iload_n 2, 1) := by decide +kernel
theorem dX8_overLockers_24 : decode cX8_overLockers 24 = .ok (.iadd, 1) := by decide +kernel
theorem dX8_overLockers_25 : decode cX8_overLockers 25 = .ok (.iaload, 1) := by decide +kernel
theorem dX8_overLockers_26 : decode cX8_overLockers 26 = .ok (.iadd, 1) := by decide +kernel
theorem dX8_overLockers_27 : decode cX8_overLockers 27 = .ok (.istore_n 3, 1) := by decide +kernel
theorem dX8_overLockers_28 : decode cX8_overLockers 28 = .ok (.iinc 4 1, 3) := by decide +kernel
theorem dX8_overLockers_31 : decode cX8_overLockers 31 = .ok (.goto (-26), 3) := by decide +kernel
theorem dX8_overLockers_34 : decode cX8_overLockers 34 = .ok (.iload_n 3, 1) := by decide +kernel
theorem dX8_overLockers_35 : decode cX8_overLockers 35 = .ok (.ireturn, 1) := by decide +kernel
theorem dX8_account_0 : decode cX8_account 0 = .ok (.aload_n 0, 1) := by decide +kernel
theorem dX8_account_1 : decode cX8_account 1 = .ok (.iload_n 1, 1) := by decide +kernel
theorem dX8_account_2 : decode cX8_account 2 = .ok (.invokevirtual 72, 3) := by decide +kernel
theorem dX8_account_5 : decode cX8_account 5 = .ok (.ifCond .eq 13, 3) := by decide +kernel
theorem dX8_account_8 : decode cX8_account 8 = .ok (.iload_n 2, 1) := by decide +kernel
theorem dX8_account_9 : decode cX8_account 9 = .ok (.iconst 0, 1) := by decide +kernel
theorem dX8_account_10 : decode cX8_account 10 = .ok (.bipush 6, 2) := by decide +kernel
theorem dX8_account_12 : decode cX8_account 12 = .ok (.invokestatic 22, 3) := by decide +kernel
theorem dX8_account_15 : decode cX8_account 15 = .ok (.ifCond .ne 5, 3) := by decide +kernel
theorem dX8_account_18 : decode cX8_account 18 = .ok (.iconst (-1), 1) := by decide +kernel
theorem dX8_account_19 : decode cX8_account 19 = .ok (.ireturn, 1) := by decide +kernel
theorem dX8_account_20 : decode cX8_account 20 = .ok (.iload_n 2, 1) := by decide +kernel
theorem dX8_account_21 : decode cX8_account 21 = .ok (.tableswitch 53 0 2 #[27, 37, 45], 27) := by decide +kernel
theorem dX8_account_48 : decode cX8_account 48 = .ok (.aload_n 0, 1) := by decide +kernel
theorem dX8_account_49 : decode cX8_account 49 = .ok (.getfield 7, 3) := by decide +kernel
theorem dX8_account_52 : decode cX8_account 52 = .ok (.bipush 112, 2) := by decide +kernel
theorem dX8_account_54 : decode cX8_account 54 = .ok (.iload_n 1, 1) := by decide +kernel
theorem dX8_account_55 : decode cX8_account 55 = .ok (.iadd, 1) := by decide +kernel
theorem dX8_account_56 : decode cX8_account 56 = .ok (.iaload, 1) := by decide +kernel
theorem dX8_account_57 : decode cX8_account 57 = .ok (.ireturn, 1) := by decide +kernel
theorem dX8_account_58 : decode cX8_account 58 = .ok (.aload_n 0, 1) := by decide +kernel
theorem dX8_account_59 : decode cX8_account 59 = .ok (.bipush 24, 2) := by decide +kernel
theorem dX8_account_61 : decode cX8_account 61 = .ok (.iload_n 1, 1) := by decide +kernel
theorem dX8_account_62 : decode cX8_account 62 = .ok (.invokevirtual 130, 3) := by decide +kernel
theorem dX8_account_65 : decode cX8_account 65 = .ok (.ireturn, 1) := by decide +kernel
theorem dX8_account_66 : decode cX8_account 66 = .ok (.aload_n 0, 1) := by decide +kernel
theorem dX8_account_67 : decode cX8_account 67 = .ok (.bipush 64, 2) := by decide +kernel
theorem dX8_account_69 : decode cX8_account 69 = .ok (.iload_n 1, 1) := by decide +kernel
theorem dX8_account_70 : decode cX8_account 70 = .ok (.invokevirtual 130, 3) := by decide +kernel
theorem dX8_account_73 : decode cX8_account 73 = .ok (.ireturn, 1) := by decide +kernel
theorem dX8_account_74 : decode cX8_account 74 = .ok (.aload_n 0, 1) := by decide +kernel
theorem dX8_account_75 : decode cX8_account 75 = .ok (.getfield 7, 3) := by decide +kernel
theorem dX8_account_78 : decode cX8_account 78 = .ok (.bipush 120, 2) := by decide +kernel
theorem dX8_account_80 : decode cX8_account 80 = .ok (.iconst 4, 1) := by decide +kernel
theorem dX8_account_81 : decode cX8_account 81 = .ok (.iload_n 1, 1) := by decide +kernel
theorem dX8_account_82 : decode cX8_account 82 = .ok (.imul, 1) := by decide +kernel
theorem dX8_account_83 : decode cX8_account 83 = .ok (.iadd, 1) := by decide +kernel
theorem dX8_account_84 : decode cX8_account 84 = .ok (.iload_n 2, 1) := by decide +kernel
theorem dX8_account_85 : decode cX8_account 85 = .ok (.iadd, 1) := by decide +kernel
theorem dX8_account_86 : decode cX8_account 86 = .ok (.iconst 3, 1) := by decide +kernel
theorem dX8_account_87 : decode cX8_account 87 = .ok (.isub, 1) := by decide +kernel
theorem dX8_account_88 : decode cX8_account 88 = .ok (.iaload, 1) := by decide +kernel
theorem dX8_account_89 : decode cX8_account 89 = .ok (.ireturn, 1) := by decide +kernel
theorem dX8_cents_0 : decode cX8_cents 0 = .ok (.iload_n 1, 1) := by decide +kernel
theorem dX8_cents_1 : decode cX8_cents 1 = .ok (.iconst 0, 1) := by decide +kernel
theorem dX8_cents_2 : decode cX8_cents 2 = .ok (.bipush 6, 2) := by decide +kernel
theorem dX8_cents_4 : decode cX8_cents 4 = .ok (.invokestatic 22, 3) := by decide +kernel
theorem dX8_cents_7 : decode cX8_cents 7 = .ok (.ifCond .ne 5, 3) := by decide +kernel
theorem dX8_cents_10 : decode cX8_cents 10 = .ok (.iconst (-1), 1) := by decide +kernel
theorem dX8_cents_11 : decode cX8_cents 11 = .ok (.ireturn, 1) := by decide +kernel
theorem dX8_cents_12 : decode cX8_cents 12 = .ok (.iload_n 1, 1) := by decide +kernel
theorem dX8_cents_13 : decode cX8_cents 13 = .ok (.iconst 1, 1) := by decide +kernel
theorem dX8_cents_14 : decode cX8_cents 14 = .ok (.if_icmp .ne 50, 3) := by decide +kernel
theorem dX8_cents_17 : decode cX8_cents 17 = .ok (.iconst 0, 1) := by decide +kernel
theorem dX8_cents_18 : decode cX8_cents 18 = .ok (.istore_n 2, 1) := by decide +kernel
theorem dX8_cents_19 : decode cX8_cents 19 = .ok (.iconst 0, 1) := by decide +kernel
theorem dX8_cents_20 : decode cX8_cents 20 = .ok (.istore_n 3, 1) := by decide +kernel
theorem dX8_cents_21 : decode cX8_cents 21 = .ok (.iload_n 3, 1) := by decide +kernel
theorem dX8_cents_22 : decode cX8_cents 22 = .ok (.aload_n 0, 1) := by decide +kernel
theorem dX8_cents_23 : decode cX8_cents 23 = .ok (.getfield 7, 3) := by decide +kernel
theorem dX8_cents_26 : decode cX8_cents 26 = .ok (.bipush 6, 2) := by decide +kernel
theorem dX8_cents_28 : decode cX8_cents 28 = .ok (.iaload, 1) := by decide +kernel
theorem dX8_cents_29 : decode cX8_cents 29 = .ok (.if_icmp .ge 33, 3) := by decide +kernel
theorem dX8_cents_32 : decode cX8_cents 32 = .ok (.iload_n 2, 1) := by decide +kernel
theorem dX8_cents_33 : decode cX8_cents 33 = .ok (.aload_n 0, 1) := by decide +kernel
theorem dX8_cents_34 : decode cX8_cents 34 = .ok (.getfield 7, 3) := by decide +kernel
theorem dX8_cents_37 : decode cX8_cents 37 = .ok (.sipush 272, 3) := by decide +kernel
theorem dX8_cents_40 : decode cX8_cents 40 = .ok (.iload_n 3, 1) := by decide +kernel
theorem dX8_cents_41 : decode cX8_cents 41 = .ok (.iadd, 1) := by decide +kernel
theorem dX8_cents_42 : decode cX8_cents 42 = .ok (.iaload, 1) := by decide +kernel
theorem dX8_cents_43 : decode cX8_cents 43 = .ok (.aload_n 0, 1) := by decide +kernel
theorem dX8_cents_44 : decode cX8_cents 44 = .ok (.getfield 7, 3) := by decide +kernel
theorem dX8_cents_47 : decode cX8_cents 47 = .ok (.sipush 332, 3) := by decide +kernel
theorem dX8_cents_50 : decode cX8_cents 50 = .ok (.iload_n 3, 1) := by decide +kernel
theorem dX8_cents_51 : decode cX8_cents 51 = .ok (.iadd, 1) := by decide +kernel
theorem dX8_cents_52 : decode cX8_cents 52 = .ok (.iaload, 1) := by decide +kernel
theorem dX8_cents_53 : decode cX8_cents 53 = .ok (.imul, 1) := by decide +kernel
theorem dX8_cents_54 : decode cX8_cents 54 = .ok (.iadd, 1) := by decide +kernel
theorem dX8_cents_55 : decode cX8_cents 55 = .ok (.istore_n 2, 1) := by decide +kernel
theorem dX8_cents_56 : decode cX8_cents 56 = .ok (.iinc 3 1, 3) := by decide +kernel
theorem dX8_cents_59 : decode cX8_cents 59 = .ok (.goto (-38), 3) := by decide +kernel
theorem dX8_cents_62 : decode cX8_cents 62 = .ok (.iload_n 2, 1) := by decide +kernel
theorem dX8_cents_63 : decode cX8_cents 63 = .ok (.ireturn, 1) := by decide +kernel
theorem dX8_cents_64 : decode cX8_cents 64 = .ok (.iload_n 1, 1) := by decide +kernel
theorem dX8_cents_65 : decode cX8_cents 65 = .ok (.ifCond .ne 13, 3) := by decide +kernel
theorem dX8_cents_68 : decode cX8_cents 68 = .ok (.aload_n 0, 1) := by decide +kernel
theorem dX8_cents_69 : decode cX8_cents 69 = .ok (.getfield 7, 3) := by decide +kernel
theorem dX8_cents_72 : decode cX8_cents 72 = .ok (.bipush 9, 2) := by decide +kernel
theorem dX8_cents_74 : decode cX8_cents 74 = .ok (.iaload, 1) := by decide +kernel
theorem dX8_cents_75 : decode cX8_cents 75 = .ok (.goto 30, 3) := by decide +kernel
theorem dX8_cents_78 : decode cX8_cents 78 = .ok (.iload_n 1, 1) := by decide +kernel
theorem dX8_cents_79 : decode cX8_cents 79 = .ok (.bipush 6, 2) := by decide +kernel
theorem dX8_cents_81 : decode cX8_cents 81 = .ok (.if_icmp .ne 13, 3) := by decide +kernel
theorem dX8_cents_84 : decode cX8_cents 84 = .ok (.aload_n 0, 1) := by decide +kernel
theorem dX8_cents_85 : decode cX8_cents 85 = .ok (.getfield 7, 3) := by decide +kernel
theorem dX8_cents_88 : decode cX8_cents 88 = .ok (.bipush 8, 2) := by decide +kernel
theorem dX8_cents_90 : decode cX8_cents 90 = .ok (.iaload, 1) := by decide +kernel
theorem dX8_cents_91 : decode cX8_cents 91 = .ok (.goto 14, 3) := by decide +kernel
theorem dX8_cents_94 : decode cX8_cents 94 = .ok (.aload_n 0, 1) := by decide +kernel
theorem dX8_cents_95 : decode cX8_cents 95 = .ok (.getfield 7, 3) := by decide +kernel
theorem dX8_cents_98 : decode cX8_cents 98 = .ok (.bipush 10, 2) := by decide +kernel
theorem dX8_cents_100 : decode cX8_cents 100 = .ok (.iload_n 1, 1) := by decide +kernel
theorem dX8_cents_101 : decode cX8_cents 101 = .ok (.iadd, 1) := by decide +kernel
theorem dX8_cents_102 : decode cX8_cents 102 = .ok (.iconst 2, 1) := by decide +kernel
theorem dX8_cents_103 : decode cX8_cents 103 = .ok (.isub, 1) := by decide +kernel
theorem dX8_cents_104 : decode cX8_cents 104 = .ok (.iaload, 1) := by decide +kernel
theorem dX8_cents_105 : decode cX8_cents 105 = .ok (.ireturn, 1) := by decide +kernel
theorem dX8_count_0 : decode cX8_count 0 = .ok (.iconst 0, 1) := by decide +kernel
theorem dX8_count_1 : decode cX8_count 1 = .ok (.istore_n 2, 1) := by decide +kernel
theorem dX8_count_2 : decode cX8_count 2 = .ok (.iconst 0, 1) := by decide +kernel
theorem dX8_count_3 : decode cX8_count 3 = .ok (.istore_n 3, 1) := by decide +kernel
theorem dX8_count_4 : decode cX8_count 4 = .ok (.iload_n 3, 1) := by decide +kernel
theorem dX8_count_5 : decode cX8_count 5 = .ok (.aload_n 0, 1) := by decide +kernel
theorem dX8_count_6 : decode cX8_count 6 = .ok (.getfield 7, 3) := by decide +kernel
theorem dX8_count_9 : decode cX8_count 9 = .ok (.bipush 6, 2) := by decide +kernel
theorem dX8_count_11 : decode cX8_count 11 = .ok (.iaload, 1) := by decide +kernel
theorem dX8_count_12 : decode cX8_count 12 = .ok (.if_icmp .ge 30, 3) := by decide +kernel
theorem dX8_count_15 : decode cX8_count 15 = .ok (.iload_n 2, 1) := by decide +kernel
theorem dX8_count_16 : decode cX8_count 16 = .ok (.aload_n 0, 1) := by decide +kernel
theorem dX8_count_17 : decode cX8_count 17 = .ok (.getfield 7, 3) := by decide +kernel
theorem dX8_count_20 : decode cX8_count 20 = .ok (.sipush 272, 3) := by decide +kernel
theorem dX8_count_23 : decode cX8_count 23 = .ok (.iload_n 3, 1) := by decide +kernel
theorem dX8_count_24 : decode cX8_count 24 = .ok (.iadd, 1) := by decide +kernel
theorem dX8_count_25 : decode cX8_count 25 = .ok (.iaload, 1) := by decide +kernel
theorem dX8_count_26 : decode cX8_count 26 = .ok (.ifCond .le 7, 3) := by decide +kernel
theorem dX8_count_29 : decode cX8_count 29 = .ok (.iconst 1, 1) := by decide +kernel
theorem dX8_count_30 : decode cX8_count 30 = .ok (.goto 4, 3) := by decide +kernel
theorem dX8_count_33 : decode cX8_count 33 = .ok (.iconst 0, 1) := by decide +kernel
theorem dX8_count_34 : decode cX8_count 34 = .ok (.iadd, 1) := by decide +kernel
theorem dX8_count_35 : decode cX8_count 35 = .ok (.istore_n 2, 1) := by decide +kernel
theorem dX8_count_36 : decode cX8_count 36 = .ok (.iinc 3 1, 3) := by decide +kernel
theorem dX8_count_39 : decode cX8_count 39 = .ok (.goto (-35), 3) := by decide +kernel
theorem dX8_count_42 : decode cX8_count 42 = .ok (.iload_n 1, 1) := by decide +kernel
theorem dX8_count_43 : decode cX8_count 43 = .ok (.tableswitch 183 0 21 #[101, 108, 115, 123, 125, 133, 140, 147, 153, 159, 164, 183, 183, 183, 183, 183, 183, 183, 183, 183, 169, 176], 101) := by decide +kernel
theorem dX8_count_144 : decode cX8_count 144 = .ok (.aload_n 0, 1) := by decide +kernel
theorem dX8_count_145 : decode cX8_count 145 = .ok (.getfield 7, 3) := by decide +kernel
theorem dX8_count_148 : decode cX8_count 148 = .ok (.iconst 4, 1) := by decide +kernel
theorem dX8_count_149 : decode cX8_count 149 = .ok (.iaload, 1) := by decide +kernel
theorem dX8_count_150 : decode cX8_count 150 = .ok (.ireturn, 1) := by decide +kernel
theorem dX8_count_151 : decode cX8_count 151 = .ok (.aload_n 0, 1) := by decide +kernel
theorem dX8_count_152 : decode cX8_count 152 = .ok (.getfield 7, 3) := by decide +kernel
theorem dX8_count_155 : decode cX8_count 155 = .ok (.iconst 5, 1) := by decide +kernel
theorem dX8_count_156 : decode cX8_count 156 = .ok (.iaload, 1) := by decide +kernel
theorem dX8_count_157 : decode cX8_count 157 = .ok (.ireturn, 1) := by decide +kernel
theorem dX8_count_158 : decode cX8_count 158 = .ok (.aload_n 0, 1) := by decide +kernel
theorem dX8_count_159 : decode cX8_count 159 = .ok (.getfield 7, 3) := by decide +kernel
theorem dX8_count_162 : decode cX8_count 162 = .ok (.bipush 6, 2) := by decide +kernel
theorem dX8_count_164 : decode cX8_count 164 = .ok (.iaload, 1) := by decide +kernel
theorem dX8_count_165 : decode cX8_count 165 = .ok (.ireturn, 1) := by decide +kernel
theorem dX8_count_166 : decode cX8_count 166 = .ok (.iload_n 2, 1) := by decide +kernel
theorem dX8_count_167 : decode cX8_count 167 = .ok (.ireturn, 1) := by decide +kernel
theorem dX8_count_168 : decode cX8_count 168 = .ok (.aload_n 0, 1) := by decide +kernel
theorem dX8_count_169 : decode cX8_count 169 = .ok (.getfield 7, 3) := by decide +kernel
theorem dX8_count_172 : decode cX8_count 172 = .ok (.bipush 7, 2) := by decide +kernel
theorem dX8_count_174 : decode cX8_count 174 = .ok (.iaload, 1) := by decide +kernel
theorem dX8_count_175 : decode cX8_count 175 = .ok (.ireturn, 1) := by decide +kernel
theorem dX8_count_176 : decode cX8_count 176 = .ok (.aload_n 0, 1) := by decide +kernel
theorem dX8_count_177 : decode cX8_count 177 = .ok (.getfield 7, 3) := by decide +kernel
theorem dX8_count_180 : decode cX8_count 180 = .ok (.iconst 0, 1) := by decide +kernel
theorem dX8_count_181 : decode cX8_count 181 = .ok (.iaload, 1) := by decide +kernel
theorem dX8_count_182 : decode cX8_count 182 = .ok (.ireturn, 1) := by decide +kernel
theorem dX8_count_183 : decode cX8_count 183 = .ok (.aload_n 0, 1) := by decide +kernel
theorem dX8_count_184 : decode cX8_count 184 = .ok (.getfield 7, 3) := by decide +kernel
theorem dX8_count_187 : decode cX8_count 187 = .ok (.iconst 1, 1) := by decide +kernel
theorem dX8_count_188 : decode cX8_count 188 = .ok (.iaload, 1) := by decide +kernel
theorem dX8_count_189 : decode cX8_count 189 = .ok (.ireturn, 1) := by decide +kernel
theorem dX8_count_190 : decode cX8_count 190 = .ok (.aload_n 0, 1) := by decide +kernel
theorem dX8_count_191 : decode cX8_count 191 = .ok (.iconst 1, 1) := by decide +kernel
theorem dX8_count_192 : decode cX8_count 192 = .ok (.invokevirtual 117, 3) := by decide +kernel
theorem dX8_count_195 : decode cX8_count 195 = .ok (.ireturn, 1) := by decide +kernel
theorem dX8_count_196 : decode cX8_count 196 = .ok (.aload_n 0, 1) := by decide +kernel
theorem dX8_count_197 : decode cX8_count 197 = .ok (.iconst 2, 1) := by decide +kernel
theorem dX8_count_198 : decode cX8_count 198 = .ok (.invokevirtual 117, 3) := by decide +kernel
theorem dX8_count_201 : decode cX8_count 201 = .ok (.ireturn, 1) := by decide +kernel
theorem dX8_count_202 : decode cX8_count 202 = .ok (.aload_n 0, 1) := by decide +kernel
theorem dX8_count_203 : decode cX8_count 203 = .ok (.getfield 30, 3) := by decide +kernel
theorem dX8_count_206 : decode cX8_count 206 = .ok (.ireturn, 1) := by decide +kernel
theorem dX8_count_207 : decode cX8_count 207 = .ok (.aload_n 0, 1) := by decide +kernel
theorem dX8_count_208 : decode cX8_count 208 = .ok (.getfield 133, 3) := by decide +kernel
theorem dX8_count_211 : decode cX8_count 211 = .ok (.ireturn, 1) := by decide +kernel
theorem dX8_count_212 : decode cX8_count 212 = .ok (.aload_n 0, 1) := by decide +kernel
theorem dX8_count_213 : decode cX8_count 213 = .ok (.getfield 7, 3) := by decide +kernel
theorem dX8_count_216 : decode cX8_count 216 = .ok (.iconst 2, 1) := by decide +kernel
theorem dX8_count_217 : decode cX8_count 217 = .ok (.iaload, 1) := by decide +kernel
theorem dX8_count_218 : decode cX8_count 218 = .ok (.ireturn, 1) := by decide +kernel
theorem dX8_count_219 : decode cX8_count 219 = .ok (.aload_n 0, 1) := by decide +kernel
theorem dX8_count_220 : decode cX8_count 220 = .ok (.getfield 7, 3) := by decide +kernel
theorem dX8_count_223 : decode cX8_count 223 = .ok (.iconst 3, 1) := by decide +kernel
theorem dX8_count_224 : decode cX8_count 224 = .ok (.iaload, 1) := by decide +kernel
theorem dX8_count_225 : decode cX8_count 225 = .ok (.ireturn, 1) := by decide +kernel
theorem dX8_count_226 : decode cX8_count 226 = .ok (.iconst (-1), 1) := by decide +kernel
theorem dX8_count_227 : decode cX8_count 227 = .ok (.ireturn, 1) := by decide +kernel
theorem dX8_worth_0 : decode cX8_worth 0 = .ok (.aload_n 0, 1) := by decide +kernel
theorem dX8_worth_1 : decode cX8_worth 1 = .ok (.iload_n 1, 1) := by decide +kernel
theorem dX8_worth_2 : decode cX8_worth 2 = .ok (.invokevirtual 72, 3) := by decide +kernel
theorem dX8_worth_5 : decode cX8_worth 5 = .ok (.ifCond .eq 13, 3) := by decide +kernel
theorem dX8_worth_8 : decode cX8_worth 8 = .ok (.iload_n 2, 1) := by decide +kernel
theorem dX8_worth_9 : decode cX8_worth 9 = .ok (.iconst 1, 1) := by decide +kernel
theorem dX8_worth_10 : decode cX8_worth 10 = .ok (.ldc 81, 2) := by decide +kernel
theorem dX8_worth_12 : decode cX8_worth 12 = .ok (.invokestatic 22, 3) := by decide +kernel
theorem dX8_worth_15 : decode cX8_worth 15 = .ok (.ifCond .ne 5, 3) := by decide +kernel
theorem dX8_worth_18 : decode cX8_worth 18 = .ok (.iconst (-1), 1) := by decide +kernel
theorem dX8_worth_19 : decode cX8_worth 19 = .ok (.ireturn, 1) := by decide +kernel
theorem dX8_worth_20 : decode cX8_worth 20 = .ok (.aload_n 0, 1) := by decide +kernel
theorem dX8_worth_21 : decode cX8_worth 21 = .ok (.iload_n 1, 1) := by decide +kernel
theorem dX8_worth_22 : decode cX8_worth 22 = .ok (.iload_n 2, 1) := by decide +kernel
theorem dX8_worth_23 : decode cX8_worth 23 = .ok (.invokevirtual 110, 3) := by decide +kernel
theorem dX8_worth_26 : decode cX8_worth 26 = .ok (.lstore_n 3, 1) := by decide +kernel
theorem dX8_worth_27 : decode cX8_worth 27 = .ok (.lload_n 3, 1) := by decide +kernel
theorem dX8_worth_28 : decode cX8_worth 28 = .ok (.lconst 0, 1) := by decide +kernel
theorem dX8_worth_29 : decode cX8_worth 29 = .ok (.lcmp, 1) := by decide +kernel
theorem dX8_worth_30 : decode cX8_worth 30 = .ok (.ifCond .ge 8, 3) := by decide +kernel
theorem dX8_worth_33 : decode cX8_worth 33 = .ok (.bipush (-4), 2) := by decide +kernel
theorem dX8_worth_35 : decode cX8_worth 35 = .ok (.goto 5, 3) := by decide +kernel
theorem dX8_worth_38 : decode cX8_worth 38 = .ok (.lload_n 3, 1) := by decide +kernel
theorem dX8_worth_39 : decode cX8_worth 39 = .ok (.l2i, 1) := by decide +kernel
theorem dX8_worth_40 : decode cX8_worth 40 = .ok (.ireturn, 1) := by decide +kernel
theorem dX8_toPay_0 : decode cX8_toPay 0 = .ok (.aload_n 0, 1) := by decide +kernel
theorem dX8_toPay_1 : decode cX8_toPay 1 = .ok (.iconst 2, 1) := by decide +kernel
theorem dX8_toPay_2 : decode cX8_toPay 2 = .ok (.invokevirtual 117, 3) := by decide +kernel
theorem dX8_toPay_5 : decode cX8_toPay 5 = .ok (.i2l, 1) := by decide +kernel
theorem dX8_toPay_6 : decode cX8_toPay 6 = .ok (.aload_n 0, 1) := by decide +kernel
theorem dX8_toPay_7 : decode cX8_toPay 7 = .ok (.getfield 7, 3) := by decide +kernel
theorem dX8_toPay_10 : decode cX8_toPay 10 = .ok (.iconst 2, 1) := by decide +kernel
theorem dX8_toPay_11 : decode cX8_toPay 11 = .ok (.iaload, 1) := by decide +kernel
theorem dX8_toPay_12 : decode cX8_toPay 12 = .ok (.i2l, 1) := by decide +kernel
theorem dX8_toPay_13 : decode cX8_toPay 13 = .ok (.lmul, 1) := by decide +kernel
theorem dX8_toPay_14 : decode cX8_toPay 14 = .ok (.lstore_n 1, 1) := by decide +kernel
theorem dX8_toPay_15 : decode cX8_toPay 15 = .ok (.iconst 0, 1) := by decide +kernel
theorem dX8_toPay_16 : decode cX8_toPay 16 = .ok (.istore_n 3, 1) := by decide +kernel
theorem dX8_toPay_17 : decode cX8_toPay 17 = .ok (.iload_n 3, 1) := by decide +kernel
theorem dX8_toPay_18 : decode cX8_toPay 18 = .ok (.aload_n 0, 1) := by decide +kernel
theorem dX8_toPay_19 : decode cX8_toPay 19 = .ok (.getfield 7, 3) := by decide +kernel
theorem dX8_toPay_22 : decode cX8_toPay 22 = .ok (.iconst 5, 1) := by decide +kernel
theorem dX8_toPay_23 : decode cX8_toPay 23 = .ok (.iaload, 1) := by decide +kernel
theorem dX8_toPay_24 : decode cX8_toPay 24 = .ok (.if_icmp .ge 24, 3) := by decide +kernel
theorem dX8_toPay_27 : decode cX8_toPay 27 = .ok (.lload_n 1, 1) := by decide +kernel
theorem dX8_toPay_28 : decode cX8_toPay 28 = .ok (.aload_n 0, 1) := by decide +kernel
theorem dX8_toPay_29 : decode cX8_toPay 29 = .ok (.iload_n 3, 1) := by decide +kernel
theorem dX8_toPay_30 : decode cX8_toPay 30 = .ok (.aload_n 0, 1) := by decide +kernel
theorem dX8_toPay_31 : decode cX8_toPay 31 = .ok (.bipush 64, 2) := by decide +kernel
theorem dX8_toPay_33 : decode cX8_toPay 33 = .ok (.iload_n 3, 1) := by decide +kernel
theorem dX8_toPay_34 : decode cX8_toPay 34 = .ok (.invokevirtual 130, 3) := by decide +kernel
theorem dX8_toPay_37 : decode cX8_toPay 37 = .ok (.invokevirtual 110, 3) := by decide +kernel
theorem dX8_toPay_40 : decode cX8_toPay 40 = .ok (.ladd, 1) := by decide +kernel
theorem dX8_toPay_41 : decode cX8_toPay 41 = .ok (.lstore_n 1, 1) := by decide +kernel
theorem dX8_toPay_42 : decode cX8_toPay 42 = .ok (.iinc 3 1, 3) := by decide +kernel
theorem dX8_toPay_45 : decode cX8_toPay 45 = .ok (.goto (-28), 3) := by decide +kernel
theorem dX8_toPay_48 : decode cX8_toPay 48 = .ok (.lload_n 1, 1) := by decide +kernel
theorem dX8_toPay_49 : decode cX8_toPay 49 = .ok (.ldc2_w 82, 3) := by decide +kernel
theorem dX8_toPay_52 : decode cX8_toPay 52 = .ok (.lcmp, 1) := by decide +kernel
theorem dX8_toPay_53 : decode cX8_toPay 53 = .ok (.ifCond .le 8, 3) := by decide +kernel
theorem dX8_toPay_56 : decode cX8_toPay 56 = .ok (.bipush (-3), 2) := by decide +kernel
theorem dX8_toPay_58 : decode cX8_toPay 58 = .ok (.goto 5, 3) := by decide +kernel
theorem dX8_toPay_61 : decode cX8_toPay 61 = .ok (.lload_n 1, 1) := by decide +kernel
theorem dX8_toPay_62 : decode cX8_toPay 62 = .ok (.l2i, 1) := by decide +kernel
theorem dX8_toPay_63 : decode cX8_toPay 63 = .ok (.ireturn, 1) := by decide +kernel
theorem dX8_runsOut_0 : decode cX8_runsOut 0 = .ok (.aload_n 0, 1) := by decide +kernel
theorem dX8_runsOut_1 : decode cX8_runsOut 1 = .ok (.iconst (-1), 1) := by decide +kernel
theorem dX8_runsOut_2 : decode cX8_runsOut 2 = .ok (.iconst (-1), 1) := by decide +kernel
theorem dX8_runsOut_3 : decode cX8_runsOut 3 = .ok (.invokevirtual 33, 3) := by decide +kernel
theorem dX8_runsOut_6 : decode cX8_runsOut 6 = .ok (.istore_n 1, 1) := by decide +kernel
theorem dX8_runsOut_7 : decode cX8_runsOut 7 = .ok (.iload_n 1, 1) := by decide +kernel
theorem dX8_runsOut_8 : decode cX8_runsOut 8 = .ok (.ifCond .ge 8, 3) := by decide +kernel
theorem dX8_runsOut_11 : decode cX8_runsOut 11 = .ok (.bipush (-4), 2) := by decide +kernel
theorem dX8_runsOut_13 : decode cX8_runsOut 13 = .ok (.goto 22, 3) := by decide +kernel
theorem dX8_runsOut_16 : decode cX8_runsOut 16 = .ok (.aload_n 0, 1) := by decide +kernel
theorem dX8_runsOut_17 : decode cX8_runsOut 17 = .ok (.getfield 7, 3) := by decide +kernel
theorem dX8_runsOut_20 : decode cX8_runsOut 20 = .ok (.sipush 392, 3) := by decide +kernel
theorem dX8_runsOut_23 : decode cX8_runsOut 23 = .ok (.iload_n 1, 1) := by decide +kernel
theorem dX8_runsOut_24 : decode cX8_runsOut 24 = .ok (.iadd, 1) := by decide +kernel
theorem dX8_runsOut_25 : decode cX8_runsOut 25 = .ok (.iaload, 1) := by decide +kernel
theorem dX8_runsOut_26 : decode cX8_runsOut 26 = .ok (.iconst 1, 1) := by decide +kernel
theorem dX8_runsOut_27 : decode cX8_runsOut 27 = .ok (.iadd, 1) := by decide +kernel
theorem dX8_runsOut_28 : decode cX8_runsOut 28 = .ok (.aload_n 0, 1) := by decide +kernel
theorem dX8_runsOut_29 : decode cX8_runsOut 29 = .ok (.getfield 7, 3) := by decide +kernel
theorem dX8_runsOut_32 : decode cX8_runsOut 32 = .ok (.iconst 1, 1) := by decide +kernel
theorem dX8_runsOut_33 : decode cX8_runsOut 33 = .ok (.iaload, 1) := by decide +kernel
theorem dX8_runsOut_34 : decode cX8_runsOut 34 = .ok (.isub, 1) := by decide +kernel
theorem dX8_runsOut_35 : decode cX8_runsOut 35 = .ok (.ireturn, 1) := by decide +kernel
theorem dX8_type_0 : decode cX8_type 0 = .ok (.iload_n 1, 1) := by decide +kernel
theorem dX8_type_1 : decode cX8_type 1 = .ok (.bipush 32, 2) := by decide +kernel
theorem dX8_type_3 : decode cX8_type 3 = .ok (.bipush 126, 2) := by decide +kernel
theorem dX8_type_5 : decode cX8_type 5 = .ok (.invokestatic 22, 3) := by decide +kernel
theorem dX8_type_8 : decode cX8_type 8 = .ok (.ifCond .ne 5, 3) := by decide +kernel
theorem dX8_type_11 : decode cX8_type 11 = .ok (.iconst (-1), 1) := by decide +kernel
theorem dX8_type_12 : decode cX8_type 12 = .ok (.ireturn, 1) := by decide +kernel
theorem dX8_type_13 : decode cX8_type 13 = .ok (.aload_n 0, 1) := by decide +kernel
theorem dX8_type_14 : decode cX8_type 14 = .ok (.getfield 133, 3) := by decide +kernel
theorem dX8_type_17 : decode cX8_type 17 = .ok (.bipush 80, 2) := by decide +kernel
theorem dX8_type_19 : decode cX8_type 19 = .ok (.if_icmp .ne 6, 3) := by decide +kernel
theorem dX8_type_22 : decode cX8_type 22 = .ok (.bipush (-3), 2) := by decide +kernel
theorem dX8_type_24 : decode cX8_type 24 = .ok (.ireturn, 1) := by decide +kernel
theorem dX8_type_25 : decode cX8_type 25 = .ok (.aload_n 0, 1) := by decide +kernel
theorem dX8_type_26 : decode cX8_type 26 = .ok (.getfield 19, 3) := by decide +kernel
theorem dX8_type_29 : decode cX8_type 29 = .ok (.aload_n 0, 1) := by decide +kernel
theorem dX8_type_30 : decode cX8_type 30 = .ok (.getfield 133, 3) := by decide +kernel
theorem dX8_type_33 : decode cX8_type 33 = .ok (.iload_n 1, 1) := by decide +kernel
theorem dX8_type_34 : decode cX8_type 34 = .ok (.iastore, 1) := by decide +kernel
theorem dX8_type_35 : decode cX8_type 35 = .ok (.aload_n 0, 1) := by decide +kernel
theorem dX8_type_36 : decode cX8_type 36 = .ok (.dup, 1) := by decide +kernel
theorem dX8_type_37 : decode cX8_type 37 = .ok (.getfield 133, 3) := by decide +kernel
theorem dX8_type_40 : decode cX8_type 40 = .ok (.iconst 1, 1) := by decide +kernel
theorem dX8_type_41 : decode cX8_type 41 = .ok (.iadd, 1) := by decide +kernel
theorem dX8_type_42 : decode cX8_type 42 = .ok (.putfield 133, 3) := by decide +kernel
theorem dX8_type_45 : decode cX8_type 45 = .ok (.aload_n 0, 1) := by decide +kernel
theorem dX8_type_46 : decode cX8_type 46 = .ok (.getfield 133, 3) := by decide +kernel
theorem dX8_type_49 : decode cX8_type 49 = .ok (.ireturn, 1) := by decide +kernel
theorem dX8_clearText_0 : decode cX8_clearText 0 = .ok (.aload_n 0, 1) := by decide +kernel
theorem dX8_clearText_1 : decode cX8_clearText 1 = .ok (.getfield 133, 3) := by decide +kernel
theorem dX8_clearText_4 : decode cX8_clearText 4 = .ok (.istore_n 1, 1) := by decide +kernel
theorem dX8_clearText_5 : decode cX8_clearText 5 = .ok (.aload_n 0, 1) := by decide +kernel
theorem dX8_clearText_6 : decode cX8_clearText 6 = .ok (.iconst 0, 1) := by decide +kernel
theorem dX8_clearText_7 : decode cX8_clearText 7 = .ok (.putfield 133, 3) := by decide +kernel
theorem dX8_clearText_10 : decode cX8_clearText 10 = .ok (.iload_n 1, 1) := by decide +kernel
theorem dX8_clearText_11 : decode cX8_clearText 11 = .ok (.ireturn, 1) := by decide +kernel
theorem dX8_here_0 : decode cX8_here 0 = .ok (.aload_n 0, 1) := by decide +kernel
theorem dX8_here_1 : decode cX8_here 1 = .ok (.getfield 136, 3) := by decide +kernel
theorem dX8_here_4 : decode cX8_here 4 = .ok (.aload_n 0, 1) := by decide +kernel
theorem dX8_here_5 : decode cX8_here 5 = .ok (.getfield 133, 3) := by decide +kernel
theorem dX8_here_8 : decode cX8_here 8 = .ok (.if_icmp .ge 15, 3) := by decide +kernel
theorem dX8_here_11 : decode cX8_here 11 = .ok (.aload_n 0, 1) := by decide +kernel
theorem dX8_here_12 : decode cX8_here 12 = .ok (.getfield 19, 3) := by decide +kernel
theorem dX8_here_15 : decode cX8_here 15 = .ok (.aload_n 0, 1) := by decide +kernel
theorem dX8_here_16 : decode cX8_here 16 = .ok (.getfield 136, 3) := by decide +kernel
theorem dX8_here_19 : decode cX8_here 19 = .ok (.iaload, 1) := by decide +kernel
theorem dX8_here_20 : decode cX8_here 20 = .ok (.goto 4, 3) := by decide +kernel
theorem dX8_here_23 : decode cX8_here 23 = .ok (.iconst 0, 1) := by decide +kernel
theorem dX8_here_24 : decode cX8_here 24 = .ok (.ireturn, 1) := by decide +kernel
theorem dX8_passesSign_0 : decode cX8_passesSign 0 = .ok (.aload_n 0, 1) := by decide +kernel
theorem dX8_passesSign_1 : decode cX8_passesSign 1 = .ok (.aload_n 0, 1) := by decide +kernel
theorem dX8_passesSign_2 : decode cX8_passesSign 2 = .ok (.getfield 139, 3) := by decide +kernel
theorem dX8_passesSign_5 : decode cX8_passesSign 5 = .ok (.ifCond .eq 15, 3) := by decide +kernel
theorem dX8_passesSign_8 : decode cX8_passesSign 8 = .ok (.aload_n 0, 1) := by decide +kernel
theorem dX8_passesSign_9 : decode cX8_passesSign 9 = .ok (.invokevirtual 143, 3) := by decide +kernel
theorem dX8_passesSign_12 : decode cX8_passesSign 12 = .ok (.iload_n 1, 1) := by decide +kernel
theorem dX8_passesSign_13 : decode cX8_passesSign 13 = .ok (.if_icmp .ne 7, 3) := by decide +kernel
theorem dX8_passesSign_16 : decode cX8_passesSign 16 = .ok (.iconst 1, 1) := by decide +kernel
theorem dX8_passesSign_17 : decode cX8_passesSign 17 = .ok (.goto 4, 3) := by decide +kernel
theorem dX8_passesSign_20 : decode cX8_passesSign 20 = .ok (.iconst 0, 1) := by decide +kernel
theorem dX8_passesSign_21 : decode cX8_passesSign 21 = .ok (.putfield 139, 3) := by decide +kernel
theorem dX8_passesSign_24 : decode cX8_passesSign 24 = .ok (.aload_n 0, 1) := by decide +kernel
theorem dX8_passesSign_25 : decode cX8_passesSign 25 = .ok (.dup, 1) := by decide +kernel
theorem dX8_passesSign_26 : decode cX8_passesSign 26 = .ok (.getfield 136, 3) := by decide +kernel
theorem dX8_passesSign_29 : decode cX8_passesSign 29 = .ok (.iconst 1, 1) := by decide +kernel
theorem dX8_passesSign_30 : decode cX8_passesSign 30 = .ok (.iadd, 1) := by decide +kernel
theorem dX8_passesSign_31 : decode cX8_passesSign 31 = .ok (.putfield 136, 3) := by decide +kernel
theorem dX8_passesSign_34 : decode cX8_passesSign 34 = .ok (.return_, 1) := by decide +kernel
theorem dX8_number_0 : decode cX8_number 0 = .ok (.iconst 0, 1) := by decide +kernel
theorem dX8_number_1 : decode cX8_number 1 = .ok (.istore_n 1, 1) := by decide +kernel
theorem dX8_number_2 : decode cX8_number 2 = .ok (.iconst 0, 1) := by decide +kernel
theorem dX8_number_3 : decode cX8_number 3 = .ok (.istore_n 2, 1) := by decide +kernel
theorem dX8_number_4 : decode cX8_number 4 = .ok (.iload_n 2, 1) := by decide +kernel
theorem dX8_number_5 : decode cX8_number 5 = .ok (.iconst 4, 1) := by decide +kernel
theorem dX8_number_6 : decode cX8_number 6 = .ok (.if_icmp .ge 50, 3) := by decide +kernel
theorem dX8_number_9 : decode cX8_number 9 = .ok (.aload_n 0, 1) := by decide +kernel
theorem dX8_number_10 : decode cX8_number 10 = .ok (.invokevirtual 143, 3) := by decide +kernel
theorem dX8_number_13 : decode cX8_number 13 = .ok (.bipush 48, 2) := by decide +kernel
theorem dX8_number_15 : decode cX8_number 15 = .ok (.if_icmp .lt 41, 3) := by decide +kernel
theorem dX8_number_18 : decode cX8_number 18 = .ok (.aload_n 0, 1) := by decide +kernel
theorem dX8_number_19 : decode cX8_number 19 = .ok (.invokevirtual 143, 3) := by decide +kernel
theorem dX8_number_22 : decode cX8_number 22 = .ok (.bipush 57, 2) := by decide +kernel
theorem dX8_number_24 : decode cX8_number 24 = .ok (.if_icmp .gt 32, 3) := by decide +kernel
theorem dX8_number_27 : decode cX8_number 27 = .ok (.bipush 10, 2) := by decide +kernel
theorem dX8_number_29 : decode cX8_number 29 = .ok (.iload_n 1, 1) := by decide +kernel
theorem dX8_number_30 : decode cX8_number 30 = .ok (.imul, 1) := by decide +kernel
theorem dX8_number_31 : decode cX8_number 31 = .ok (.aload_n 0, 1) := by decide +kernel
theorem dX8_number_32 : decode cX8_number 32 = .ok (.invokevirtual 143, 3) := by decide +kernel
theorem dX8_number_35 : decode cX8_number 35 = .ok (.iadd, 1) := by decide +kernel
theorem dX8_number_36 : decode cX8_number 36 = .ok (.bipush 48, 2) := by decide +kernel
theorem dX8_number_38 : decode cX8_number 38 = .ok (.isub, 1) := by decide +kernel
theorem dX8_number_39 : decode cX8_number 39 = .ok (.istore_n 1, 1) := by decide +kernel
theorem dX8_number_40 : decode cX8_number 40 = .ok (.aload_n 0, 1) := by decide +kernel
theorem dX8_number_41 : decode cX8_number 41 = .ok (.dup, 1) := by decide +kernel
theorem dX8_number_42 : decode cX8_number 42 = .ok (.getfield 136, 3) := by decide +kernel
theorem dX8_number_45 : decode cX8_number 45 = .ok (.iconst 1, 1) := by decide +kernel
theorem dX8_number_46 : decode cX8_number 46 = .ok (.iadd, 1) := by decide +kernel
theorem dX8_number_47 : decode cX8_number 47 = .ok (.putfield 136, 3) := by decide +kernel
theorem dX8_number_50 : decode cX8_number 50 = .ok (.iinc 2 1, 3) := by decide +kernel
theorem dX8_number_53 : decode cX8_number 53 = .ok (.goto (-49), 3) := by decide +kernel
theorem dX8_number_56 : decode cX8_number 56 = .ok (.aload_n 0, 1) := by decide +kernel
theorem dX8_number_57 : decode cX8_number 57 = .ok (.aload_n 0, 1) := by decide +kernel
theorem dX8_number_58 : decode cX8_number 58 = .ok (.getfield 139, 3) := by decide +kernel
theorem dX8_number_61 : decode cX8_number 61 = .ok (.ifCond .eq 11, 3) := by decide +kernel
theorem dX8_number_64 : decode cX8_number 64 = .ok (.iload_n 2, 1) := by decide +kernel
theorem dX8_number_65 : decode cX8_number 65 = .ok (.ifCond .le 7, 3) := by decide +kernel
theorem dX8_number_68 : decode cX8_number 68 = .ok (.iconst 1, 1) := by decide +kernel
theorem dX8_number_69 : decode cX8_number 69 = .ok (.goto 4, 3) := by decide +kernel
theorem dX8_number_72 : decode cX8_number 72 = .ok (.iconst 0, 1) := by decide +kernel
theorem dX8_number_73 : decode cX8_number 73 = .ok (.putfield 139, 3) := by decide +kernel
theorem dX8_number_76 : decode cX8_number 76 = .ok (.iload_n 1, 1) := by decide +kernel
theorem dX8_number_77 : decode cX8_number 77 = .ok (.ireturn, 1) := by decide +kernel
theorem dX8_order_0 : decode cX8_order 0 = .ok (.aload_n 0, 1) := by decide +kernel
theorem dX8_order_1 : decode cX8_order 1 = .ok (.invokevirtual 143, 3) := by decide +kernel
theorem dX8_order_4 : decode cX8_order 4 = .ok (.istore_n 1, 1) := by decide +kernel
theorem dX8_order_5 : decode cX8_order 5 = .ok (.aload_n 0, 1) := by decide +kernel
theorem dX8_order_6 : decode cX8_order 6 = .ok (.iconst 1, 1) := by decide +kernel
theorem dX8_order_7 : decode cX8_order 7 = .ok (.putfield 139, 3) := by decide +kernel
theorem dX8_order_10 : decode cX8_order 10 = .ok (.aload_n 0, 1) := by decide +kernel
theorem dX8_order_11 : decode cX8_order 11 = .ok (.dup, 1) := by decide +kernel
theorem dX8_order_12 : decode cX8_order 12 = .ok (.getfield 136, 3) := by decide +kernel
theorem dX8_order_15 : decode cX8_order 15 = .ok (.iconst 1, 1) := by decide +kernel
theorem dX8_order_16 : decode cX8_order 16 = .ok (.iadd, 1) := by decide +kernel
theorem dX8_order_17 : decode cX8_order 17 = .ok (.putfield 136, 3) := by decide +kernel
theorem dX8_order_20 : decode cX8_order 20 = .ok (.aload_n 0, 1) := by decide +kernel
theorem dX8_order_21 : decode cX8_order 21 = .ok (.invokevirtual 146, 3) := by decide +kernel
theorem dX8_order_24 : decode cX8_order 24 = .ok (.istore_n 2, 1) := by decide +kernel
theorem dX8_order_25 : decode cX8_order 25 = .ok (.iconst 0, 1) := by decide +kernel
theorem dX8_order_26 : decode cX8_order 26 = .ok (.istore_n 3, 1) := by decide +kernel
theorem dX8_order_27 : decode cX8_order 27 = .ok (.iconst 0, 1) := by decide +kernel
theorem dX8_order_28 : decode cX8_order 28 = .ok (.istore 4, 2) := by decide +kernel
theorem dX8_order_30 : decode cX8_order 30 = .ok (.iconst 0, 1) := by decide +kernel
theorem dX8_order_31 : decode cX8_order 31 = .ok (.istore 5, 2) := by decide +kernel
theorem dX8_order_33 : decode cX8_order 33 = .ok (.iload_n 1, 1) := by decide +kernel
theorem dX8_order_34 : decode cX8_order 34 = .ok (.bipush 117, 2) := by decide +kernel
theorem dX8_order_36 : decode cX8_order 36 = .ok (.if_icmp .eq 15, 3) := by decide +kernel
theorem dX8_order_39 : decode cX8_order 39 = .ok (.iload_n 1, 1) := by decide +kernel
theorem dX8_order_40 : decode cX8_order 40 = .ok (.bipush 114, 2) := by decide +kernel
theorem dX8_order_42 : decode cX8_order 42 = .ok (.if_icmp .eq 9, 3) := by decide +kernel
theorem dX8_order_45 : decode cX8_order 45 = .ok (.iload_n 1, 1) := by decide +kernel
theorem dX8_order_46 : decode cX8_order 46 = .ok (.bipush 98, 2) := by decide +kernel
theorem dX8_order_48 : decode cX8_order 48 = .ok (.if_icmp .ne 26, 3) := by decide +kernel
theorem dX8_order_51 : decode cX8_order 51 = .ok (.aload_n 0, 1) := by decide +kernel
theorem dX8_order_52 : decode cX8_order 52 = .ok (.bipush 44, 2) := by decide +kernel
theorem dX8_order_54 : decode cX8_order 54 = .ok (.invokevirtual 149, 3) := by decide +kernel
theorem dX8_order_57 : decode cX8_order 57 = .ok (.aload_n 0, 1) := by decide +kernel
theorem dX8_order_58 : decode cX8_order 58 = .ok (.invokevirtual 146, 3) := by decide +kernel
theorem dX8_order_61 : decode cX8_order 61 = .ok (.istore_n 3, 1) := by decide +kernel
theorem dX8_order_62 : decode cX8_order 62 = .ok (.aload_n 0, 1) := by decide +kernel
theorem dX8_order_63 : decode cX8_order 63 = .ok (.bipush 44, 2) := by decide +kernel
theorem dX8_order_65 : decode cX8_order 65 = .ok (.invokevirtual 149, 3) := by decide +kernel
theorem dX8_order_68 : decode cX8_order 68 = .ok (.aload_n 0, 1) := by decide +kernel
theorem dX8_order_69 : decode cX8_order 69 = .ok (.invokevirtual 146, 3) := by decide +kernel
theorem dX8_order_72 : decode cX8_order 72 = .ok (.istore 4, 2) := by decide +kernel
theorem dX8_order_74 : decode cX8_order 74 = .ok (.iload_n 1, 1) := by decide +kernel
theorem dX8_order_75 : decode cX8_order 75 = .ok (.bipush 98, 2) := by decide +kernel
theorem dX8_order_77 : decode cX8_order 77 = .ok (.if_icmp .ne 15, 3) := by decide +kernel
theorem dX8_order_80 : decode cX8_order 80 = .ok (.aload_n 0, 1) := by decide +kernel
theorem dX8_order_81 : decode cX8_order 81 = .ok (.bipush 44, 2) := by decide +kernel
theorem dX8_order_83 : decode cX8_order 83 = .ok (.invokevirtual 149, 3) := by decide +kernel
theorem dX8_order_86 : decode cX8_order 86 = .ok (.aload_n 0, 1) := by decide +kernel
theorem dX8_order_87 : decode cX8_order 87 = .ok (.invokevirtual 146, 3) := by decide +kernel
theorem dX8_order_90 : decode cX8_order 90 = .ok (.istore 5, 2) := by decide +kernel
theorem dX8_order_92 : decode cX8_order 92 = .ok (.aload_n 0, 1) := by decide +kernel
theorem dX8_order_93 : decode cX8_order 93 = .ok (.bipush 59, 2) := by decide +kernel
theorem dX8_order_95 : decode cX8_order 95 = .ok (.invokevirtual 149, 3) := by decide +kernel
theorem dX8_order_98 : decode cX8_order 98 = .ok (.aload_n 0, 1) := by decide +kernel
theorem dX8_order_99 : decode cX8_order 99 = .ok (.getfield 139, 3) := by decide +kernel
theorem dX8_order_102 : decode cX8_order 102 = .ok (.ifCond .ne 5, 3) := by decide +kernel
theorem dX8_order_105 : decode cX8_order 105 = .ok (.iconst 0, 1) := by decide +kernel
theorem dX8_order_106 : decode cX8_order 106 = .ok (.ireturn, 1) := by decide +kernel
theorem dX8_order_107 : decode cX8_order 107 = .ok (.iload_n 1, 1) := by decide +kernel
theorem dX8_order_108 : decode cX8_order 108 = .ok (.tableswitch 169 98 122 #[140, 157, 163, 169, 169, 169, 169, 169, 169, 169, 169, 169, 169, 169, 169, 169, 131, 169, 151, 122, 169, 169, 169, 169, 116], 116) := by decide +kernel
theorem dX8_order_224 : decode cX8_order 224 = .ok (.aload_n 0, 1) := by decide +kernel
theorem dX8_order_225 : decode cX8_order 225 = .ok (.iload_n 2, 1) := by decide +kernel
theorem dX8_order_226 : decode cX8_order 226 = .ok (.invokevirtual 120, 3) := by decide +kernel
theorem dX8_order_229 : decode cX8_order 229 = .ok (.ireturn, 1) := by decide +kernel
theorem dX8_order_230 : decode cX8_order 230 = .ok (.aload_n 0, 1) := by decide +kernel
theorem dX8_order_231 : decode cX8_order 231 = .ok (.iload_n 2, 1) := by decide +kernel
theorem dX8_order_232 : decode cX8_order 232 = .ok (.iload_n 3, 1) := by decide +kernel
theorem dX8_order_233 : decode cX8_order 233 = .ok (.iload 4, 2) := by decide +kernel
theorem dX8_order_235 : decode cX8_order 235 = .ok (.invokevirtual 97, 3) := by decide +kernel
theorem dX8_order_238 : decode cX8_order 238 = .ok (.ireturn, 1) := by decide +kernel
theorem dX8_order_239 : decode cX8_order 239 = .ok (.aload_n 0, 1) := by decide +kernel
theorem dX8_order_240 : decode cX8_order 240 = .ok (.iload_n 2, 1) := by decide +kernel
theorem dX8_order_241 : decode cX8_order 241 = .ok (.iload_n 3, 1) := by decide +kernel
theorem dX8_order_242 : decode cX8_order 242 = .ok (.iload 4, 2) := by decide +kernel
theorem dX8_order_244 : decode cX8_order 244 = .ok (.invokevirtual 100, 3) := by decide +kernel
theorem dX8_order_247 : decode cX8_order 247 = .ok (.ireturn, 1) := by decide +kernel
theorem dX8_order_248 : decode cX8_order 248 = .ok (.aload_n 0, 1) := by decide +kernel
theorem dX8_order_249 : decode cX8_order 249 = .ok (.iload_n 2, 1) := by decide +kernel
theorem dX8_order_250 : decode cX8_order 250 = .ok (.iload_n 3, 1) := by decide +kernel
theorem dX8_order_251 : decode cX8_order 251 = .ok (.iload 4, 2) := by decide +kernel
theorem dX8_order_253 : decode cX8_order 253 = .ok (.iload 5, 2) := by decide +kernel
theorem dX8_order_255 : decode cX8_order 255 = .ok (.invokevirtual 103, 3) := by decide +kernel
theorem dX8_order_258 : decode cX8_order 258 = .ok (.ireturn, 1) := by decide +kernel
theorem dX8_order_259 : decode cX8_order 259 = .ok (.aload_n 0, 1) := by decide +kernel
theorem dX8_order_260 : decode cX8_order 260 = .ok (.iload_n 2, 1) := by decide +kernel
theorem dX8_order_261 : decode cX8_order 261 = .ok (.invokevirtual 107, 3) := by decide +kernel
theorem dX8_order_264 : decode cX8_order 264 = .ok (.ireturn, 1) := by decide +kernel
theorem dX8_order_265 : decode cX8_order 265 = .ok (.aload_n 0, 1) := by decide +kernel
theorem dX8_order_266 : decode cX8_order 266 = .ok (.iload_n 2, 1) := by decide +kernel
theorem dX8_order_267 : decode cX8_order 267 = .ok (.invokevirtual 114, 3) := by decide +kernel
theorem dX8_order_270 : decode cX8_order 270 = .ok (.ireturn, 1) := by decide +kernel
theorem dX8_order_271 : decode cX8_order 271 = .ok (.aload_n 0, 1) := by decide +kernel
theorem dX8_order_272 : decode cX8_order 272 = .ok (.iload_n 2, 1) := by decide +kernel
theorem dX8_order_273 : decode cX8_order 273 = .ok (.invokevirtual 126, 3) := by decide +kernel
theorem dX8_order_276 : decode cX8_order 276 = .ok (.ireturn, 1) := by decide +kernel
theorem dX8_order_277 : decode cX8_order 277 = .ok (.aload_n 0, 1) := by decide +kernel
theorem dX8_order_278 : decode cX8_order 278 = .ok (.iconst 0, 1) := by decide +kernel
theorem dX8_order_279 : decode cX8_order 279 = .ok (.putfield 139, 3) := by decide +kernel
theorem dX8_order_282 : decode cX8_order 282 = .ok (.iconst 0, 1) := by decide +kernel
theorem dX8_order_283 : decode cX8_order 283 = .ok (.ireturn, 1) := by decide +kernel
theorem dX8_tries_0 : decode cX8_tries 0 = .ok (.aload_n 0, 1) := by decide +kernel
theorem dX8_tries_1 : decode cX8_tries 1 = .ok (.iconst 0, 1) := by decide +kernel
theorem dX8_tries_2 : decode cX8_tries 2 = .ok (.putfield 136, 3) := by decide +kernel
theorem dX8_tries_5 : decode cX8_tries 5 = .ok (.aload_n 0, 1) := by decide +kernel
theorem dX8_tries_6 : decode cX8_tries 6 = .ok (.iconst 0, 1) := by decide +kernel
theorem dX8_tries_7 : decode cX8_tries 7 = .ok (.putfield 152, 3) := by decide +kernel
theorem dX8_tries_10 : decode cX8_tries 10 = .ok (.aload_n 0, 1) := by decide +kernel
theorem dX8_tries_11 : decode cX8_tries 11 = .ok (.iconst 0, 1) := by decide +kernel
theorem dX8_tries_12 : decode cX8_tries 12 = .ok (.putfield 155, 3) := by decide +kernel
theorem dX8_tries_15 : decode cX8_tries 15 = .ok (.aload_n 0, 1) := by decide +kernel
theorem dX8_tries_16 : decode cX8_tries 16 = .ok (.getfield 136, 3) := by decide +kernel
theorem dX8_tries_19 : decode cX8_tries 19 = .ok (.aload_n 0, 1) := by decide +kernel
theorem dX8_tries_20 : decode cX8_tries 20 = .ok (.getfield 133, 3) := by decide +kernel
theorem dX8_tries_23 : decode cX8_tries 23 = .ok (.if_icmp .ge 66, 3) := by decide +kernel
theorem dX8_tries_26 : decode cX8_tries 26 = .ok (.aload_n 0, 1) := by decide +kernel
theorem dX8_tries_27 : decode cX8_tries 27 = .ok (.getfield 155, 3) := by decide +kernel
theorem dX8_tries_30 : decode cX8_tries 30 = .ok (.ifCond .ne 59, 3) := by decide +kernel
theorem dX8_tries_33 : decode cX8_tries 33 = .ok (.aload_n 0, 1) := by decide +kernel
theorem dX8_tries_34 : decode cX8_tries 34 = .ok (.aload_n 0, 1) := by decide +kernel
theorem dX8_tries_35 : decode cX8_tries 35 = .ok (.getfield 136, 3) := by decide +kernel
theorem dX8_tries_38 : decode cX8_tries 38 = .ok (.putfield 158, 3) := by decide +kernel
theorem dX8_tries_41 : decode cX8_tries 41 = .ok (.aload_n 0, 1) := by decide +kernel
theorem dX8_tries_42 : decode cX8_tries 42 = .ok (.aload_n 0, 1) := by decide +kernel
theorem dX8_tries_43 : decode cX8_tries 43 = .ok (.invokevirtual 161, 3) := by decide +kernel
theorem dX8_tries_46 : decode cX8_tries 46 = .ok (.putfield 164, 3) := by decide +kernel
theorem dX8_tries_49 : decode cX8_tries 49 = .ok (.aload_n 0, 1) := by decide +kernel
theorem dX8_tries_50 : decode cX8_tries 50 = .ok (.aload_n 0, 1) := by decide +kernel
theorem dX8_tries_51 : decode cX8_tries 51 = .ok (.getfield 139, 3) := by decide +kernel
theorem dX8_tries_54 : decode cX8_tries 54 = .ok (.ifCond .ne 7, 3) := by decide +kernel
theorem dX8_tries_57 : decode cX8_tries 57 = .ok (.iconst 1, 1) := by decide +kernel
theorem dX8_tries_58 : decode cX8_tries 58 = .ok (.goto 15, 3) := by decide +kernel
theorem dX8_tries_61 : decode cX8_tries 61 = .ok (.aload_n 0, 1) := by decide +kernel
theorem dX8_tries_62 : decode cX8_tries 62 = .ok (.getfield 164, 3) := by decide +kernel
theorem dX8_tries_65 : decode cX8_tries 65 = .ok (.ifCond .ge 7, 3) := by decide +kernel
theorem dX8_tries_68 : decode cX8_tries 68 = .ok (.iconst 2, 1) := by decide +kernel
theorem dX8_tries_69 : decode cX8_tries 69 = .ok (.goto 4, 3) := by decide +kernel
theorem dX8_tries_72 : decode cX8_tries 72 = .ok (.iconst 0, 1) := by decide +kernel
theorem dX8_tries_73 : decode cX8_tries 73 = .ok (.putfield 155, 3) := by decide +kernel
theorem dX8_tries_76 : decode cX8_tries 76 = .ok (.aload_n 0, 1) := by decide +kernel
theorem dX8_tries_77 : decode cX8_tries 77 = .ok (.dup, 1) := by decide +kernel
theorem dX8_tries_78 : decode cX8_tries 78 = .ok (.getfield 152, 3) := by decide +kernel
theorem dX8_tries_81 : decode cX8_tries 81 = .ok (.iconst 1, 1) := by decide +kernel
theorem dX8_tries_82 : decode cX8_tries 82 = .ok (.iadd, 1) := by decide +kernel
theorem dX8_tries_83 : decode cX8_tries 83 = .ok (.putfield 152, 3) := by decide +kernel
theorem dX8_tries_86 : decode cX8_tries 86 = .ok (.goto (-71), 3) := by decide +kernel
theorem dX8_tries_89 : decode cX8_tries 89 = .ok (.return_, 1) := by decide +kernel
theorem dX8_fault_0 : decode cX8_fault 0 = .ok (.iload_n 1, 1) := by decide +kernel
theorem dX8_fault_1 : decode cX8_fault 1 = .ok (.iconst 0, 1) := by decide +kernel
theorem dX8_fault_2 : decode cX8_fault 2 = .ok (.iconst 2, 1) := by decide +kernel
theorem dX8_fault_3 : decode cX8_fault 3 = .ok (.invokestatic 22, 3) := by decide +kernel
theorem dX8_fault_6 : decode cX8_fault 6 = .ok (.ifCond .ne 5, 3) := by decide +kernel
theorem dX8_fault_9 : decode cX8_fault 9 = .ok (.iconst (-1), 1) := by decide +kernel
theorem dX8_fault_10 : decode cX8_fault 10 = .ok (.ireturn, 1) := by decide +kernel
theorem dX8_fault_11 : decode cX8_fault 11 = .ok (.aload_n 0, 1) := by decide +kernel
theorem dX8_fault_12 : decode cX8_fault 12 = .ok (.invokevirtual 54, 3) := by decide +kernel
theorem dX8_fault_15 : decode cX8_fault 15 = .ok (.aload_n 0, 1) := by decide +kernel
theorem dX8_fault_16 : decode cX8_fault 16 = .ok (.invokevirtual 167, 3) := by decide +kernel
theorem dX8_fault_19 : decode cX8_fault 19 = .ok (.aload_n 0, 1) := by decide +kernel
theorem dX8_fault_20 : decode cX8_fault 20 = .ok (.invokevirtual 170, 3) := by decide +kernel
theorem dX8_fault_23 : decode cX8_fault 23 = .ok (.aload_n 0, 1) := by decide +kernel
theorem dX8_fault_24 : decode cX8_fault 24 = .ok (.getfield 155, 3) := by decide +kernel
theorem dX8_fault_27 : decode cX8_fault 27 = .ok (.ifCond .eq 16, 3) := by decide +kernel
theorem dX8_fault_30 : decode cX8_fault 30 = .ok (.iload_n 1, 1) := by decide +kernel
theorem dX8_fault_31 : decode cX8_fault 31 = .ok (.iconst 2, 1) := by decide +kernel
theorem dX8_fault_32 : decode cX8_fault 32 = .ok (.if_icmp .ne 14, 3) := by decide +kernel
theorem dX8_fault_35 : decode cX8_fault 35 = .ok (.aload_n 0, 1) := by decide +kernel
theorem dX8_fault_36 : decode cX8_fault 36 = .ok (.getfield 155, 3) := by decide +kernel
theorem dX8_fault_39 : decode cX8_fault 39 = .ok (.iconst 1, 1) := by decide +kernel
theorem dX8_fault_40 : decode cX8_fault 40 = .ok (.if_icmp .ne 6, 3) := by decide +kernel
theorem dX8_fault_43 : decode cX8_fault 43 = .ok (.bipush (-4), 2) := by decide +kernel
theorem dX8_fault_45 : decode cX8_fault 45 = .ok (.ireturn, 1) := by decide +kernel
theorem dX8_fault_46 : decode cX8_fault 46 = .ok (.iload_n 1, 1) := by decide +kernel
theorem dX8_fault_47 : decode cX8_fault 47 = .ok (.ifCond .ne 10, 3) := by decide +kernel
theorem dX8_fault_50 : decode cX8_fault 50 = .ok (.aload_n 0, 1) := by decide +kernel
theorem dX8_fault_51 : decode cX8_fault 51 = .ok (.getfield 158, 3) := by decide +kernel
theorem dX8_fault_54 : decode cX8_fault 54 = .ok (.goto 19, 3) := by decide +kernel
theorem dX8_fault_57 : decode cX8_fault 57 = .ok (.iload_n 1, 1) := by decide +kernel
theorem dX8_fault_58 : decode cX8_fault 58 = .ok (.iconst 1, 1) := by decide +kernel
theorem dX8_fault_59 : decode cX8_fault 59 = .ok (.if_icmp .ne 10, 3) := by decide +kernel
theorem dX8_fault_62 : decode cX8_fault 62 = .ok (.aload_n 0, 1) := by decide +kernel
theorem dX8_fault_63 : decode cX8_fault 63 = .ok (.getfield 155, 3) := by decide +kernel
theorem dX8_fault_66 : decode cX8_fault 66 = .ok (.goto 7, 3) := by decide +kernel
theorem dX8_fault_69 : decode cX8_fault 69 = .ok (.aload_n 0, 1) := by decide +kernel
theorem dX8_fault_70 : decode cX8_fault 70 = .ok (.getfield 164, 3) := by decide +kernel
theorem dX8_fault_73 : decode cX8_fault 73 = .ok (.ireturn, 1) := by decide +kernel
theorem dX8_play_0 : decode cX8_play 0 = .ok (.aload_n 0, 1) := by decide +kernel
theorem dX8_play_1 : decode cX8_play 1 = .ok (.invokevirtual 54, 3) := by decide +kernel
theorem dX8_play_4 : decode cX8_play 4 = .ok (.aload_n 0, 1) := by decide +kernel
theorem dX8_play_5 : decode cX8_play 5 = .ok (.invokevirtual 167, 3) := by decide +kernel
theorem dX8_play_8 : decode cX8_play 8 = .ok (.aload_n 0, 1) := by decide +kernel
theorem dX8_play_9 : decode cX8_play 9 = .ok (.getfield 155, 3) := by decide +kernel
theorem dX8_play_12 : decode cX8_play 12 = .ok (.ifCond .eq 10, 3) := by decide +kernel
theorem dX8_play_15 : decode cX8_play 15 = .ok (.aload_n 0, 1) := by decide +kernel
theorem dX8_play_16 : decode cX8_play 16 = .ok (.invokevirtual 170, 3) := by decide +kernel
theorem dX8_play_19 : decode cX8_play 19 = .ok (.bipush (-2), 2) := by decide +kernel
theorem dX8_play_21 : decode cX8_play 21 = .ok (.ireturn, 1) := by decide +kernel
theorem dX8_play_22 : decode cX8_play 22 = .ok (.aload_n 0, 1) := by decide +kernel
theorem dX8_play_23 : decode cX8_play 23 = .ok (.aload_n 0, 1) := by decide +kernel
theorem dX8_play_24 : decode cX8_play 24 = .ok (.getfield 152, 3) := by decide +kernel
theorem dX8_play_27 : decode cX8_play 27 = .ok (.invokevirtual 61, 3) := by decide +kernel
theorem dX8_play_30 : decode cX8_play 30 = .ok (.ireturn, 1) := by decide +kernel
end
section
theorem tb0 {w : Cond} (h : w ∈ k2_sels lw_privs) : w ∈ lw_tbl := List.mem_append_left _ h
theorem tb1 {w : Cond} (h : w ∈ tables_1_1) : w ∈ lw_tbl := List.mem_append_right _ (List.mem_append_left _ h)
theorem tb2 {w : Cond} (h : w ∈ tables_1_2) : w ∈ lw_tbl := List.mem_append_right _ (List.mem_append_right _ (List.mem_append_left _ h))
theorem tb3 {w : Cond} (h : w ∈ tables_1_3) : w ∈ lw_tbl := List.mem_append_right _ (List.mem_append_right _ (List.mem_append_right _ (List.mem_append_left _ h)))
theorem tb4 {w : Cond} (h : w ∈ tables_1_4) : w ∈ lw_tbl := List.mem_append_right _ (List.mem_append_right _ (List.mem_append_right _ (List.mem_append_right _ h)))
def xtb : List Cond := lw_tbl.filter goodWord
theorem tb_in {w : Cond} (h : w ∈ lw_tbl) (g : goodWord w = true) : w ∈ xtb := List.mem_filter.mpr ⟨h, g⟩
theorem xtb_good : ∀ w ∈ xtb, goodWord w = true := fun _ h => (List.mem_filter.mp h).2
theorem xtb_lw : ∀ w ∈ xtb, w ∈ lw_tbl := fun _ h => (List.mem_filter.mp h).1
theorem mw_0_0 : (.selects "SealedStores$History" yX1_spare yX1_spare : Cond) ∈ xtb := tb_in (tb0 (List.mem_of_getElem? (i := 0) (by decide +kernel))) rfl
theorem mw_0_1 : (.selects "SealedStores$Ship" yX6_putSeal yX6_putSeal : Cond) ∈ xtb := tb_in (tb0 (List.mem_of_getElem? (i := 1) (by decide +kernel))) rfl
theorem mw_0_2 : (.selects "SealedStores$Ship" yX6_sealByOfficer yX6_sealByOfficer : Cond) ∈ xtb := tb_in (tb0 (List.mem_of_getElem? (i := 2) (by decide +kernel))) rfl
theorem mw_0_3 : (.selects "SealedStores$Ship" yX6_release yX6_release : Cond) ∈ xtb := tb_in (tb0 (List.mem_of_getElem? (i := 3) (by decide +kernel))) rfl
theorem mw_0_4 : (.selects "SealedStores$Ship" yX6_taxesOf yX6_taxesOf : Cond) ∈ xtb := tb_in (tb0 (List.mem_of_getElem? (i := 4) (by decide +kernel))) rfl
theorem mw_0_5 : (.selects "SealedStores$Ship" yX6_sealOpenLockers yX6_sealOpenLockers : Cond) ∈ xtb := tb_in (tb0 (List.mem_of_getElem? (i := 5) (by decide +kernel))) rfl
theorem mw_0_6 : (.selects "SealedStores$Ship" yX6_openLockers yX6_openLockers : Cond) ∈ xtb := tb_in (tb0 (List.mem_of_getElem? (i := 6) (by decide +kernel))) rfl
theorem mw_0_7 : (.selects "SealedStores$Ship" yX6_runOutBonds yX6_runOutBonds : Cond) ∈ xtb := tb_in (tb0 (List.mem_of_getElem? (i := 7) (by decide +kernel))) rfl
theorem mw_0_8 : (.selects "SealedStores$Lockers" yX2_takeLowestFirst yX2_takeLowestFirst : Cond) ∈ xtb := tb_in (tb0 (List.mem_of_getElem? (i := 8) (by decide +kernel))) rfl
theorem mw_0_9 : (.selects "SealedStores$OrderLog" yX3_readOrder yX3_readOrder : Cond) ∈ xtb := tb_in (tb0 (List.mem_of_getElem? (i := 9) (by decide +kernel))) rfl
theorem mw_0_10 : (.selects "SealedStores$OrderLog" yX3_readSign yX3_readSign : Cond) ∈ xtb := tb_in (tb0 (List.mem_of_getElem? (i := 10) (by decide +kernel))) rfl
theorem mw_0_11 : (.selects "SealedStores$OrderLog" yX3_readNumber yX3_readNumber : Cond) ∈ xtb := tb_in (tb0 (List.mem_of_getElem? (i := 11) (by decide +kernel))) rfl
theorem mw_0_12 : (.selects "SealedStores$OrderLog" yX3_noteFault yX3_noteFault : Cond) ∈ xtb := tb_in (tb0 (List.mem_of_getElem? (i := 12) (by decide +kernel))) rfl
theorem mw_0_13 : (.selects "SealedStores$OrderLog" yX3_doOrder yX3_doOrder : Cond) ∈ xtb := tb_in (tb0 (List.mem_of_getElem? (i := 13) (by decide +kernel))) rfl
theorem mw_0_14 : (.selects "SealedStoresModel" yX8_copy yX8_copy : Cond) ∈ xtb := tb_in (tb0 (List.mem_of_getElem? (i := 14) (by decide +kernel))) rfl
theorem mw_0_15 : (.selects "SealedStoresModel" yX8_addsLocker yX8_addsLocker : Cond) ∈ xtb := tb_in (tb0 (List.mem_of_getElem? (i := 15) (by decide +kernel))) rfl
theorem mw_0_16 : (.selects "SealedStoresModel" yX8_hasSeals yX8_hasSeals : Cond) ∈ xtb := tb_in (tb0 (List.mem_of_getElem? (i := 16) (by decide +kernel))) rfl
theorem mw_0_17 : (.selects "SealedStoresModel" yX8_seals yX8_seals : Cond) ∈ xtb := tb_in (tb0 (List.mem_of_getElem? (i := 17) (by decide +kernel))) rfl
theorem mw_0_18 : (.selects "SealedStoresModel" yX8_recorded yX8_recorded : Cond) ∈ xtb := tb_in (tb0 (List.mem_of_getElem? (i := 18) (by decide +kernel))) rfl
theorem mw_0_19 : (.selects "SealedStoresModel" yX8_addsGood yX8_addsGood : Cond) ∈ xtb := tb_in (tb0 (List.mem_of_getElem? (i := 19) (by decide +kernel))) rfl
theorem mw_0_20 : (.selects "SealedStoresModel" yX8_isGood yX8_isGood : Cond) ∈ xtb := tb_in (tb0 (List.mem_of_getElem? (i := 20) (by decide +kernel))) rfl
theorem mw_0_21 : (.selects "SealedStoresModel" yX8_loads yX8_loads : Cond) ∈ xtb := tb_in (tb0 (List.mem_of_getElem? (i := 21) (by decide +kernel))) rfl
theorem mw_0_22 : (.selects "SealedStoresModel" yX8_isMove yX8_isMove : Cond) ∈ xtb := tb_in (tb0 (List.mem_of_getElem? (i := 22) (by decide +kernel))) rfl
theorem mw_0_23 : (.selects "SealedStoresModel" yX8_isLocker yX8_isLocker : Cond) ∈ xtb := tb_in (tb0 (List.mem_of_getElem? (i := 23) (by decide +kernel))) rfl
theorem mw_0_24 : (.selects "SealedStoresModel" yX8_takesOff yX8_takesOff : Cond) ∈ xtb := tb_in (tb0 (List.mem_of_getElem? (i := 24) (by decide +kernel))) rfl
theorem mw_0_25 : (.selects "SealedStoresModel" yX8_sum yX8_sum : Cond) ∈ xtb := tb_in (tb0 (List.mem_of_getElem? (i := 25) (by decide +kernel))) rfl
theorem mw_0_26 : (.selects "SealedStoresModel" yX8_nextOf yX8_nextOf : Cond) ∈ xtb := tb_in (tb0 (List.mem_of_getElem? (i := 26) (by decide +kernel))) rfl
theorem mw_0_27 : (.selects "SealedStoresModel" yX8_uses yX8_uses : Cond) ∈ xtb := tb_in (tb0 (List.mem_of_getElem? (i := 27) (by decide +kernel))) rfl
theorem mw_0_28 : (.selects "SealedStoresModel" yX8_releases yX8_releases : Cond) ∈ xtb := tb_in (tb0 (List.mem_of_getElem? (i := 28) (by decide +kernel))) rfl
theorem mw_0_29 : (.selects "SealedStoresModel" yX8_takes yX8_takes : Cond) ∈ xtb := tb_in (tb0 (List.mem_of_getElem? (i := 29) (by decide +kernel))) rfl
theorem mw_0_30 : (.selects "SealedStoresModel" yX8_brings yX8_brings : Cond) ∈ xtb := tb_in (tb0 (List.mem_of_getElem? (i := 30) (by decide +kernel))) rfl
theorem mw_0_31 : (.selects "SealedStoresModel" yX8_smashes yX8_smashes : Cond) ∈ xtb := tb_in (tb0 (List.mem_of_getElem? (i := 31) (by decide +kernel))) rfl
theorem mw_0_32 : (.selects "SealedStoresModel" yX8_tears yX8_tears : Cond) ∈ xtb := tb_in (tb0 (List.mem_of_getElem? (i := 32) (by decide +kernel))) rfl
theorem mw_0_33 : (.selects "SealedStoresModel" yX8_inspects yX8_inspects : Cond) ∈ xtb := tb_in (tb0 (List.mem_of_getElem? (i := 33) (by decide +kernel))) rfl
theorem mw_0_34 : (.selects "SealedStoresModel" yX8_worthOf yX8_worthOf : Cond) ∈ xtb := tb_in (tb0 (List.mem_of_getElem? (i := 34) (by decide +kernel))) rfl
theorem mw_0_35 : (.selects "SealedStoresModel" yX8_crosses yX8_crosses : Cond) ∈ xtb := tb_in (tb0 (List.mem_of_getElem? (i := 35) (by decide +kernel))) rfl
theorem mw_0_36 : (.selects "SealedStoresModel" yX8_lockersThat yX8_lockersThat : Cond) ∈ xtb := tb_in (tb0 (List.mem_of_getElem? (i := 36) (by decide +kernel))) rfl
theorem mw_0_37 : (.selects "SealedStoresModel" yX8_passes yX8_passes : Cond) ∈ xtb := tb_in (tb0 (List.mem_of_getElem? (i := 37) (by decide +kernel))) rfl
theorem mw_0_38 : (.selects "SealedStoresModel" yX8_loses yX8_loses : Cond) ∈ xtb := tb_in (tb0 (List.mem_of_getElem? (i := 38) (by decide +kernel))) rfl
theorem mw_0_39 : (.selects "SealedStoresModel" yX8_overLockers yX8_overLockers : Cond) ∈ xtb := tb_in (tb0 (List.mem_of_getElem? (i := 39) (by decide +kernel))) rfl
theorem mw_0_40 : (.selects "SealedStoresModel" yX8_tries yX8_tries : Cond) ∈ xtb := tb_in (tb0 (List.mem_of_getElem? (i := 40) (by decide +kernel))) rfl
theorem mw_0_41 : (.selects "SealedStoresModel" yX8_order yX8_order : Cond) ∈ xtb := tb_in (tb0 (List.mem_of_getElem? (i := 41) (by decide +kernel))) rfl
theorem mw_0_42 : (.selects "SealedStoresModel" yX8_here yX8_here : Cond) ∈ xtb := tb_in (tb0 (List.mem_of_getElem? (i := 42) (by decide +kernel))) rfl
theorem mw_0_43 : (.selects "SealedStoresModel" yX8_number yX8_number : Cond) ∈ xtb := tb_in (tb0 (List.mem_of_getElem? (i := 43) (by decide +kernel))) rfl
theorem mw_0_44 : (.selects "SealedStoresModel" yX8_passesSign yX8_passesSign : Cond) ∈ xtb := tb_in (tb0 (List.mem_of_getElem? (i := 44) (by decide +kernel))) rfl
theorem mw_0_45 : (.selects "SealedStoresModel" yX8_back yX8_back : Cond) ∈ xtb := tb_in (tb0 (List.mem_of_getElem? (i := 45) (by decide +kernel))) rfl
theorem mw_1_0 : (.initialized "SealedStoresLaw" : Cond) ∈ xtb := tb_in (tb1 (List.mem_of_getElem? (i := 0) (by decide +kernel))) rfl
theorem mw_1_1 : (.initialized "SealedStores" : Cond) ∈ xtb := tb_in (tb1 (List.mem_of_getElem? (i := 1) (by decide +kernel))) rfl
theorem mw_1_2 : (.initialized "SealedStores$Ship" : Cond) ∈ xtb := tb_in (tb1 (List.mem_of_getElem? (i := 2) (by decide +kernel))) rfl
theorem mw_1_3 : (.initialized "SealedStores$Lockers" : Cond) ∈ xtb := tb_in (tb1 (List.mem_of_getElem? (i := 3) (by decide +kernel))) rfl
theorem mw_1_4 : (.initialized "SealedStores$Seals" : Cond) ∈ xtb := tb_in (tb1 (List.mem_of_getElem? (i := 4) (by decide +kernel))) rfl
theorem mw_1_5 : (.initialized "SealedStores$Bonds" : Cond) ∈ xtb := tb_in (tb1 (List.mem_of_getElem? (i := 5) (by decide +kernel))) rfl
theorem mw_1_6 : (.initialized "SealedStores$Releases" : Cond) ∈ xtb := tb_in (tb1 (List.mem_of_getElem? (i := 6) (by decide +kernel))) rfl
theorem mw_1_7 : (.initialized "SealedStores$History" : Cond) ∈ xtb := tb_in (tb1 (List.mem_of_getElem? (i := 7) (by decide +kernel))) rfl
theorem mw_1_8 : (.initialized "SealedStores$OrderLog" : Cond) ∈ xtb := tb_in (tb1 (List.mem_of_getElem? (i := 8) (by decide +kernel))) rfl
theorem mw_1_9 : (.initialized "SealedStoresModel" : Cond) ∈ xtb := tb_in (tb1 (List.mem_of_getElem? (i := 9) (by decide +kernel))) rfl
theorem mw_1_10 : (.initialized "java/lang/System" : Cond) ∈ xtb := tb_in (tb1 (List.mem_of_getElem? (i := 10) (by decide +kernel))) rfl
theorem mw_1_11 : (.initialized "java/lang/Math" : Cond) ∈ xtb := tb_in (tb1 (List.mem_of_getElem? (i := 11) (by decide +kernel))) rfl
theorem mw_1_12 : (.classLink "SealedStoresLaw" 7 "SealedStores" : Cond) ∈ xtb := tb_in (tb1 (List.mem_of_getElem? (i := 12) (by decide +kernel))) rfl
theorem mw_1_13 : (.instantiable "SealedStores" 4 : Cond) ∈ xtb := tb_in (tb1 (List.mem_of_getElem? (i := 13) (by decide +kernel))) rfl
theorem mw_1_14 : (.methodLink "SealedStoresLaw" 9 yX7_init : Cond) ∈ xtb := tb_in (tb1 (List.mem_of_getElem? (i := 14) (by decide +kernel))) rfl
theorem mw_1_15 : (.instanceMethod yX7_init : Cond) ∈ xtb := tb_in (tb1 (List.mem_of_getElem? (i := 15) (by decide +kernel))) rfl
theorem mw_1_16 : (.code yX7_init cX7_init 1 none : Cond) ∈ xtb := tb_in (tb1 (List.mem_of_getElem? (i := 16) rfl)) rfl
theorem mw_1_17 : (.methodLink "SealedStores" 1 objectInit : Cond) ∈ xtb := tb_in (tb1 (List.mem_of_getElem? (i := 17) (by decide +kernel))) rfl
theorem mw_1_18 : (.instanceMethod objectInit : Cond) ∈ xtb := tb_in (tb1 (List.mem_of_getElem? (i := 18) (by decide +kernel))) rfl
theorem mw_1_19 : (.code objectInit ⟨#[0xb1]⟩ 1 none : Cond) ∈ xtb := tb_in (tb1 (List.mem_of_getElem? (i := 19) rfl)) rfl
theorem mw_1_20 : (.classLink "SealedStores" 7 "SealedStores$Ship" : Cond) ∈ xtb := tb_in (tb1 (List.mem_of_getElem? (i := 20) (by decide +kernel))) rfl
theorem mw_1_21 : (.instantiable "SealedStores$Ship" 9 : Cond) ∈ xtb := tb_in (tb1 (List.mem_of_getElem? (i := 21) (by decide +kernel))) rfl
theorem mw_1_22 : (.methodLink "SealedStores" 9 yX6_init : Cond) ∈ xtb := tb_in (tb1 (List.mem_of_getElem? (i := 22) (by decide +kernel))) rfl
theorem mw_1_23 : (.instanceMethod yX6_init : Cond) ∈ xtb := tb_in (tb1 (List.mem_of_getElem? (i := 23) (by decide +kernel))) rfl
theorem mw_1_24 : (.code yX6_init cX6_init 1 none : Cond) ∈ xtb := tb_in (tb1 (List.mem_of_getElem? (i := 24) rfl)) rfl
theorem mw_1_25 : (.methodLink "SealedStores$Ship" 3 objectInit : Cond) ∈ xtb := tb_in (tb1 (List.mem_of_getElem? (i := 25) (by decide +kernel))) rfl
theorem mw_1_26 : (.classLink "SealedStores$Ship" 28 "SealedStores$Lockers" : Cond) ∈ xtb := tb_in (tb1 (List.mem_of_getElem? (i := 26) (by decide +kernel))) rfl
theorem mw_1_27 : (.instantiable "SealedStores$Lockers" 5 : Cond) ∈ xtb := tb_in (tb1 (List.mem_of_getElem? (i := 27) (by decide +kernel))) rfl
theorem mw_1_28 : (.methodLink "SealedStores$Ship" 30 yX2_init : Cond) ∈ xtb := tb_in (tb1 (List.mem_of_getElem? (i := 28) (by decide +kernel))) rfl
theorem mw_1_29 : (.instanceMethod yX2_init : Cond) ∈ xtb := tb_in (tb1 (List.mem_of_getElem? (i := 29) (by decide +kernel))) rfl
theorem mw_1_30 : (.code yX2_init cX2_init 1 none : Cond) ∈ xtb := tb_in (tb1 (List.mem_of_getElem? (i := 30) rfl)) rfl
theorem mw_1_31 : (.methodLink "SealedStores$Lockers" 3 objectInit : Cond) ∈ xtb := tb_in (tb1 (List.mem_of_getElem? (i := 31) (by decide +kernel))) rfl
theorem mw_1_32 : (.fieldLink "SealedStores$Lockers" 9 "SealedStores$Lockers" "number" "I" : Cond) ∈ xtb := tb_in (tb1 (List.mem_of_getElem? (i := 32) (by decide +kernel))) rfl
theorem mw_1_33 : (.fieldLink "SealedStores$Ship" 75 "SealedStores$Lockers" "number" "I" : Cond) ∈ xtb := tb_in (tb1 (List.mem_of_getElem? (i := 33) (by decide +kernel))) rfl
theorem mw_1_34 : (.fieldLink "SealedStores" 197 "SealedStores$Lockers" "number" "I" : Cond) ∈ xtb := tb_in (tb1 (List.mem_of_getElem? (i := 34) (by decide +kernel))) rfl
theorem mw_1_35 : (.fieldLink "SealedStores$Lockers" 15 "SealedStores$Lockers" "state" "[I" : Cond) ∈ xtb := tb_in (tb1 (List.mem_of_getElem? (i := 35) (by decide +kernel))) rfl
theorem mw_1_36 : (.fieldLink "SealedStores" 64 "SealedStores$Lockers" "state" "[I" : Cond) ∈ xtb := tb_in (tb1 (List.mem_of_getElem? (i := 36) (by decide +kernel))) rfl
theorem mw_1_37 : (.fieldLink "SealedStores$Ship" 101 "SealedStores$Lockers" "state" "[I" : Cond) ∈ xtb := tb_in (tb1 (List.mem_of_getElem? (i := 37) (by decide +kernel))) rfl
theorem mw_1_38 : (.fieldLink "SealedStores$Lockers" 19 "SealedStores$Lockers" "seal" "[I" : Cond) ∈ xtb := tb_in (tb1 (List.mem_of_getElem? (i := 38) (by decide +kernel))) rfl
theorem mw_1_39 : (.fieldLink "SealedStores" 70 "SealedStores$Lockers" "seal" "[I" : Cond) ∈ xtb := tb_in (tb1 (List.mem_of_getElem? (i := 39) (by decide +kernel))) rfl
theorem mw_1_40 : (.fieldLink "SealedStores$Ship" 136 "SealedStores$Lockers" "seal" "[I" : Cond) ∈ xtb := tb_in (tb1 (List.mem_of_getElem? (i := 40) (by decide +kernel))) rfl
theorem mw_1_41 : (.fieldLink "SealedStores$Lockers" 22 "SealedStores$Lockers" "units" "[I" : Cond) ∈ xtb := tb_in (tb1 (List.mem_of_getElem? (i := 41) (by decide +kernel))) rfl
theorem mw_1_42 : (.fieldLink "SealedStores" 73 "SealedStores$Lockers" "units" "[I" : Cond) ∈ xtb := tb_in (tb1 (List.mem_of_getElem? (i := 42) (by decide +kernel))) rfl
theorem mw_1_43 : (.fieldLink "SealedStores$Ship" 109 "SealedStores$Lockers" "units" "[I" : Cond) ∈ xtb := tb_in (tb1 (List.mem_of_getElem? (i := 43) (by decide +kernel))) rfl
theorem mw_1_44 : (.fieldLink "SealedStores$Lockers" 25 "SealedStores$Lockers" "missing" "[I" : Cond) ∈ xtb := tb_in (tb1 (List.mem_of_getElem? (i := 44) (by decide +kernel))) rfl
theorem mw_1_45 : (.fieldLink "SealedStores" 80 "SealedStores$Lockers" "missing" "[I" : Cond) ∈ xtb := tb_in (tb1 (List.mem_of_getElem? (i := 45) (by decide +kernel))) rfl
theorem mw_1_46 : (.fieldLink "SealedStores$Ship" 130 "SealedStores$Lockers" "missing" "[I" : Cond) ∈ xtb := tb_in (tb1 (List.mem_of_getElem? (i := 46) (by decide +kernel))) rfl
theorem mw_1_58 : (.arrayClass .int : Cond) ∈ xtb := tb_in (tb1 (List.mem_of_getElem? (i := 58) (by decide +kernel))) rfl
theorem mw_1_59 : (.classLink "SealedStores$Ship" 35 "SealedStores$Seals" : Cond) ∈ xtb := tb_in (tb1 (List.mem_of_getElem? (i := 59) (by decide +kernel))) rfl
theorem mw_1_60 : (.instantiable "SealedStores$Seals" 4 : Cond) ∈ xtb := tb_in (tb1 (List.mem_of_getElem? (i := 60) (by decide +kernel))) rfl
theorem mw_1_61 : (.methodLink "SealedStores$Ship" 37 yX5_init : Cond) ∈ xtb := tb_in (tb1 (List.mem_of_getElem? (i := 61) (by decide +kernel))) rfl
theorem mw_1_62 : (.instanceMethod yX5_init : Cond) ∈ xtb := tb_in (tb1 (List.mem_of_getElem? (i := 62) (by decide +kernel))) rfl
theorem mw_1_63 : (.code yX5_init cX5_init 1 none : Cond) ∈ xtb := tb_in (tb1 (List.mem_of_getElem? (i := 63) rfl)) rfl
theorem mw_1_64 : (.methodLink "SealedStores$Seals" 3 objectInit : Cond) ∈ xtb := tb_in (tb1 (List.mem_of_getElem? (i := 64) (by decide +kernel))) rfl
theorem mw_1_65 : (.fieldLink "SealedStores$Seals" 9 "SealedStores$Seals" "used" "I" : Cond) ∈ xtb := tb_in (tb1 (List.mem_of_getElem? (i := 65) (by decide +kernel))) rfl
theorem mw_1_66 : (.fieldLink "SealedStores" 93 "SealedStores$Seals" "used" "I" : Cond) ∈ xtb := tb_in (tb1 (List.mem_of_getElem? (i := 66) (by decide +kernel))) rfl
theorem mw_1_67 : (.fieldLink "SealedStores$Seals" 15 "SealedStores$Seals" "locker" "[I" : Cond) ∈ xtb := tb_in (tb1 (List.mem_of_getElem? (i := 67) (by decide +kernel))) rfl
theorem mw_1_68 : (.fieldLink "SealedStores" 99 "SealedStores$Seals" "locker" "[I" : Cond) ∈ xtb := tb_in (tb1 (List.mem_of_getElem? (i := 68) (by decide +kernel))) rfl
theorem mw_1_69 : (.fieldLink "SealedStores$Seals" 19 "SealedStores$Seals" "day" "[I" : Cond) ∈ xtb := tb_in (tb1 (List.mem_of_getElem? (i := 69) (by decide +kernel))) rfl
theorem mw_1_70 : (.fieldLink "SealedStores" 102 "SealedStores$Seals" "day" "[I" : Cond) ∈ xtb := tb_in (tb1 (List.mem_of_getElem? (i := 70) (by decide +kernel))) rfl
theorem mw_1_71 : (.fieldLink "SealedStores$Seals" 22 "SealedStores$Seals" "fate" "[I" : Cond) ∈ xtb := tb_in (tb1 (List.mem_of_getElem? (i := 71) (by decide +kernel))) rfl
theorem mw_1_72 : (.fieldLink "SealedStores" 105 "SealedStores$Seals" "fate" "[I" : Cond) ∈ xtb := tb_in (tb1 (List.mem_of_getElem? (i := 72) (by decide +kernel))) rfl
theorem mw_1_73 : (.fieldLink "SealedStores$Ship" 133 "SealedStores$Seals" "fate" "[I" : Cond) ∈ xtb := tb_in (tb1 (List.mem_of_getElem? (i := 73) (by decide +kernel))) rfl
theorem mw_1_83 : (.classLink "SealedStores$Ship" 42 "SealedStores$Bonds" : Cond) ∈ xtb := tb_in (tb1 (List.mem_of_getElem? (i := 83) (by decide +kernel))) rfl
theorem mw_1_84 : (.instantiable "SealedStores$Bonds" 7 : Cond) ∈ xtb := tb_in (tb1 (List.mem_of_getElem? (i := 84) (by decide +kernel))) rfl
theorem mw_1_85 : (.methodLink "SealedStores$Ship" 44 yX0_init : Cond) ∈ xtb := tb_in (tb1 (List.mem_of_getElem? (i := 85) (by decide +kernel))) rfl
theorem mw_1_86 : (.instanceMethod yX0_init : Cond) ∈ xtb := tb_in (tb1 (List.mem_of_getElem? (i := 86) (by decide +kernel))) rfl
theorem mw_1_87 : (.code yX0_init cX0_init 1 none : Cond) ∈ xtb := tb_in (tb1 (List.mem_of_getElem? (i := 87) rfl)) rfl
theorem mw_1_88 : (.methodLink "SealedStores$Bonds" 3 objectInit : Cond) ∈ xtb := tb_in (tb1 (List.mem_of_getElem? (i := 88) (by decide +kernel))) rfl
theorem mw_1_89 : (.fieldLink "SealedStores$Bonds" 9 "SealedStores$Bonds" "number" "I" : Cond) ∈ xtb := tb_in (tb1 (List.mem_of_getElem? (i := 89) (by decide +kernel))) rfl
theorem mw_1_90 : (.fieldLink "SealedStores" 112 "SealedStores$Bonds" "number" "I" : Cond) ∈ xtb := tb_in (tb1 (List.mem_of_getElem? (i := 90) (by decide +kernel))) rfl
theorem mw_1_91 : (.fieldLink "SealedStores$Ship" 108 "SealedStores$Bonds" "number" "I" : Cond) ∈ xtb := tb_in (tb1 (List.mem_of_getElem? (i := 91) (by decide +kernel))) rfl
theorem mw_1_92 : (.fieldLink "SealedStores$Bonds" 15 "SealedStores$Bonds" "amountMade" "J" : Cond) ∈ xtb := tb_in (tb1 (List.mem_of_getElem? (i := 92) (by decide +kernel))) rfl
theorem mw_1_93 : (.fieldLink "SealedStores$Ship" 113 "SealedStores$Bonds" "amountMade" "J" : Cond) ∈ xtb := tb_in (tb1 (List.mem_of_getElem? (i := 93) (by decide +kernel))) rfl
theorem mw_1_94 : (.fieldLink "SealedStores" 178 "SealedStores$Bonds" "amountMade" "J" : Cond) ∈ xtb := tb_in (tb1 (List.mem_of_getElem? (i := 94) (by decide +kernel))) rfl
theorem mw_1_95 : (.fieldLink "SealedStores$Bonds" 19 "SealedStores$Bonds" "good" "[I" : Cond) ∈ xtb := tb_in (tb1 (List.mem_of_getElem? (i := 95) (by decide +kernel))) rfl
theorem mw_1_96 : (.fieldLink "SealedStores" 117 "SealedStores$Bonds" "good" "[I" : Cond) ∈ xtb := tb_in (tb1 (List.mem_of_getElem? (i := 96) (by decide +kernel))) rfl
theorem mw_1_97 : (.fieldLink "SealedStores$Ship" 178 "SealedStores$Bonds" "good" "[I" : Cond) ∈ xtb := tb_in (tb1 (List.mem_of_getElem? (i := 97) (by decide +kernel))) rfl
theorem mw_1_98 : (.fieldLink "SealedStores$Bonds" 23 "SealedStores$Bonds" "made" "[I" : Cond) ∈ xtb := tb_in (tb1 (List.mem_of_getElem? (i := 98) (by decide +kernel))) rfl
theorem mw_1_99 : (.fieldLink "SealedStores" 120 "SealedStores$Bonds" "made" "[I" : Cond) ∈ xtb := tb_in (tb1 (List.mem_of_getElem? (i := 99) (by decide +kernel))) rfl
theorem mw_1_100 : (.fieldLink "SealedStores$Bonds" 26 "SealedStores$Bonds" "left" "[I" : Cond) ∈ xtb := tb_in (tb1 (List.mem_of_getElem? (i := 100) (by decide +kernel))) rfl
theorem mw_1_101 : (.fieldLink "SealedStores" 123 "SealedStores$Bonds" "left" "[I" : Cond) ∈ xtb := tb_in (tb1 (List.mem_of_getElem? (i := 101) (by decide +kernel))) rfl
theorem mw_1_102 : (.fieldLink "SealedStores$Ship" 181 "SealedStores$Bonds" "left" "[I" : Cond) ∈ xtb := tb_in (tb1 (List.mem_of_getElem? (i := 102) (by decide +kernel))) rfl
theorem mw_1_103 : (.fieldLink "SealedStores$Bonds" 29 "SealedStores$Bonds" "duty" "[I" : Cond) ∈ xtb := tb_in (tb1 (List.mem_of_getElem? (i := 103) (by decide +kernel))) rfl
theorem mw_1_104 : (.fieldLink "SealedStores" 126 "SealedStores$Bonds" "duty" "[I" : Cond) ∈ xtb := tb_in (tb1 (List.mem_of_getElem? (i := 104) (by decide +kernel))) rfl
theorem mw_1_105 : (.fieldLink "SealedStores$Bonds" 32 "SealedStores$Bonds" "due" "[I" : Cond) ∈ xtb := tb_in (tb1 (List.mem_of_getElem? (i := 105) (by decide +kernel))) rfl
theorem mw_1_106 : (.fieldLink "SealedStores" 133 "SealedStores$Bonds" "due" "[I" : Cond) ∈ xtb := tb_in (tb1 (List.mem_of_getElem? (i := 106) (by decide +kernel))) rfl
theorem mw_1_107 : (.fieldLink "SealedStores$Ship" 175 "SealedStores$Bonds" "due" "[I" : Cond) ∈ xtb := tb_in (tb1 (List.mem_of_getElem? (i := 107) (by decide +kernel))) rfl
theorem mw_1_123 : (.classLink "SealedStores$Ship" 49 "SealedStores$Releases" : Cond) ∈ xtb := tb_in (tb1 (List.mem_of_getElem? (i := 123) (by decide +kernel))) rfl
theorem mw_1_124 : (.instantiable "SealedStores$Releases" 3 : Cond) ∈ xtb := tb_in (tb1 (List.mem_of_getElem? (i := 124) (by decide +kernel))) rfl
theorem mw_1_125 : (.methodLink "SealedStores$Ship" 51 yX4_init : Cond) ∈ xtb := tb_in (tb1 (List.mem_of_getElem? (i := 125) (by decide +kernel))) rfl
theorem mw_1_126 : (.instanceMethod yX4_init : Cond) ∈ xtb := tb_in (tb1 (List.mem_of_getElem? (i := 126) (by decide +kernel))) rfl
theorem mw_1_127 : (.code yX4_init cX4_init 1 none : Cond) ∈ xtb := tb_in (tb1 (List.mem_of_getElem? (i := 127) rfl)) rfl
theorem mw_1_128 : (.methodLink "SealedStores$Releases" 3 objectInit : Cond) ∈ xtb := tb_in (tb1 (List.mem_of_getElem? (i := 128) (by decide +kernel))) rfl
theorem mw_1_129 : (.fieldLink "SealedStores$Releases" 9 "SealedStores$Releases" "fines" "J" : Cond) ∈ xtb := tb_in (tb1 (List.mem_of_getElem? (i := 129) (by decide +kernel))) rfl
theorem mw_1_130 : (.fieldLink "SealedStores$Ship" 143 "SealedStores$Releases" "fines" "J" : Cond) ∈ xtb := tb_in (tb1 (List.mem_of_getElem? (i := 130) (by decide +kernel))) rfl
theorem mw_1_131 : (.fieldLink "SealedStores" 186 "SealedStores$Releases" "fines" "J" : Cond) ∈ xtb := tb_in (tb1 (List.mem_of_getElem? (i := 131) (by decide +kernel))) rfl
theorem mw_1_132 : (.fieldLink "SealedStores$Releases" 15 "SealedStores$Releases" "units" "[I" : Cond) ∈ xtb := tb_in (tb1 (List.mem_of_getElem? (i := 132) (by decide +kernel))) rfl
theorem mw_1_133 : (.fieldLink "SealedStores" 174 "SealedStores$Releases" "units" "[I" : Cond) ∈ xtb := tb_in (tb1 (List.mem_of_getElem? (i := 133) (by decide +kernel))) rfl
theorem mw_1_134 : (.fieldLink "SealedStores$Releases" 19 "SealedStores$Releases" "cents" "[J" : Cond) ∈ xtb := tb_in (tb1 (List.mem_of_getElem? (i := 134) (by decide +kernel))) rfl
theorem mw_1_135 : (.fieldLink "SealedStores" 193 "SealedStores$Releases" "cents" "[J" : Cond) ∈ xtb := tb_in (tb1 (List.mem_of_getElem? (i := 135) (by decide +kernel))) rfl
theorem mw_1_143 : (.arrayClass .long : Cond) ∈ xtb := tb_in (tb1 (List.mem_of_getElem? (i := 143) (by decide +kernel))) rfl
theorem mw_1_144 : (.fieldLink "SealedStores$Ship" 9 "SealedStores$Ship" "zone" "I" : Cond) ∈ xtb := tb_in (tb1 (List.mem_of_getElem? (i := 144) (by decide +kernel))) rfl
theorem mw_1_145 : (.fieldLink "SealedStores" 204 "SealedStores$Ship" "zone" "I" : Cond) ∈ xtb := tb_in (tb1 (List.mem_of_getElem? (i := 145) (by decide +kernel))) rfl
theorem mw_1_146 : (.fieldLink "SealedStores$Ship" 15 "SealedStores$Ship" "day" "I" : Cond) ∈ xtb := tb_in (tb1 (List.mem_of_getElem? (i := 146) (by decide +kernel))) rfl
theorem mw_1_147 : (.fieldLink "SealedStores" 207 "SealedStores$Ship" "day" "I" : Cond) ∈ xtb := tb_in (tb1 (List.mem_of_getElem? (i := 147) (by decide +kernel))) rfl
theorem mw_1_148 : (.fieldLink "SealedStores$Ship" 18 "SealedStores$Ship" "goods" "I" : Cond) ∈ xtb := tb_in (tb1 (List.mem_of_getElem? (i := 148) (by decide +kernel))) rfl
theorem mw_1_149 : (.fieldLink "SealedStores" 198 "SealedStores$Ship" "goods" "I" : Cond) ∈ xtb := tb_in (tb1 (List.mem_of_getElem? (i := 149) (by decide +kernel))) rfl
theorem mw_1_150 : (.fieldLink "SealedStores$Ship" 21 "SealedStores$Ship" "duties" "[I" : Cond) ∈ xtb := tb_in (tb1 (List.mem_of_getElem? (i := 150) (by decide +kernel))) rfl
theorem mw_1_151 : (.fieldLink "SealedStores$Ship" 25 "SealedStores$Ship" "settings" "[I" : Cond) ∈ xtb := tb_in (tb1 (List.mem_of_getElem? (i := 151) (by decide +kernel))) rfl
theorem mw_1_152 : (.fieldLink "SealedStores" 216 "SealedStores$Ship" "settings" "[I" : Cond) ∈ xtb := tb_in (tb1 (List.mem_of_getElem? (i := 152) (by decide +kernel))) rfl
theorem mw_1_153 : (.fieldLink "SealedStores$Ship" 31 "SealedStores$Ship" "lockers" "LSealedStores$Lockers;" : Cond) ∈ xtb := tb_in (tb1 (List.mem_of_getElem? (i := 153) (by decide +kernel))) rfl
theorem mw_1_154 : (.fieldLink "SealedStores" 60 "SealedStores$Ship" "lockers" "LSealedStores$Lockers;" : Cond) ∈ xtb := tb_in (tb1 (List.mem_of_getElem? (i := 154) (by decide +kernel))) rfl
theorem mw_1_155 : (.fieldLink "SealedStores$Ship" 38 "SealedStores$Ship" "seals" "LSealedStores$Seals;" : Cond) ∈ xtb := tb_in (tb1 (List.mem_of_getElem? (i := 155) (by decide +kernel))) rfl
theorem mw_1_156 : (.fieldLink "SealedStores" 89 "SealedStores$Ship" "seals" "LSealedStores$Seals;" : Cond) ∈ xtb := tb_in (tb1 (List.mem_of_getElem? (i := 156) (by decide +kernel))) rfl
theorem mw_1_157 : (.fieldLink "SealedStores$Ship" 45 "SealedStores$Ship" "bonds" "LSealedStores$Bonds;" : Cond) ∈ xtb := tb_in (tb1 (List.mem_of_getElem? (i := 157) (by decide +kernel))) rfl
theorem mw_1_158 : (.fieldLink "SealedStores" 108 "SealedStores$Ship" "bonds" "LSealedStores$Bonds;" : Cond) ∈ xtb := tb_in (tb1 (List.mem_of_getElem? (i := 158) (by decide +kernel))) rfl
theorem mw_1_159 : (.fieldLink "SealedStores$Ship" 52 "SealedStores$Ship" "releases" "LSealedStores$Releases;" : Cond) ∈ xtb := tb_in (tb1 (List.mem_of_getElem? (i := 159) (by decide +kernel))) rfl
theorem mw_1_160 : (.fieldLink "SealedStores" 170 "SealedStores$Ship" "releases" "LSealedStores$Releases;" : Cond) ∈ xtb := tb_in (tb1 (List.mem_of_getElem? (i := 160) (by decide +kernel))) rfl
theorem mw_1_180 : (.classLink "SealedStores" 19 "SealedStores$History" : Cond) ∈ xtb := tb_in (tb1 (List.mem_of_getElem? (i := 180) (by decide +kernel))) rfl
theorem mw_1_181 : (.instantiable "SealedStores$History" 3 : Cond) ∈ xtb := tb_in (tb1 (List.mem_of_getElem? (i := 181) (by decide +kernel))) rfl
theorem mw_1_182 : (.methodLink "SealedStores" 21 yX1_init : Cond) ∈ xtb := tb_in (tb1 (List.mem_of_getElem? (i := 182) (by decide +kernel))) rfl
theorem mw_1_183 : (.instanceMethod yX1_init : Cond) ∈ xtb := tb_in (tb1 (List.mem_of_getElem? (i := 183) (by decide +kernel))) rfl
theorem mw_1_184 : (.code yX1_init cX1_init 2 none : Cond) ∈ xtb := tb_in (tb1 (List.mem_of_getElem? (i := 184) rfl)) rfl
theorem mw_1_185 : (.methodLink "SealedStores$History" 3 objectInit : Cond) ∈ xtb := tb_in (tb1 (List.mem_of_getElem? (i := 185) (by decide +kernel))) rfl
theorem mw_1_186 : (.classLink "SealedStores$History" 18 "SealedStores$Ship" : Cond) ∈ xtb := tb_in (tb1 (List.mem_of_getElem? (i := 186) (by decide +kernel))) rfl
theorem mw_1_187 : (.arrayOver (.object "SealedStores$Ship") : Cond) ∈ lw_tbl := tb1 (List.mem_of_getElem? (i := 187) (by decide +kernel))
theorem mw_1_188 : (.methodLink "SealedStores$History" 24 yX6_init : Cond) ∈ xtb := tb_in (tb1 (List.mem_of_getElem? (i := 188) (by decide +kernel))) rfl
theorem mw_1_189 : (.fieldLink "SealedStores$History" 9 "SealedStores$History" "number" "I" : Cond) ∈ xtb := tb_in (tb1 (List.mem_of_getElem? (i := 189) (by decide +kernel))) rfl
theorem mw_1_190 : (.fieldLink "SealedStores" 212 "SealedStores$History" "number" "I" : Cond) ∈ xtb := tb_in (tb1 (List.mem_of_getElem? (i := 190) (by decide +kernel))) rfl
theorem mw_1_191 : (.fieldLink "SealedStores$History" 15 "SealedStores$History" "latest" "I" : Cond) ∈ xtb := tb_in (tb1 (List.mem_of_getElem? (i := 191) (by decide +kernel))) rfl
theorem mw_1_192 : (.fieldLink "SealedStores$History" 20 "SealedStores$History" "states" "[LSealedStores$Ship;" : Cond) ∈ xtb := tb_in (tb1 (List.mem_of_getElem? (i := 192) (by decide +kernel))) rfl
theorem mw_1_200 : (.classLink "SealedStores" 26 "SealedStores$OrderLog" : Cond) ∈ xtb := tb_in (tb1 (List.mem_of_getElem? (i := 200) (by decide +kernel))) rfl
theorem mw_1_201 : (.instantiable "SealedStores$OrderLog" 9 : Cond) ∈ xtb := tb_in (tb1 (List.mem_of_getElem? (i := 201) (by decide +kernel))) rfl
theorem mw_1_202 : (.methodLink "SealedStores" 28 yX3_init : Cond) ∈ xtb := tb_in (tb1 (List.mem_of_getElem? (i := 202) (by decide +kernel))) rfl
theorem mw_1_203 : (.instanceMethod yX3_init : Cond) ∈ xtb := tb_in (tb1 (List.mem_of_getElem? (i := 203) (by decide +kernel))) rfl
theorem mw_1_204 : (.code yX3_init cX3_init 1 none : Cond) ∈ xtb := tb_in (tb1 (List.mem_of_getElem? (i := 204) rfl)) rfl
theorem mw_1_205 : (.methodLink "SealedStores$OrderLog" 3 objectInit : Cond) ∈ xtb := tb_in (tb1 (List.mem_of_getElem? (i := 205) (by decide +kernel))) rfl
theorem mw_1_206 : (.fieldLink "SealedStores$OrderLog" 9 "SealedStores$OrderLog" "length" "I" : Cond) ∈ xtb := tb_in (tb1 (List.mem_of_getElem? (i := 206) (by decide +kernel))) rfl
theorem mw_1_207 : (.fieldLink "SealedStores" 213 "SealedStores$OrderLog" "length" "I" : Cond) ∈ xtb := tb_in (tb1 (List.mem_of_getElem? (i := 207) (by decide +kernel))) rfl
theorem mw_1_208 : (.fieldLink "SealedStores$OrderLog" 50 "SealedStores$OrderLog" "faultPosition" "I" : Cond) ∈ xtb := tb_in (tb1 (List.mem_of_getElem? (i := 208) (by decide +kernel))) rfl
theorem mw_1_209 : (.fieldLink "SealedStores" 247 "SealedStores$OrderLog" "faultPosition" "I" : Cond) ∈ xtb := tb_in (tb1 (List.mem_of_getElem? (i := 209) (by decide +kernel))) rfl
theorem mw_1_210 : (.fieldLink "SealedStores$OrderLog" 29 "SealedStores$OrderLog" "faultReason" "I" : Cond) ∈ xtb := tb_in (tb1 (List.mem_of_getElem? (i := 210) (by decide +kernel))) rfl
theorem mw_1_211 : (.fieldLink "SealedStores" 244 "SealedStores$OrderLog" "faultReason" "I" : Cond) ∈ xtb := tb_in (tb1 (List.mem_of_getElem? (i := 211) (by decide +kernel))) rfl
theorem mw_1_212 : (.fieldLink "SealedStores$OrderLog" 53 "SealedStores$OrderLog" "faultCause" "I" : Cond) ∈ xtb := tb_in (tb1 (List.mem_of_getElem? (i := 212) (by decide +kernel))) rfl
theorem mw_1_213 : (.fieldLink "SealedStores" 250 "SealedStores$OrderLog" "faultCause" "I" : Cond) ∈ xtb := tb_in (tb1 (List.mem_of_getElem? (i := 213) (by decide +kernel))) rfl
theorem mw_1_214 : (.fieldLink "SealedStores$OrderLog" 32 "SealedStores$OrderLog" "ordersDone" "I" : Cond) ∈ xtb := tb_in (tb1 (List.mem_of_getElem? (i := 214) (by decide +kernel))) rfl
theorem mw_1_215 : (.fieldLink "SealedStores" 256 "SealedStores$OrderLog" "ordersDone" "I" : Cond) ∈ xtb := tb_in (tb1 (List.mem_of_getElem? (i := 215) (by decide +kernel))) rfl
theorem mw_1_216 : (.fieldLink "SealedStores$OrderLog" 35 "SealedStores$OrderLog" "position" "I" : Cond) ∈ xtb := tb_in (tb1 (List.mem_of_getElem? (i := 216) (by decide +kernel))) rfl
theorem mw_1_217 : (.fieldLink "SealedStores$OrderLog" 56 "SealedStores$OrderLog" "kind" "C" : Cond) ∈ xtb := tb_in (tb1 (List.mem_of_getElem? (i := 217) (by decide +kernel))) rfl
theorem mw_1_218 : (.fieldLink "SealedStores$OrderLog" 15 "SealedStores$OrderLog" "numbers" "[I" : Cond) ∈ xtb := tb_in (tb1 (List.mem_of_getElem? (i := 218) (by decide +kernel))) rfl
theorem mw_1_219 : (.fieldLink "SealedStores$OrderLog" 19 "SealedStores$OrderLog" "signs" "[C" : Cond) ∈ xtb := tb_in (tb1 (List.mem_of_getElem? (i := 219) (by decide +kernel))) rfl
theorem mw_1_239 : (.arrayClass .char : Cond) ∈ xtb := tb_in (tb1 (List.mem_of_getElem? (i := 239) (by decide +kernel))) rfl
theorem mw_2_0 : (.fieldLink "SealedStores" 10 "SealedStores" "ship" "LSealedStores$Ship;" : Cond) ∈ xtb := tb_in (tb2 (List.mem_of_getElem? (i := 0) (by decide +kernel))) rfl
theorem mw_2_1 : (.fieldLink "SealedStores" 16 "SealedStores" "trial" "LSealedStores$Ship;" : Cond) ∈ xtb := tb_in (tb2 (List.mem_of_getElem? (i := 1) (by decide +kernel))) rfl
theorem mw_2_2 : (.fieldLink "SealedStores" 22 "SealedStores" "history" "LSealedStores$History;" : Cond) ∈ xtb := tb_in (tb2 (List.mem_of_getElem? (i := 2) (by decide +kernel))) rfl
theorem mw_2_3 : (.fieldLink "SealedStores" 29 "SealedStores" "log" "LSealedStores$OrderLog;" : Cond) ∈ xtb := tb_in (tb2 (List.mem_of_getElem? (i := 3) (by decide +kernel))) rfl
theorem mw_2_13 : (.methodLink "SealedStoresLaw" 13 yX7_locker : Cond) ∈ xtb := tb_in (tb2 (List.mem_of_getElem? (i := 13) (by decide +kernel))) rfl
theorem mw_2_14 : (.instanceMethod yX7_locker : Cond) ∈ xtb := tb_in (tb2 (List.mem_of_getElem? (i := 14) (by decide +kernel))) rfl
theorem mw_2_15 : (.selects "SealedStores" yX7_locker yX7_locker : Cond) ∈ xtb := tb_in (tb2 (List.mem_of_getElem? (i := 15) (by decide +kernel))) rfl
theorem mw_2_16 : (.code yX7_locker cX7_locker 1 (some .int) : Cond) ∈ xtb := tb_in (tb2 (List.mem_of_getElem? (i := 16) rfl)) rfl
theorem mw_2_17 : (.methodLink "SealedStores" 33 yX1_prepare : Cond) ∈ xtb := tb_in (tb2 (List.mem_of_getElem? (i := 17) (by decide +kernel))) rfl
theorem mw_2_18 : (.instanceMethod yX1_prepare : Cond) ∈ xtb := tb_in (tb2 (List.mem_of_getElem? (i := 18) (by decide +kernel))) rfl
theorem mw_2_19 : (.selects "SealedStores$History" yX1_prepare yX1_prepare : Cond) ∈ xtb := tb_in (tb2 (List.mem_of_getElem? (i := 19) (by decide +kernel))) rfl
theorem mw_2_20 : (.code yX1_prepare cX1_prepare 2 none : Cond) ∈ xtb := tb_in (tb2 (List.mem_of_getElem? (i := 20) rfl)) rfl
theorem mw_2_21 : (.methodLink "SealedStores$History" 25 yX1_spare : Cond) ∈ xtb := tb_in (tb2 (List.mem_of_getElem? (i := 21) (by decide +kernel))) rfl
theorem mw_2_23 : (.instanceMethod yX1_spare : Cond) ∈ xtb := tb_in (tb2 (List.mem_of_getElem? (i := 23) (by decide +kernel))) rfl
theorem mw_2_24 : (.code yX1_spare cX1_spare 1 (some .int) : Cond) ∈ xtb := tb_in (tb2 (List.mem_of_getElem? (i := 24) rfl)) rfl
theorem mw_2_25 : (.methodLink "SealedStores$History" 29 yX6_become : Cond) ∈ xtb := tb_in (tb2 (List.mem_of_getElem? (i := 25) (by decide +kernel))) rfl
theorem mw_2_26 : (.instanceMethod yX6_become : Cond) ∈ xtb := tb_in (tb2 (List.mem_of_getElem? (i := 26) (by decide +kernel))) rfl
theorem mw_2_27 : (.selects "SealedStores$Ship" yX6_become yX6_become : Cond) ∈ xtb := tb_in (tb2 (List.mem_of_getElem? (i := 27) (by decide +kernel))) rfl
theorem mw_2_28 : (.code yX6_become cX6_become 2 none : Cond) ∈ xtb := tb_in (tb2 (List.mem_of_getElem? (i := 28) rfl)) rfl
theorem mw_2_29 : (.methodLink "SealedStores$Ship" 56 arraycopyName : Cond) ∈ xtb := tb_in (tb2 (List.mem_of_getElem? (i := 29) (by decide +kernel))) rfl
theorem mw_2_30 : (.static arraycopyName : Cond) ∈ xtb := tb_in (tb2 (List.mem_of_getElem? (i := 30) (by decide +kernel))) rfl
theorem mw_2_31 : (.native arraycopyName : Cond) ∈ xtb := tb_in (tb2 (List.mem_of_getElem? (i := 31) (by decide +kernel))) rfl
theorem mw_2_32 : (.methodLink "SealedStores$Ship" 62 yX2_become : Cond) ∈ xtb := tb_in (tb2 (List.mem_of_getElem? (i := 32) (by decide +kernel))) rfl
theorem mw_2_33 : (.instanceMethod yX2_become : Cond) ∈ xtb := tb_in (tb2 (List.mem_of_getElem? (i := 33) (by decide +kernel))) rfl
theorem mw_2_34 : (.selects "SealedStores$Lockers" yX2_become yX2_become : Cond) ∈ xtb := tb_in (tb2 (List.mem_of_getElem? (i := 34) (by decide +kernel))) rfl
theorem mw_2_35 : (.code yX2_become cX2_become 2 none : Cond) ∈ xtb := tb_in (tb2 (List.mem_of_getElem? (i := 35) rfl)) rfl
theorem mw_2_36 : (.methodLink "SealedStores$Lockers" 28 arraycopyName : Cond) ∈ xtb := tb_in (tb2 (List.mem_of_getElem? (i := 36) (by decide +kernel))) rfl
theorem mw_2_37 : (.methodLink "SealedStores$Ship" 66 yX5_become : Cond) ∈ xtb := tb_in (tb2 (List.mem_of_getElem? (i := 37) (by decide +kernel))) rfl
theorem mw_2_38 : (.instanceMethod yX5_become : Cond) ∈ xtb := tb_in (tb2 (List.mem_of_getElem? (i := 38) (by decide +kernel))) rfl
theorem mw_2_39 : (.selects "SealedStores$Seals" yX5_become yX5_become : Cond) ∈ xtb := tb_in (tb2 (List.mem_of_getElem? (i := 39) (by decide +kernel))) rfl
theorem mw_2_40 : (.code yX5_become cX5_become 2 none : Cond) ∈ xtb := tb_in (tb2 (List.mem_of_getElem? (i := 40) rfl)) rfl
theorem mw_2_41 : (.methodLink "SealedStores$Seals" 25 arraycopyName : Cond) ∈ xtb := tb_in (tb2 (List.mem_of_getElem? (i := 41) (by decide +kernel))) rfl
theorem mw_2_42 : (.methodLink "SealedStores$Ship" 69 yX0_become : Cond) ∈ xtb := tb_in (tb2 (List.mem_of_getElem? (i := 42) (by decide +kernel))) rfl
theorem mw_2_43 : (.instanceMethod yX0_become : Cond) ∈ xtb := tb_in (tb2 (List.mem_of_getElem? (i := 43) (by decide +kernel))) rfl
theorem mw_2_44 : (.selects "SealedStores$Bonds" yX0_become yX0_become : Cond) ∈ xtb := tb_in (tb2 (List.mem_of_getElem? (i := 44) (by decide +kernel))) rfl
theorem mw_2_45 : (.code yX0_become cX0_become 2 none : Cond) ∈ xtb := tb_in (tb2 (List.mem_of_getElem? (i := 45) rfl)) rfl
theorem mw_2_46 : (.methodLink "SealedStores$Bonds" 35 arraycopyName : Cond) ∈ xtb := tb_in (tb2 (List.mem_of_getElem? (i := 46) (by decide +kernel))) rfl
theorem mw_2_47 : (.methodLink "SealedStores$Ship" 72 yX4_become : Cond) ∈ xtb := tb_in (tb2 (List.mem_of_getElem? (i := 47) (by decide +kernel))) rfl
theorem mw_2_48 : (.instanceMethod yX4_become : Cond) ∈ xtb := tb_in (tb2 (List.mem_of_getElem? (i := 48) (by decide +kernel))) rfl
theorem mw_2_49 : (.selects "SealedStores$Releases" yX4_become yX4_become : Cond) ∈ xtb := tb_in (tb2 (List.mem_of_getElem? (i := 49) (by decide +kernel))) rfl
theorem mw_2_50 : (.code yX4_become cX4_become 2 none : Cond) ∈ xtb := tb_in (tb2 (List.mem_of_getElem? (i := 50) rfl)) rfl
theorem mw_2_51 : (.methodLink "SealedStores$Releases" 23 arraycopyName : Cond) ∈ xtb := tb_in (tb2 (List.mem_of_getElem? (i := 51) (by decide +kernel))) rfl
theorem mw_2_52 : (.methodLink "SealedStores" 37 yX6_addLocker : Cond) ∈ xtb := tb_in (tb2 (List.mem_of_getElem? (i := 52) (by decide +kernel))) rfl
theorem mw_2_53 : (.instanceMethod yX6_addLocker : Cond) ∈ xtb := tb_in (tb2 (List.mem_of_getElem? (i := 53) (by decide +kernel))) rfl
theorem mw_2_54 : (.selects "SealedStores$Ship" yX6_addLocker yX6_addLocker : Cond) ∈ xtb := tb_in (tb2 (List.mem_of_getElem? (i := 54) (by decide +kernel))) rfl
theorem mw_2_55 : (.code yX6_addLocker cX6_addLocker 2 (some .int) : Cond) ∈ xtb := tb_in (tb2 (List.mem_of_getElem? (i := 55) rfl)) rfl
theorem mw_2_56 : (.methodLink "SealedStores$Ship" 86 yX5_left : Cond) ∈ xtb := tb_in (tb2 (List.mem_of_getElem? (i := 56) (by decide +kernel))) rfl
theorem mw_2_57 : (.instanceMethod yX5_left : Cond) ∈ xtb := tb_in (tb2 (List.mem_of_getElem? (i := 57) (by decide +kernel))) rfl
theorem mw_2_58 : (.selects "SealedStores$Seals" yX5_left yX5_left : Cond) ∈ xtb := tb_in (tb2 (List.mem_of_getElem? (i := 58) (by decide +kernel))) rfl
theorem mw_2_59 : (.code yX5_left cX5_left 1 (some .int) : Cond) ∈ xtb := tb_in (tb2 (List.mem_of_getElem? (i := 59) rfl)) rfl
theorem mw_2_60 : (.methodLink "SealedStores$Ship" 90 yX6_putSeal : Cond) ∈ xtb := tb_in (tb2 (List.mem_of_getElem? (i := 60) (by decide +kernel))) rfl
theorem mw_2_62 : (.instanceMethod yX6_putSeal : Cond) ∈ xtb := tb_in (tb2 (List.mem_of_getElem? (i := 62) (by decide +kernel))) rfl
theorem mw_2_63 : (.code yX6_putSeal cX6_putSeal 2 none : Cond) ∈ xtb := tb_in (tb2 (List.mem_of_getElem? (i := 63) rfl)) rfl
theorem mw_2_64 : (.methodLink "SealedStores$Ship" 190 yX5_putOn : Cond) ∈ xtb := tb_in (tb2 (List.mem_of_getElem? (i := 64) (by decide +kernel))) rfl
theorem mw_2_65 : (.instanceMethod yX5_putOn : Cond) ∈ xtb := tb_in (tb2 (List.mem_of_getElem? (i := 65) (by decide +kernel))) rfl
theorem mw_2_66 : (.selects "SealedStores$Seals" yX5_putOn yX5_putOn : Cond) ∈ xtb := tb_in (tb2 (List.mem_of_getElem? (i := 66) (by decide +kernel))) rfl
theorem mw_2_67 : (.code yX5_putOn cX5_putOn 3 (some .int) : Cond) ∈ xtb := tb_in (tb2 (List.mem_of_getElem? (i := 67) rfl)) rfl
theorem mw_2_68 : (.methodLink "SealedStores" 41 yX1_finish : Cond) ∈ xtb := tb_in (tb2 (List.mem_of_getElem? (i := 68) (by decide +kernel))) rfl
theorem mw_2_69 : (.instanceMethod yX1_finish : Cond) ∈ xtb := tb_in (tb2 (List.mem_of_getElem? (i := 69) (by decide +kernel))) rfl
theorem mw_2_70 : (.selects "SealedStores$History" yX1_finish yX1_finish : Cond) ∈ xtb := tb_in (tb2 (List.mem_of_getElem? (i := 70) (by decide +kernel))) rfl
theorem mw_2_71 : (.code yX1_finish cX1_finish 2 (some .int) : Cond) ∈ xtb := tb_in (tb2 (List.mem_of_getElem? (i := 71) rfl)) rfl
theorem mw_2_72 : (.methodLink "SealedStores$History" 33 Lib.Math.min.name : Cond) ∈ xtb := tb_in (tb2 (List.mem_of_getElem? (i := 72) (by decide +kernel))) rfl
theorem mw_2_73 : (.static Lib.Math.min.name : Cond) ∈ xtb := tb_in (tb2 (List.mem_of_getElem? (i := 73) (by decide +kernel))) rfl
theorem mw_2_74 : (.code Lib.Math.min.name Lib.Math.min.code 2 (some .int) : Cond) ∈ xtb := tb_in (tb2 (List.mem_of_getElem? (i := 74) rfl)) rfl
theorem mw_2_75 : (.methodLink "SealedStoresLaw" 18 yX7_good : Cond) ∈ xtb := tb_in (tb2 (List.mem_of_getElem? (i := 75) (by decide +kernel))) rfl
theorem mw_2_76 : (.instanceMethod yX7_good : Cond) ∈ xtb := tb_in (tb2 (List.mem_of_getElem? (i := 76) (by decide +kernel))) rfl
theorem mw_2_77 : (.selects "SealedStores" yX7_good yX7_good : Cond) ∈ xtb := tb_in (tb2 (List.mem_of_getElem? (i := 77) (by decide +kernel))) rfl
theorem mw_2_78 : (.code yX7_good cX7_good 2 (some .int) : Cond) ∈ xtb := tb_in (tb2 (List.mem_of_getElem? (i := 78) rfl)) rfl
theorem mw_2_79 : (.methodLink "SealedStores" 45 yX6_addGood : Cond) ∈ xtb := tb_in (tb2 (List.mem_of_getElem? (i := 79) (by decide +kernel))) rfl
theorem mw_2_80 : (.instanceMethod yX6_addGood : Cond) ∈ xtb := tb_in (tb2 (List.mem_of_getElem? (i := 80) (by decide +kernel))) rfl
theorem mw_2_81 : (.selects "SealedStores$Ship" yX6_addGood yX6_addGood : Cond) ∈ xtb := tb_in (tb2 (List.mem_of_getElem? (i := 81) (by decide +kernel))) rfl
theorem mw_2_82 : (.code yX6_addGood cX6_addGood 2 (some .int) : Cond) ∈ xtb := tb_in (tb2 (List.mem_of_getElem? (i := 82) rfl)) rfl
theorem mw_2_83 : (.methodLink "SealedStores$Ship" 94 yX6_isDuty : Cond) ∈ xtb := tb_in (tb2 (List.mem_of_getElem? (i := 83) (by decide +kernel))) rfl
theorem mw_2_84 : (.instanceMethod yX6_isDuty : Cond) ∈ xtb := tb_in (tb2 (List.mem_of_getElem? (i := 84) (by decide +kernel))) rfl
theorem mw_2_85 : (.selects "SealedStores$Ship" yX6_isDuty yX6_isDuty : Cond) ∈ xtb := tb_in (tb2 (List.mem_of_getElem? (i := 85) (by decide +kernel))) rfl
theorem mw_2_86 : (.code yX6_isDuty cX6_isDuty 2 (some .boolean) : Cond) ∈ xtb := tb_in (tb2 (List.mem_of_getElem? (i := 86) rfl)) rfl
theorem mw_2_87 : (.constant "SealedStores$Ship" 78 (1000000) : Cond) ∈ xtb := tb_in (tb2 (List.mem_of_getElem? (i := 87) (by decide +kernel))) rfl
theorem mw_2_88 : (.methodLink "SealedStoresLaw" 23 yX7_duty : Cond) ∈ xtb := tb_in (tb2 (List.mem_of_getElem? (i := 88) (by decide +kernel))) rfl
theorem mw_2_89 : (.instanceMethod yX7_duty : Cond) ∈ xtb := tb_in (tb2 (List.mem_of_getElem? (i := 89) (by decide +kernel))) rfl
theorem mw_2_90 : (.selects "SealedStores" yX7_duty yX7_duty : Cond) ∈ xtb := tb_in (tb2 (List.mem_of_getElem? (i := 90) (by decide +kernel))) rfl
theorem mw_2_91 : (.code yX7_duty cX7_duty 3 (some .int) : Cond) ∈ xtb := tb_in (tb2 (List.mem_of_getElem? (i := 91) rfl)) rfl
theorem mw_2_92 : (.methodLink "SealedStores" 48 yX6_changeDuty : Cond) ∈ xtb := tb_in (tb2 (List.mem_of_getElem? (i := 92) (by decide +kernel))) rfl
theorem mw_2_93 : (.instanceMethod yX6_changeDuty : Cond) ∈ xtb := tb_in (tb2 (List.mem_of_getElem? (i := 93) (by decide +kernel))) rfl
theorem mw_2_94 : (.selects "SealedStores$Ship" yX6_changeDuty yX6_changeDuty : Cond) ∈ xtb := tb_in (tb2 (List.mem_of_getElem? (i := 94) (by decide +kernel))) rfl
theorem mw_2_95 : (.code yX6_changeDuty cX6_changeDuty 4 (some .int) : Cond) ∈ xtb := tb_in (tb2 (List.mem_of_getElem? (i := 95) rfl)) rfl
theorem mw_2_96 : (.methodLink "SealedStores$Ship" 83 yX6_hasGood : Cond) ∈ xtb := tb_in (tb2 (List.mem_of_getElem? (i := 96) (by decide +kernel))) rfl
theorem mw_2_97 : (.instanceMethod yX6_hasGood : Cond) ∈ xtb := tb_in (tb2 (List.mem_of_getElem? (i := 97) (by decide +kernel))) rfl
theorem mw_2_98 : (.selects "SealedStores$Ship" yX6_hasGood yX6_hasGood : Cond) ∈ xtb := tb_in (tb2 (List.mem_of_getElem? (i := 98) (by decide +kernel))) rfl
theorem mw_2_99 : (.code yX6_hasGood cX6_hasGood 2 (some .boolean) : Cond) ∈ xtb := tb_in (tb2 (List.mem_of_getElem? (i := 99) rfl)) rfl
theorem mw_2_100 : (.methodLink "SealedStoresLaw" 28 yX7_load : Cond) ∈ xtb := tb_in (tb2 (List.mem_of_getElem? (i := 100) (by decide +kernel))) rfl
theorem mw_2_101 : (.instanceMethod yX7_load : Cond) ∈ xtb := tb_in (tb2 (List.mem_of_getElem? (i := 101) (by decide +kernel))) rfl
theorem mw_2_102 : (.selects "SealedStores" yX7_load yX7_load : Cond) ∈ xtb := tb_in (tb2 (List.mem_of_getElem? (i := 102) (by decide +kernel))) rfl
theorem mw_2_103 : (.code yX7_load cX7_load 4 (some .int) : Cond) ∈ xtb := tb_in (tb2 (List.mem_of_getElem? (i := 103) rfl)) rfl
theorem mw_2_104 : (.methodLink "SealedStores" 52 yX6_loadUnits : Cond) ∈ xtb := tb_in (tb2 (List.mem_of_getElem? (i := 104) (by decide +kernel))) rfl
theorem mw_2_105 : (.instanceMethod yX6_loadUnits : Cond) ∈ xtb := tb_in (tb2 (List.mem_of_getElem? (i := 105) (by decide +kernel))) rfl
theorem mw_2_106 : (.selects "SealedStores$Ship" yX6_loadUnits yX6_loadUnits : Cond) ∈ xtb := tb_in (tb2 (List.mem_of_getElem? (i := 106) (by decide +kernel))) rfl
theorem mw_2_107 : (.code yX6_loadUnits cX6_loadUnits 7 (some .int) : Cond) ∈ xtb := tb_in (tb2 (List.mem_of_getElem? (i := 107) rfl)) rfl
theorem mw_2_108 : (.methodLink "SealedStores$Ship" 97 yX6_canMove : Cond) ∈ xtb := tb_in (tb2 (List.mem_of_getElem? (i := 108) (by decide +kernel))) rfl
theorem mw_2_109 : (.instanceMethod yX6_canMove : Cond) ∈ xtb := tb_in (tb2 (List.mem_of_getElem? (i := 109) (by decide +kernel))) rfl
theorem mw_2_110 : (.selects "SealedStores$Ship" yX6_canMove yX6_canMove : Cond) ∈ xtb := tb_in (tb2 (List.mem_of_getElem? (i := 110) (by decide +kernel))) rfl
theorem mw_2_111 : (.code yX6_canMove cX6_canMove 4 (some .boolean) : Cond) ∈ xtb := tb_in (tb2 (List.mem_of_getElem? (i := 111) rfl)) rfl
theorem mw_2_112 : (.methodLink "SealedStores$Ship" 79 yX6_hasLocker : Cond) ∈ xtb := tb_in (tb2 (List.mem_of_getElem? (i := 112) (by decide +kernel))) rfl
theorem mw_2_113 : (.instanceMethod yX6_hasLocker : Cond) ∈ xtb := tb_in (tb2 (List.mem_of_getElem? (i := 113) (by decide +kernel))) rfl
theorem mw_2_114 : (.selects "SealedStores$Ship" yX6_hasLocker yX6_hasLocker : Cond) ∈ xtb := tb_in (tb2 (List.mem_of_getElem? (i := 114) (by decide +kernel))) rfl
theorem mw_2_115 : (.code yX6_hasLocker cX6_hasLocker 2 (some .boolean) : Cond) ∈ xtb := tb_in (tb2 (List.mem_of_getElem? (i := 115) rfl)) rfl
theorem mw_2_116 : (.methodLink "SealedStores$Ship" 104 yX2_place : Cond) ∈ xtb := tb_in (tb2 (List.mem_of_getElem? (i := 116) (by decide +kernel))) rfl
theorem mw_2_117 : (.instanceMethod yX2_place : Cond) ∈ xtb := tb_in (tb2 (List.mem_of_getElem? (i := 117) (by decide +kernel))) rfl
theorem mw_2_118 : (.selects "SealedStores$Lockers" yX2_place yX2_place : Cond) ∈ xtb := tb_in (tb2 (List.mem_of_getElem? (i := 118) (by decide +kernel))) rfl
theorem mw_2_119 : (.code yX2_place cX2_place 3 (some .int) : Cond) ∈ xtb := tb_in (tb2 (List.mem_of_getElem? (i := 119) rfl)) rfl
theorem mw_2_120 : (.constant "SealedStores$Ship" 112 (99999) : Cond) ∈ xtb := tb_in (tb2 (List.mem_of_getElem? (i := 120) (by decide +kernel))) rfl
theorem mw_2_121 : (.constantLong "SealedStores$Ship" 117 (2147483647) : Cond) ∈ xtb := tb_in (tb2 (List.mem_of_getElem? (i := 121) (by decide +kernel))) rfl
theorem mw_2_122 : (.methodLink "SealedStores$Ship" 119 yX6_sealByOfficer : Cond) ∈ xtb := tb_in (tb2 (List.mem_of_getElem? (i := 122) (by decide +kernel))) rfl
theorem mw_2_124 : (.instanceMethod yX6_sealByOfficer : Cond) ∈ xtb := tb_in (tb2 (List.mem_of_getElem? (i := 124) (by decide +kernel))) rfl
theorem mw_2_125 : (.code yX6_sealByOfficer cX6_sealByOfficer 2 none : Cond) ∈ xtb := tb_in (tb2 (List.mem_of_getElem? (i := 125) rfl)) rfl
theorem mw_2_126 : (.methodLink "SealedStores$Ship" 122 yX0_add : Cond) ∈ xtb := tb_in (tb2 (List.mem_of_getElem? (i := 126) (by decide +kernel))) rfl
theorem mw_2_127 : (.instanceMethod yX0_add : Cond) ∈ xtb := tb_in (tb2 (List.mem_of_getElem? (i := 127) (by decide +kernel))) rfl
theorem mw_2_128 : (.selects "SealedStores$Bonds" yX0_add yX0_add : Cond) ∈ xtb := tb_in (tb2 (List.mem_of_getElem? (i := 128) (by decide +kernel))) rfl
theorem mw_2_129 : (.code yX0_add cX0_add 6 (some .int) : Cond) ∈ xtb := tb_in (tb2 (List.mem_of_getElem? (i := 129) rfl)) rfl
theorem mw_2_130 : (.methodLink "SealedStoresLaw" 33 yX7_lockerOf : Cond) ∈ xtb := tb_in (tb2 (List.mem_of_getElem? (i := 130) (by decide +kernel))) rfl
theorem mw_2_131 : (.instanceMethod yX7_lockerOf : Cond) ∈ xtb := tb_in (tb2 (List.mem_of_getElem? (i := 131) (by decide +kernel))) rfl
theorem mw_2_132 : (.selects "SealedStores" yX7_lockerOf yX7_lockerOf : Cond) ∈ xtb := tb_in (tb2 (List.mem_of_getElem? (i := 132) (by decide +kernel))) rfl
theorem mw_2_133 : (.code yX7_lockerOf cX7_lockerOf 4 (some .int) : Cond) ∈ xtb := tb_in (tb2 (List.mem_of_getElem? (i := 133) rfl)) rfl
theorem mw_2_134 : (.methodLink "SealedStores" 56 yX6_hasLocker : Cond) ∈ xtb := tb_in (tb2 (List.mem_of_getElem? (i := 134) (by decide +kernel))) rfl
theorem mw_2_135 : (.methodLink "SealedStores" 76 yX2_sumOfLocker : Cond) ∈ xtb := tb_in (tb2 (List.mem_of_getElem? (i := 135) (by decide +kernel))) rfl
theorem mw_2_136 : (.instanceMethod yX2_sumOfLocker : Cond) ∈ xtb := tb_in (tb2 (List.mem_of_getElem? (i := 136) (by decide +kernel))) rfl
theorem mw_2_137 : (.selects "SealedStores$Lockers" yX2_sumOfLocker yX2_sumOfLocker : Cond) ∈ xtb := tb_in (tb2 (List.mem_of_getElem? (i := 137) (by decide +kernel))) rfl
theorem mw_2_138 : (.code yX2_sumOfLocker cX2_sumOfLocker 5 (some .int) : Cond) ∈ xtb := tb_in (tb2 (List.mem_of_getElem? (i := 138) rfl)) rfl
theorem mw_2_139 : (.methodLink "SealedStores$Lockers" 34 yX2_place : Cond) ∈ xtb := tb_in (tb2 (List.mem_of_getElem? (i := 139) (by decide +kernel))) rfl
theorem mw_2_140 : (.methodLink "SealedStores" 83 yX6_hasGood : Cond) ∈ xtb := tb_in (tb2 (List.mem_of_getElem? (i := 140) (by decide +kernel))) rfl
theorem mw_2_141 : (.methodLink "SealedStores" 86 yX2_place : Cond) ∈ xtb := tb_in (tb2 (List.mem_of_getElem? (i := 141) (by decide +kernel))) rfl
theorem mw_2_142 : (.methodLink "SealedStoresLaw" 37 yX7_missing : Cond) ∈ xtb := tb_in (tb2 (List.mem_of_getElem? (i := 142) (by decide +kernel))) rfl
theorem mw_2_143 : (.instanceMethod yX7_missing : Cond) ∈ xtb := tb_in (tb2 (List.mem_of_getElem? (i := 143) (by decide +kernel))) rfl
theorem mw_2_144 : (.selects "SealedStores" yX7_missing yX7_missing : Cond) ∈ xtb := tb_in (tb2 (List.mem_of_getElem? (i := 144) (by decide +kernel))) rfl
theorem mw_2_145 : (.code yX7_missing cX7_missing 3 (some .int) : Cond) ∈ xtb := tb_in (tb2 (List.mem_of_getElem? (i := 145) rfl)) rfl
theorem mw_2_146 : (.methodLink "SealedStoresLaw" 41 yX7_seal : Cond) ∈ xtb := tb_in (tb2 (List.mem_of_getElem? (i := 146) (by decide +kernel))) rfl
theorem mw_2_147 : (.instanceMethod yX7_seal : Cond) ∈ xtb := tb_in (tb2 (List.mem_of_getElem? (i := 147) (by decide +kernel))) rfl
theorem mw_2_148 : (.selects "SealedStores" yX7_seal yX7_seal : Cond) ∈ xtb := tb_in (tb2 (List.mem_of_getElem? (i := 148) (by decide +kernel))) rfl
theorem mw_2_149 : (.code yX7_seal cX7_seal 4 (some .int) : Cond) ∈ xtb := tb_in (tb2 (List.mem_of_getElem? (i := 149) rfl)) rfl
theorem mw_2_150 : (.methodLink "SealedStoresLaw" 45 yX7_bond : Cond) ∈ xtb := tb_in (tb2 (List.mem_of_getElem? (i := 150) (by decide +kernel))) rfl
theorem mw_2_151 : (.instanceMethod yX7_bond : Cond) ∈ xtb := tb_in (tb2 (List.mem_of_getElem? (i := 151) (by decide +kernel))) rfl
theorem mw_2_152 : (.selects "SealedStores" yX7_bond yX7_bond : Cond) ∈ xtb := tb_in (tb2 (List.mem_of_getElem? (i := 152) (by decide +kernel))) rfl
theorem mw_2_153 : (.code yX7_bond cX7_bond 4 (some .int) : Cond) ∈ xtb := tb_in (tb2 (List.mem_of_getElem? (i := 153) rfl)) rfl
theorem mw_2_154 : (.methodLink "SealedStores" 129 yX0_held : Cond) ∈ xtb := tb_in (tb2 (List.mem_of_getElem? (i := 154) (by decide +kernel))) rfl
theorem mw_2_155 : (.instanceMethod yX0_held : Cond) ∈ xtb := tb_in (tb2 (List.mem_of_getElem? (i := 155) (by decide +kernel))) rfl
theorem mw_2_156 : (.selects "SealedStores$Bonds" yX0_held yX0_held : Cond) ∈ xtb := tb_in (tb2 (List.mem_of_getElem? (i := 156) (by decide +kernel))) rfl
theorem mw_2_157 : (.code yX0_held cX0_held 2 (some .long) : Cond) ∈ xtb := tb_in (tb2 (List.mem_of_getElem? (i := 157) rfl)) rfl
theorem mw_2_158 : (.methodLink "SealedStoresLaw" 49 yX7_nextBond : Cond) ∈ xtb := tb_in (tb2 (List.mem_of_getElem? (i := 158) (by decide +kernel))) rfl
theorem mw_2_159 : (.instanceMethod yX7_nextBond : Cond) ∈ xtb := tb_in (tb2 (List.mem_of_getElem? (i := 159) (by decide +kernel))) rfl
theorem mw_2_160 : (.selects "SealedStores" yX7_nextBond yX7_nextBond : Cond) ∈ xtb := tb_in (tb2 (List.mem_of_getElem? (i := 160) (by decide +kernel))) rfl
theorem mw_2_161 : (.code yX7_nextBond cX7_nextBond 3 (some .int) : Cond) ∈ xtb := tb_in (tb2 (List.mem_of_getElem? (i := 161) rfl)) rfl
theorem mw_2_162 : (.methodLink "SealedStores" 136 yX0_nextAfter : Cond) ∈ xtb := tb_in (tb2 (List.mem_of_getElem? (i := 162) (by decide +kernel))) rfl
theorem mw_2_163 : (.instanceMethod yX0_nextAfter : Cond) ∈ xtb := tb_in (tb2 (List.mem_of_getElem? (i := 163) (by decide +kernel))) rfl
theorem mw_2_164 : (.selects "SealedStores$Bonds" yX0_nextAfter yX0_nextAfter : Cond) ∈ xtb := tb_in (tb2 (List.mem_of_getElem? (i := 164) (by decide +kernel))) rfl
theorem mw_2_165 : (.code yX0_nextAfter cX0_nextAfter 9 (some .int) : Cond) ∈ xtb := tb_in (tb2 (List.mem_of_getElem? (i := 165) rfl)) rfl
theorem mw_2_166 : (.methodLink "SealedStoresLaw" 53 yX7_use : Cond) ∈ xtb := tb_in (tb2 (List.mem_of_getElem? (i := 166) (by decide +kernel))) rfl
theorem mw_2_167 : (.instanceMethod yX7_use : Cond) ∈ xtb := tb_in (tb2 (List.mem_of_getElem? (i := 167) (by decide +kernel))) rfl
theorem mw_2_168 : (.selects "SealedStores" yX7_use yX7_use : Cond) ∈ xtb := tb_in (tb2 (List.mem_of_getElem? (i := 168) (by decide +kernel))) rfl
theorem mw_2_169 : (.code yX7_use cX7_use 4 (some .int) : Cond) ∈ xtb := tb_in (tb2 (List.mem_of_getElem? (i := 169) rfl)) rfl
theorem mw_2_170 : (.methodLink "SealedStores" 139 yX6_useUnits : Cond) ∈ xtb := tb_in (tb2 (List.mem_of_getElem? (i := 170) (by decide +kernel))) rfl
theorem mw_2_171 : (.instanceMethod yX6_useUnits : Cond) ∈ xtb := tb_in (tb2 (List.mem_of_getElem? (i := 171) (by decide +kernel))) rfl
theorem mw_2_172 : (.selects "SealedStores$Ship" yX6_useUnits yX6_useUnits : Cond) ∈ xtb := tb_in (tb2 (List.mem_of_getElem? (i := 172) (by decide +kernel))) rfl
theorem mw_2_173 : (.code yX6_useUnits cX6_useUnits 5 (some .int) : Cond) ∈ xtb := tb_in (tb2 (List.mem_of_getElem? (i := 173) rfl)) rfl
theorem mw_2_174 : (.methodLink "SealedStores$Ship" 126 yX6_release : Cond) ∈ xtb := tb_in (tb2 (List.mem_of_getElem? (i := 174) (by decide +kernel))) rfl
theorem mw_2_176 : (.instanceMethod yX6_release : Cond) ∈ xtb := tb_in (tb2 (List.mem_of_getElem? (i := 176) (by decide +kernel))) rfl
theorem mw_2_177 : (.code yX6_release cX6_release 6 (some .long) : Cond) ∈ xtb := tb_in (tb2 (List.mem_of_getElem? (i := 177) rfl)) rfl
theorem mw_2_178 : (.methodLink "SealedStores$Ship" 165 yX0_amountOf : Cond) ∈ xtb := tb_in (tb2 (List.mem_of_getElem? (i := 178) (by decide +kernel))) rfl
theorem mw_2_179 : (.instanceMethod yX0_amountOf : Cond) ∈ xtb := tb_in (tb2 (List.mem_of_getElem? (i := 179) (by decide +kernel))) rfl
theorem mw_2_180 : (.selects "SealedStores$Bonds" yX0_amountOf yX0_amountOf : Cond) ∈ xtb := tb_in (tb2 (List.mem_of_getElem? (i := 180) (by decide +kernel))) rfl
theorem mw_2_181 : (.code yX0_amountOf cX0_amountOf 10 (some .long) : Cond) ∈ xtb := tb_in (tb2 (List.mem_of_getElem? (i := 181) rfl)) rfl
theorem mw_2_182 : (.methodLink "SealedStores$Bonds" 45 yX0_nextAfter : Cond) ∈ xtb := tb_in (tb2 (List.mem_of_getElem? (i := 182) (by decide +kernel))) rfl
theorem mw_2_183 : (.methodLink "SealedStores$Bonds" 49 Lib.Math.min.name : Cond) ∈ xtb := tb_in (tb2 (List.mem_of_getElem? (i := 183) (by decide +kernel))) rfl
theorem mw_2_184 : (.methodLink "SealedStores$Ship" 169 yX4_add : Cond) ∈ xtb := tb_in (tb2 (List.mem_of_getElem? (i := 184) (by decide +kernel))) rfl
theorem mw_2_185 : (.instanceMethod yX4_add : Cond) ∈ xtb := tb_in (tb2 (List.mem_of_getElem? (i := 185) (by decide +kernel))) rfl
theorem mw_2_186 : (.selects "SealedStores$Releases" yX4_add yX4_add : Cond) ∈ xtb := tb_in (tb2 (List.mem_of_getElem? (i := 186) (by decide +kernel))) rfl
theorem mw_2_187 : (.code yX4_add cX4_add 6 none : Cond) ∈ xtb := tb_in (tb2 (List.mem_of_getElem? (i := 187) rfl)) rfl
theorem mw_2_188 : (.methodLink "SealedStores$Releases" 29 yX4_place : Cond) ∈ xtb := tb_in (tb2 (List.mem_of_getElem? (i := 188) (by decide +kernel))) rfl
theorem mw_2_189 : (.instanceMethod yX4_place : Cond) ∈ xtb := tb_in (tb2 (List.mem_of_getElem? (i := 189) (by decide +kernel))) rfl
theorem mw_2_190 : (.selects "SealedStores$Releases" yX4_place yX4_place : Cond) ∈ xtb := tb_in (tb2 (List.mem_of_getElem? (i := 190) (by decide +kernel))) rfl
theorem mw_2_191 : (.code yX4_place cX4_place 3 (some .int) : Cond) ∈ xtb := tb_in (tb2 (List.mem_of_getElem? (i := 191) rfl)) rfl
theorem mw_2_192 : (.methodLink "SealedStoresLaw" 57 yX7_bring : Cond) ∈ xtb := tb_in (tb2 (List.mem_of_getElem? (i := 192) (by decide +kernel))) rfl
theorem mw_2_193 : (.instanceMethod yX7_bring : Cond) ∈ xtb := tb_in (tb2 (List.mem_of_getElem? (i := 193) (by decide +kernel))) rfl
theorem mw_2_194 : (.selects "SealedStores" yX7_bring yX7_bring : Cond) ∈ xtb := tb_in (tb2 (List.mem_of_getElem? (i := 194) (by decide +kernel))) rfl
theorem mw_2_195 : (.code yX7_bring cX7_bring 4 (some .int) : Cond) ∈ xtb := tb_in (tb2 (List.mem_of_getElem? (i := 195) rfl)) rfl
theorem mw_2_196 : (.methodLink "SealedStores" 142 yX6_returnUnits : Cond) ∈ xtb := tb_in (tb2 (List.mem_of_getElem? (i := 196) (by decide +kernel))) rfl
theorem mw_2_197 : (.instanceMethod yX6_returnUnits : Cond) ∈ xtb := tb_in (tb2 (List.mem_of_getElem? (i := 197) (by decide +kernel))) rfl
theorem mw_2_198 : (.selects "SealedStores$Ship" yX6_returnUnits yX6_returnUnits : Cond) ∈ xtb := tb_in (tb2 (List.mem_of_getElem? (i := 198) (by decide +kernel))) rfl
theorem mw_2_199 : (.code yX6_returnUnits cX6_returnUnits 5 (some .int) : Cond) ∈ xtb := tb_in (tb2 (List.mem_of_getElem? (i := 199) rfl)) rfl
theorem mw_2_200 : (.methodLink "SealedStoresLaw" 61 yX7_smash : Cond) ∈ xtb := tb_in (tb2 (List.mem_of_getElem? (i := 200) (by decide +kernel))) rfl
theorem mw_2_201 : (.instanceMethod yX7_smash : Cond) ∈ xtb := tb_in (tb2 (List.mem_of_getElem? (i := 201) (by decide +kernel))) rfl
theorem mw_2_202 : (.selects "SealedStores" yX7_smash yX7_smash : Cond) ∈ xtb := tb_in (tb2 (List.mem_of_getElem? (i := 202) (by decide +kernel))) rfl
theorem mw_2_203 : (.code yX7_smash cX7_smash 5 (some .int) : Cond) ∈ xtb := tb_in (tb2 (List.mem_of_getElem? (i := 203) rfl)) rfl
theorem mw_2_204 : (.methodLink "SealedStores" 145 yX6_breakUnits : Cond) ∈ xtb := tb_in (tb2 (List.mem_of_getElem? (i := 204) (by decide +kernel))) rfl
theorem mw_2_205 : (.instanceMethod yX6_breakUnits : Cond) ∈ xtb := tb_in (tb2 (List.mem_of_getElem? (i := 205) (by decide +kernel))) rfl
theorem mw_2_206 : (.selects "SealedStores$Ship" yX6_breakUnits yX6_breakUnits : Cond) ∈ xtb := tb_in (tb2 (List.mem_of_getElem? (i := 206) (by decide +kernel))) rfl
theorem mw_2_207 : (.code yX6_breakUnits cX6_breakUnits 6 (some .int) : Cond) ∈ xtb := tb_in (tb2 (List.mem_of_getElem? (i := 207) rfl)) rfl
theorem mw_2_208 : (.methodLink "SealedStoresLaw" 66 yX7_tear : Cond) ∈ xtb := tb_in (tb2 (List.mem_of_getElem? (i := 208) (by decide +kernel))) rfl
theorem mw_2_209 : (.instanceMethod yX7_tear : Cond) ∈ xtb := tb_in (tb2 (List.mem_of_getElem? (i := 209) (by decide +kernel))) rfl
theorem mw_2_210 : (.selects "SealedStores" yX7_tear yX7_tear : Cond) ∈ xtb := tb_in (tb2 (List.mem_of_getElem? (i := 210) (by decide +kernel))) rfl
theorem mw_2_211 : (.code yX7_tear cX7_tear 2 (some .int) : Cond) ∈ xtb := tb_in (tb2 (List.mem_of_getElem? (i := 211) rfl)) rfl
theorem mw_2_212 : (.methodLink "SealedStores" 149 yX6_tearSeal : Cond) ∈ xtb := tb_in (tb2 (List.mem_of_getElem? (i := 212) (by decide +kernel))) rfl
theorem mw_2_213 : (.instanceMethod yX6_tearSeal : Cond) ∈ xtb := tb_in (tb2 (List.mem_of_getElem? (i := 213) (by decide +kernel))) rfl
theorem mw_2_214 : (.selects "SealedStores$Ship" yX6_tearSeal yX6_tearSeal : Cond) ∈ xtb := tb_in (tb2 (List.mem_of_getElem? (i := 214) (by decide +kernel))) rfl
theorem mw_2_215 : (.code yX6_tearSeal cX6_tearSeal 2 (some .int) : Cond) ∈ xtb := tb_in (tb2 (List.mem_of_getElem? (i := 215) rfl)) rfl
theorem mw_2_216 : (.methodLink "SealedStoresLaw" 70 yX7_inspect : Cond) ∈ xtb := tb_in (tb2 (List.mem_of_getElem? (i := 216) (by decide +kernel))) rfl
theorem mw_2_217 : (.instanceMethod yX7_inspect : Cond) ∈ xtb := tb_in (tb2 (List.mem_of_getElem? (i := 217) (by decide +kernel))) rfl
theorem mw_2_218 : (.selects "SealedStores" yX7_inspect yX7_inspect : Cond) ∈ xtb := tb_in (tb2 (List.mem_of_getElem? (i := 218) (by decide +kernel))) rfl
theorem mw_2_219 : (.code yX7_inspect cX7_inspect 2 (some .int) : Cond) ∈ xtb := tb_in (tb2 (List.mem_of_getElem? (i := 219) rfl)) rfl
theorem mw_2_220 : (.methodLink "SealedStores" 152 yX6_countLocker : Cond) ∈ xtb := tb_in (tb2 (List.mem_of_getElem? (i := 220) (by decide +kernel))) rfl
theorem mw_2_221 : (.instanceMethod yX6_countLocker : Cond) ∈ xtb := tb_in (tb2 (List.mem_of_getElem? (i := 221) (by decide +kernel))) rfl
theorem mw_2_222 : (.selects "SealedStores$Ship" yX6_countLocker yX6_countLocker : Cond) ∈ xtb := tb_in (tb2 (List.mem_of_getElem? (i := 222) (by decide +kernel))) rfl
theorem mw_2_223 : (.code yX6_countLocker cX6_countLocker 7 (some .int) : Cond) ∈ xtb := tb_in (tb2 (List.mem_of_getElem? (i := 223) rfl)) rfl
theorem mw_2_224 : (.methodLink "SealedStores$Ship" 139 yX6_taxesOf : Cond) ∈ xtb := tb_in (tb2 (List.mem_of_getElem? (i := 224) (by decide +kernel))) rfl
theorem mw_2_226 : (.instanceMethod yX6_taxesOf : Cond) ∈ xtb := tb_in (tb2 (List.mem_of_getElem? (i := 226) (by decide +kernel))) rfl
theorem mw_2_227 : (.code yX6_taxesOf cX6_taxesOf 5 (some .long) : Cond) ∈ xtb := tb_in (tb2 (List.mem_of_getElem? (i := 227) rfl)) rfl
theorem mw_2_228 : (.methodLink "SealedStoresLaw" 74 yX7_cross : Cond) ∈ xtb := tb_in (tb2 (List.mem_of_getElem? (i := 228) (by decide +kernel))) rfl
theorem mw_2_229 : (.instanceMethod yX7_cross : Cond) ∈ xtb := tb_in (tb2 (List.mem_of_getElem? (i := 229) (by decide +kernel))) rfl
theorem mw_2_230 : (.selects "SealedStores" yX7_cross yX7_cross : Cond) ∈ xtb := tb_in (tb2 (List.mem_of_getElem? (i := 230) (by decide +kernel))) rfl
theorem mw_2_231 : (.code yX7_cross cX7_cross 2 (some .int) : Cond) ∈ xtb := tb_in (tb2 (List.mem_of_getElem? (i := 231) rfl)) rfl
theorem mw_2_232 : (.methodLink "SealedStores" 155 yX6_crossTo : Cond) ∈ xtb := tb_in (tb2 (List.mem_of_getElem? (i := 232) (by decide +kernel))) rfl
theorem mw_2_233 : (.instanceMethod yX6_crossTo : Cond) ∈ xtb := tb_in (tb2 (List.mem_of_getElem? (i := 233) (by decide +kernel))) rfl
theorem mw_2_234 : (.selects "SealedStores$Ship" yX6_crossTo yX6_crossTo : Cond) ∈ xtb := tb_in (tb2 (List.mem_of_getElem? (i := 234) (by decide +kernel))) rfl
theorem mw_2_235 : (.code yX6_crossTo cX6_crossTo 3 (some .int) : Cond) ∈ xtb := tb_in (tb2 (List.mem_of_getElem? (i := 235) rfl)) rfl
theorem mw_2_236 : (.methodLink "SealedStores$Ship" 146 yX2_inState : Cond) ∈ xtb := tb_in (tb2 (List.mem_of_getElem? (i := 236) (by decide +kernel))) rfl
theorem mw_2_237 : (.instanceMethod yX2_inState : Cond) ∈ xtb := tb_in (tb2 (List.mem_of_getElem? (i := 237) (by decide +kernel))) rfl
theorem mw_2_238 : (.selects "SealedStores$Lockers" yX2_inState yX2_inState : Cond) ∈ xtb := tb_in (tb2 (List.mem_of_getElem? (i := 238) (by decide +kernel))) rfl
theorem mw_2_239 : (.code yX2_inState cX2_inState 4 (some .int) : Cond) ∈ xtb := tb_in (tb2 (List.mem_of_getElem? (i := 239) rfl)) rfl
theorem mw_3_0 : (.methodLink "SealedStores$Ship" 150 yX6_sealOpenLockers : Cond) ∈ xtb := tb_in (tb3 (List.mem_of_getElem? (i := 0) (by decide +kernel))) rfl
theorem mw_3_2 : (.instanceMethod yX6_sealOpenLockers : Cond) ∈ xtb := tb_in (tb3 (List.mem_of_getElem? (i := 2) (by decide +kernel))) rfl
theorem mw_3_3 : (.code yX6_sealOpenLockers cX6_sealOpenLockers 3 (some .int) : Cond) ∈ xtb := tb_in (tb3 (List.mem_of_getElem? (i := 3) rfl)) rfl
theorem mw_3_4 : (.methodLink "SealedStores$Ship" 153 yX6_openLockers : Cond) ∈ xtb := tb_in (tb3 (List.mem_of_getElem? (i := 4) (by decide +kernel))) rfl
theorem mw_3_6 : (.instanceMethod yX6_openLockers : Cond) ∈ xtb := tb_in (tb3 (List.mem_of_getElem? (i := 6) (by decide +kernel))) rfl
theorem mw_3_7 : (.code yX6_openLockers cX6_openLockers 3 (some .int) : Cond) ∈ xtb := tb_in (tb3 (List.mem_of_getElem? (i := 7) rfl)) rfl
theorem mw_3_8 : (.methodLink "SealedStoresLaw" 78 yX7_pass : Cond) ∈ xtb := tb_in (tb3 (List.mem_of_getElem? (i := 8) (by decide +kernel))) rfl
theorem mw_3_9 : (.instanceMethod yX7_pass : Cond) ∈ xtb := tb_in (tb3 (List.mem_of_getElem? (i := 9) (by decide +kernel))) rfl
theorem mw_3_10 : (.selects "SealedStores" yX7_pass yX7_pass : Cond) ∈ xtb := tb_in (tb3 (List.mem_of_getElem? (i := 10) (by decide +kernel))) rfl
theorem mw_3_11 : (.code yX7_pass cX7_pass 2 (some .int) : Cond) ∈ xtb := tb_in (tb3 (List.mem_of_getElem? (i := 11) rfl)) rfl
theorem mw_3_12 : (.methodLink "SealedStores" 158 yX6_passDays : Cond) ∈ xtb := tb_in (tb3 (List.mem_of_getElem? (i := 12) (by decide +kernel))) rfl
theorem mw_3_13 : (.instanceMethod yX6_passDays : Cond) ∈ xtb := tb_in (tb3 (List.mem_of_getElem? (i := 13) (by decide +kernel))) rfl
theorem mw_3_14 : (.selects "SealedStores$Ship" yX6_passDays yX6_passDays : Cond) ∈ xtb := tb_in (tb3 (List.mem_of_getElem? (i := 14) (by decide +kernel))) rfl
theorem mw_3_15 : (.code yX6_passDays cX6_passDays 2 (some .int) : Cond) ∈ xtb := tb_in (tb3 (List.mem_of_getElem? (i := 15) rfl)) rfl
theorem mw_3_16 : (.methodLink "SealedStores$Ship" 156 yX6_runOutBonds : Cond) ∈ xtb := tb_in (tb3 (List.mem_of_getElem? (i := 16) (by decide +kernel))) rfl
theorem mw_3_18 : (.instanceMethod yX6_runOutBonds : Cond) ∈ xtb := tb_in (tb3 (List.mem_of_getElem? (i := 18) (by decide +kernel))) rfl
theorem mw_3_19 : (.code yX6_runOutBonds cX6_runOutBonds 9 (some .long) : Cond) ∈ xtb := tb_in (tb3 (List.mem_of_getElem? (i := 19) rfl)) rfl
theorem mw_3_20 : (.methodLink "SealedStores$Ship" 172 yX0_nextAfter : Cond) ∈ xtb := tb_in (tb3 (List.mem_of_getElem? (i := 20) (by decide +kernel))) rfl
theorem mw_3_21 : (.methodLink "SealedStores$Ship" 183 yX0_held : Cond) ∈ xtb := tb_in (tb3 (List.mem_of_getElem? (i := 21) (by decide +kernel))) rfl
theorem mw_3_22 : (.methodLink "SealedStores$Ship" 186 yX2_takeFromAny : Cond) ∈ xtb := tb_in (tb3 (List.mem_of_getElem? (i := 22) (by decide +kernel))) rfl
theorem mw_3_23 : (.instanceMethod yX2_takeFromAny : Cond) ∈ xtb := tb_in (tb3 (List.mem_of_getElem? (i := 23) (by decide +kernel))) rfl
theorem mw_3_24 : (.selects "SealedStores$Lockers" yX2_takeFromAny yX2_takeFromAny : Cond) ∈ xtb := tb_in (tb3 (List.mem_of_getElem? (i := 24) (by decide +kernel))) rfl
theorem mw_3_25 : (.code yX2_takeFromAny cX2_takeFromAny 4 none : Cond) ∈ xtb := tb_in (tb3 (List.mem_of_getElem? (i := 25) rfl)) rfl
theorem mw_3_26 : (.methodLink "SealedStores$Lockers" 38 yX2_takeLowestFirst : Cond) ∈ xtb := tb_in (tb3 (List.mem_of_getElem? (i := 26) (by decide +kernel))) rfl
theorem mw_3_28 : (.instanceMethod yX2_takeLowestFirst : Cond) ∈ xtb := tb_in (tb3 (List.mem_of_getElem? (i := 28) (by decide +kernel))) rfl
theorem mw_3_29 : (.code yX2_takeLowestFirst cX2_takeLowestFirst 8 (some .int) : Cond) ∈ xtb := tb_in (tb3 (List.mem_of_getElem? (i := 29) rfl)) rfl
theorem mw_3_30 : (.methodLink "SealedStores$Lockers" 42 Lib.Math.min.name : Cond) ∈ xtb := tb_in (tb3 (List.mem_of_getElem? (i := 30) (by decide +kernel))) rfl
theorem mw_3_31 : (.methodLink "SealedStoresLaw" 82 yX7_set : Cond) ∈ xtb := tb_in (tb3 (List.mem_of_getElem? (i := 31) (by decide +kernel))) rfl
theorem mw_3_32 : (.instanceMethod yX7_set : Cond) ∈ xtb := tb_in (tb3 (List.mem_of_getElem? (i := 32) (by decide +kernel))) rfl
theorem mw_3_33 : (.selects "SealedStores" yX7_set yX7_set : Cond) ∈ xtb := tb_in (tb3 (List.mem_of_getElem? (i := 33) (by decide +kernel))) rfl
theorem mw_3_34 : (.code yX7_set cX7_set 3 (some .int) : Cond) ∈ xtb := tb_in (tb3 (List.mem_of_getElem? (i := 34) rfl)) rfl
theorem mw_3_35 : (.methodLink "SealedStores" 161 yX6_changeSetting : Cond) ∈ xtb := tb_in (tb3 (List.mem_of_getElem? (i := 35) (by decide +kernel))) rfl
theorem mw_3_36 : (.instanceMethod yX6_changeSetting : Cond) ∈ xtb := tb_in (tb3 (List.mem_of_getElem? (i := 36) (by decide +kernel))) rfl
theorem mw_3_37 : (.selects "SealedStores$Ship" yX6_changeSetting yX6_changeSetting : Cond) ∈ xtb := tb_in (tb3 (List.mem_of_getElem? (i := 37) (by decide +kernel))) rfl
theorem mw_3_38 : (.code yX6_changeSetting cX6_changeSetting 6 (some .int) : Cond) ∈ xtb := tb_in (tb3 (List.mem_of_getElem? (i := 38) rfl)) rfl
theorem mw_3_39 : (.constant "SealedStores$Ship" 160 (100000) : Cond) ∈ xtb := tb_in (tb3 (List.mem_of_getElem? (i := 39) (by decide +kernel))) rfl
theorem mw_3_40 : (.methodLink "SealedStoresLaw" 86 yX7_account : Cond) ∈ xtb := tb_in (tb3 (List.mem_of_getElem? (i := 40) (by decide +kernel))) rfl
theorem mw_3_41 : (.instanceMethod yX7_account : Cond) ∈ xtb := tb_in (tb3 (List.mem_of_getElem? (i := 41) (by decide +kernel))) rfl
theorem mw_3_42 : (.selects "SealedStores" yX7_account yX7_account : Cond) ∈ xtb := tb_in (tb3 (List.mem_of_getElem? (i := 42) (by decide +kernel))) rfl
theorem mw_3_43 : (.code yX7_account cX7_account 4 (some .int) : Cond) ∈ xtb := tb_in (tb3 (List.mem_of_getElem? (i := 43) rfl)) rfl
theorem mw_3_44 : (.methodLink "SealedStores" 164 yX0_loaded : Cond) ∈ xtb := tb_in (tb3 (List.mem_of_getElem? (i := 44) (by decide +kernel))) rfl
theorem mw_3_45 : (.instanceMethod yX0_loaded : Cond) ∈ xtb := tb_in (tb3 (List.mem_of_getElem? (i := 45) (by decide +kernel))) rfl
theorem mw_3_46 : (.selects "SealedStores$Bonds" yX0_loaded yX0_loaded : Cond) ∈ xtb := tb_in (tb3 (List.mem_of_getElem? (i := 46) (by decide +kernel))) rfl
theorem mw_3_47 : (.code yX0_loaded cX0_loaded 4 (some .int) : Cond) ∈ xtb := tb_in (tb3 (List.mem_of_getElem? (i := 47) rfl)) rfl
theorem mw_3_48 : (.methodLink "SealedStores" 167 yX2_sumOfGood : Cond) ∈ xtb := tb_in (tb3 (List.mem_of_getElem? (i := 48) (by decide +kernel))) rfl
theorem mw_3_49 : (.instanceMethod yX2_sumOfGood : Cond) ∈ xtb := tb_in (tb3 (List.mem_of_getElem? (i := 49) (by decide +kernel))) rfl
theorem mw_3_50 : (.selects "SealedStores$Lockers" yX2_sumOfGood yX2_sumOfGood : Cond) ∈ xtb := tb_in (tb3 (List.mem_of_getElem? (i := 50) (by decide +kernel))) rfl
theorem mw_3_51 : (.code yX2_sumOfGood cX2_sumOfGood 5 (some .int) : Cond) ∈ xtb := tb_in (tb3 (List.mem_of_getElem? (i := 51) rfl)) rfl
theorem mw_3_52 : (.methodLink "SealedStores" 177 yX4_place : Cond) ∈ xtb := tb_in (tb3 (List.mem_of_getElem? (i := 52) (by decide +kernel))) rfl
theorem mw_3_53 : (.methodLink "SealedStoresLaw" 90 yX7_cents : Cond) ∈ xtb := tb_in (tb3 (List.mem_of_getElem? (i := 53) (by decide +kernel))) rfl
theorem mw_3_54 : (.instanceMethod yX7_cents : Cond) ∈ xtb := tb_in (tb3 (List.mem_of_getElem? (i := 54) (by decide +kernel))) rfl
theorem mw_3_55 : (.selects "SealedStores" yX7_cents yX7_cents : Cond) ∈ xtb := tb_in (tb3 (List.mem_of_getElem? (i := 55) (by decide +kernel))) rfl
theorem mw_3_56 : (.code yX7_cents cX7_cents 2 (some .int) : Cond) ∈ xtb := tb_in (tb3 (List.mem_of_getElem? (i := 56) rfl)) rfl
theorem mw_3_57 : (.methodLink "SealedStores" 182 yX0_heldByAll : Cond) ∈ xtb := tb_in (tb3 (List.mem_of_getElem? (i := 57) (by decide +kernel))) rfl
theorem mw_3_58 : (.instanceMethod yX0_heldByAll : Cond) ∈ xtb := tb_in (tb3 (List.mem_of_getElem? (i := 58) (by decide +kernel))) rfl
theorem mw_3_59 : (.selects "SealedStores$Bonds" yX0_heldByAll yX0_heldByAll : Cond) ∈ xtb := tb_in (tb3 (List.mem_of_getElem? (i := 59) (by decide +kernel))) rfl
theorem mw_3_60 : (.code yX0_heldByAll cX0_heldByAll 4 (some .long) : Cond) ∈ xtb := tb_in (tb3 (List.mem_of_getElem? (i := 60) rfl)) rfl
theorem mw_3_61 : (.methodLink "SealedStores$Bonds" 41 yX0_held : Cond) ∈ xtb := tb_in (tb3 (List.mem_of_getElem? (i := 61) (by decide +kernel))) rfl
theorem mw_3_62 : (.methodLink "SealedStores" 189 yX7_centsOrLimit : Cond) ∈ xtb := tb_in (tb3 (List.mem_of_getElem? (i := 62) (by decide +kernel))) rfl
theorem mw_3_63 : (.static yX7_centsOrLimit : Cond) ∈ xtb := tb_in (tb3 (List.mem_of_getElem? (i := 63) (by decide +kernel))) rfl
theorem mw_3_64 : (.code yX7_centsOrLimit cX7_centsOrLimit 2 (some .int) : Cond) ∈ xtb := tb_in (tb3 (List.mem_of_getElem? (i := 64) rfl)) rfl
theorem mw_3_65 : (.constantLong "SealedStores" 259 (2147483647) : Cond) ∈ xtb := tb_in (tb3 (List.mem_of_getElem? (i := 65) (by decide +kernel))) rfl
theorem mw_3_66 : (.methodLink "SealedStoresLaw" 94 yX7_count : Cond) ∈ xtb := tb_in (tb3 (List.mem_of_getElem? (i := 66) (by decide +kernel))) rfl
theorem mw_3_67 : (.instanceMethod yX7_count : Cond) ∈ xtb := tb_in (tb3 (List.mem_of_getElem? (i := 67) (by decide +kernel))) rfl
theorem mw_3_68 : (.selects "SealedStores" yX7_count yX7_count : Cond) ∈ xtb := tb_in (tb3 (List.mem_of_getElem? (i := 68) (by decide +kernel))) rfl
theorem mw_3_69 : (.code yX7_count cX7_count 2 (some .int) : Cond) ∈ xtb := tb_in (tb3 (List.mem_of_getElem? (i := 69) rfl)) rfl
theorem mw_3_70 : (.methodLink "SealedStores" 201 yX0_withUnits : Cond) ∈ xtb := tb_in (tb3 (List.mem_of_getElem? (i := 70) (by decide +kernel))) rfl
theorem mw_3_71 : (.instanceMethod yX0_withUnits : Cond) ∈ xtb := tb_in (tb3 (List.mem_of_getElem? (i := 71) (by decide +kernel))) rfl
theorem mw_3_72 : (.selects "SealedStores$Bonds" yX0_withUnits yX0_withUnits : Cond) ∈ xtb := tb_in (tb3 (List.mem_of_getElem? (i := 72) (by decide +kernel))) rfl
theorem mw_3_73 : (.code yX0_withUnits cX0_withUnits 3 (some .int) : Cond) ∈ xtb := tb_in (tb3 (List.mem_of_getElem? (i := 73) rfl)) rfl
theorem mw_3_74 : (.methodLink "SealedStores" 209 yX2_inState : Cond) ∈ xtb := tb_in (tb3 (List.mem_of_getElem? (i := 74) (by decide +kernel))) rfl
theorem mw_3_75 : (.methodLink "SealedStoresLaw" 98 yX7_undo : Cond) ∈ xtb := tb_in (tb3 (List.mem_of_getElem? (i := 75) (by decide +kernel))) rfl
theorem mw_3_76 : (.instanceMethod yX7_undo : Cond) ∈ xtb := tb_in (tb3 (List.mem_of_getElem? (i := 76) (by decide +kernel))) rfl
theorem mw_3_77 : (.selects "SealedStores" yX7_undo yX7_undo : Cond) ∈ xtb := tb_in (tb3 (List.mem_of_getElem? (i := 77) (by decide +kernel))) rfl
theorem mw_3_78 : (.code yX7_undo cX7_undo 1 (some .int) : Cond) ∈ xtb := tb_in (tb3 (List.mem_of_getElem? (i := 78) rfl)) rfl
theorem mw_3_79 : (.methodLink "SealedStores" 219 yX1_restore : Cond) ∈ xtb := tb_in (tb3 (List.mem_of_getElem? (i := 79) (by decide +kernel))) rfl
theorem mw_3_80 : (.instanceMethod yX1_restore : Cond) ∈ xtb := tb_in (tb3 (List.mem_of_getElem? (i := 80) (by decide +kernel))) rfl
theorem mw_3_81 : (.selects "SealedStores$History" yX1_restore yX1_restore : Cond) ∈ xtb := tb_in (tb3 (List.mem_of_getElem? (i := 81) (by decide +kernel))) rfl
theorem mw_3_82 : (.code yX1_restore cX1_restore 2 (some .int) : Cond) ∈ xtb := tb_in (tb3 (List.mem_of_getElem? (i := 82) rfl)) rfl
theorem mw_3_83 : (.methodLink "SealedStoresLaw" 102 yX7_worth : Cond) ∈ xtb := tb_in (tb3 (List.mem_of_getElem? (i := 83) (by decide +kernel))) rfl
theorem mw_3_84 : (.instanceMethod yX7_worth : Cond) ∈ xtb := tb_in (tb3 (List.mem_of_getElem? (i := 84) (by decide +kernel))) rfl
theorem mw_3_85 : (.selects "SealedStores" yX7_worth yX7_worth : Cond) ∈ xtb := tb_in (tb3 (List.mem_of_getElem? (i := 85) (by decide +kernel))) rfl
theorem mw_3_86 : (.code yX7_worth cX7_worth 3 (some .int) : Cond) ∈ xtb := tb_in (tb3 (List.mem_of_getElem? (i := 86) rfl)) rfl
theorem mw_3_87 : (.constant "SealedStores" 223 (99999) : Cond) ∈ xtb := tb_in (tb3 (List.mem_of_getElem? (i := 87) (by decide +kernel))) rfl
theorem mw_3_88 : (.methodLink "SealedStores" 224 yX0_leftOf : Cond) ∈ xtb := tb_in (tb3 (List.mem_of_getElem? (i := 88) (by decide +kernel))) rfl
theorem mw_3_89 : (.instanceMethod yX0_leftOf : Cond) ∈ xtb := tb_in (tb3 (List.mem_of_getElem? (i := 89) (by decide +kernel))) rfl
theorem mw_3_90 : (.selects "SealedStores$Bonds" yX0_leftOf yX0_leftOf : Cond) ∈ xtb := tb_in (tb3 (List.mem_of_getElem? (i := 90) (by decide +kernel))) rfl
theorem mw_3_91 : (.code yX0_leftOf cX0_leftOf 4 (some .int) : Cond) ∈ xtb := tb_in (tb3 (List.mem_of_getElem? (i := 91) rfl)) rfl
theorem mw_3_92 : (.methodLink "SealedStores" 227 yX0_amountOf : Cond) ∈ xtb := tb_in (tb3 (List.mem_of_getElem? (i := 92) (by decide +kernel))) rfl
theorem mw_3_93 : (.methodLink "SealedStoresLaw" 106 yX7_toPay : Cond) ∈ xtb := tb_in (tb3 (List.mem_of_getElem? (i := 93) (by decide +kernel))) rfl
theorem mw_3_94 : (.instanceMethod yX7_toPay : Cond) ∈ xtb := tb_in (tb3 (List.mem_of_getElem? (i := 94) (by decide +kernel))) rfl
theorem mw_3_95 : (.selects "SealedStores" yX7_toPay yX7_toPay : Cond) ∈ xtb := tb_in (tb3 (List.mem_of_getElem? (i := 95) (by decide +kernel))) rfl
theorem mw_3_96 : (.code yX7_toPay cX7_toPay 1 (some .int) : Cond) ∈ xtb := tb_in (tb3 (List.mem_of_getElem? (i := 96) rfl)) rfl
theorem mw_3_97 : (.methodLink "SealedStores" 231 yX6_toPayForAll : Cond) ∈ xtb := tb_in (tb3 (List.mem_of_getElem? (i := 97) (by decide +kernel))) rfl
theorem mw_3_98 : (.instanceMethod yX6_toPayForAll : Cond) ∈ xtb := tb_in (tb3 (List.mem_of_getElem? (i := 98) (by decide +kernel))) rfl
theorem mw_3_99 : (.selects "SealedStores$Ship" yX6_toPayForAll yX6_toPayForAll : Cond) ∈ xtb := tb_in (tb3 (List.mem_of_getElem? (i := 99) (by decide +kernel))) rfl
theorem mw_3_100 : (.code yX6_toPayForAll cX6_toPayForAll 4 (some .long) : Cond) ∈ xtb := tb_in (tb3 (List.mem_of_getElem? (i := 100) rfl)) rfl
theorem mw_3_101 : (.methodLink "SealedStores$Ship" 161 yX2_sumOfGood : Cond) ∈ xtb := tb_in (tb3 (List.mem_of_getElem? (i := 101) (by decide +kernel))) rfl
theorem mw_3_102 : (.methodLink "SealedStoresLaw" 110 yX7_runsOut : Cond) ∈ xtb := tb_in (tb3 (List.mem_of_getElem? (i := 102) (by decide +kernel))) rfl
theorem mw_3_103 : (.instanceMethod yX7_runsOut : Cond) ∈ xtb := tb_in (tb3 (List.mem_of_getElem? (i := 103) (by decide +kernel))) rfl
theorem mw_3_104 : (.selects "SealedStores" yX7_runsOut yX7_runsOut : Cond) ∈ xtb := tb_in (tb3 (List.mem_of_getElem? (i := 104) (by decide +kernel))) rfl
theorem mw_3_105 : (.code yX7_runsOut cX7_runsOut 2 (some .int) : Cond) ∈ xtb := tb_in (tb3 (List.mem_of_getElem? (i := 105) rfl)) rfl
theorem mw_3_106 : (.methodLink "SealedStoresLaw" 114 yX7_type : Cond) ∈ xtb := tb_in (tb3 (List.mem_of_getElem? (i := 106) (by decide +kernel))) rfl
theorem mw_3_107 : (.instanceMethod yX7_type : Cond) ∈ xtb := tb_in (tb3 (List.mem_of_getElem? (i := 107) (by decide +kernel))) rfl
theorem mw_3_108 : (.selects "SealedStores" yX7_type yX7_type : Cond) ∈ xtb := tb_in (tb3 (List.mem_of_getElem? (i := 108) (by decide +kernel))) rfl
theorem mw_3_109 : (.code yX7_type cX7_type 2 (some .int) : Cond) ∈ xtb := tb_in (tb3 (List.mem_of_getElem? (i := 109) rfl)) rfl
theorem mw_3_110 : (.methodLink "SealedStores" 234 yX3_append : Cond) ∈ xtb := tb_in (tb3 (List.mem_of_getElem? (i := 110) (by decide +kernel))) rfl
theorem mw_3_111 : (.instanceMethod yX3_append : Cond) ∈ xtb := tb_in (tb3 (List.mem_of_getElem? (i := 111) (by decide +kernel))) rfl
theorem mw_3_112 : (.selects "SealedStores$OrderLog" yX3_append yX3_append : Cond) ∈ xtb := tb_in (tb3 (List.mem_of_getElem? (i := 112) (by decide +kernel))) rfl
theorem mw_3_113 : (.code yX3_append cX3_append 2 (some .int) : Cond) ∈ xtb := tb_in (tb3 (List.mem_of_getElem? (i := 113) rfl)) rfl
theorem mw_3_114 : (.methodLink "SealedStoresLaw" 118 yX7_clearText : Cond) ∈ xtb := tb_in (tb3 (List.mem_of_getElem? (i := 114) (by decide +kernel))) rfl
theorem mw_3_115 : (.instanceMethod yX7_clearText : Cond) ∈ xtb := tb_in (tb3 (List.mem_of_getElem? (i := 115) (by decide +kernel))) rfl
theorem mw_3_116 : (.selects "SealedStores" yX7_clearText yX7_clearText : Cond) ∈ xtb := tb_in (tb3 (List.mem_of_getElem? (i := 116) (by decide +kernel))) rfl
theorem mw_3_117 : (.code yX7_clearText cX7_clearText 1 (some .int) : Cond) ∈ xtb := tb_in (tb3 (List.mem_of_getElem? (i := 117) rfl)) rfl
theorem mw_3_118 : (.methodLink "SealedStores" 237 yX3_empty : Cond) ∈ xtb := tb_in (tb3 (List.mem_of_getElem? (i := 118) (by decide +kernel))) rfl
theorem mw_3_119 : (.instanceMethod yX3_empty : Cond) ∈ xtb := tb_in (tb3 (List.mem_of_getElem? (i := 119) (by decide +kernel))) rfl
theorem mw_3_120 : (.selects "SealedStores$OrderLog" yX3_empty yX3_empty : Cond) ∈ xtb := tb_in (tb3 (List.mem_of_getElem? (i := 120) (by decide +kernel))) rfl
theorem mw_3_121 : (.code yX3_empty cX3_empty 2 (some .int) : Cond) ∈ xtb := tb_in (tb3 (List.mem_of_getElem? (i := 121) rfl)) rfl
theorem mw_3_122 : (.methodLink "SealedStoresLaw" 122 yX7_fault : Cond) ∈ xtb := tb_in (tb3 (List.mem_of_getElem? (i := 122) (by decide +kernel))) rfl
theorem mw_3_123 : (.instanceMethod yX7_fault : Cond) ∈ xtb := tb_in (tb3 (List.mem_of_getElem? (i := 123) (by decide +kernel))) rfl
theorem mw_3_124 : (.selects "SealedStores" yX7_fault yX7_fault : Cond) ∈ xtb := tb_in (tb3 (List.mem_of_getElem? (i := 124) (by decide +kernel))) rfl
theorem mw_3_125 : (.code yX7_fault cX7_fault 2 (some .int) : Cond) ∈ xtb := tb_in (tb3 (List.mem_of_getElem? (i := 125) rfl)) rfl
theorem mw_3_126 : (.methodLink "SealedStores" 240 yX3_tryOn : Cond) ∈ xtb := tb_in (tb3 (List.mem_of_getElem? (i := 126) (by decide +kernel))) rfl
theorem mw_3_127 : (.instanceMethod yX3_tryOn : Cond) ∈ xtb := tb_in (tb3 (List.mem_of_getElem? (i := 127) (by decide +kernel))) rfl
theorem mw_3_128 : (.selects "SealedStores$OrderLog" yX3_tryOn yX3_tryOn : Cond) ∈ xtb := tb_in (tb3 (List.mem_of_getElem? (i := 128) (by decide +kernel))) rfl
theorem mw_3_129 : (.code yX3_tryOn cX3_tryOn 6 none : Cond) ∈ xtb := tb_in (tb3 (List.mem_of_getElem? (i := 129) rfl)) rfl
theorem mw_3_130 : (.methodLink "SealedStores$OrderLog" 23 yX6_become : Cond) ∈ xtb := tb_in (tb3 (List.mem_of_getElem? (i := 130) (by decide +kernel))) rfl
theorem mw_3_131 : (.methodLink "SealedStores$OrderLog" 38 yX3_readOrder : Cond) ∈ xtb := tb_in (tb3 (List.mem_of_getElem? (i := 131) (by decide +kernel))) rfl
theorem mw_3_133 : (.instanceMethod yX3_readOrder : Cond) ∈ xtb := tb_in (tb3 (List.mem_of_getElem? (i := 133) (by decide +kernel))) rfl
theorem mw_3_134 : (.code yX3_readOrder cX3_readOrder 3 (some .boolean) : Cond) ∈ xtb := tb_in (tb3 (List.mem_of_getElem? (i := 134) rfl)) rfl
theorem mw_3_135 : (.methodLink "SealedStores$OrderLog" 60 yX3_numbersOf : Cond) ∈ xtb := tb_in (tb3 (List.mem_of_getElem? (i := 135) (by decide +kernel))) rfl
theorem mw_3_136 : (.static yX3_numbersOf : Cond) ∈ xtb := tb_in (tb3 (List.mem_of_getElem? (i := 136) (by decide +kernel))) rfl
theorem mw_3_137 : (.code yX3_numbersOf cX3_numbersOf 1 (some .int) : Cond) ∈ xtb := tb_in (tb3 (List.mem_of_getElem? (i := 137) rfl)) rfl
theorem mw_3_138 : (.methodLink "SealedStores$OrderLog" 64 yX3_readSign : Cond) ∈ xtb := tb_in (tb3 (List.mem_of_getElem? (i := 138) (by decide +kernel))) rfl
theorem mw_3_140 : (.instanceMethod yX3_readSign : Cond) ∈ xtb := tb_in (tb3 (List.mem_of_getElem? (i := 140) (by decide +kernel))) rfl
theorem mw_3_141 : (.code yX3_readSign cX3_readSign 2 (some .boolean) : Cond) ∈ xtb := tb_in (tb3 (List.mem_of_getElem? (i := 141) rfl)) rfl
theorem mw_3_142 : (.methodLink "SealedStores$OrderLog" 68 yX3_readNumber : Cond) ∈ xtb := tb_in (tb3 (List.mem_of_getElem? (i := 142) (by decide +kernel))) rfl
theorem mw_3_144 : (.instanceMethod yX3_readNumber : Cond) ∈ xtb := tb_in (tb3 (List.mem_of_getElem? (i := 144) (by decide +kernel))) rfl
theorem mw_3_145 : (.code yX3_readNumber cX3_readNumber 4 (some .boolean) : Cond) ∈ xtb := tb_in (tb3 (List.mem_of_getElem? (i := 145) rfl)) rfl
theorem mw_3_146 : (.methodLink "SealedStores$OrderLog" 42 yX3_noteFault : Cond) ∈ xtb := tb_in (tb3 (List.mem_of_getElem? (i := 146) (by decide +kernel))) rfl
theorem mw_3_148 : (.instanceMethod yX3_noteFault : Cond) ∈ xtb := tb_in (tb3 (List.mem_of_getElem? (i := 148) (by decide +kernel))) rfl
theorem mw_3_149 : (.code yX3_noteFault cX3_noteFault 4 none : Cond) ∈ xtb := tb_in (tb3 (List.mem_of_getElem? (i := 149) rfl)) rfl
theorem mw_3_150 : (.methodLink "SealedStores$OrderLog" 46 yX3_doOrder : Cond) ∈ xtb := tb_in (tb3 (List.mem_of_getElem? (i := 150) (by decide +kernel))) rfl
theorem mw_3_152 : (.instanceMethod yX3_doOrder : Cond) ∈ xtb := tb_in (tb3 (List.mem_of_getElem? (i := 152) (by decide +kernel))) rfl
theorem mw_3_153 : (.code yX3_doOrder cX3_doOrder 2 (some .int) : Cond) ∈ xtb := tb_in (tb3 (List.mem_of_getElem? (i := 153) rfl)) rfl
theorem mw_3_154 : (.methodLink "SealedStores$OrderLog" 72 yX6_crossTo : Cond) ∈ xtb := tb_in (tb3 (List.mem_of_getElem? (i := 154) (by decide +kernel))) rfl
theorem mw_3_155 : (.methodLink "SealedStores$OrderLog" 76 yX6_useUnits : Cond) ∈ xtb := tb_in (tb3 (List.mem_of_getElem? (i := 155) (by decide +kernel))) rfl
theorem mw_3_156 : (.methodLink "SealedStores$OrderLog" 80 yX6_returnUnits : Cond) ∈ xtb := tb_in (tb3 (List.mem_of_getElem? (i := 156) (by decide +kernel))) rfl
theorem mw_3_157 : (.methodLink "SealedStores$OrderLog" 83 yX6_breakUnits : Cond) ∈ xtb := tb_in (tb3 (List.mem_of_getElem? (i := 157) (by decide +kernel))) rfl
theorem mw_3_158 : (.methodLink "SealedStores$OrderLog" 87 yX6_tearSeal : Cond) ∈ xtb := tb_in (tb3 (List.mem_of_getElem? (i := 158) (by decide +kernel))) rfl
theorem mw_3_159 : (.methodLink "SealedStores$OrderLog" 90 yX6_countLocker : Cond) ∈ xtb := tb_in (tb3 (List.mem_of_getElem? (i := 159) (by decide +kernel))) rfl
theorem mw_3_160 : (.methodLink "SealedStores$OrderLog" 93 yX6_passDays : Cond) ∈ xtb := tb_in (tb3 (List.mem_of_getElem? (i := 160) (by decide +kernel))) rfl
theorem mw_3_161 : (.methodLink "SealedStoresLaw" 126 yX7_play : Cond) ∈ xtb := tb_in (tb3 (List.mem_of_getElem? (i := 161) (by decide +kernel))) rfl
theorem mw_3_162 : (.instanceMethod yX7_play : Cond) ∈ xtb := tb_in (tb3 (List.mem_of_getElem? (i := 162) (by decide +kernel))) rfl
theorem mw_3_163 : (.selects "SealedStores" yX7_play yX7_play : Cond) ∈ xtb := tb_in (tb3 (List.mem_of_getElem? (i := 163) (by decide +kernel))) rfl
theorem mw_3_164 : (.code yX7_play cX7_play 1 (some .int) : Cond) ∈ xtb := tb_in (tb3 (List.mem_of_getElem? (i := 164) rfl)) rfl
theorem mw_3_165 : (.methodLink "SealedStores" 253 yX6_become : Cond) ∈ xtb := tb_in (tb3 (List.mem_of_getElem? (i := 165) (by decide +kernel))) rfl
theorem mw_3_166 : (.classLink "SealedStoresLaw" 10 "SealedStoresModel" : Cond) ∈ xtb := tb_in (tb3 (List.mem_of_getElem? (i := 166) (by decide +kernel))) rfl
theorem mw_3_167 : (.instantiable "SealedStoresModel" 13 : Cond) ∈ xtb := tb_in (tb3 (List.mem_of_getElem? (i := 167) (by decide +kernel))) rfl
theorem mw_3_168 : (.methodLink "SealedStoresLaw" 12 yX8_init : Cond) ∈ xtb := tb_in (tb3 (List.mem_of_getElem? (i := 168) (by decide +kernel))) rfl
theorem mw_3_169 : (.instanceMethod yX8_init : Cond) ∈ xtb := tb_in (tb3 (List.mem_of_getElem? (i := 169) (by decide +kernel))) rfl
theorem mw_3_170 : (.code yX8_init cX8_init 1 none : Cond) ∈ xtb := tb_in (tb3 (List.mem_of_getElem? (i := 170) rfl)) rfl
theorem mw_3_171 : (.methodLink "SealedStoresModel" 1 objectInit : Cond) ∈ xtb := tb_in (tb3 (List.mem_of_getElem? (i := 171) (by decide +kernel))) rfl
theorem mw_3_172 : (.fieldLink "SealedStoresModel" 7 "SealedStoresModel" "now" "[I" : Cond) ∈ xtb := tb_in (tb3 (List.mem_of_getElem? (i := 172) (by decide +kernel))) rfl
theorem mw_3_173 : (.fieldLink "SealedStoresModel" 13 "SealedStoresModel" "before" "[I" : Cond) ∈ xtb := tb_in (tb3 (List.mem_of_getElem? (i := 173) (by decide +kernel))) rfl
theorem mw_3_174 : (.fieldLink "SealedStoresModel" 16 "SealedStoresModel" "states" "[I" : Cond) ∈ xtb := tb_in (tb3 (List.mem_of_getElem? (i := 174) (by decide +kernel))) rfl
theorem mw_3_175 : (.fieldLink "SealedStoresModel" 19 "SealedStoresModel" "text" "[I" : Cond) ∈ xtb := tb_in (tb3 (List.mem_of_getElem? (i := 175) (by decide +kernel))) rfl
theorem mw_3_176 : (.fieldLink "SealedStoresModel" 30 "SealedStoresModel" "stateMany" "I" : Cond) ∈ xtb := tb_in (tb3 (List.mem_of_getElem? (i := 176) (by decide +kernel))) rfl
theorem mw_3_177 : (.fieldLink "SealedStoresModel" 26 "SealedStoresModel" "stateAt" "I" : Cond) ∈ xtb := tb_in (tb3 (List.mem_of_getElem? (i := 177) (by decide +kernel))) rfl
theorem mw_3_178 : (.fieldLink "SealedStoresModel" 133 "SealedStoresModel" "letters" "I" : Cond) ∈ xtb := tb_in (tb3 (List.mem_of_getElem? (i := 178) (by decide +kernel))) rfl
theorem mw_3_179 : (.fieldLink "SealedStoresModel" 136 "SealedStoresModel" "readAt" "I" : Cond) ∈ xtb := tb_in (tb3 (List.mem_of_getElem? (i := 179) (by decide +kernel))) rfl
theorem mw_3_180 : (.fieldLink "SealedStoresModel" 139 "SealedStoresModel" "isForm" "Z" : Cond) ∈ xtb := tb_in (tb3 (List.mem_of_getElem? (i := 180) (by decide +kernel))) rfl
theorem mw_3_181 : (.fieldLink "SealedStoresModel" 158 "SealedStoresModel" "faultAt" "I" : Cond) ∈ xtb := tb_in (tb3 (List.mem_of_getElem? (i := 181) (by decide +kernel))) rfl
theorem mw_3_182 : (.fieldLink "SealedStoresModel" 155 "SealedStoresModel" "faultReason" "I" : Cond) ∈ xtb := tb_in (tb3 (List.mem_of_getElem? (i := 182) (by decide +kernel))) rfl
theorem mw_3_183 : (.fieldLink "SealedStoresModel" 164 "SealedStoresModel" "faultCause" "I" : Cond) ∈ xtb := tb_in (tb3 (List.mem_of_getElem? (i := 183) (by decide +kernel))) rfl
theorem mw_3_184 : (.fieldLink "SealedStoresModel" 152 "SealedStoresModel" "orders" "I" : Cond) ∈ xtb := tb_in (tb3 (List.mem_of_getElem? (i := 184) (by decide +kernel))) rfl
theorem mw_3_212 : (.methodLink "SealedStoresLaw" 101 yX8_undo : Cond) ∈ xtb := tb_in (tb3 (List.mem_of_getElem? (i := 212) (by decide +kernel))) rfl
theorem mw_3_213 : (.instanceMethod yX8_undo : Cond) ∈ xtb := tb_in (tb3 (List.mem_of_getElem? (i := 213) (by decide +kernel))) rfl
theorem mw_3_214 : (.selects "SealedStoresModel" yX8_undo yX8_undo : Cond) ∈ xtb := tb_in (tb3 (List.mem_of_getElem? (i := 214) (by decide +kernel))) rfl
theorem mw_3_215 : (.code yX8_undo cX8_undo 2 (some .int) : Cond) ∈ xtb := tb_in (tb3 (List.mem_of_getElem? (i := 215) rfl)) rfl
theorem mw_3_216 : (.methodLink "SealedStoresLaw" 17 yX8_locker : Cond) ∈ xtb := tb_in (tb3 (List.mem_of_getElem? (i := 216) (by decide +kernel))) rfl
theorem mw_3_217 : (.instanceMethod yX8_locker : Cond) ∈ xtb := tb_in (tb3 (List.mem_of_getElem? (i := 217) (by decide +kernel))) rfl
theorem mw_3_218 : (.selects "SealedStoresModel" yX8_locker yX8_locker : Cond) ∈ xtb := tb_in (tb3 (List.mem_of_getElem? (i := 218) (by decide +kernel))) rfl
theorem mw_3_219 : (.code yX8_locker cX8_locker 1 (some .int) : Cond) ∈ xtb := tb_in (tb3 (List.mem_of_getElem? (i := 219) rfl)) rfl
theorem mw_3_220 : (.methodLink "SealedStoresModel" 54 yX8_copy : Cond) ∈ xtb := tb_in (tb3 (List.mem_of_getElem? (i := 220) (by decide +kernel))) rfl
theorem mw_3_222 : (.instanceMethod yX8_copy : Cond) ∈ xtb := tb_in (tb3 (List.mem_of_getElem? (i := 222) (by decide +kernel))) rfl
theorem mw_3_223 : (.code yX8_copy cX8_copy 2 none : Cond) ∈ xtb := tb_in (tb3 (List.mem_of_getElem? (i := 223) rfl)) rfl
theorem mw_3_224 : (.methodLink "SealedStoresModel" 57 yX8_addsLocker : Cond) ∈ xtb := tb_in (tb3 (List.mem_of_getElem? (i := 224) (by decide +kernel))) rfl
theorem mw_3_226 : (.instanceMethod yX8_addsLocker : Cond) ∈ xtb := tb_in (tb3 (List.mem_of_getElem? (i := 226) (by decide +kernel))) rfl
theorem mw_3_227 : (.code yX8_addsLocker cX8_addsLocker 1 (some .int) : Cond) ∈ xtb := tb_in (tb3 (List.mem_of_getElem? (i := 227) rfl)) rfl
theorem mw_3_228 : (.methodLink "SealedStoresModel" 46 yX8_hasSeals : Cond) ∈ xtb := tb_in (tb3 (List.mem_of_getElem? (i := 228) (by decide +kernel))) rfl
theorem mw_3_230 : (.instanceMethod yX8_hasSeals : Cond) ∈ xtb := tb_in (tb3 (List.mem_of_getElem? (i := 230) (by decide +kernel))) rfl
theorem mw_3_231 : (.code yX8_hasSeals cX8_hasSeals 2 (some .boolean) : Cond) ∈ xtb := tb_in (tb3 (List.mem_of_getElem? (i := 231) rfl)) rfl
theorem mw_3_232 : (.methodLink "SealedStoresModel" 50 yX8_seals : Cond) ∈ xtb := tb_in (tb3 (List.mem_of_getElem? (i := 232) (by decide +kernel))) rfl
theorem mw_3_234 : (.instanceMethod yX8_seals : Cond) ∈ xtb := tb_in (tb3 (List.mem_of_getElem? (i := 234) (by decide +kernel))) rfl
theorem mw_3_235 : (.code yX8_seals cX8_seals 3 none : Cond) ∈ xtb := tb_in (tb3 (List.mem_of_getElem? (i := 235) rfl)) rfl
theorem mw_3_236 : (.methodLink "SealedStoresModel" 61 yX8_recorded : Cond) ∈ xtb := tb_in (tb3 (List.mem_of_getElem? (i := 236) (by decide +kernel))) rfl
theorem mw_3_238 : (.instanceMethod yX8_recorded : Cond) ∈ xtb := tb_in (tb3 (List.mem_of_getElem? (i := 238) (by decide +kernel))) rfl
theorem mw_3_239 : (.code yX8_recorded cX8_recorded 3 (some .int) : Cond) ∈ xtb := tb_in (tb3 (List.mem_of_getElem? (i := 239) rfl)) rfl
theorem mw_4_0 : (.methodLink "SealedStoresLaw" 22 yX8_good : Cond) ∈ xtb := tb_in (tb4 (List.mem_of_getElem? (i := 0) (by decide +kernel))) rfl
theorem mw_4_1 : (.instanceMethod yX8_good : Cond) ∈ xtb := tb_in (tb4 (List.mem_of_getElem? (i := 1) (by decide +kernel))) rfl
theorem mw_4_2 : (.selects "SealedStoresModel" yX8_good yX8_good : Cond) ∈ xtb := tb_in (tb4 (List.mem_of_getElem? (i := 2) (by decide +kernel))) rfl
theorem mw_4_3 : (.code yX8_good cX8_good 2 (some .int) : Cond) ∈ xtb := tb_in (tb4 (List.mem_of_getElem? (i := 3) rfl)) rfl
theorem mw_4_4 : (.methodLink "SealedStoresModel" 69 yX8_addsGood : Cond) ∈ xtb := tb_in (tb4 (List.mem_of_getElem? (i := 4) (by decide +kernel))) rfl
theorem mw_4_6 : (.instanceMethod yX8_addsGood : Cond) ∈ xtb := tb_in (tb4 (List.mem_of_getElem? (i := 6) (by decide +kernel))) rfl
theorem mw_4_7 : (.code yX8_addsGood cX8_addsGood 2 (some .int) : Cond) ∈ xtb := tb_in (tb4 (List.mem_of_getElem? (i := 7) rfl)) rfl
theorem mw_4_8 : (.methodLink "SealedStoresModel" 66 yX8_isDuty : Cond) ∈ xtb := tb_in (tb4 (List.mem_of_getElem? (i := 8) (by decide +kernel))) rfl
theorem mw_4_9 : (.static yX8_isDuty : Cond) ∈ xtb := tb_in (tb4 (List.mem_of_getElem? (i := 9) (by decide +kernel))) rfl
theorem mw_4_10 : (.code yX8_isDuty cX8_isDuty 1 (some .boolean) : Cond) ∈ xtb := tb_in (tb4 (List.mem_of_getElem? (i := 10) rfl)) rfl
theorem mw_4_11 : (.constant "SealedStoresModel" 65 (1000000) : Cond) ∈ xtb := tb_in (tb4 (List.mem_of_getElem? (i := 11) (by decide +kernel))) rfl
theorem mw_4_12 : (.methodLink "SealedStoresModel" 22 yX8_in : Cond) ∈ xtb := tb_in (tb4 (List.mem_of_getElem? (i := 12) (by decide +kernel))) rfl
theorem mw_4_13 : (.static yX8_in : Cond) ∈ xtb := tb_in (tb4 (List.mem_of_getElem? (i := 13) (by decide +kernel))) rfl
theorem mw_4_14 : (.code yX8_in cX8_in 3 (some .boolean) : Cond) ∈ xtb := tb_in (tb4 (List.mem_of_getElem? (i := 14) rfl)) rfl
theorem mw_4_15 : (.methodLink "SealedStoresLaw" 27 yX8_duty : Cond) ∈ xtb := tb_in (tb4 (List.mem_of_getElem? (i := 15) (by decide +kernel))) rfl
theorem mw_4_16 : (.instanceMethod yX8_duty : Cond) ∈ xtb := tb_in (tb4 (List.mem_of_getElem? (i := 16) (by decide +kernel))) rfl
theorem mw_4_17 : (.selects "SealedStoresModel" yX8_duty yX8_duty : Cond) ∈ xtb := tb_in (tb4 (List.mem_of_getElem? (i := 17) (by decide +kernel))) rfl
theorem mw_4_18 : (.code yX8_duty cX8_duty 4 (some .int) : Cond) ∈ xtb := tb_in (tb4 (List.mem_of_getElem? (i := 18) rfl)) rfl
theorem mw_4_19 : (.methodLink "SealedStoresModel" 72 yX8_isGood : Cond) ∈ xtb := tb_in (tb4 (List.mem_of_getElem? (i := 19) (by decide +kernel))) rfl
theorem mw_4_21 : (.instanceMethod yX8_isGood : Cond) ∈ xtb := tb_in (tb4 (List.mem_of_getElem? (i := 21) (by decide +kernel))) rfl
theorem mw_4_22 : (.code yX8_isGood cX8_isGood 2 (some .boolean) : Cond) ∈ xtb := tb_in (tb4 (List.mem_of_getElem? (i := 22) rfl)) rfl
theorem mw_4_23 : (.methodLink "SealedStoresLaw" 32 yX8_load : Cond) ∈ xtb := tb_in (tb4 (List.mem_of_getElem? (i := 23) (by decide +kernel))) rfl
theorem mw_4_24 : (.instanceMethod yX8_load : Cond) ∈ xtb := tb_in (tb4 (List.mem_of_getElem? (i := 24) (by decide +kernel))) rfl
theorem mw_4_25 : (.selects "SealedStoresModel" yX8_load yX8_load : Cond) ∈ xtb := tb_in (tb4 (List.mem_of_getElem? (i := 25) (by decide +kernel))) rfl
theorem mw_4_26 : (.code yX8_load cX8_load 4 (some .int) : Cond) ∈ xtb := tb_in (tb4 (List.mem_of_getElem? (i := 26) rfl)) rfl
theorem mw_4_27 : (.methodLink "SealedStoresModel" 88 yX8_loads : Cond) ∈ xtb := tb_in (tb4 (List.mem_of_getElem? (i := 27) (by decide +kernel))) rfl
theorem mw_4_29 : (.instanceMethod yX8_loads : Cond) ∈ xtb := tb_in (tb4 (List.mem_of_getElem? (i := 29) (by decide +kernel))) rfl
theorem mw_4_30 : (.code yX8_loads cX8_loads 7 (some .int) : Cond) ∈ xtb := tb_in (tb4 (List.mem_of_getElem? (i := 30) rfl)) rfl
theorem mw_4_31 : (.methodLink "SealedStoresModel" 78 yX8_isMove : Cond) ∈ xtb := tb_in (tb4 (List.mem_of_getElem? (i := 31) (by decide +kernel))) rfl
theorem mw_4_33 : (.instanceMethod yX8_isMove : Cond) ∈ xtb := tb_in (tb4 (List.mem_of_getElem? (i := 33) (by decide +kernel))) rfl
theorem mw_4_34 : (.code yX8_isMove cX8_isMove 4 (some .boolean) : Cond) ∈ xtb := tb_in (tb4 (List.mem_of_getElem? (i := 34) rfl)) rfl
theorem mw_4_35 : (.methodLink "SealedStoresModel" 75 yX8_isLocker : Cond) ∈ xtb := tb_in (tb4 (List.mem_of_getElem? (i := 35) (by decide +kernel))) rfl
theorem mw_4_37 : (.instanceMethod yX8_isLocker : Cond) ∈ xtb := tb_in (tb4 (List.mem_of_getElem? (i := 37) (by decide +kernel))) rfl
theorem mw_4_38 : (.code yX8_isLocker cX8_isLocker 2 (some .boolean) : Cond) ∈ xtb := tb_in (tb4 (List.mem_of_getElem? (i := 38) rfl)) rfl
theorem mw_4_39 : (.constant "SealedStoresModel" 81 (99999) : Cond) ∈ xtb := tb_in (tb4 (List.mem_of_getElem? (i := 39) (by decide +kernel))) rfl
theorem mw_4_40 : (.constantLong "SealedStoresModel" 82 (2147483647) : Cond) ∈ xtb := tb_in (tb4 (List.mem_of_getElem? (i := 40) (by decide +kernel))) rfl
theorem mw_4_41 : (.methodLink "SealedStoresModel" 84 yX8_takesOff : Cond) ∈ xtb := tb_in (tb4 (List.mem_of_getElem? (i := 41) (by decide +kernel))) rfl
theorem mw_4_43 : (.instanceMethod yX8_takesOff : Cond) ∈ xtb := tb_in (tb4 (List.mem_of_getElem? (i := 43) (by decide +kernel))) rfl
theorem mw_4_44 : (.code yX8_takesOff cX8_takesOff 3 none : Cond) ∈ xtb := tb_in (tb4 (List.mem_of_getElem? (i := 44) rfl)) rfl
theorem mw_4_45 : (.methodLink "SealedStoresLaw" 36 yX8_lockerOf : Cond) ∈ xtb := tb_in (tb4 (List.mem_of_getElem? (i := 45) (by decide +kernel))) rfl
theorem mw_4_46 : (.instanceMethod yX8_lockerOf : Cond) ∈ xtb := tb_in (tb4 (List.mem_of_getElem? (i := 46) (by decide +kernel))) rfl
theorem mw_4_47 : (.selects "SealedStoresModel" yX8_lockerOf yX8_lockerOf : Cond) ∈ xtb := tb_in (tb4 (List.mem_of_getElem? (i := 47) (by decide +kernel))) rfl
theorem mw_4_48 : (.code yX8_lockerOf cX8_lockerOf 4 (some .int) : Cond) ∈ xtb := tb_in (tb4 (List.mem_of_getElem? (i := 48) rfl)) rfl
theorem mw_4_49 : (.methodLink "SealedStoresModel" 91 yX8_sum : Cond) ∈ xtb := tb_in (tb4 (List.mem_of_getElem? (i := 49) (by decide +kernel))) rfl
theorem mw_4_51 : (.instanceMethod yX8_sum : Cond) ∈ xtb := tb_in (tb4 (List.mem_of_getElem? (i := 51) (by decide +kernel))) rfl
theorem mw_4_52 : (.code yX8_sum cX8_sum 4 (some .int) : Cond) ∈ xtb := tb_in (tb4 (List.mem_of_getElem? (i := 52) rfl)) rfl
theorem mw_4_53 : (.methodLink "SealedStoresLaw" 40 yX8_missing : Cond) ∈ xtb := tb_in (tb4 (List.mem_of_getElem? (i := 53) (by decide +kernel))) rfl
theorem mw_4_54 : (.instanceMethod yX8_missing : Cond) ∈ xtb := tb_in (tb4 (List.mem_of_getElem? (i := 54) (by decide +kernel))) rfl
theorem mw_4_55 : (.selects "SealedStoresModel" yX8_missing yX8_missing : Cond) ∈ xtb := tb_in (tb4 (List.mem_of_getElem? (i := 55) (by decide +kernel))) rfl
theorem mw_4_56 : (.code yX8_missing cX8_missing 3 (some .int) : Cond) ∈ xtb := tb_in (tb4 (List.mem_of_getElem? (i := 56) rfl)) rfl
theorem mw_4_57 : (.methodLink "SealedStoresLaw" 44 yX8_seal : Cond) ∈ xtb := tb_in (tb4 (List.mem_of_getElem? (i := 57) (by decide +kernel))) rfl
theorem mw_4_58 : (.instanceMethod yX8_seal : Cond) ∈ xtb := tb_in (tb4 (List.mem_of_getElem? (i := 58) (by decide +kernel))) rfl
theorem mw_4_59 : (.selects "SealedStoresModel" yX8_seal yX8_seal : Cond) ∈ xtb := tb_in (tb4 (List.mem_of_getElem? (i := 59) (by decide +kernel))) rfl
theorem mw_4_60 : (.code yX8_seal cX8_seal 3 (some .int) : Cond) ∈ xtb := tb_in (tb4 (List.mem_of_getElem? (i := 60) rfl)) rfl
theorem mw_4_61 : (.methodLink "SealedStoresLaw" 48 yX8_bond : Cond) ∈ xtb := tb_in (tb4 (List.mem_of_getElem? (i := 61) (by decide +kernel))) rfl
theorem mw_4_62 : (.instanceMethod yX8_bond : Cond) ∈ xtb := tb_in (tb4 (List.mem_of_getElem? (i := 62) (by decide +kernel))) rfl
theorem mw_4_63 : (.selects "SealedStoresModel" yX8_bond yX8_bond : Cond) ∈ xtb := tb_in (tb4 (List.mem_of_getElem? (i := 63) (by decide +kernel))) rfl
theorem mw_4_64 : (.code yX8_bond cX8_bond 3 (some .int) : Cond) ∈ xtb := tb_in (tb4 (List.mem_of_getElem? (i := 64) rfl)) rfl
theorem mw_4_65 : (.methodLink "SealedStoresLaw" 52 yX8_nextBond : Cond) ∈ xtb := tb_in (tb4 (List.mem_of_getElem? (i := 65) (by decide +kernel))) rfl
theorem mw_4_66 : (.instanceMethod yX8_nextBond : Cond) ∈ xtb := tb_in (tb4 (List.mem_of_getElem? (i := 66) (by decide +kernel))) rfl
theorem mw_4_67 : (.selects "SealedStoresModel" yX8_nextBond yX8_nextBond : Cond) ∈ xtb := tb_in (tb4 (List.mem_of_getElem? (i := 67) (by decide +kernel))) rfl
theorem mw_4_68 : (.code yX8_nextBond cX8_nextBond 2 (some .int) : Cond) ∈ xtb := tb_in (tb4 (List.mem_of_getElem? (i := 68) rfl)) rfl
theorem mw_4_69 : (.methodLink "SealedStoresModel" 33 yX8_nextOf : Cond) ∈ xtb := tb_in (tb4 (List.mem_of_getElem? (i := 69) (by decide +kernel))) rfl
theorem mw_4_71 : (.instanceMethod yX8_nextOf : Cond) ∈ xtb := tb_in (tb4 (List.mem_of_getElem? (i := 71) (by decide +kernel))) rfl
theorem mw_4_72 : (.code yX8_nextOf cX8_nextOf 7 (some .int) : Cond) ∈ xtb := tb_in (tb4 (List.mem_of_getElem? (i := 72) rfl)) rfl
theorem mw_4_73 : (.methodLink "SealedStoresLaw" 56 yX8_use : Cond) ∈ xtb := tb_in (tb4 (List.mem_of_getElem? (i := 73) (by decide +kernel))) rfl
theorem mw_4_74 : (.instanceMethod yX8_use : Cond) ∈ xtb := tb_in (tb4 (List.mem_of_getElem? (i := 74) (by decide +kernel))) rfl
theorem mw_4_75 : (.selects "SealedStoresModel" yX8_use yX8_use : Cond) ∈ xtb := tb_in (tb4 (List.mem_of_getElem? (i := 75) (by decide +kernel))) rfl
theorem mw_4_76 : (.code yX8_use cX8_use 4 (some .int) : Cond) ∈ xtb := tb_in (tb4 (List.mem_of_getElem? (i := 76) rfl)) rfl
theorem mw_4_77 : (.methodLink "SealedStoresModel" 97 yX8_uses : Cond) ∈ xtb := tb_in (tb4 (List.mem_of_getElem? (i := 77) (by decide +kernel))) rfl
theorem mw_4_79 : (.instanceMethod yX8_uses : Cond) ∈ xtb := tb_in (tb4 (List.mem_of_getElem? (i := 79) (by decide +kernel))) rfl
theorem mw_4_80 : (.code yX8_uses cX8_uses 5 (some .int) : Cond) ∈ xtb := tb_in (tb4 (List.mem_of_getElem? (i := 80) rfl)) rfl
theorem mw_4_81 : (.methodLink "SealedStoresModel" 94 yX8_releases : Cond) ∈ xtb := tb_in (tb4 (List.mem_of_getElem? (i := 81) (by decide +kernel))) rfl
theorem mw_4_83 : (.instanceMethod yX8_releases : Cond) ∈ xtb := tb_in (tb4 (List.mem_of_getElem? (i := 83) (by decide +kernel))) rfl
theorem mw_4_84 : (.code yX8_releases cX8_releases 8 (some .int) : Cond) ∈ xtb := tb_in (tb4 (List.mem_of_getElem? (i := 84) rfl)) rfl
theorem mw_4_85 : (.methodLink "SealedStoresModel" 37 yX8_least : Cond) ∈ xtb := tb_in (tb4 (List.mem_of_getElem? (i := 85) (by decide +kernel))) rfl
theorem mw_4_86 : (.static yX8_least : Cond) ∈ xtb := tb_in (tb4 (List.mem_of_getElem? (i := 86) (by decide +kernel))) rfl
theorem mw_4_87 : (.code yX8_least cX8_least 2 (some .int) : Cond) ∈ xtb := tb_in (tb4 (List.mem_of_getElem? (i := 87) rfl)) rfl
theorem mw_4_88 : (.methodLink "SealedStoresModel" 42 yX8_takes : Cond) ∈ xtb := tb_in (tb4 (List.mem_of_getElem? (i := 88) (by decide +kernel))) rfl
theorem mw_4_90 : (.instanceMethod yX8_takes : Cond) ∈ xtb := tb_in (tb4 (List.mem_of_getElem? (i := 90) (by decide +kernel))) rfl
theorem mw_4_91 : (.code yX8_takes cX8_takes 5 (some .int) : Cond) ∈ xtb := tb_in (tb4 (List.mem_of_getElem? (i := 91) rfl)) rfl
theorem mw_4_92 : (.methodLink "SealedStoresLaw" 60 yX8_bring : Cond) ∈ xtb := tb_in (tb4 (List.mem_of_getElem? (i := 92) (by decide +kernel))) rfl
theorem mw_4_93 : (.instanceMethod yX8_bring : Cond) ∈ xtb := tb_in (tb4 (List.mem_of_getElem? (i := 93) (by decide +kernel))) rfl
theorem mw_4_94 : (.selects "SealedStoresModel" yX8_bring yX8_bring : Cond) ∈ xtb := tb_in (tb4 (List.mem_of_getElem? (i := 94) (by decide +kernel))) rfl
theorem mw_4_95 : (.code yX8_bring cX8_bring 4 (some .int) : Cond) ∈ xtb := tb_in (tb4 (List.mem_of_getElem? (i := 95) rfl)) rfl
theorem mw_4_96 : (.methodLink "SealedStoresModel" 100 yX8_brings : Cond) ∈ xtb := tb_in (tb4 (List.mem_of_getElem? (i := 96) (by decide +kernel))) rfl
theorem mw_4_98 : (.instanceMethod yX8_brings : Cond) ∈ xtb := tb_in (tb4 (List.mem_of_getElem? (i := 98) (by decide +kernel))) rfl
theorem mw_4_99 : (.code yX8_brings cX8_brings 5 (some .int) : Cond) ∈ xtb := tb_in (tb4 (List.mem_of_getElem? (i := 99) rfl)) rfl
theorem mw_4_100 : (.methodLink "SealedStoresLaw" 65 yX8_smash : Cond) ∈ xtb := tb_in (tb4 (List.mem_of_getElem? (i := 100) (by decide +kernel))) rfl
theorem mw_4_101 : (.instanceMethod yX8_smash : Cond) ∈ xtb := tb_in (tb4 (List.mem_of_getElem? (i := 101) (by decide +kernel))) rfl
theorem mw_4_102 : (.selects "SealedStoresModel" yX8_smash yX8_smash : Cond) ∈ xtb := tb_in (tb4 (List.mem_of_getElem? (i := 102) (by decide +kernel))) rfl
theorem mw_4_103 : (.code yX8_smash cX8_smash 5 (some .int) : Cond) ∈ xtb := tb_in (tb4 (List.mem_of_getElem? (i := 103) rfl)) rfl
theorem mw_4_104 : (.methodLink "SealedStoresModel" 103 yX8_smashes : Cond) ∈ xtb := tb_in (tb4 (List.mem_of_getElem? (i := 104) (by decide +kernel))) rfl
theorem mw_4_106 : (.instanceMethod yX8_smashes : Cond) ∈ xtb := tb_in (tb4 (List.mem_of_getElem? (i := 106) (by decide +kernel))) rfl
theorem mw_4_107 : (.code yX8_smashes cX8_smashes 6 (some .int) : Cond) ∈ xtb := tb_in (tb4 (List.mem_of_getElem? (i := 107) rfl)) rfl
theorem mw_4_108 : (.methodLink "SealedStoresLaw" 69 yX8_tear : Cond) ∈ xtb := tb_in (tb4 (List.mem_of_getElem? (i := 108) (by decide +kernel))) rfl
theorem mw_4_109 : (.instanceMethod yX8_tear : Cond) ∈ xtb := tb_in (tb4 (List.mem_of_getElem? (i := 109) (by decide +kernel))) rfl
theorem mw_4_110 : (.selects "SealedStoresModel" yX8_tear yX8_tear : Cond) ∈ xtb := tb_in (tb4 (List.mem_of_getElem? (i := 110) (by decide +kernel))) rfl
theorem mw_4_111 : (.code yX8_tear cX8_tear 2 (some .int) : Cond) ∈ xtb := tb_in (tb4 (List.mem_of_getElem? (i := 111) rfl)) rfl
theorem mw_4_112 : (.methodLink "SealedStoresModel" 107 yX8_tears : Cond) ∈ xtb := tb_in (tb4 (List.mem_of_getElem? (i := 112) (by decide +kernel))) rfl
theorem mw_4_114 : (.instanceMethod yX8_tears : Cond) ∈ xtb := tb_in (tb4 (List.mem_of_getElem? (i := 114) (by decide +kernel))) rfl
theorem mw_4_115 : (.code yX8_tears cX8_tears 2 (some .int) : Cond) ∈ xtb := tb_in (tb4 (List.mem_of_getElem? (i := 115) rfl)) rfl
theorem mw_4_116 : (.methodLink "SealedStoresLaw" 73 yX8_inspect : Cond) ∈ xtb := tb_in (tb4 (List.mem_of_getElem? (i := 116) (by decide +kernel))) rfl
theorem mw_4_117 : (.instanceMethod yX8_inspect : Cond) ∈ xtb := tb_in (tb4 (List.mem_of_getElem? (i := 117) (by decide +kernel))) rfl
theorem mw_4_118 : (.selects "SealedStoresModel" yX8_inspect yX8_inspect : Cond) ∈ xtb := tb_in (tb4 (List.mem_of_getElem? (i := 118) (by decide +kernel))) rfl
theorem mw_4_119 : (.code yX8_inspect cX8_inspect 2 (some .int) : Cond) ∈ xtb := tb_in (tb4 (List.mem_of_getElem? (i := 119) rfl)) rfl
theorem mw_4_120 : (.methodLink "SealedStoresModel" 114 yX8_inspects : Cond) ∈ xtb := tb_in (tb4 (List.mem_of_getElem? (i := 120) (by decide +kernel))) rfl
theorem mw_4_122 : (.instanceMethod yX8_inspects : Cond) ∈ xtb := tb_in (tb4 (List.mem_of_getElem? (i := 122) (by decide +kernel))) rfl
theorem mw_4_123 : (.code yX8_inspects cX8_inspects 5 (some .int) : Cond) ∈ xtb := tb_in (tb4 (List.mem_of_getElem? (i := 123) rfl)) rfl
theorem mw_4_124 : (.methodLink "SealedStoresModel" 110 yX8_worthOf : Cond) ∈ xtb := tb_in (tb4 (List.mem_of_getElem? (i := 124) (by decide +kernel))) rfl
theorem mw_4_126 : (.instanceMethod yX8_worthOf : Cond) ∈ xtb := tb_in (tb4 (List.mem_of_getElem? (i := 126) (by decide +kernel))) rfl
theorem mw_4_127 : (.code yX8_worthOf cX8_worthOf 8 (some .long) : Cond) ∈ xtb := tb_in (tb4 (List.mem_of_getElem? (i := 127) rfl)) rfl
theorem mw_4_128 : (.constantLong "SealedStoresModel" 40 (-1) : Cond) ∈ xtb := tb_in (tb4 (List.mem_of_getElem? (i := 128) (by decide +kernel))) rfl
theorem mw_4_129 : (.methodLink "SealedStoresLaw" 77 yX8_cross : Cond) ∈ xtb := tb_in (tb4 (List.mem_of_getElem? (i := 129) (by decide +kernel))) rfl
theorem mw_4_130 : (.instanceMethod yX8_cross : Cond) ∈ xtb := tb_in (tb4 (List.mem_of_getElem? (i := 130) (by decide +kernel))) rfl
theorem mw_4_131 : (.selects "SealedStoresModel" yX8_cross yX8_cross : Cond) ∈ xtb := tb_in (tb4 (List.mem_of_getElem? (i := 131) (by decide +kernel))) rfl
theorem mw_4_132 : (.code yX8_cross cX8_cross 2 (some .int) : Cond) ∈ xtb := tb_in (tb4 (List.mem_of_getElem? (i := 132) rfl)) rfl
theorem mw_4_133 : (.methodLink "SealedStoresModel" 120 yX8_crosses : Cond) ∈ xtb := tb_in (tb4 (List.mem_of_getElem? (i := 133) (by decide +kernel))) rfl
theorem mw_4_135 : (.instanceMethod yX8_crosses : Cond) ∈ xtb := tb_in (tb4 (List.mem_of_getElem? (i := 135) (by decide +kernel))) rfl
theorem mw_4_136 : (.code yX8_crosses cX8_crosses 5 (some .int) : Cond) ∈ xtb := tb_in (tb4 (List.mem_of_getElem? (i := 136) rfl)) rfl
theorem mw_4_137 : (.methodLink "SealedStoresModel" 117 yX8_lockersThat : Cond) ∈ xtb := tb_in (tb4 (List.mem_of_getElem? (i := 137) (by decide +kernel))) rfl
theorem mw_4_139 : (.instanceMethod yX8_lockersThat : Cond) ∈ xtb := tb_in (tb4 (List.mem_of_getElem? (i := 139) (by decide +kernel))) rfl
theorem mw_4_140 : (.code yX8_lockersThat cX8_lockersThat 4 (some .int) : Cond) ∈ xtb := tb_in (tb4 (List.mem_of_getElem? (i := 140) rfl)) rfl
theorem mw_4_141 : (.methodLink "SealedStoresLaw" 81 yX8_pass : Cond) ∈ xtb := tb_in (tb4 (List.mem_of_getElem? (i := 141) (by decide +kernel))) rfl
theorem mw_4_142 : (.instanceMethod yX8_pass : Cond) ∈ xtb := tb_in (tb4 (List.mem_of_getElem? (i := 142) (by decide +kernel))) rfl
theorem mw_4_143 : (.selects "SealedStoresModel" yX8_pass yX8_pass : Cond) ∈ xtb := tb_in (tb4 (List.mem_of_getElem? (i := 143) (by decide +kernel))) rfl
theorem mw_4_144 : (.code yX8_pass cX8_pass 2 (some .int) : Cond) ∈ xtb := tb_in (tb4 (List.mem_of_getElem? (i := 144) rfl)) rfl
theorem mw_4_145 : (.methodLink "SealedStoresModel" 126 yX8_passes : Cond) ∈ xtb := tb_in (tb4 (List.mem_of_getElem? (i := 145) (by decide +kernel))) rfl
theorem mw_4_147 : (.instanceMethod yX8_passes : Cond) ∈ xtb := tb_in (tb4 (List.mem_of_getElem? (i := 147) (by decide +kernel))) rfl
theorem mw_4_148 : (.code yX8_passes cX8_passes 6 (some .int) : Cond) ∈ xtb := tb_in (tb4 (List.mem_of_getElem? (i := 148) rfl)) rfl
theorem mw_4_149 : (.methodLink "SealedStoresModel" 123 yX8_loses : Cond) ∈ xtb := tb_in (tb4 (List.mem_of_getElem? (i := 149) (by decide +kernel))) rfl
theorem mw_4_151 : (.instanceMethod yX8_loses : Cond) ∈ xtb := tb_in (tb4 (List.mem_of_getElem? (i := 151) (by decide +kernel))) rfl
theorem mw_4_152 : (.code yX8_loses cX8_loses 7 none : Cond) ∈ xtb := tb_in (tb4 (List.mem_of_getElem? (i := 152) rfl)) rfl
theorem mw_4_153 : (.methodLink "SealedStoresLaw" 85 yX8_set : Cond) ∈ xtb := tb_in (tb4 (List.mem_of_getElem? (i := 153) (by decide +kernel))) rfl
theorem mw_4_154 : (.instanceMethod yX8_set : Cond) ∈ xtb := tb_in (tb4 (List.mem_of_getElem? (i := 154) (by decide +kernel))) rfl
theorem mw_4_155 : (.selects "SealedStoresModel" yX8_set yX8_set : Cond) ∈ xtb := tb_in (tb4 (List.mem_of_getElem? (i := 155) (by decide +kernel))) rfl
theorem mw_4_156 : (.code yX8_set cX8_set 4 (some .int) : Cond) ∈ xtb := tb_in (tb4 (List.mem_of_getElem? (i := 156) rfl)) rfl
theorem mw_4_157 : (.constant "SealedStoresModel" 129 (100000) : Cond) ∈ xtb := tb_in (tb4 (List.mem_of_getElem? (i := 157) (by decide +kernel))) rfl
theorem mw_4_158 : (.methodLink "SealedStoresLaw" 89 yX8_account : Cond) ∈ xtb := tb_in (tb4 (List.mem_of_getElem? (i := 158) (by decide +kernel))) rfl
theorem mw_4_159 : (.instanceMethod yX8_account : Cond) ∈ xtb := tb_in (tb4 (List.mem_of_getElem? (i := 159) (by decide +kernel))) rfl
theorem mw_4_160 : (.selects "SealedStoresModel" yX8_account yX8_account : Cond) ∈ xtb := tb_in (tb4 (List.mem_of_getElem? (i := 160) (by decide +kernel))) rfl
theorem mw_4_161 : (.code yX8_account cX8_account 3 (some .int) : Cond) ∈ xtb := tb_in (tb4 (List.mem_of_getElem? (i := 161) rfl)) rfl
theorem mw_4_162 : (.methodLink "SealedStoresModel" 130 yX8_overLockers : Cond) ∈ xtb := tb_in (tb4 (List.mem_of_getElem? (i := 162) (by decide +kernel))) rfl
theorem mw_4_164 : (.instanceMethod yX8_overLockers : Cond) ∈ xtb := tb_in (tb4 (List.mem_of_getElem? (i := 164) (by decide +kernel))) rfl
theorem mw_4_165 : (.code yX8_overLockers cX8_overLockers 5 (some .int) : Cond) ∈ xtb := tb_in (tb4 (List.mem_of_getElem? (i := 165) rfl)) rfl
theorem mw_4_166 : (.methodLink "SealedStoresLaw" 93 yX8_cents : Cond) ∈ xtb := tb_in (tb4 (List.mem_of_getElem? (i := 166) (by decide +kernel))) rfl
theorem mw_4_167 : (.instanceMethod yX8_cents : Cond) ∈ xtb := tb_in (tb4 (List.mem_of_getElem? (i := 167) (by decide +kernel))) rfl
theorem mw_4_168 : (.selects "SealedStoresModel" yX8_cents yX8_cents : Cond) ∈ xtb := tb_in (tb4 (List.mem_of_getElem? (i := 168) (by decide +kernel))) rfl
theorem mw_4_169 : (.code yX8_cents cX8_cents 4 (some .int) : Cond) ∈ xtb := tb_in (tb4 (List.mem_of_getElem? (i := 169) rfl)) rfl
theorem mw_4_170 : (.methodLink "SealedStoresLaw" 97 yX8_count : Cond) ∈ xtb := tb_in (tb4 (List.mem_of_getElem? (i := 170) (by decide +kernel))) rfl
theorem mw_4_171 : (.instanceMethod yX8_count : Cond) ∈ xtb := tb_in (tb4 (List.mem_of_getElem? (i := 171) (by decide +kernel))) rfl
theorem mw_4_172 : (.selects "SealedStoresModel" yX8_count yX8_count : Cond) ∈ xtb := tb_in (tb4 (List.mem_of_getElem? (i := 172) (by decide +kernel))) rfl
theorem mw_4_173 : (.code yX8_count cX8_count 4 (some .int) : Cond) ∈ xtb := tb_in (tb4 (List.mem_of_getElem? (i := 173) rfl)) rfl
theorem mw_4_174 : (.methodLink "SealedStoresLaw" 105 yX8_worth : Cond) ∈ xtb := tb_in (tb4 (List.mem_of_getElem? (i := 174) (by decide +kernel))) rfl
theorem mw_4_175 : (.instanceMethod yX8_worth : Cond) ∈ xtb := tb_in (tb4 (List.mem_of_getElem? (i := 175) (by decide +kernel))) rfl
theorem mw_4_176 : (.selects "SealedStoresModel" yX8_worth yX8_worth : Cond) ∈ xtb := tb_in (tb4 (List.mem_of_getElem? (i := 176) (by decide +kernel))) rfl
theorem mw_4_177 : (.code yX8_worth cX8_worth 5 (some .int) : Cond) ∈ xtb := tb_in (tb4 (List.mem_of_getElem? (i := 177) rfl)) rfl
theorem mw_4_178 : (.methodLink "SealedStoresLaw" 109 yX8_toPay : Cond) ∈ xtb := tb_in (tb4 (List.mem_of_getElem? (i := 178) (by decide +kernel))) rfl
theorem mw_4_179 : (.instanceMethod yX8_toPay : Cond) ∈ xtb := tb_in (tb4 (List.mem_of_getElem? (i := 179) (by decide +kernel))) rfl
theorem mw_4_180 : (.selects "SealedStoresModel" yX8_toPay yX8_toPay : Cond) ∈ xtb := tb_in (tb4 (List.mem_of_getElem? (i := 180) (by decide +kernel))) rfl
theorem mw_4_181 : (.code yX8_toPay cX8_toPay 4 (some .int) : Cond) ∈ xtb := tb_in (tb4 (List.mem_of_getElem? (i := 181) rfl)) rfl
theorem mw_4_182 : (.methodLink "SealedStoresLaw" 113 yX8_runsOut : Cond) ∈ xtb := tb_in (tb4 (List.mem_of_getElem? (i := 182) (by decide +kernel))) rfl
theorem mw_4_183 : (.instanceMethod yX8_runsOut : Cond) ∈ xtb := tb_in (tb4 (List.mem_of_getElem? (i := 183) (by decide +kernel))) rfl
theorem mw_4_184 : (.selects "SealedStoresModel" yX8_runsOut yX8_runsOut : Cond) ∈ xtb := tb_in (tb4 (List.mem_of_getElem? (i := 184) (by decide +kernel))) rfl
theorem mw_4_185 : (.code yX8_runsOut cX8_runsOut 2 (some .int) : Cond) ∈ xtb := tb_in (tb4 (List.mem_of_getElem? (i := 185) rfl)) rfl
theorem mw_4_186 : (.methodLink "SealedStoresLaw" 117 yX8_type : Cond) ∈ xtb := tb_in (tb4 (List.mem_of_getElem? (i := 186) (by decide +kernel))) rfl
theorem mw_4_187 : (.instanceMethod yX8_type : Cond) ∈ xtb := tb_in (tb4 (List.mem_of_getElem? (i := 187) (by decide +kernel))) rfl
theorem mw_4_188 : (.selects "SealedStoresModel" yX8_type yX8_type : Cond) ∈ xtb := tb_in (tb4 (List.mem_of_getElem? (i := 188) (by decide +kernel))) rfl
theorem mw_4_189 : (.code yX8_type cX8_type 2 (some .int) : Cond) ∈ xtb := tb_in (tb4 (List.mem_of_getElem? (i := 189) rfl)) rfl
theorem mw_4_190 : (.methodLink "SealedStoresLaw" 121 yX8_clearText : Cond) ∈ xtb := tb_in (tb4 (List.mem_of_getElem? (i := 190) (by decide +kernel))) rfl
theorem mw_4_191 : (.instanceMethod yX8_clearText : Cond) ∈ xtb := tb_in (tb4 (List.mem_of_getElem? (i := 191) (by decide +kernel))) rfl
theorem mw_4_192 : (.selects "SealedStoresModel" yX8_clearText yX8_clearText : Cond) ∈ xtb := tb_in (tb4 (List.mem_of_getElem? (i := 192) (by decide +kernel))) rfl
theorem mw_4_193 : (.code yX8_clearText cX8_clearText 2 (some .int) : Cond) ∈ xtb := tb_in (tb4 (List.mem_of_getElem? (i := 193) rfl)) rfl
theorem mw_4_194 : (.methodLink "SealedStoresLaw" 125 yX8_fault : Cond) ∈ xtb := tb_in (tb4 (List.mem_of_getElem? (i := 194) (by decide +kernel))) rfl
theorem mw_4_195 : (.instanceMethod yX8_fault : Cond) ∈ xtb := tb_in (tb4 (List.mem_of_getElem? (i := 195) (by decide +kernel))) rfl
theorem mw_4_196 : (.selects "SealedStoresModel" yX8_fault yX8_fault : Cond) ∈ xtb := tb_in (tb4 (List.mem_of_getElem? (i := 196) (by decide +kernel))) rfl
theorem mw_4_197 : (.code yX8_fault cX8_fault 2 (some .int) : Cond) ∈ xtb := tb_in (tb4 (List.mem_of_getElem? (i := 197) rfl)) rfl
theorem mw_4_198 : (.methodLink "SealedStoresModel" 167 yX8_tries : Cond) ∈ xtb := tb_in (tb4 (List.mem_of_getElem? (i := 198) (by decide +kernel))) rfl
theorem mw_4_200 : (.instanceMethod yX8_tries : Cond) ∈ xtb := tb_in (tb4 (List.mem_of_getElem? (i := 200) (by decide +kernel))) rfl
theorem mw_4_201 : (.code yX8_tries cX8_tries 1 none : Cond) ∈ xtb := tb_in (tb4 (List.mem_of_getElem? (i := 201) rfl)) rfl
theorem mw_4_202 : (.methodLink "SealedStoresModel" 161 yX8_order : Cond) ∈ xtb := tb_in (tb4 (List.mem_of_getElem? (i := 202) (by decide +kernel))) rfl
theorem mw_4_204 : (.instanceMethod yX8_order : Cond) ∈ xtb := tb_in (tb4 (List.mem_of_getElem? (i := 204) (by decide +kernel))) rfl
theorem mw_4_205 : (.code yX8_order cX8_order 6 (some .int) : Cond) ∈ xtb := tb_in (tb4 (List.mem_of_getElem? (i := 205) rfl)) rfl
theorem mw_4_206 : (.methodLink "SealedStoresModel" 143 yX8_here : Cond) ∈ xtb := tb_in (tb4 (List.mem_of_getElem? (i := 206) (by decide +kernel))) rfl
theorem mw_4_208 : (.instanceMethod yX8_here : Cond) ∈ xtb := tb_in (tb4 (List.mem_of_getElem? (i := 208) (by decide +kernel))) rfl
theorem mw_4_209 : (.code yX8_here cX8_here 1 (some .int) : Cond) ∈ xtb := tb_in (tb4 (List.mem_of_getElem? (i := 209) rfl)) rfl
theorem mw_4_210 : (.methodLink "SealedStoresModel" 146 yX8_number : Cond) ∈ xtb := tb_in (tb4 (List.mem_of_getElem? (i := 210) (by decide +kernel))) rfl
theorem mw_4_212 : (.instanceMethod yX8_number : Cond) ∈ xtb := tb_in (tb4 (List.mem_of_getElem? (i := 212) (by decide +kernel))) rfl
theorem mw_4_213 : (.code yX8_number cX8_number 3 (some .int) : Cond) ∈ xtb := tb_in (tb4 (List.mem_of_getElem? (i := 213) rfl)) rfl
theorem mw_4_214 : (.methodLink "SealedStoresModel" 149 yX8_passesSign : Cond) ∈ xtb := tb_in (tb4 (List.mem_of_getElem? (i := 214) (by decide +kernel))) rfl
theorem mw_4_216 : (.instanceMethod yX8_passesSign : Cond) ∈ xtb := tb_in (tb4 (List.mem_of_getElem? (i := 216) (by decide +kernel))) rfl
theorem mw_4_217 : (.code yX8_passesSign cX8_passesSign 2 none : Cond) ∈ xtb := tb_in (tb4 (List.mem_of_getElem? (i := 217) rfl)) rfl
theorem mw_4_218 : (.methodLink "SealedStoresModel" 170 yX8_back : Cond) ∈ xtb := tb_in (tb4 (List.mem_of_getElem? (i := 218) (by decide +kernel))) rfl
theorem mw_4_220 : (.instanceMethod yX8_back : Cond) ∈ xtb := tb_in (tb4 (List.mem_of_getElem? (i := 220) (by decide +kernel))) rfl
theorem mw_4_221 : (.code yX8_back cX8_back 2 none : Cond) ∈ xtb := tb_in (tb4 (List.mem_of_getElem? (i := 221) rfl)) rfl
theorem mw_4_222 : (.methodLink "SealedStoresLaw" 129 yX8_play : Cond) ∈ xtb := tb_in (tb4 (List.mem_of_getElem? (i := 222) (by decide +kernel))) rfl
theorem mw_4_223 : (.instanceMethod yX8_play : Cond) ∈ xtb := tb_in (tb4 (List.mem_of_getElem? (i := 223) (by decide +kernel))) rfl
theorem mw_4_224 : (.selects "SealedStoresModel" yX8_play yX8_play : Cond) ∈ xtb := tb_in (tb4 (List.mem_of_getElem? (i := 224) (by decide +kernel))) rfl
theorem mw_4_225 : (.code yX8_play cX8_play 1 (some .int) : Cond) ∈ xtb := tb_in (tb4 (List.mem_of_getElem? (i := 225) rfl)) rfl
theorem inX0 : ∀ w ∈ wsX00, w ∈ xtb := by decide +kernel
theorem inX1 : ∀ w ∈ wsX10, w ∈ xtb := by decide +kernel
theorem inX2 : ∀ w ∈ wsX20, w ∈ xtb := by decide +kernel
theorem inX3 : ∀ w ∈ wsX30, w ∈ xtb := by decide +kernel
theorem inX4 : ∀ w ∈ wsX40, w ∈ xtb := by decide +kernel
theorem inX5 : ∀ w ∈ wsX50, w ∈ xtb := by decide +kernel
theorem inX6 : ∀ w ∈ wsX60, w ∈ xtb := by decide +kernel
theorem inX7 : ∀ w ∈ wsX70, w ∈ xtb := by decide +kernel
theorem inX8 : ∀ w ∈ wsX80, w ∈ xtb := by decide +kernel
end
section
def iI (z : Int) : Int32 := Int32.ofInt z
def lI (z : Int) : Int64 := Int64.ofInt z
def uZ (N : Int → Int) (i v : Int) : Int → Int := fun k => if k = i then v else N k
def vI (N : Int → Int) (o : Int) : Nat → Int32 := fun j => iI (N (o + (j : Int)))
def vL (N : Int → Int) (o : Int) : Nat → Int64 := fun j => lI (N (o + (j : Int)))
theorem uZ_eq {N : Int → Int} {i v : Int} : uZ N i v i = v := if_pos rfl
theorem uZ_at {N : Int → Int} {i v k : Int} (h : k = i) : uZ N i v k = v := if_pos h
theorem uZ_ne {N : Int → Int} {i v k : Int} (h : k ≠ i) : uZ N i v k = N k := if_neg h
theorem iI_add (a b : Int) : iI (a + b) = iI a + iI b := Int32.ofInt_add a b
theorem iI_sub (a b : Int) : iI (a - b) = iI a - iI b := Int32.ofInt_sub a b
theorem iI_mul (a b : Int) : iI (a * b) = iI a * iI b := Int32.ofInt_mul a b
theorem lI_add (a b : Int) : lI (a + b) = lI a + lI b := Int64.ofInt_add a b
theorem lI_sub (a b : Int) : lI (a - b) = lI a - lI b := Int64.ofInt_sub a b
theorem lI_mul (a b : Int) : lI (a * b) = lI a * lI b := Int64.ofInt_mul a b
theorem iI_T {z : Int} (h : -2147483648 ≤ z ∧ z ≤ 2147483647) : (iI z).toInt = z := Int32.toInt_ofInt_of_le (by omega) (by omega)
theorem lI_T {z : Int} (h : -9223372036854775808 ≤ z ∧ z ≤ 9223372036854775807) : (lI z).toInt = z := Int64.toInt_ofInt_of_le (by omega) (by omega)
theorem iI_ex (x : Int32) : ∃ z : Int, (-2147483648 ≤ z ∧ z ≤ 2147483647) ∧ x = iI z := ⟨x.toInt, ⟨by have := x.le_toInt; omega, by have := x.toInt_lt; omega⟩, (Int32.ofInt_toInt x).symm⟩
theorem iI_lt {a b : Int} (h : (-2147483648 ≤ a ∧ a ≤ 2147483647) ∧ (-2147483648 ≤ b ∧ b ≤ 2147483647)) : iI a < iI b ↔ a < b := by rw [Int32.lt_iff_toInt_lt, iI_T h.1, iI_T h.2]
theorem iI_le {a b : Int} (h : (-2147483648 ≤ a ∧ a ≤ 2147483647) ∧ (-2147483648 ≤ b ∧ b ≤ 2147483647)) : iI a ≤ iI b ↔ a ≤ b := by rw [Int32.le_iff_toInt_le, iI_T h.1, iI_T h.2]
theorem iI_eq {a b : Int} (h : (-2147483648 ≤ a ∧ a ≤ 2147483647) ∧ (-2147483648 ≤ b ∧ b ≤ 2147483647)) : iI a = iI b ↔ a = b := by rw [← Int32.toInt_inj, iI_T h.1, iI_T h.2]
theorem lI_le {a b : Int} (h : (-9223372036854775808 ≤ a ∧ a ≤ 9223372036854775807) ∧ (-9223372036854775808 ≤ b ∧ b ≤ 9223372036854775807)) : lI a ≤ lI b ↔ a ≤ b := by rw [Int64.le_iff_toInt_le, lI_T h.1, lI_T h.2]
theorem lI_lt {a b : Int} (h : (-9223372036854775808 ≤ a ∧ a ≤ 9223372036854775807) ∧ (-9223372036854775808 ≤ b ∧ b ≤ 9223372036854775807)) : lI a < lI b ↔ a < b := by rw [Int64.lt_iff_toInt_lt, lI_T h.1, lI_T h.2]
theorem iI_clamp {z : Int} (h : 0 ≤ z ∧ z ≤ 2147483647) : (iI z).toNatClampNeg = z.toNat := Int32.toNatClampNeg_ofInt_of_le (by omega) (by omega)
theorem iI_in {z : Int} {n : Nat} (h : 0 ≤ z ∧ z < (n : Int)) (hn : n ≤ 2147483647) : vp_in (iI z) n := by
  rw [vp_in_iff, iI_T (by omega)]
  exact h
theorem iI_ofNat (n : Nat) : iI (n : Int) = Int32.ofNat n := Int32.ofInt_eq_ofNat
theorem lI_l2i (z : Int) : (lI z).toInt32 = iI z := Int64.toInt32_ofInt
theorem iI_i2l {z : Int} (h : -2147483648 ≤ z ∧ z ≤ 2147483647) : (iI z).toInt64 = lI z := Int32.toInt64_ofInt (by have e : Int32.minValue.toInt = -2147483648 := by decide
                                                                                                                   omega) (by have e : Int32.maxValue.toInt = 2147483647 := by decide
                                                                                                                              omega)
theorem mn8 : Int8.minValue.toInt = -128 := by decide
theorem mx8 : Int8.maxValue.toInt = 127 := by decide
theorem mn16 : Int16.minValue.toInt = -32768 := by decide
theorem mx16 : Int16.maxValue.toInt = 32767 := by decide
abbrev KT : Type := va_G × (ClassId × ClassId × ClassId × ClassId)
abbrev xT (K : KT) : List (ClassId × FieldType) := [(K.2.1, .int), (K.2.2.1, .long), (K.2.2.2.1, .char), (K.2.2.2.2, .object RX6)]
abbrev xP (K : KT) (ws : va_W) (H : Heap) : Prop := va_P K.1 vwCl ws H
abbrev xK (K : KT) (s : State) : Prop := va_K K.1 vwCl (xT K) s
def Blk (o n : Nat) : Nat → Prop := fun q => o ≤ q ∧ q < o + n
def NoA : Nat → Prop := fun _ => False
abbrev CF (p : Program) (m : MethodId) (c : Code) (cc : ByteArray) (nL : Nat) (s : State) (args : Array Value) (own : String) : Prop := CallFix p m c cc nL s args xtb own
section XV
variable {p : Program} {l : Launch} {e : Env} {R : Room} {s : State} {m : MethodId} {args : Array Value} {below : List Frame} {meth : Method} {c : Code} {H : Heap} {locs : List Loc} {cells slots : Nat} {Q : State → Prop}
variable {cc : ByteArray} {pc nL : Nat} {ls : Array Slot} {rest : List Value} {own : String}

theorem xv_iconst (S : CF p m c cc nL s args own) {n : Int} (hdg : decode cc pc = .ok (.iconst n, 1)) (k : W p l e R s m args below meth c H locs cells slots Q (F0 m (pc + 1) ls (.int (iI n) :: rest))) : W p l e R s m args below meth c H locs cells slots Q (F0 m pc ls rest) := lv_iconst S.1 S.2.1 hdg rfl k
theorem xv_bipush (S : CF p m c cc nL s args own) {n : Int} (hdg : decode cc pc = .ok (.bipush n, 2)) (hn : -128 ≤ n ∧ n ≤ 127) (k : W p l e R s m args below meth c H locs cells slots Q (F0 m (pc + 2) ls (.int (iI n) :: rest))) : W p l e R s m args below meth c H locs cells slots Q (F0 m pc ls rest) := lv_bipush S.1 S.2.1 hdg (Int8.toInt32_ofInt (by rw [mn8]; omega) (by rw [mx8]; omega)) k
theorem xv_sipush (S : CF p m c cc nL s args own) {n : Int} (hdg : decode cc pc = .ok (.sipush n, 3)) (hn : -32768 ≤ n ∧ n ≤ 32767) (k : W p l e R s m args below meth c H locs cells slots Q (F0 m (pc + 3) ls (.int (iI n) :: rest))) : W p l e R s m args below meth c H locs cells slots Q (F0 m pc ls rest) := lv_sipush S.1 S.2.1 hdg (Int16.toInt32_ofInt (by rw [mn16]; omega) (by rw [mx16]; omega)) k
theorem xv_ldc (S : CF p m c cc nL s args own) {i : Nat} {v : Int32} (hm : (Cond.constant own i v) ∈ xtb) {n : Int} (hv : v = iI n) (hdg : decode cc pc = .ok (.ldc i, 2)) (k : W p l e R s m args below meth c H locs cells slots Q (F0 m (pc + 2) ls (.int (iI n) :: rest))) : W p l e R s m args below meth c H locs cells slots Q (F0 m pc ls rest) := by
  subst hv
  exact lv_ldc S.1 S.2.1 S.2.2.2.1 (S.2.2.2.2 _ hm) hdg k
theorem xv_ldc2 (S : CF p m c cc nL s args own) {i : Nat} {v : Int64} (hm : (Cond.constantLong own i v) ∈ xtb) {n : Int} (hv : v = lI n) (hdg : decode cc pc = .ok (.ldc2_w i, 3)) (k : W p l e R s m args below meth c H locs cells slots Q (F0 m (pc + 3) ls (.long (lI n) :: rest))) : W p l e R s m args below meth c H locs cells slots Q (F0 m pc ls rest) := by
  subst hv
  exact lv_ldc2 S.1 S.2.1 S.2.2.2.1 (S.2.2.2.2 _ hm) hdg k
theorem xv_lconst (S : CF p m c cc nL s args own) {n : Fin 2} {z : Int} (hdg : decode cc pc = .ok (.lconst n, 1)) (hz : Int64.ofNat (n : Nat) = lI z) (k : W p l e R s m args below meth c H locs cells slots Q (F0 m (pc + 1) ls (.long (lI z) :: rest))) : W p l e R s m args below meth c H locs cells slots Q (F0 m pc ls rest) := lv_lconst S.1 S.2.1 hdg hz k
theorem xv_iadd (S : CF p m c cc nL s args own) {a b : Int} (hdg : decode cc pc = .ok (.iadd, 1)) (k : W p l e R s m args below meth c H locs cells slots Q (F0 m (pc + 1) ls (.int (iI (a + b)) :: rest))) : W p l e R s m args below meth c H locs cells slots Q (F0 m pc ls (.int (iI b) :: .int (iI a) :: rest)) := lv_iadd S.1 S.2.1 hdg (by rw [← iI_add]; exact k)
theorem xv_isub (S : CF p m c cc nL s args own) {a b : Int} (hdg : decode cc pc = .ok (.isub, 1)) (k : W p l e R s m args below meth c H locs cells slots Q (F0 m (pc + 1) ls (.int (iI (a - b)) :: rest))) : W p l e R s m args below meth c H locs cells slots Q (F0 m pc ls (.int (iI b) :: .int (iI a) :: rest)) := lv_isub S.1 S.2.1 hdg (by rw [← iI_sub]; exact k)
theorem xv_imul (S : CF p m c cc nL s args own) {a b : Int} (hdg : decode cc pc = .ok (.imul, 1)) (k : W p l e R s m args below meth c H locs cells slots Q (F0 m (pc + 1) ls (.int (iI (a * b)) :: rest))) : W p l e R s m args below meth c H locs cells slots Q (F0 m pc ls (.int (iI b) :: .int (iI a) :: rest)) := lv_imul S.1 S.2.1 hdg (by rw [← iI_mul]; exact k)
theorem xv_ladd (S : CF p m c cc nL s args own) {a b : Int} (hdg : decode cc pc = .ok (.ladd, 1)) (k : W p l e R s m args below meth c H locs cells slots Q (F0 m (pc + 1) ls (.long (lI (a + b)) :: rest))) : W p l e R s m args below meth c H locs cells slots Q (F0 m pc ls (.long (lI b) :: .long (lI a) :: rest)) := lv_ladd S.1 S.2.1 hdg (by rw [← lI_add]; exact k)
theorem xv_lsub (S : CF p m c cc nL s args own) {a b : Int} (hdg : decode cc pc = .ok (.lsub, 1)) (k : W p l e R s m args below meth c H locs cells slots Q (F0 m (pc + 1) ls (.long (lI (a - b)) :: rest))) : W p l e R s m args below meth c H locs cells slots Q (F0 m pc ls (.long (lI b) :: .long (lI a) :: rest)) := lv_lsub S.1 S.2.1 hdg (by rw [← lI_sub]; exact k)
theorem xv_lmul (S : CF p m c cc nL s args own) {a b : Int} (hdg : decode cc pc = .ok (.lmul, 1)) (k : W p l e R s m args below meth c H locs cells slots Q (F0 m (pc + 1) ls (.long (lI (a * b)) :: rest))) : W p l e R s m args below meth c H locs cells slots Q (F0 m pc ls (.long (lI b) :: .long (lI a) :: rest)) := lv_lmul S.1 S.2.1 hdg (by rw [← lI_mul]; exact k)
theorem xv_i2l (S : CF p m c cc nL s args own) {a : Int} (h : -2147483648 ≤ a ∧ a ≤ 2147483647) (hdg : decode cc pc = .ok (.i2l, 1)) (k : W p l e R s m args below meth c H locs cells slots Q (F0 m (pc + 1) ls (.long (lI a) :: rest))) : W p l e R s m args below meth c H locs cells slots Q (F0 m pc ls (.int (iI a) :: rest)) := lv_i2l S.1 S.2.1 hdg (iI_i2l h) k
theorem xv_l2i (S : CF p m c cc nL s args own) {a : Int} (hdg : decode cc pc = .ok (.l2i, 1)) (k : W p l e R s m args below meth c H locs cells slots Q (F0 m (pc + 1) ls (.int (iI a) :: rest))) : W p l e R s m args below meth c H locs cells slots Q (F0 m pc ls (.long (lI a) :: rest)) := lv_l2i S.1 S.2.1 hdg (lI_l2i a) k
theorem xv_irem (S : CF p m c cc nL s args own) {a b : Int} (ha : 0 ≤ a ∧ a ≤ 2147483647) (hb : 0 < b ∧ b ≤ 2147483647) (hdg : decode cc pc = .ok (.irem, 1)) (k : W p l e R s m args below meth c H locs cells slots Q (F0 m (pc + 1) ls (.int (iI (a % b)) :: rest))) : W p l e R s m args below meth c H locs cells slots Q (F0 m pc ls (.int (iI b) :: .int (iI a) :: rest)) := by
  have ea : iI a = nI a.toNat := by rw [show a = ((a.toNat : Nat) : Int) by omega, iI_ofNat]; rfl
  have eb : iI b = nI b.toNat := by rw [show b = ((b.toNat : Nat) : Int) by omega, iI_ofNat]; rfl
  have er : iI (a % b) = nI (a.toNat % b.toNat) := by
    rw [show a % b = ((a.toNat % b.toNat : Nat) : Int) by rw [Int.natCast_emod]; congr 1 <;> omega, iI_ofNat]
    rfl
  refine lv_irem S.1 S.2.1 hdg (fun h => ?_) ?_
  · have h2 := (iI_eq (a := b) (b := 0) (by omega)).mp h
    omega
  · rw [er] at k
    rw [ea, eb, pk_rem (by omega) (by omega) (by omega)]
    exact k
theorem xv_iinc (S : CF p m c cc nL s args own) {i q : Nat} {n x y : Int} {lv lv' : List (Nat × Value)} (hdg : decode cc pc = .ok (.iinc i n, 3)) (h : lv_has ls nL lv) (hk : lv[q]? = some (i, .int (iI x))) (hy : x + n = y) (hn : i < nL) (hl : (i, Value.int (iI y)) :: lv.filter (fun q => !(q.1 == i) && !(q.1 + 1 == i && q.2.category == 2)) = lv') (kk : ∀ ls' : Array Slot, lv_has ls' nL lv' → W p l e R s m args below meth c H locs cells slots Q (F0 m (pc + 3) ls' rest)) : W p l e R s m args below meth c H locs cells slots Q (F0 m pc ls rest) := lv_iinc S.1 S.2.1 hdg h hk (by rw [← hy, iI_add]; rfl) hn hl kk
theorem xv_icmp_eq (S : CF p m c cc nL s args own) {a b : Int} (h : (-2147483648 ≤ a ∧ a ≤ 2147483647) ∧ (-2147483648 ≤ b ∧ b ≤ 2147483647)) {off : Int} {tgt : Nat} (hdg : decode cc pc = .ok (.if_icmp .eq off, 3)) (ht : (pc : Int) + off = (tgt : Int)) (kt : a = b → W p l e R s m args below meth c H locs cells slots Q (F0 m tgt ls rest)) (kf : ¬ (a = b) → W p l e R s m args below meth c H locs cells slots Q (F0 m (pc + 3) ls rest)) : W p l e R s m args below meth c H locs cells slots Q (F0 m pc ls (.int (iI b) :: .int (iI a) :: rest)) := by
  have e := iI_eq h
  exact lv_icmp_eq S.1 S.2.1 hdg ht (fun q => kt (e.mp q)) (fun q => kf (fun r => q (e.mpr r)))
theorem xv_if_eq (S : CF p m c cc nL s args own) {a : Int} (h0 : -2147483648 ≤ a ∧ a ≤ 2147483647) {off : Int} {tgt : Nat} (hdg : decode cc pc = .ok (.ifCond .eq off, 3)) (ht : (pc : Int) + off = (tgt : Int)) (kt : a = 0 → W p l e R s m args below meth c H locs cells slots Q (F0 m tgt ls rest)) (kf : ¬ (a = 0) → W p l e R s m args below meth c H locs cells slots Q (F0 m (pc + 3) ls rest)) : W p l e R s m args below meth c H locs cells slots Q (F0 m pc ls (.int (iI a) :: rest)) := by
  have h : (-2147483648 ≤ a ∧ a ≤ 2147483647) ∧ (-2147483648 ≤ (0 : Int) ∧ (0 : Int) ≤ 2147483647) := by omega
  have e := iI_eq h
  exact lv_if_eq S.1 S.2.1 hdg ht (fun q => kt (e.mp q)) (fun q => kf (fun r => q (e.mpr r)))
theorem xv_icmp_ne (S : CF p m c cc nL s args own) {a b : Int} (h : (-2147483648 ≤ a ∧ a ≤ 2147483647) ∧ (-2147483648 ≤ b ∧ b ≤ 2147483647)) {off : Int} {tgt : Nat} (hdg : decode cc pc = .ok (.if_icmp .ne off, 3)) (ht : (pc : Int) + off = (tgt : Int)) (kt : ¬ a = b → W p l e R s m args below meth c H locs cells slots Q (F0 m tgt ls rest)) (kf : a = b → W p l e R s m args below meth c H locs cells slots Q (F0 m (pc + 3) ls rest)) : W p l e R s m args below meth c H locs cells slots Q (F0 m pc ls (.int (iI b) :: .int (iI a) :: rest)) := by
  have e := not_congr (iI_eq h)
  exact lv_icmp_ne S.1 S.2.1 hdg ht (fun q => kt (e.mp q)) (fun q => kf ((iI_eq h).mp q))
theorem xv_if_ne (S : CF p m c cc nL s args own) {a : Int} (h0 : -2147483648 ≤ a ∧ a ≤ 2147483647) {off : Int} {tgt : Nat} (hdg : decode cc pc = .ok (.ifCond .ne off, 3)) (ht : (pc : Int) + off = (tgt : Int)) (kt : ¬ a = 0 → W p l e R s m args below meth c H locs cells slots Q (F0 m tgt ls rest)) (kf : a = 0 → W p l e R s m args below meth c H locs cells slots Q (F0 m (pc + 3) ls rest)) : W p l e R s m args below meth c H locs cells slots Q (F0 m pc ls (.int (iI a) :: rest)) := by
  have h : (-2147483648 ≤ a ∧ a ≤ 2147483647) ∧ (-2147483648 ≤ (0 : Int) ∧ (0 : Int) ≤ 2147483647) := by omega
  have e := not_congr (iI_eq h)
  exact lv_if_ne S.1 S.2.1 hdg ht (fun q => kt (e.mp q)) (fun q => kf ((iI_eq h).mp q))
theorem xv_icmp_lt (S : CF p m c cc nL s args own) {a b : Int} (h : (-2147483648 ≤ a ∧ a ≤ 2147483647) ∧ (-2147483648 ≤ b ∧ b ≤ 2147483647)) {off : Int} {tgt : Nat} (hdg : decode cc pc = .ok (.if_icmp .lt off, 3)) (ht : (pc : Int) + off = (tgt : Int)) (kt : a < b → W p l e R s m args below meth c H locs cells slots Q (F0 m tgt ls rest)) (kf : ¬ (a < b) → W p l e R s m args below meth c H locs cells slots Q (F0 m (pc + 3) ls rest)) : W p l e R s m args below meth c H locs cells slots Q (F0 m pc ls (.int (iI b) :: .int (iI a) :: rest)) := by
  have e := iI_lt h
  exact lv_icmp_lt S.1 S.2.1 hdg ht (fun q => kt (e.mp q)) (fun q => kf (fun r => q (e.mpr r)))
theorem xv_if_lt (S : CF p m c cc nL s args own) {a : Int} (h0 : -2147483648 ≤ a ∧ a ≤ 2147483647) {off : Int} {tgt : Nat} (hdg : decode cc pc = .ok (.ifCond .lt off, 3)) (ht : (pc : Int) + off = (tgt : Int)) (kt : a < 0 → W p l e R s m args below meth c H locs cells slots Q (F0 m tgt ls rest)) (kf : ¬ (a < 0) → W p l e R s m args below meth c H locs cells slots Q (F0 m (pc + 3) ls rest)) : W p l e R s m args below meth c H locs cells slots Q (F0 m pc ls (.int (iI a) :: rest)) := by
  have h : (-2147483648 ≤ a ∧ a ≤ 2147483647) ∧ (-2147483648 ≤ (0 : Int) ∧ (0 : Int) ≤ 2147483647) := by omega
  have e := iI_lt h
  exact lv_if_lt S.1 S.2.1 hdg ht (fun q => kt (e.mp q)) (fun q => kf (fun r => q (e.mpr r)))
theorem xv_icmp_ge (S : CF p m c cc nL s args own) {a b : Int} (h : (-2147483648 ≤ a ∧ a ≤ 2147483647) ∧ (-2147483648 ≤ b ∧ b ≤ 2147483647)) {off : Int} {tgt : Nat} (hdg : decode cc pc = .ok (.if_icmp .ge off, 3)) (ht : (pc : Int) + off = (tgt : Int)) (kt : b ≤ a → W p l e R s m args below meth c H locs cells slots Q (F0 m tgt ls rest)) (kf : ¬ (b ≤ a) → W p l e R s m args below meth c H locs cells slots Q (F0 m (pc + 3) ls rest)) : W p l e R s m args below meth c H locs cells slots Q (F0 m pc ls (.int (iI b) :: .int (iI a) :: rest)) := by
  have e := iI_le ⟨h.2, h.1⟩
  exact lv_icmp_ge S.1 S.2.1 hdg ht (fun q => kt (e.mp q)) (fun q => kf (fun r => q (e.mpr r)))
theorem xv_if_ge (S : CF p m c cc nL s args own) {a : Int} (h0 : -2147483648 ≤ a ∧ a ≤ 2147483647) {off : Int} {tgt : Nat} (hdg : decode cc pc = .ok (.ifCond .ge off, 3)) (ht : (pc : Int) + off = (tgt : Int)) (kt : 0 ≤ a → W p l e R s m args below meth c H locs cells slots Q (F0 m tgt ls rest)) (kf : ¬ (0 ≤ a) → W p l e R s m args below meth c H locs cells slots Q (F0 m (pc + 3) ls rest)) : W p l e R s m args below meth c H locs cells slots Q (F0 m pc ls (.int (iI a) :: rest)) := by
  have h : (-2147483648 ≤ a ∧ a ≤ 2147483647) ∧ (-2147483648 ≤ (0 : Int) ∧ (0 : Int) ≤ 2147483647) := by omega
  have e := iI_le ⟨h.2, h.1⟩
  exact lv_if_ge S.1 S.2.1 hdg ht (fun q => kt (e.mp q)) (fun q => kf (fun r => q (e.mpr r)))
theorem xv_icmp_gt (S : CF p m c cc nL s args own) {a b : Int} (h : (-2147483648 ≤ a ∧ a ≤ 2147483647) ∧ (-2147483648 ≤ b ∧ b ≤ 2147483647)) {off : Int} {tgt : Nat} (hdg : decode cc pc = .ok (.if_icmp .gt off, 3)) (ht : (pc : Int) + off = (tgt : Int)) (kt : b < a → W p l e R s m args below meth c H locs cells slots Q (F0 m tgt ls rest)) (kf : ¬ (b < a) → W p l e R s m args below meth c H locs cells slots Q (F0 m (pc + 3) ls rest)) : W p l e R s m args below meth c H locs cells slots Q (F0 m pc ls (.int (iI b) :: .int (iI a) :: rest)) := by
  have e := iI_lt ⟨h.2, h.1⟩
  exact lv_icmp_gt S.1 S.2.1 hdg ht (fun q => kt (e.mp q)) (fun q => kf (fun r => q (e.mpr r)))
theorem xv_if_gt (S : CF p m c cc nL s args own) {a : Int} (h0 : -2147483648 ≤ a ∧ a ≤ 2147483647) {off : Int} {tgt : Nat} (hdg : decode cc pc = .ok (.ifCond .gt off, 3)) (ht : (pc : Int) + off = (tgt : Int)) (kt : 0 < a → W p l e R s m args below meth c H locs cells slots Q (F0 m tgt ls rest)) (kf : ¬ (0 < a) → W p l e R s m args below meth c H locs cells slots Q (F0 m (pc + 3) ls rest)) : W p l e R s m args below meth c H locs cells slots Q (F0 m pc ls (.int (iI a) :: rest)) := by
  have h : (-2147483648 ≤ a ∧ a ≤ 2147483647) ∧ (-2147483648 ≤ (0 : Int) ∧ (0 : Int) ≤ 2147483647) := by omega
  have e := iI_lt ⟨h.2, h.1⟩
  exact lv_if_gt S.1 S.2.1 hdg ht (fun q => kt (e.mp q)) (fun q => kf (fun r => q (e.mpr r)))
theorem xv_icmp_le (S : CF p m c cc nL s args own) {a b : Int} (h : (-2147483648 ≤ a ∧ a ≤ 2147483647) ∧ (-2147483648 ≤ b ∧ b ≤ 2147483647)) {off : Int} {tgt : Nat} (hdg : decode cc pc = .ok (.if_icmp .le off, 3)) (ht : (pc : Int) + off = (tgt : Int)) (kt : a ≤ b → W p l e R s m args below meth c H locs cells slots Q (F0 m tgt ls rest)) (kf : ¬ (a ≤ b) → W p l e R s m args below meth c H locs cells slots Q (F0 m (pc + 3) ls rest)) : W p l e R s m args below meth c H locs cells slots Q (F0 m pc ls (.int (iI b) :: .int (iI a) :: rest)) := by
  have e := iI_le h
  exact lv_icmp_le S.1 S.2.1 hdg ht (fun q => kt (e.mp q)) (fun q => kf (fun r => q (e.mpr r)))
theorem xv_if_le (S : CF p m c cc nL s args own) {a : Int} (h0 : -2147483648 ≤ a ∧ a ≤ 2147483647) {off : Int} {tgt : Nat} (hdg : decode cc pc = .ok (.ifCond .le off, 3)) (ht : (pc : Int) + off = (tgt : Int)) (kt : a ≤ 0 → W p l e R s m args below meth c H locs cells slots Q (F0 m tgt ls rest)) (kf : ¬ (a ≤ 0) → W p l e R s m args below meth c H locs cells slots Q (F0 m (pc + 3) ls rest)) : W p l e R s m args below meth c H locs cells slots Q (F0 m pc ls (.int (iI a) :: rest)) := by
  have h : (-2147483648 ≤ a ∧ a ≤ 2147483647) ∧ (-2147483648 ≤ (0 : Int) ∧ (0 : Int) ≤ 2147483647) := by omega
  have e := iI_le h
  exact lv_if_le S.1 S.2.1 hdg ht (fun q => kt (e.mp q)) (fun q => kf (fun r => q (e.mpr r)))
theorem xv_lcmp_eq (S : CF p m c cc nL s args own) {a b : Int} {off : Int} {tgt : Nat} (hd0 : decode cc pc = .ok (.lcmp, 1)) (hdg : decode cc (pc + 1) = .ok (.ifCond .eq off, 3)) (ht : ((pc + 1 : Nat) : Int) + off = (tgt : Int)) (kt : lI a = lI b → W p l e R s m args below meth c H locs cells slots Q (F0 m tgt ls rest)) (kf : ¬ (lI a = lI b) → W p l e R s m args below meth c H locs cells slots Q (F0 m (pc + 4) ls rest)) : W p l e R s m args below meth c H locs cells slots Q (F0 m pc ls (.long (lI b) :: .long (lI a) :: rest)) := by
  have e := lg_cmp_eq (lI a) (lI b)
  refine W.lcmp S.1 S.2.1 hd0 ?_
  exact lv_if_eq S.1 S.2.1 hdg ht (fun q => kt (e.mp q)) (fun q => kf (fun r => q (e.mpr r)))
theorem xv_lcmp_ne (S : CF p m c cc nL s args own) {a b : Int} {off : Int} {tgt : Nat} (hd0 : decode cc pc = .ok (.lcmp, 1)) (hdg : decode cc (pc + 1) = .ok (.ifCond .ne off, 3)) (ht : ((pc + 1 : Nat) : Int) + off = (tgt : Int)) (kt : ¬ lI a = lI b → W p l e R s m args below meth c H locs cells slots Q (F0 m tgt ls rest)) (kf : lI a = lI b → W p l e R s m args below meth c H locs cells slots Q (F0 m (pc + 4) ls rest)) : W p l e R s m args below meth c H locs cells slots Q (F0 m pc ls (.long (lI b) :: .long (lI a) :: rest)) := by
  have e := lg_cmp_eq (lI a) (lI b)
  refine W.lcmp S.1 S.2.1 hd0 ?_
  exact lv_if_ne S.1 S.2.1 hdg ht (fun q => kt ((not_congr e).mp q)) (fun q => kf (e.mp q))
theorem xv_lcmp_lt (S : CF p m c cc nL s args own) {a b : Int} {off : Int} {tgt : Nat} (hd0 : decode cc pc = .ok (.lcmp, 1)) (hdg : decode cc (pc + 1) = .ok (.ifCond .lt off, 3)) (ht : ((pc + 1 : Nat) : Int) + off = (tgt : Int)) (kt : lI a < lI b → W p l e R s m args below meth c H locs cells slots Q (F0 m tgt ls rest)) (kf : ¬ (lI a < lI b) → W p l e R s m args below meth c H locs cells slots Q (F0 m (pc + 4) ls rest)) : W p l e R s m args below meth c H locs cells slots Q (F0 m pc ls (.long (lI b) :: .long (lI a) :: rest)) := by
  have e := lg_cmp_lt (lI a) (lI b)
  refine W.lcmp S.1 S.2.1 hd0 ?_
  exact lv_if_lt S.1 S.2.1 hdg ht (fun q => kt (e.mp q)) (fun q => kf (fun r => q (e.mpr r)))
theorem xv_lcmp_ge (S : CF p m c cc nL s args own) {a b : Int} {off : Int} {tgt : Nat} (hd0 : decode cc pc = .ok (.lcmp, 1)) (hdg : decode cc (pc + 1) = .ok (.ifCond .ge off, 3)) (ht : ((pc + 1 : Nat) : Int) + off = (tgt : Int)) (kt : lI b ≤ lI a → W p l e R s m args below meth c H locs cells slots Q (F0 m tgt ls rest)) (kf : ¬ (lI b ≤ lI a) → W p l e R s m args below meth c H locs cells slots Q (F0 m (pc + 4) ls rest)) : W p l e R s m args below meth c H locs cells slots Q (F0 m pc ls (.long (lI b) :: .long (lI a) :: rest)) := by
  have e := lg_cmp_ge (lI a) (lI b)
  refine W.lcmp S.1 S.2.1 hd0 ?_
  exact lv_if_ge S.1 S.2.1 hdg ht (fun q => kt (e.mp q)) (fun q => kf (fun r => q (e.mpr r)))
theorem xv_lcmp_gt (S : CF p m c cc nL s args own) {a b : Int} {off : Int} {tgt : Nat} (hd0 : decode cc pc = .ok (.lcmp, 1)) (hdg : decode cc (pc + 1) = .ok (.ifCond .gt off, 3)) (ht : ((pc + 1 : Nat) : Int) + off = (tgt : Int)) (kt : lI b < lI a → W p l e R s m args below meth c H locs cells slots Q (F0 m tgt ls rest)) (kf : ¬ (lI b < lI a) → W p l e R s m args below meth c H locs cells slots Q (F0 m (pc + 4) ls rest)) : W p l e R s m args below meth c H locs cells slots Q (F0 m pc ls (.long (lI b) :: .long (lI a) :: rest)) := by
  have e := lg_cmp_gt (lI a) (lI b)
  refine W.lcmp S.1 S.2.1 hd0 ?_
  exact lv_if_gt S.1 S.2.1 hdg ht (fun q => kt (e.mp q)) (fun q => kf (fun r => q (e.mpr r)))
theorem xv_lcmp_le (S : CF p m c cc nL s args own) {a b : Int} {off : Int} {tgt : Nat} (hd0 : decode cc pc = .ok (.lcmp, 1)) (hdg : decode cc (pc + 1) = .ok (.ifCond .le off, 3)) (ht : ((pc + 1 : Nat) : Int) + off = (tgt : Int)) (kt : lI a ≤ lI b → W p l e R s m args below meth c H locs cells slots Q (F0 m tgt ls rest)) (kf : ¬ (lI a ≤ lI b) → W p l e R s m args below meth c H locs cells slots Q (F0 m (pc + 4) ls rest)) : W p l e R s m args below meth c H locs cells slots Q (F0 m pc ls (.long (lI b) :: .long (lI a) :: rest)) := by
  have e := lg_cmp_le (lI a) (lI b)
  refine W.lcmp S.1 S.2.1 hd0 ?_
  exact lv_if_le S.1 S.2.1 hdg ht (fun q => kt (e.mp q)) (fun q => kf (fun r => q (e.mpr r)))
theorem xv_tableOut (S : CF p m c cc nL s args own) {dflt lo hi : Int} {offs : Array Int} {len : Nat} {x : Int} {tgt : Nat} (hr : -2147483648 ≤ x ∧ x ≤ 2147483647) (hdg : decode cc pc = .ok (.tableswitch dflt lo hi offs, len)) (h : x < lo ∨ hi < x) (ht : (pc : Int) + dflt = (tgt : Int)) (k : W p l e R s m args below meth c H locs cells slots Q (F0 m tgt ls rest)) : W p l e R s m args below meth c H locs cells slots Q (F0 m pc ls (.int (iI x) :: rest)) := lv_tableOut S.1 S.2.1 hdg (by rw [iI_T hr]; exact h) ht k
theorem xv_tableIn (S : CF p m c cc nL s args own) {dflt lo hi : Int} {offs : Array Int} {len : Nat} {x : Int} {off : Int} {tgt : Nat} (y : Int) (hx : x = y) (hr : -2147483648 ≤ y ∧ y ≤ 2147483647) (hdg : decode cc pc = .ok (.tableswitch dflt lo hi offs, len)) (h1 : ¬ y < lo) (h2 : ¬ hi < y) (ho : offs[(y - lo).toNat]? = some off) (ht : (pc : Int) + off = (tgt : Int)) (k : W p l e R s m args below meth c H locs cells slots Q (F0 m tgt ls rest)) : W p l e R s m args below meth c H locs cells slots Q (F0 m pc ls (.int (iI x) :: rest)) := by
  subst hx
  exact lv_tableIn S.1 S.2.1 hdg (by rw [iI_T hr]; exact h1) (by rw [iI_T hr]; exact h2) (by rw [iI_T hr]; exact ho) ht k
theorem xv_lookup (S : CF p m c cc nL s args own) {dflt : Int} {ps : Array (Int × Int)} {len : Nat} {x : Int} {off : Int} {tgt : Nat} (hr : -2147483648 ≤ x ∧ x ≤ 2147483647) (hdg : decode cc pc = .ok (.lookupswitch dflt ps, len)) (hp : (ps.toList.zip (ps.toList.drop 1)).all (fun (a, next) => a.1 < next.1) = true) (ho : Op.lookupswitch.offset ps.toList dflt x = off) (ht : (pc : Int) + off = (tgt : Int)) (k : W p l e R s m args below meth c H locs cells slots Q (F0 m tgt ls rest)) : W p l e R s m args below meth c H locs cells slots Q (F0 m pc ls (.int (iI x) :: rest)) := lv_lookup S.1 S.2.1 hdg hp (by rw [iI_T hr]; exact ho) ht k
theorem xv_osw {x a o d : Int} {r : List (Int × Int)} (h : x ≠ a) : Op.lookupswitch.offset ((a, o) :: r) d x = Op.lookupswitch.offset r d x := by
  rw [Op.lookupswitch.offset_cons, if_neg]
  intro q
  exact h q.symm
variable {K : KT} {ws : va_W} {A : Nat → Prop} {H0 : Heap} {a : Nat}
theorem xa_iald (S : CF p m c cc nL s args own) (hK : xK K s) (hP : xP K ws H) (q0 : Nat) {cA : ClassId} {n : Nat} {N : Int → Int} {o : Int} (ha : ws[q0]? = some (a, .inl (cA, n, .inl (vI N o)))) (ht : (xT K)[0]? = some (cA, .int)) {z : Int} (i : Int) (hi : o + z = i) (hz : 0 ≤ z ∧ z < (n : Int)) (hn : n ≤ 2147483647) (hdg : decode cc pc = .ok (.iaload, 1)) (k : W p l e R s m args below meth c H locs cells slots Q (F0 m (pc + 1) ls (.int (iI (N i)) :: rest))) : W p l e R s m args below meth c H locs cells slots Q (F0 m pc ls (.int (iI z) :: .ref a :: rest)) := by
  refine va_iald S.1 S.2.1 hK hP q0 0 ha ht (iI_in hz hn) hdg ?_
  rw [iI_clamp (by omega), show vI N o z.toNat = iI (N i) by rw [← hi]; show iI (N (o + ((z.toNat : Nat) : Int))) = _; rw [Int.toNat_of_nonneg hz.1]]
  exact k
theorem xa_cald (S : CF p m c cc nL s args own) (hK : xK K s) (hP : xP K ws H) (q0 : Nat) {cA : ClassId} {n : Nat} {N : Int → Int} {o : Int} (ha : ws[q0]? = some (a, .inl (cA, n, .inl (vI N o)))) (ht : (xT K)[2]? = some (cA, .char)) {z : Int} (i : Int) (hi : o + z = i) (hz : 0 ≤ z ∧ z < (n : Int)) (hn : n ≤ 2147483647) (hdg : decode cc pc = .ok (.caload, 1)) (k : W p l e R s m args below meth c H locs cells slots Q (F0 m (pc + 1) ls (.int (iI (N i)) :: rest))) : W p l e R s m args below meth c H locs cells slots Q (F0 m pc ls (.int (iI z) :: .ref a :: rest)) := by
  refine va_cald S.1 S.2.1 hK hP q0 2 ha ht (iI_in hz hn) hdg ?_
  rw [iI_clamp (by omega), show vI N o z.toNat = iI (N i) by rw [← hi]; show iI (N (o + ((z.toNat : Nat) : Int))) = _; rw [Int.toNat_of_nonneg hz.1]]
  exact k
theorem xa_lald (S : CF p m c cc nL s args own) (hK : xK K s) (hP : xP K ws H) (q0 : Nat) {cA : ClassId} {n : Nat} {N : Int → Int} {o : Int} (ha : ws[q0]? = some (a, .inl (cA, n, .inr (.inl (vL N o))))) (ht : (xT K)[1]? = some (cA, .long)) {z : Int} (i : Int) (hi : o + z = i) (hz : 0 ≤ z ∧ z < (n : Int)) (hn : n ≤ 2147483647) (hdg : decode cc pc = .ok (.laload, 1)) (k : W p l e R s m args below meth c H locs cells slots Q (F0 m (pc + 1) ls (.long (lI (N i)) :: rest))) : W p l e R s m args below meth c H locs cells slots Q (F0 m pc ls (.int (iI z) :: .ref a :: rest)) := by
  refine va_lald S.1 S.2.1 hK hP q0 1 ha ht (iI_in hz hn) hdg ?_
  rw [iI_clamp (by omega), show vL N o z.toNat = lI (N i) by rw [← hi]; show lI (N (o + ((z.toNat : Nat) : Int))) = _; rw [Int.toNat_of_nonneg hz.1]]
  exact k
theorem xa_iast (S : CF p m c cc nL s args own) (hK : xK K s) (hP : xP K ws H) (hD : va_D A ws) (hS : va_S A H0 H locs) (q0 : Nat) {cA : ClassId} {n : Nat} {f : Nat → Int32} (ha : ws[q0]? = some (a, .inl (cA, n, .inl f))) (ht : (xT K)[0]? = some (cA, .int)) {z v : Int} (hz : 0 ≤ z ∧ z < (n : Int)) (hn : n ≤ 2147483647) (hdg : decode cc pc = .ok (.iastore, 1)) {ws' : va_W} (hup : ∀ H1, xP K (ws.set q0 (a, .inl (cA, n, .inl (upd f z.toNat (iI v))))) H1 → xP K ws' H1) (kk : ∀ (H1 : Heap) (locs1 : List Loc), xP K ws' H1 → va_S A H0 H1 locs1 → W p l e R s m args below meth c H1 locs1 cells slots Q (F0 m (pc + 1) ls rest)) : W p l e R s m args below meth c H locs cells slots Q (F0 m pc ls (.int (iI v) :: .int (iI z) :: .ref a :: rest)) := by
  refine va_iast S.1 S.2.1 hK hP hD hS q0 0 ha ht (iI_in hz hn) hdg (fun H1 locs1 h1 _ h3 => kk H1 locs1 (hup H1 ?_) h3)
  rw [iI_clamp (by omega)] at h1
  exact h1
theorem xa_last (S : CF p m c cc nL s args own) (hK : xK K s) (hP : xP K ws H) (hD : va_D A ws) (hS : va_S A H0 H locs) (q0 : Nat) {cA : ClassId} {n : Nat} {f : Nat → Int64} (ha : ws[q0]? = some (a, .inl (cA, n, .inr (.inl f)))) (ht : (xT K)[1]? = some (cA, .long)) {z v : Int} (hz : 0 ≤ z ∧ z < (n : Int)) (hn : n ≤ 2147483647) (hdg : decode cc pc = .ok (.lastore, 1)) {ws' : va_W} (hup : ∀ H1, xP K (ws.set q0 (a, .inl (cA, n, .inr (.inl (vp_updL f z.toNat (lI v)))))) H1 → xP K ws' H1) (kk : ∀ (H1 : Heap) (locs1 : List Loc), xP K ws' H1 → va_S A H0 H1 locs1 → W p l e R s m args below meth c H1 locs1 cells slots Q (F0 m (pc + 1) ls rest)) : W p l e R s m args below meth c H locs cells slots Q (F0 m pc ls (.long (lI v) :: .int (iI z) :: .ref a :: rest)) := by
  refine va_last S.1 S.2.1 hK hP hD hS q0 1 ha ht (iI_in hz hn) hdg (fun H1 locs1 h1 _ h3 => kk H1 locs1 (hup H1 ?_) h3)
  rw [iI_clamp (by omega)] at h1
  exact h1
theorem xa_cast (S : CF p m c cc nL s args own) (hK : xK K s) (hP : xP K ws H) (hD : va_D A ws) (hS : va_S A H0 H locs) (q0 : Nat) {cA : ClassId} {n : Nat} {f : Nat → Int32} (ha : ws[q0]? = some (a, .inl (cA, n, .inl f))) (ht : (xT K)[2]? = some (cA, .char)) {z v : Int} (hz : 0 ≤ z ∧ z < (n : Int)) (hv : 0 ≤ v ∧ v < 65536) (hn : n ≤ 2147483647) (hdg : decode cc pc = .ok (.castore, 1)) {ws' : va_W} (hup : ∀ H1, xP K (ws.set q0 (a, .inl (cA, n, .inl (upd f z.toNat (iI v))))) H1 → xP K ws' H1) (kk : ∀ (H1 : Heap) (locs1 : List Loc), xP K ws' H1 → va_S A H0 H1 locs1 → W p l e R s m args below meth c H1 locs1 cells slots Q (F0 m (pc + 1) ls rest)) : W p l e R s m args below meth c H locs cells slots Q (F0 m pc ls (.int (iI v) :: .int (iI z) :: .ref a :: rest)) := by
  refine va_cast S.1 S.2.1 hK hP hD hS q0 2 ha ht (iI_in hz hn) hdg (fun H1 locs1 h1 _ h3 => kk H1 locs1 (hup H1 ?_) h3)
  have e : vp_nar .char (iI v) = iI v := by
    rw [show v = ((v.toNat : Nat) : Int) by omega, iI_ofNat]
    have h9 := (pk_charN (q := v.toNat) (by omega)).1
    show (match narrow .char (.int (nI v.toNat)) with | .int y => y | _ => 0) = nI v.toNat
    rw [h9]
  rw [iI_clamp (by omega), e] at h1
  exact h1
theorem g0_number (S : CF p m c cc nL s args own) (hK : xK K s) (hP : xP K ws H) (q0 : Nat) {fs : List Value} (he : ws[q0]? = some (a, .inr (0, fs))) {v : Value} (hv : fs[0]? = some v) {index : Nat} (hm : (Cond.fieldLink own index "SealedStores$Bonds" "number" "I") ∈ xtb) (hdg : decode cc pc = .ok (.getfield index, 3)) (k : W p l e R s m args below meth c H locs cells slots Q (F0 m (pc + 3) ls (v :: rest))) : W p l e R s m args below meth c H locs cells slots Q (F0 m pc ls (.ref a :: rest)) := va_get S.1 S.2.1 S.2.2.2.2 inX0 S.2.2.2.1 hK hP q0 he rfl 0 (by decide) (S.2.2.2.2 _ hm) (fun _ h9 => h9) hv hdg k
theorem p0_number (S : CF p m c cc nL s args own) (hK : xK K s) (hP : xP K ws H) (hD : va_D A ws) (hS : va_S A H0 H locs) (q0 : Nat) {fs : List Value} (he : ws[q0]? = some (a, .inr (0, fs))) (hl : 0 < fs.length) {index : Nat} {v : Int} (hm : (Cond.fieldLink own index "SealedStores$Bonds" "number" "I") ∈ xtb) (hdg : decode cc pc = .ok (.putfield index, 3)) {ws' : va_W} (hup : ∀ H1, xP K (ws.set q0 (a, .inr (0, fs.set 0 (.int (iI v))))) H1 → xP K ws' H1) (kk : ∀ (H1 : Heap) (locs1 : List Loc), xP K ws' H1 → va_S A H0 H1 locs1 → W p l e R s m args below meth c H1 locs1 cells slots Q (F0 m (pc + 3) ls rest)) : W p l e R s m args below meth c H locs cells slots Q (F0 m pc ls (.int (iI v) :: .ref a :: rest)) := va_put S.1 S.2.1 S.2.2.2.2 inX0 tyX0 tyX0_ok nmX0 S.2.2.2.1 hK hP hD hS q0 he rfl 0 (by decide) (S.2.2.2.2 _ hm) (fun _ h9 => h9) rfl (ty := .int) (by decide +kernel) rfl rfl hl hdg (fun H1 locs1 h1 _ h3 => kk H1 locs1 (hup H1 h1) h3)
theorem g0_amountMade (S : CF p m c cc nL s args own) (hK : xK K s) (hP : xP K ws H) (q0 : Nat) {fs : List Value} (he : ws[q0]? = some (a, .inr (0, fs))) {v : Value} (hv : fs[1]? = some v) {index : Nat} (hm : (Cond.fieldLink own index "SealedStores$Bonds" "amountMade" "J") ∈ xtb) (hdg : decode cc pc = .ok (.getfield index, 3)) (k : W p l e R s m args below meth c H locs cells slots Q (F0 m (pc + 3) ls (v :: rest))) : W p l e R s m args below meth c H locs cells slots Q (F0 m pc ls (.ref a :: rest)) := va_get S.1 S.2.1 S.2.2.2.2 inX0 S.2.2.2.1 hK hP q0 he rfl 1 (by decide) (S.2.2.2.2 _ hm) (fun _ h9 => h9) hv hdg k
theorem p0_amountMade (S : CF p m c cc nL s args own) (hK : xK K s) (hP : xP K ws H) (hD : va_D A ws) (hS : va_S A H0 H locs) (q0 : Nat) {fs : List Value} (he : ws[q0]? = some (a, .inr (0, fs))) (hl : 1 < fs.length) {index : Nat} {v : Int} (hm : (Cond.fieldLink own index "SealedStores$Bonds" "amountMade" "J") ∈ xtb) (hdg : decode cc pc = .ok (.putfield index, 3)) {ws' : va_W} (hup : ∀ H1, xP K (ws.set q0 (a, .inr (0, fs.set 1 (.long (lI v))))) H1 → xP K ws' H1) (kk : ∀ (H1 : Heap) (locs1 : List Loc), xP K ws' H1 → va_S A H0 H1 locs1 → W p l e R s m args below meth c H1 locs1 cells slots Q (F0 m (pc + 3) ls rest)) : W p l e R s m args below meth c H locs cells slots Q (F0 m pc ls (.long (lI v) :: .ref a :: rest)) := va_put S.1 S.2.1 S.2.2.2.2 inX0 tyX0 tyX0_ok nmX0 S.2.2.2.1 hK hP hD hS q0 he rfl 1 (by decide) (S.2.2.2.2 _ hm) (fun _ h9 => h9) rfl (ty := .long) (by decide +kernel) rfl rfl hl hdg (fun H1 locs1 h1 _ h3 => kk H1 locs1 (hup H1 h1) h3)
theorem g0_good (S : CF p m c cc nL s args own) (hK : xK K s) (hP : xP K ws H) (q0 : Nat) {fs : List Value} (he : ws[q0]? = some (a, .inr (0, fs))) {v : Value} (hv : fs[2]? = some v) {index : Nat} (hm : (Cond.fieldLink own index "SealedStores$Bonds" "good" "[I") ∈ xtb) (hdg : decode cc pc = .ok (.getfield index, 3)) (k : W p l e R s m args below meth c H locs cells slots Q (F0 m (pc + 3) ls (v :: rest))) : W p l e R s m args below meth c H locs cells slots Q (F0 m pc ls (.ref a :: rest)) := va_get S.1 S.2.1 S.2.2.2.2 inX0 S.2.2.2.1 hK hP q0 he rfl 2 (by decide) (S.2.2.2.2 _ hm) (fun _ h9 => h9) hv hdg k
theorem g0_made (S : CF p m c cc nL s args own) (hK : xK K s) (hP : xP K ws H) (q0 : Nat) {fs : List Value} (he : ws[q0]? = some (a, .inr (0, fs))) {v : Value} (hv : fs[3]? = some v) {index : Nat} (hm : (Cond.fieldLink own index "SealedStores$Bonds" "made" "[I") ∈ xtb) (hdg : decode cc pc = .ok (.getfield index, 3)) (k : W p l e R s m args below meth c H locs cells slots Q (F0 m (pc + 3) ls (v :: rest))) : W p l e R s m args below meth c H locs cells slots Q (F0 m pc ls (.ref a :: rest)) := va_get S.1 S.2.1 S.2.2.2.2 inX0 S.2.2.2.1 hK hP q0 he rfl 3 (by decide) (S.2.2.2.2 _ hm) (fun _ h9 => h9) hv hdg k
theorem g0_left (S : CF p m c cc nL s args own) (hK : xK K s) (hP : xP K ws H) (q0 : Nat) {fs : List Value} (he : ws[q0]? = some (a, .inr (0, fs))) {v : Value} (hv : fs[4]? = some v) {index : Nat} (hm : (Cond.fieldLink own index "SealedStores$Bonds" "left" "[I") ∈ xtb) (hdg : decode cc pc = .ok (.getfield index, 3)) (k : W p l e R s m args below meth c H locs cells slots Q (F0 m (pc + 3) ls (v :: rest))) : W p l e R s m args below meth c H locs cells slots Q (F0 m pc ls (.ref a :: rest)) := va_get S.1 S.2.1 S.2.2.2.2 inX0 S.2.2.2.1 hK hP q0 he rfl 4 (by decide) (S.2.2.2.2 _ hm) (fun _ h9 => h9) hv hdg k
theorem g0_duty (S : CF p m c cc nL s args own) (hK : xK K s) (hP : xP K ws H) (q0 : Nat) {fs : List Value} (he : ws[q0]? = some (a, .inr (0, fs))) {v : Value} (hv : fs[5]? = some v) {index : Nat} (hm : (Cond.fieldLink own index "SealedStores$Bonds" "duty" "[I") ∈ xtb) (hdg : decode cc pc = .ok (.getfield index, 3)) (k : W p l e R s m args below meth c H locs cells slots Q (F0 m (pc + 3) ls (v :: rest))) : W p l e R s m args below meth c H locs cells slots Q (F0 m pc ls (.ref a :: rest)) := va_get S.1 S.2.1 S.2.2.2.2 inX0 S.2.2.2.1 hK hP q0 he rfl 5 (by decide) (S.2.2.2.2 _ hm) (fun _ h9 => h9) hv hdg k
theorem g0_due (S : CF p m c cc nL s args own) (hK : xK K s) (hP : xP K ws H) (q0 : Nat) {fs : List Value} (he : ws[q0]? = some (a, .inr (0, fs))) {v : Value} (hv : fs[6]? = some v) {index : Nat} (hm : (Cond.fieldLink own index "SealedStores$Bonds" "due" "[I") ∈ xtb) (hdg : decode cc pc = .ok (.getfield index, 3)) (k : W p l e R s m args below meth c H locs cells slots Q (F0 m (pc + 3) ls (v :: rest))) : W p l e R s m args below meth c H locs cells slots Q (F0 m pc ls (.ref a :: rest)) := va_get S.1 S.2.1 S.2.2.2.2 inX0 S.2.2.2.1 hK hP q0 he rfl 6 (by decide) (S.2.2.2.2 _ hm) (fun _ h9 => h9) hv hdg k
theorem g1_number (S : CF p m c cc nL s args own) (hK : xK K s) (hP : xP K ws H) (q0 : Nat) {fs : List Value} (he : ws[q0]? = some (a, .inr (1, fs))) {v : Value} (hv : fs[0]? = some v) {index : Nat} (hm : (Cond.fieldLink own index "SealedStores$History" "number" "I") ∈ xtb) (hdg : decode cc pc = .ok (.getfield index, 3)) (k : W p l e R s m args below meth c H locs cells slots Q (F0 m (pc + 3) ls (v :: rest))) : W p l e R s m args below meth c H locs cells slots Q (F0 m pc ls (.ref a :: rest)) := va_get S.1 S.2.1 S.2.2.2.2 inX1 S.2.2.2.1 hK hP q0 he rfl 0 (by decide) (S.2.2.2.2 _ hm) (fun _ h9 => h9) hv hdg k
theorem p1_number (S : CF p m c cc nL s args own) (hK : xK K s) (hP : xP K ws H) (hD : va_D A ws) (hS : va_S A H0 H locs) (q0 : Nat) {fs : List Value} (he : ws[q0]? = some (a, .inr (1, fs))) (hl : 0 < fs.length) {index : Nat} {v : Int} (hm : (Cond.fieldLink own index "SealedStores$History" "number" "I") ∈ xtb) (hdg : decode cc pc = .ok (.putfield index, 3)) {ws' : va_W} (hup : ∀ H1, xP K (ws.set q0 (a, .inr (1, fs.set 0 (.int (iI v))))) H1 → xP K ws' H1) (kk : ∀ (H1 : Heap) (locs1 : List Loc), xP K ws' H1 → va_S A H0 H1 locs1 → W p l e R s m args below meth c H1 locs1 cells slots Q (F0 m (pc + 3) ls rest)) : W p l e R s m args below meth c H locs cells slots Q (F0 m pc ls (.int (iI v) :: .ref a :: rest)) := va_put S.1 S.2.1 S.2.2.2.2 inX1 tyX1 tyX1_ok nmX1 S.2.2.2.1 hK hP hD hS q0 he rfl 0 (by decide) (S.2.2.2.2 _ hm) (fun _ h9 => h9) rfl (ty := .int) (by decide +kernel) rfl rfl hl hdg (fun H1 locs1 h1 _ h3 => kk H1 locs1 (hup H1 h1) h3)
theorem g1_latest (S : CF p m c cc nL s args own) (hK : xK K s) (hP : xP K ws H) (q0 : Nat) {fs : List Value} (he : ws[q0]? = some (a, .inr (1, fs))) {v : Value} (hv : fs[1]? = some v) {index : Nat} (hm : (Cond.fieldLink own index "SealedStores$History" "latest" "I") ∈ xtb) (hdg : decode cc pc = .ok (.getfield index, 3)) (k : W p l e R s m args below meth c H locs cells slots Q (F0 m (pc + 3) ls (v :: rest))) : W p l e R s m args below meth c H locs cells slots Q (F0 m pc ls (.ref a :: rest)) := va_get S.1 S.2.1 S.2.2.2.2 inX1 S.2.2.2.1 hK hP q0 he rfl 1 (by decide) (S.2.2.2.2 _ hm) (fun _ h9 => h9) hv hdg k
theorem p1_latest (S : CF p m c cc nL s args own) (hK : xK K s) (hP : xP K ws H) (hD : va_D A ws) (hS : va_S A H0 H locs) (q0 : Nat) {fs : List Value} (he : ws[q0]? = some (a, .inr (1, fs))) (hl : 1 < fs.length) {index : Nat} {v : Int} (hm : (Cond.fieldLink own index "SealedStores$History" "latest" "I") ∈ xtb) (hdg : decode cc pc = .ok (.putfield index, 3)) {ws' : va_W} (hup : ∀ H1, xP K (ws.set q0 (a, .inr (1, fs.set 1 (.int (iI v))))) H1 → xP K ws' H1) (kk : ∀ (H1 : Heap) (locs1 : List Loc), xP K ws' H1 → va_S A H0 H1 locs1 → W p l e R s m args below meth c H1 locs1 cells slots Q (F0 m (pc + 3) ls rest)) : W p l e R s m args below meth c H locs cells slots Q (F0 m pc ls (.int (iI v) :: .ref a :: rest)) := va_put S.1 S.2.1 S.2.2.2.2 inX1 tyX1 tyX1_ok nmX1 S.2.2.2.1 hK hP hD hS q0 he rfl 1 (by decide) (S.2.2.2.2 _ hm) (fun _ h9 => h9) rfl (ty := .int) (by decide +kernel) rfl rfl hl hdg (fun H1 locs1 h1 _ h3 => kk H1 locs1 (hup H1 h1) h3)
theorem g1_states (S : CF p m c cc nL s args own) (hK : xK K s) (hP : xP K ws H) (q0 : Nat) {fs : List Value} (he : ws[q0]? = some (a, .inr (1, fs))) {v : Value} (hv : fs[2]? = some v) {index : Nat} (hm : (Cond.fieldLink own index "SealedStores$History" "states" "[LSealedStores$Ship;") ∈ xtb) (hdg : decode cc pc = .ok (.getfield index, 3)) (k : W p l e R s m args below meth c H locs cells slots Q (F0 m (pc + 3) ls (v :: rest))) : W p l e R s m args below meth c H locs cells slots Q (F0 m pc ls (.ref a :: rest)) := va_get S.1 S.2.1 S.2.2.2.2 inX1 S.2.2.2.1 hK hP q0 he rfl 2 (by decide) (S.2.2.2.2 _ hm) (fun _ h9 => h9) hv hdg k
theorem g2_number (S : CF p m c cc nL s args own) (hK : xK K s) (hP : xP K ws H) (q0 : Nat) {fs : List Value} (he : ws[q0]? = some (a, .inr (2, fs))) {v : Value} (hv : fs[0]? = some v) {index : Nat} (hm : (Cond.fieldLink own index "SealedStores$Lockers" "number" "I") ∈ xtb) (hdg : decode cc pc = .ok (.getfield index, 3)) (k : W p l e R s m args below meth c H locs cells slots Q (F0 m (pc + 3) ls (v :: rest))) : W p l e R s m args below meth c H locs cells slots Q (F0 m pc ls (.ref a :: rest)) := va_get S.1 S.2.1 S.2.2.2.2 inX2 S.2.2.2.1 hK hP q0 he rfl 0 (by decide) (S.2.2.2.2 _ hm) (fun _ h9 => h9) hv hdg k
theorem p2_number (S : CF p m c cc nL s args own) (hK : xK K s) (hP : xP K ws H) (hD : va_D A ws) (hS : va_S A H0 H locs) (q0 : Nat) {fs : List Value} (he : ws[q0]? = some (a, .inr (2, fs))) (hl : 0 < fs.length) {index : Nat} {v : Int} (hm : (Cond.fieldLink own index "SealedStores$Lockers" "number" "I") ∈ xtb) (hdg : decode cc pc = .ok (.putfield index, 3)) {ws' : va_W} (hup : ∀ H1, xP K (ws.set q0 (a, .inr (2, fs.set 0 (.int (iI v))))) H1 → xP K ws' H1) (kk : ∀ (H1 : Heap) (locs1 : List Loc), xP K ws' H1 → va_S A H0 H1 locs1 → W p l e R s m args below meth c H1 locs1 cells slots Q (F0 m (pc + 3) ls rest)) : W p l e R s m args below meth c H locs cells slots Q (F0 m pc ls (.int (iI v) :: .ref a :: rest)) := va_put S.1 S.2.1 S.2.2.2.2 inX2 tyX2 tyX2_ok nmX2 S.2.2.2.1 hK hP hD hS q0 he rfl 0 (by decide) (S.2.2.2.2 _ hm) (fun _ h9 => h9) rfl (ty := .int) (by decide +kernel) rfl rfl hl hdg (fun H1 locs1 h1 _ h3 => kk H1 locs1 (hup H1 h1) h3)
theorem g2_state (S : CF p m c cc nL s args own) (hK : xK K s) (hP : xP K ws H) (q0 : Nat) {fs : List Value} (he : ws[q0]? = some (a, .inr (2, fs))) {v : Value} (hv : fs[1]? = some v) {index : Nat} (hm : (Cond.fieldLink own index "SealedStores$Lockers" "state" "[I") ∈ xtb) (hdg : decode cc pc = .ok (.getfield index, 3)) (k : W p l e R s m args below meth c H locs cells slots Q (F0 m (pc + 3) ls (v :: rest))) : W p l e R s m args below meth c H locs cells slots Q (F0 m pc ls (.ref a :: rest)) := va_get S.1 S.2.1 S.2.2.2.2 inX2 S.2.2.2.1 hK hP q0 he rfl 1 (by decide) (S.2.2.2.2 _ hm) (fun _ h9 => h9) hv hdg k
theorem g2_seal (S : CF p m c cc nL s args own) (hK : xK K s) (hP : xP K ws H) (q0 : Nat) {fs : List Value} (he : ws[q0]? = some (a, .inr (2, fs))) {v : Value} (hv : fs[2]? = some v) {index : Nat} (hm : (Cond.fieldLink own index "SealedStores$Lockers" "seal" "[I") ∈ xtb) (hdg : decode cc pc = .ok (.getfield index, 3)) (k : W p l e R s m args below meth c H locs cells slots Q (F0 m (pc + 3) ls (v :: rest))) : W p l e R s m args below meth c H locs cells slots Q (F0 m pc ls (.ref a :: rest)) := va_get S.1 S.2.1 S.2.2.2.2 inX2 S.2.2.2.1 hK hP q0 he rfl 2 (by decide) (S.2.2.2.2 _ hm) (fun _ h9 => h9) hv hdg k
theorem g2_units (S : CF p m c cc nL s args own) (hK : xK K s) (hP : xP K ws H) (q0 : Nat) {fs : List Value} (he : ws[q0]? = some (a, .inr (2, fs))) {v : Value} (hv : fs[3]? = some v) {index : Nat} (hm : (Cond.fieldLink own index "SealedStores$Lockers" "units" "[I") ∈ xtb) (hdg : decode cc pc = .ok (.getfield index, 3)) (k : W p l e R s m args below meth c H locs cells slots Q (F0 m (pc + 3) ls (v :: rest))) : W p l e R s m args below meth c H locs cells slots Q (F0 m pc ls (.ref a :: rest)) := va_get S.1 S.2.1 S.2.2.2.2 inX2 S.2.2.2.1 hK hP q0 he rfl 3 (by decide) (S.2.2.2.2 _ hm) (fun _ h9 => h9) hv hdg k
theorem g2_missing (S : CF p m c cc nL s args own) (hK : xK K s) (hP : xP K ws H) (q0 : Nat) {fs : List Value} (he : ws[q0]? = some (a, .inr (2, fs))) {v : Value} (hv : fs[4]? = some v) {index : Nat} (hm : (Cond.fieldLink own index "SealedStores$Lockers" "missing" "[I") ∈ xtb) (hdg : decode cc pc = .ok (.getfield index, 3)) (k : W p l e R s m args below meth c H locs cells slots Q (F0 m (pc + 3) ls (v :: rest))) : W p l e R s m args below meth c H locs cells slots Q (F0 m pc ls (.ref a :: rest)) := va_get S.1 S.2.1 S.2.2.2.2 inX2 S.2.2.2.1 hK hP q0 he rfl 4 (by decide) (S.2.2.2.2 _ hm) (fun _ h9 => h9) hv hdg k
theorem g3_length (S : CF p m c cc nL s args own) (hK : xK K s) (hP : xP K ws H) (q0 : Nat) {fs : List Value} (he : ws[q0]? = some (a, .inr (3, fs))) {v : Value} (hv : fs[0]? = some v) {index : Nat} (hm : (Cond.fieldLink own index "SealedStores$OrderLog" "length" "I") ∈ xtb) (hdg : decode cc pc = .ok (.getfield index, 3)) (k : W p l e R s m args below meth c H locs cells slots Q (F0 m (pc + 3) ls (v :: rest))) : W p l e R s m args below meth c H locs cells slots Q (F0 m pc ls (.ref a :: rest)) := va_get S.1 S.2.1 S.2.2.2.2 inX3 S.2.2.2.1 hK hP q0 he rfl 0 (by decide) (S.2.2.2.2 _ hm) (fun _ h9 => h9) hv hdg k
theorem p3_length (S : CF p m c cc nL s args own) (hK : xK K s) (hP : xP K ws H) (hD : va_D A ws) (hS : va_S A H0 H locs) (q0 : Nat) {fs : List Value} (he : ws[q0]? = some (a, .inr (3, fs))) (hl : 0 < fs.length) {index : Nat} {v : Int} (hm : (Cond.fieldLink own index "SealedStores$OrderLog" "length" "I") ∈ xtb) (hdg : decode cc pc = .ok (.putfield index, 3)) {ws' : va_W} (hup : ∀ H1, xP K (ws.set q0 (a, .inr (3, fs.set 0 (.int (iI v))))) H1 → xP K ws' H1) (kk : ∀ (H1 : Heap) (locs1 : List Loc), xP K ws' H1 → va_S A H0 H1 locs1 → W p l e R s m args below meth c H1 locs1 cells slots Q (F0 m (pc + 3) ls rest)) : W p l e R s m args below meth c H locs cells slots Q (F0 m pc ls (.int (iI v) :: .ref a :: rest)) := va_put S.1 S.2.1 S.2.2.2.2 inX3 tyX3 tyX3_ok nmX3 S.2.2.2.1 hK hP hD hS q0 he rfl 0 (by decide) (S.2.2.2.2 _ hm) (fun _ h9 => h9) rfl (ty := .int) (by decide +kernel) rfl rfl hl hdg (fun H1 locs1 h1 _ h3 => kk H1 locs1 (hup H1 h1) h3)
theorem g3_faultPosition (S : CF p m c cc nL s args own) (hK : xK K s) (hP : xP K ws H) (q0 : Nat) {fs : List Value} (he : ws[q0]? = some (a, .inr (3, fs))) {v : Value} (hv : fs[1]? = some v) {index : Nat} (hm : (Cond.fieldLink own index "SealedStores$OrderLog" "faultPosition" "I") ∈ xtb) (hdg : decode cc pc = .ok (.getfield index, 3)) (k : W p l e R s m args below meth c H locs cells slots Q (F0 m (pc + 3) ls (v :: rest))) : W p l e R s m args below meth c H locs cells slots Q (F0 m pc ls (.ref a :: rest)) := va_get S.1 S.2.1 S.2.2.2.2 inX3 S.2.2.2.1 hK hP q0 he rfl 1 (by decide) (S.2.2.2.2 _ hm) (fun _ h9 => h9) hv hdg k
theorem p3_faultPosition (S : CF p m c cc nL s args own) (hK : xK K s) (hP : xP K ws H) (hD : va_D A ws) (hS : va_S A H0 H locs) (q0 : Nat) {fs : List Value} (he : ws[q0]? = some (a, .inr (3, fs))) (hl : 1 < fs.length) {index : Nat} {v : Int} (hm : (Cond.fieldLink own index "SealedStores$OrderLog" "faultPosition" "I") ∈ xtb) (hdg : decode cc pc = .ok (.putfield index, 3)) {ws' : va_W} (hup : ∀ H1, xP K (ws.set q0 (a, .inr (3, fs.set 1 (.int (iI v))))) H1 → xP K ws' H1) (kk : ∀ (H1 : Heap) (locs1 : List Loc), xP K ws' H1 → va_S A H0 H1 locs1 → W p l e R s m args below meth c H1 locs1 cells slots Q (F0 m (pc + 3) ls rest)) : W p l e R s m args below meth c H locs cells slots Q (F0 m pc ls (.int (iI v) :: .ref a :: rest)) := va_put S.1 S.2.1 S.2.2.2.2 inX3 tyX3 tyX3_ok nmX3 S.2.2.2.1 hK hP hD hS q0 he rfl 1 (by decide) (S.2.2.2.2 _ hm) (fun _ h9 => h9) rfl (ty := .int) (by decide +kernel) rfl rfl hl hdg (fun H1 locs1 h1 _ h3 => kk H1 locs1 (hup H1 h1) h3)
theorem g3_faultReason (S : CF p m c cc nL s args own) (hK : xK K s) (hP : xP K ws H) (q0 : Nat) {fs : List Value} (he : ws[q0]? = some (a, .inr (3, fs))) {v : Value} (hv : fs[2]? = some v) {index : Nat} (hm : (Cond.fieldLink own index "SealedStores$OrderLog" "faultReason" "I") ∈ xtb) (hdg : decode cc pc = .ok (.getfield index, 3)) (k : W p l e R s m args below meth c H locs cells slots Q (F0 m (pc + 3) ls (v :: rest))) : W p l e R s m args below meth c H locs cells slots Q (F0 m pc ls (.ref a :: rest)) := va_get S.1 S.2.1 S.2.2.2.2 inX3 S.2.2.2.1 hK hP q0 he rfl 2 (by decide) (S.2.2.2.2 _ hm) (fun _ h9 => h9) hv hdg k
theorem p3_faultReason (S : CF p m c cc nL s args own) (hK : xK K s) (hP : xP K ws H) (hD : va_D A ws) (hS : va_S A H0 H locs) (q0 : Nat) {fs : List Value} (he : ws[q0]? = some (a, .inr (3, fs))) (hl : 2 < fs.length) {index : Nat} {v : Int} (hm : (Cond.fieldLink own index "SealedStores$OrderLog" "faultReason" "I") ∈ xtb) (hdg : decode cc pc = .ok (.putfield index, 3)) {ws' : va_W} (hup : ∀ H1, xP K (ws.set q0 (a, .inr (3, fs.set 2 (.int (iI v))))) H1 → xP K ws' H1) (kk : ∀ (H1 : Heap) (locs1 : List Loc), xP K ws' H1 → va_S A H0 H1 locs1 → W p l e R s m args below meth c H1 locs1 cells slots Q (F0 m (pc + 3) ls rest)) : W p l e R s m args below meth c H locs cells slots Q (F0 m pc ls (.int (iI v) :: .ref a :: rest)) := va_put S.1 S.2.1 S.2.2.2.2 inX3 tyX3 tyX3_ok nmX3 S.2.2.2.1 hK hP hD hS q0 he rfl 2 (by decide) (S.2.2.2.2 _ hm) (fun _ h9 => h9) rfl (ty := .int) (by decide +kernel) rfl rfl hl hdg (fun H1 locs1 h1 _ h3 => kk H1 locs1 (hup H1 h1) h3)
theorem g3_faultCause (S : CF p m c cc nL s args own) (hK : xK K s) (hP : xP K ws H) (q0 : Nat) {fs : List Value} (he : ws[q0]? = some (a, .inr (3, fs))) {v : Value} (hv : fs[3]? = some v) {index : Nat} (hm : (Cond.fieldLink own index "SealedStores$OrderLog" "faultCause" "I") ∈ xtb) (hdg : decode cc pc = .ok (.getfield index, 3)) (k : W p l e R s m args below meth c H locs cells slots Q (F0 m (pc + 3) ls (v :: rest))) : W p l e R s m args below meth c H locs cells slots Q (F0 m pc ls (.ref a :: rest)) := va_get S.1 S.2.1 S.2.2.2.2 inX3 S.2.2.2.1 hK hP q0 he rfl 3 (by decide) (S.2.2.2.2 _ hm) (fun _ h9 => h9) hv hdg k
theorem p3_faultCause (S : CF p m c cc nL s args own) (hK : xK K s) (hP : xP K ws H) (hD : va_D A ws) (hS : va_S A H0 H locs) (q0 : Nat) {fs : List Value} (he : ws[q0]? = some (a, .inr (3, fs))) (hl : 3 < fs.length) {index : Nat} {v : Int} (hm : (Cond.fieldLink own index "SealedStores$OrderLog" "faultCause" "I") ∈ xtb) (hdg : decode cc pc = .ok (.putfield index, 3)) {ws' : va_W} (hup : ∀ H1, xP K (ws.set q0 (a, .inr (3, fs.set 3 (.int (iI v))))) H1 → xP K ws' H1) (kk : ∀ (H1 : Heap) (locs1 : List Loc), xP K ws' H1 → va_S A H0 H1 locs1 → W p l e R s m args below meth c H1 locs1 cells slots Q (F0 m (pc + 3) ls rest)) : W p l e R s m args below meth c H locs cells slots Q (F0 m pc ls (.int (iI v) :: .ref a :: rest)) := va_put S.1 S.2.1 S.2.2.2.2 inX3 tyX3 tyX3_ok nmX3 S.2.2.2.1 hK hP hD hS q0 he rfl 3 (by decide) (S.2.2.2.2 _ hm) (fun _ h9 => h9) rfl (ty := .int) (by decide +kernel) rfl rfl hl hdg (fun H1 locs1 h1 _ h3 => kk H1 locs1 (hup H1 h1) h3)
theorem g3_ordersDone (S : CF p m c cc nL s args own) (hK : xK K s) (hP : xP K ws H) (q0 : Nat) {fs : List Value} (he : ws[q0]? = some (a, .inr (3, fs))) {v : Value} (hv : fs[4]? = some v) {index : Nat} (hm : (Cond.fieldLink own index "SealedStores$OrderLog" "ordersDone" "I") ∈ xtb) (hdg : decode cc pc = .ok (.getfield index, 3)) (k : W p l e R s m args below meth c H locs cells slots Q (F0 m (pc + 3) ls (v :: rest))) : W p l e R s m args below meth c H locs cells slots Q (F0 m pc ls (.ref a :: rest)) := va_get S.1 S.2.1 S.2.2.2.2 inX3 S.2.2.2.1 hK hP q0 he rfl 4 (by decide) (S.2.2.2.2 _ hm) (fun _ h9 => h9) hv hdg k
theorem p3_ordersDone (S : CF p m c cc nL s args own) (hK : xK K s) (hP : xP K ws H) (hD : va_D A ws) (hS : va_S A H0 H locs) (q0 : Nat) {fs : List Value} (he : ws[q0]? = some (a, .inr (3, fs))) (hl : 4 < fs.length) {index : Nat} {v : Int} (hm : (Cond.fieldLink own index "SealedStores$OrderLog" "ordersDone" "I") ∈ xtb) (hdg : decode cc pc = .ok (.putfield index, 3)) {ws' : va_W} (hup : ∀ H1, xP K (ws.set q0 (a, .inr (3, fs.set 4 (.int (iI v))))) H1 → xP K ws' H1) (kk : ∀ (H1 : Heap) (locs1 : List Loc), xP K ws' H1 → va_S A H0 H1 locs1 → W p l e R s m args below meth c H1 locs1 cells slots Q (F0 m (pc + 3) ls rest)) : W p l e R s m args below meth c H locs cells slots Q (F0 m pc ls (.int (iI v) :: .ref a :: rest)) := va_put S.1 S.2.1 S.2.2.2.2 inX3 tyX3 tyX3_ok nmX3 S.2.2.2.1 hK hP hD hS q0 he rfl 4 (by decide) (S.2.2.2.2 _ hm) (fun _ h9 => h9) rfl (ty := .int) (by decide +kernel) rfl rfl hl hdg (fun H1 locs1 h1 _ h3 => kk H1 locs1 (hup H1 h1) h3)
theorem g3_position (S : CF p m c cc nL s args own) (hK : xK K s) (hP : xP K ws H) (q0 : Nat) {fs : List Value} (he : ws[q0]? = some (a, .inr (3, fs))) {v : Value} (hv : fs[5]? = some v) {index : Nat} (hm : (Cond.fieldLink own index "SealedStores$OrderLog" "position" "I") ∈ xtb) (hdg : decode cc pc = .ok (.getfield index, 3)) (k : W p l e R s m args below meth c H locs cells slots Q (F0 m (pc + 3) ls (v :: rest))) : W p l e R s m args below meth c H locs cells slots Q (F0 m pc ls (.ref a :: rest)) := va_get S.1 S.2.1 S.2.2.2.2 inX3 S.2.2.2.1 hK hP q0 he rfl 5 (by decide) (S.2.2.2.2 _ hm) (fun _ h9 => h9) hv hdg k
theorem p3_position (S : CF p m c cc nL s args own) (hK : xK K s) (hP : xP K ws H) (hD : va_D A ws) (hS : va_S A H0 H locs) (q0 : Nat) {fs : List Value} (he : ws[q0]? = some (a, .inr (3, fs))) (hl : 5 < fs.length) {index : Nat} {v : Int} (hm : (Cond.fieldLink own index "SealedStores$OrderLog" "position" "I") ∈ xtb) (hdg : decode cc pc = .ok (.putfield index, 3)) {ws' : va_W} (hup : ∀ H1, xP K (ws.set q0 (a, .inr (3, fs.set 5 (.int (iI v))))) H1 → xP K ws' H1) (kk : ∀ (H1 : Heap) (locs1 : List Loc), xP K ws' H1 → va_S A H0 H1 locs1 → W p l e R s m args below meth c H1 locs1 cells slots Q (F0 m (pc + 3) ls rest)) : W p l e R s m args below meth c H locs cells slots Q (F0 m pc ls (.int (iI v) :: .ref a :: rest)) := va_put S.1 S.2.1 S.2.2.2.2 inX3 tyX3 tyX3_ok nmX3 S.2.2.2.1 hK hP hD hS q0 he rfl 5 (by decide) (S.2.2.2.2 _ hm) (fun _ h9 => h9) rfl (ty := .int) (by decide +kernel) rfl rfl hl hdg (fun H1 locs1 h1 _ h3 => kk H1 locs1 (hup H1 h1) h3)
theorem g3_kind (S : CF p m c cc nL s args own) (hK : xK K s) (hP : xP K ws H) (q0 : Nat) {fs : List Value} (he : ws[q0]? = some (a, .inr (3, fs))) {v : Value} (hv : fs[6]? = some v) {index : Nat} (hm : (Cond.fieldLink own index "SealedStores$OrderLog" "kind" "C") ∈ xtb) (hdg : decode cc pc = .ok (.getfield index, 3)) (k : W p l e R s m args below meth c H locs cells slots Q (F0 m (pc + 3) ls (v :: rest))) : W p l e R s m args below meth c H locs cells slots Q (F0 m pc ls (.ref a :: rest)) := va_get S.1 S.2.1 S.2.2.2.2 inX3 S.2.2.2.1 hK hP q0 he rfl 6 (by decide) (S.2.2.2.2 _ hm) (fun _ h9 => h9) hv hdg k
theorem xn_char {v : Int} (hv : 0 ≤ v ∧ v < 65536) : narrow .char (.int (iI v)) = .int (iI v) ∧ fits .char (.int (iI v)) = true := by
  rw [show v = ((v.toNat : Nat) : Int) by omega, iI_ofNat]
  exact pk_charN (by omega)
theorem p3_kind (S : CF p m c cc nL s args own) (hK : xK K s) (hP : xP K ws H) (hD : va_D A ws) (hS : va_S A H0 H locs) (q0 : Nat) {fs : List Value} (he : ws[q0]? = some (a, .inr (3, fs))) (hl : 6 < fs.length) {index : Nat} {v : Int} (hv : 0 ≤ v ∧ v < 65536) (hm : (Cond.fieldLink own index "SealedStores$OrderLog" "kind" "C") ∈ xtb) (hdg : decode cc pc = .ok (.putfield index, 3)) {ws' : va_W} (hup : ∀ H1, xP K (ws.set q0 (a, .inr (3, fs.set 6 (.int (iI v))))) H1 → xP K ws' H1) (kk : ∀ (H1 : Heap) (locs1 : List Loc), xP K ws' H1 → va_S A H0 H1 locs1 → W p l e R s m args below meth c H1 locs1 cells slots Q (F0 m (pc + 3) ls rest)) : W p l e R s m args below meth c H locs cells slots Q (F0 m pc ls (.int (iI v) :: .ref a :: rest)) := va_put S.1 S.2.1 S.2.2.2.2 inX3 tyX3 tyX3_ok nmX3 S.2.2.2.1 hK hP hD hS q0 he rfl 6 (by decide) (S.2.2.2.2 _ hm) (fun _ h9 => h9) rfl (ty := .char) (by decide +kernel) (xn_char hv).1 (xn_char hv).2 hl hdg (fun H1 locs1 h1 _ h3 => kk H1 locs1 (hup H1 h1) h3)
theorem g3_numbers (S : CF p m c cc nL s args own) (hK : xK K s) (hP : xP K ws H) (q0 : Nat) {fs : List Value} (he : ws[q0]? = some (a, .inr (3, fs))) {v : Value} (hv : fs[7]? = some v) {index : Nat} (hm : (Cond.fieldLink own index "SealedStores$OrderLog" "numbers" "[I") ∈ xtb) (hdg : decode cc pc = .ok (.getfield index, 3)) (k : W p l e R s m args below meth c H locs cells slots Q (F0 m (pc + 3) ls (v :: rest))) : W p l e R s m args below meth c H locs cells slots Q (F0 m pc ls (.ref a :: rest)) := va_get S.1 S.2.1 S.2.2.2.2 inX3 S.2.2.2.1 hK hP q0 he rfl 7 (by decide) (S.2.2.2.2 _ hm) (fun _ h9 => h9) hv hdg k
theorem g3_signs (S : CF p m c cc nL s args own) (hK : xK K s) (hP : xP K ws H) (q0 : Nat) {fs : List Value} (he : ws[q0]? = some (a, .inr (3, fs))) {v : Value} (hv : fs[8]? = some v) {index : Nat} (hm : (Cond.fieldLink own index "SealedStores$OrderLog" "signs" "[C") ∈ xtb) (hdg : decode cc pc = .ok (.getfield index, 3)) (k : W p l e R s m args below meth c H locs cells slots Q (F0 m (pc + 3) ls (v :: rest))) : W p l e R s m args below meth c H locs cells slots Q (F0 m pc ls (.ref a :: rest)) := va_get S.1 S.2.1 S.2.2.2.2 inX3 S.2.2.2.1 hK hP q0 he rfl 8 (by decide) (S.2.2.2.2 _ hm) (fun _ h9 => h9) hv hdg k
theorem g4_fines (S : CF p m c cc nL s args own) (hK : xK K s) (hP : xP K ws H) (q0 : Nat) {fs : List Value} (he : ws[q0]? = some (a, .inr (4, fs))) {v : Value} (hv : fs[0]? = some v) {index : Nat} (hm : (Cond.fieldLink own index "SealedStores$Releases" "fines" "J") ∈ xtb) (hdg : decode cc pc = .ok (.getfield index, 3)) (k : W p l e R s m args below meth c H locs cells slots Q (F0 m (pc + 3) ls (v :: rest))) : W p l e R s m args below meth c H locs cells slots Q (F0 m pc ls (.ref a :: rest)) := va_get S.1 S.2.1 S.2.2.2.2 inX4 S.2.2.2.1 hK hP q0 he rfl 0 (by decide) (S.2.2.2.2 _ hm) (fun _ h9 => h9) hv hdg k
theorem p4_fines (S : CF p m c cc nL s args own) (hK : xK K s) (hP : xP K ws H) (hD : va_D A ws) (hS : va_S A H0 H locs) (q0 : Nat) {fs : List Value} (he : ws[q0]? = some (a, .inr (4, fs))) (hl : 0 < fs.length) {index : Nat} {v : Int} (hm : (Cond.fieldLink own index "SealedStores$Releases" "fines" "J") ∈ xtb) (hdg : decode cc pc = .ok (.putfield index, 3)) {ws' : va_W} (hup : ∀ H1, xP K (ws.set q0 (a, .inr (4, fs.set 0 (.long (lI v))))) H1 → xP K ws' H1) (kk : ∀ (H1 : Heap) (locs1 : List Loc), xP K ws' H1 → va_S A H0 H1 locs1 → W p l e R s m args below meth c H1 locs1 cells slots Q (F0 m (pc + 3) ls rest)) : W p l e R s m args below meth c H locs cells slots Q (F0 m pc ls (.long (lI v) :: .ref a :: rest)) := va_put S.1 S.2.1 S.2.2.2.2 inX4 tyX4 tyX4_ok nmX4 S.2.2.2.1 hK hP hD hS q0 he rfl 0 (by decide) (S.2.2.2.2 _ hm) (fun _ h9 => h9) rfl (ty := .long) (by decide +kernel) rfl rfl hl hdg (fun H1 locs1 h1 _ h3 => kk H1 locs1 (hup H1 h1) h3)
theorem g4_units (S : CF p m c cc nL s args own) (hK : xK K s) (hP : xP K ws H) (q0 : Nat) {fs : List Value} (he : ws[q0]? = some (a, .inr (4, fs))) {v : Value} (hv : fs[1]? = some v) {index : Nat} (hm : (Cond.fieldLink own index "SealedStores$Releases" "units" "[I") ∈ xtb) (hdg : decode cc pc = .ok (.getfield index, 3)) (k : W p l e R s m args below meth c H locs cells slots Q (F0 m (pc + 3) ls (v :: rest))) : W p l e R s m args below meth c H locs cells slots Q (F0 m pc ls (.ref a :: rest)) := va_get S.1 S.2.1 S.2.2.2.2 inX4 S.2.2.2.1 hK hP q0 he rfl 1 (by decide) (S.2.2.2.2 _ hm) (fun _ h9 => h9) hv hdg k
theorem g4_cents (S : CF p m c cc nL s args own) (hK : xK K s) (hP : xP K ws H) (q0 : Nat) {fs : List Value} (he : ws[q0]? = some (a, .inr (4, fs))) {v : Value} (hv : fs[2]? = some v) {index : Nat} (hm : (Cond.fieldLink own index "SealedStores$Releases" "cents" "[J") ∈ xtb) (hdg : decode cc pc = .ok (.getfield index, 3)) (k : W p l e R s m args below meth c H locs cells slots Q (F0 m (pc + 3) ls (v :: rest))) : W p l e R s m args below meth c H locs cells slots Q (F0 m pc ls (.ref a :: rest)) := va_get S.1 S.2.1 S.2.2.2.2 inX4 S.2.2.2.1 hK hP q0 he rfl 2 (by decide) (S.2.2.2.2 _ hm) (fun _ h9 => h9) hv hdg k
theorem g5_used (S : CF p m c cc nL s args own) (hK : xK K s) (hP : xP K ws H) (q0 : Nat) {fs : List Value} (he : ws[q0]? = some (a, .inr (5, fs))) {v : Value} (hv : fs[0]? = some v) {index : Nat} (hm : (Cond.fieldLink own index "SealedStores$Seals" "used" "I") ∈ xtb) (hdg : decode cc pc = .ok (.getfield index, 3)) (k : W p l e R s m args below meth c H locs cells slots Q (F0 m (pc + 3) ls (v :: rest))) : W p l e R s m args below meth c H locs cells slots Q (F0 m pc ls (.ref a :: rest)) := va_get S.1 S.2.1 S.2.2.2.2 inX5 S.2.2.2.1 hK hP q0 he rfl 0 (by decide) (S.2.2.2.2 _ hm) (fun _ h9 => h9) hv hdg k
theorem p5_used (S : CF p m c cc nL s args own) (hK : xK K s) (hP : xP K ws H) (hD : va_D A ws) (hS : va_S A H0 H locs) (q0 : Nat) {fs : List Value} (he : ws[q0]? = some (a, .inr (5, fs))) (hl : 0 < fs.length) {index : Nat} {v : Int} (hm : (Cond.fieldLink own index "SealedStores$Seals" "used" "I") ∈ xtb) (hdg : decode cc pc = .ok (.putfield index, 3)) {ws' : va_W} (hup : ∀ H1, xP K (ws.set q0 (a, .inr (5, fs.set 0 (.int (iI v))))) H1 → xP K ws' H1) (kk : ∀ (H1 : Heap) (locs1 : List Loc), xP K ws' H1 → va_S A H0 H1 locs1 → W p l e R s m args below meth c H1 locs1 cells slots Q (F0 m (pc + 3) ls rest)) : W p l e R s m args below meth c H locs cells slots Q (F0 m pc ls (.int (iI v) :: .ref a :: rest)) := va_put S.1 S.2.1 S.2.2.2.2 inX5 tyX5 tyX5_ok nmX5 S.2.2.2.1 hK hP hD hS q0 he rfl 0 (by decide) (S.2.2.2.2 _ hm) (fun _ h9 => h9) rfl (ty := .int) (by decide +kernel) rfl rfl hl hdg (fun H1 locs1 h1 _ h3 => kk H1 locs1 (hup H1 h1) h3)
theorem g5_locker (S : CF p m c cc nL s args own) (hK : xK K s) (hP : xP K ws H) (q0 : Nat) {fs : List Value} (he : ws[q0]? = some (a, .inr (5, fs))) {v : Value} (hv : fs[1]? = some v) {index : Nat} (hm : (Cond.fieldLink own index "SealedStores$Seals" "locker" "[I") ∈ xtb) (hdg : decode cc pc = .ok (.getfield index, 3)) (k : W p l e R s m args below meth c H locs cells slots Q (F0 m (pc + 3) ls (v :: rest))) : W p l e R s m args below meth c H locs cells slots Q (F0 m pc ls (.ref a :: rest)) := va_get S.1 S.2.1 S.2.2.2.2 inX5 S.2.2.2.1 hK hP q0 he rfl 1 (by decide) (S.2.2.2.2 _ hm) (fun _ h9 => h9) hv hdg k
theorem g5_day (S : CF p m c cc nL s args own) (hK : xK K s) (hP : xP K ws H) (q0 : Nat) {fs : List Value} (he : ws[q0]? = some (a, .inr (5, fs))) {v : Value} (hv : fs[2]? = some v) {index : Nat} (hm : (Cond.fieldLink own index "SealedStores$Seals" "day" "[I") ∈ xtb) (hdg : decode cc pc = .ok (.getfield index, 3)) (k : W p l e R s m args below meth c H locs cells slots Q (F0 m (pc + 3) ls (v :: rest))) : W p l e R s m args below meth c H locs cells slots Q (F0 m pc ls (.ref a :: rest)) := va_get S.1 S.2.1 S.2.2.2.2 inX5 S.2.2.2.1 hK hP q0 he rfl 2 (by decide) (S.2.2.2.2 _ hm) (fun _ h9 => h9) hv hdg k
theorem g5_fate (S : CF p m c cc nL s args own) (hK : xK K s) (hP : xP K ws H) (q0 : Nat) {fs : List Value} (he : ws[q0]? = some (a, .inr (5, fs))) {v : Value} (hv : fs[3]? = some v) {index : Nat} (hm : (Cond.fieldLink own index "SealedStores$Seals" "fate" "[I") ∈ xtb) (hdg : decode cc pc = .ok (.getfield index, 3)) (k : W p l e R s m args below meth c H locs cells slots Q (F0 m (pc + 3) ls (v :: rest))) : W p l e R s m args below meth c H locs cells slots Q (F0 m pc ls (.ref a :: rest)) := va_get S.1 S.2.1 S.2.2.2.2 inX5 S.2.2.2.1 hK hP q0 he rfl 3 (by decide) (S.2.2.2.2 _ hm) (fun _ h9 => h9) hv hdg k
theorem g6_zone (S : CF p m c cc nL s args own) (hK : xK K s) (hP : xP K ws H) (q0 : Nat) {fs : List Value} (he : ws[q0]? = some (a, .inr (6, fs))) {v : Value} (hv : fs[0]? = some v) {index : Nat} (hm : (Cond.fieldLink own index "SealedStores$Ship" "zone" "I") ∈ xtb) (hdg : decode cc pc = .ok (.getfield index, 3)) (k : W p l e R s m args below meth c H locs cells slots Q (F0 m (pc + 3) ls (v :: rest))) : W p l e R s m args below meth c H locs cells slots Q (F0 m pc ls (.ref a :: rest)) := va_get S.1 S.2.1 S.2.2.2.2 inX6 S.2.2.2.1 hK hP q0 he rfl 0 (by decide) (S.2.2.2.2 _ hm) (fun _ h9 => h9) hv hdg k
theorem p6_zone (S : CF p m c cc nL s args own) (hK : xK K s) (hP : xP K ws H) (hD : va_D A ws) (hS : va_S A H0 H locs) (q0 : Nat) {fs : List Value} (he : ws[q0]? = some (a, .inr (6, fs))) (hl : 0 < fs.length) {index : Nat} {v : Int} (hm : (Cond.fieldLink own index "SealedStores$Ship" "zone" "I") ∈ xtb) (hdg : decode cc pc = .ok (.putfield index, 3)) {ws' : va_W} (hup : ∀ H1, xP K (ws.set q0 (a, .inr (6, fs.set 0 (.int (iI v))))) H1 → xP K ws' H1) (kk : ∀ (H1 : Heap) (locs1 : List Loc), xP K ws' H1 → va_S A H0 H1 locs1 → W p l e R s m args below meth c H1 locs1 cells slots Q (F0 m (pc + 3) ls rest)) : W p l e R s m args below meth c H locs cells slots Q (F0 m pc ls (.int (iI v) :: .ref a :: rest)) := va_put S.1 S.2.1 S.2.2.2.2 inX6 tyX6 tyX6_ok nmX6 S.2.2.2.1 hK hP hD hS q0 he rfl 0 (by decide) (S.2.2.2.2 _ hm) (fun _ h9 => h9) rfl (ty := .int) (by decide +kernel) rfl rfl hl hdg (fun H1 locs1 h1 _ h3 => kk H1 locs1 (hup H1 h1) h3)
theorem g6_day (S : CF p m c cc nL s args own) (hK : xK K s) (hP : xP K ws H) (q0 : Nat) {fs : List Value} (he : ws[q0]? = some (a, .inr (6, fs))) {v : Value} (hv : fs[1]? = some v) {index : Nat} (hm : (Cond.fieldLink own index "SealedStores$Ship" "day" "I") ∈ xtb) (hdg : decode cc pc = .ok (.getfield index, 3)) (k : W p l e R s m args below meth c H locs cells slots Q (F0 m (pc + 3) ls (v :: rest))) : W p l e R s m args below meth c H locs cells slots Q (F0 m pc ls (.ref a :: rest)) := va_get S.1 S.2.1 S.2.2.2.2 inX6 S.2.2.2.1 hK hP q0 he rfl 1 (by decide) (S.2.2.2.2 _ hm) (fun _ h9 => h9) hv hdg k
theorem p6_day (S : CF p m c cc nL s args own) (hK : xK K s) (hP : xP K ws H) (hD : va_D A ws) (hS : va_S A H0 H locs) (q0 : Nat) {fs : List Value} (he : ws[q0]? = some (a, .inr (6, fs))) (hl : 1 < fs.length) {index : Nat} {v : Int} (hm : (Cond.fieldLink own index "SealedStores$Ship" "day" "I") ∈ xtb) (hdg : decode cc pc = .ok (.putfield index, 3)) {ws' : va_W} (hup : ∀ H1, xP K (ws.set q0 (a, .inr (6, fs.set 1 (.int (iI v))))) H1 → xP K ws' H1) (kk : ∀ (H1 : Heap) (locs1 : List Loc), xP K ws' H1 → va_S A H0 H1 locs1 → W p l e R s m args below meth c H1 locs1 cells slots Q (F0 m (pc + 3) ls rest)) : W p l e R s m args below meth c H locs cells slots Q (F0 m pc ls (.int (iI v) :: .ref a :: rest)) := va_put S.1 S.2.1 S.2.2.2.2 inX6 tyX6 tyX6_ok nmX6 S.2.2.2.1 hK hP hD hS q0 he rfl 1 (by decide) (S.2.2.2.2 _ hm) (fun _ h9 => h9) rfl (ty := .int) (by decide +kernel) rfl rfl hl hdg (fun H1 locs1 h1 _ h3 => kk H1 locs1 (hup H1 h1) h3)
theorem g6_goods (S : CF p m c cc nL s args own) (hK : xK K s) (hP : xP K ws H) (q0 : Nat) {fs : List Value} (he : ws[q0]? = some (a, .inr (6, fs))) {v : Value} (hv : fs[2]? = some v) {index : Nat} (hm : (Cond.fieldLink own index "SealedStores$Ship" "goods" "I") ∈ xtb) (hdg : decode cc pc = .ok (.getfield index, 3)) (k : W p l e R s m args below meth c H locs cells slots Q (F0 m (pc + 3) ls (v :: rest))) : W p l e R s m args below meth c H locs cells slots Q (F0 m pc ls (.ref a :: rest)) := va_get S.1 S.2.1 S.2.2.2.2 inX6 S.2.2.2.1 hK hP q0 he rfl 2 (by decide) (S.2.2.2.2 _ hm) (fun _ h9 => h9) hv hdg k
theorem p6_goods (S : CF p m c cc nL s args own) (hK : xK K s) (hP : xP K ws H) (hD : va_D A ws) (hS : va_S A H0 H locs) (q0 : Nat) {fs : List Value} (he : ws[q0]? = some (a, .inr (6, fs))) (hl : 2 < fs.length) {index : Nat} {v : Int} (hm : (Cond.fieldLink own index "SealedStores$Ship" "goods" "I") ∈ xtb) (hdg : decode cc pc = .ok (.putfield index, 3)) {ws' : va_W} (hup : ∀ H1, xP K (ws.set q0 (a, .inr (6, fs.set 2 (.int (iI v))))) H1 → xP K ws' H1) (kk : ∀ (H1 : Heap) (locs1 : List Loc), xP K ws' H1 → va_S A H0 H1 locs1 → W p l e R s m args below meth c H1 locs1 cells slots Q (F0 m (pc + 3) ls rest)) : W p l e R s m args below meth c H locs cells slots Q (F0 m pc ls (.int (iI v) :: .ref a :: rest)) := va_put S.1 S.2.1 S.2.2.2.2 inX6 tyX6 tyX6_ok nmX6 S.2.2.2.1 hK hP hD hS q0 he rfl 2 (by decide) (S.2.2.2.2 _ hm) (fun _ h9 => h9) rfl (ty := .int) (by decide +kernel) rfl rfl hl hdg (fun H1 locs1 h1 _ h3 => kk H1 locs1 (hup H1 h1) h3)
theorem g6_duties (S : CF p m c cc nL s args own) (hK : xK K s) (hP : xP K ws H) (q0 : Nat) {fs : List Value} (he : ws[q0]? = some (a, .inr (6, fs))) {v : Value} (hv : fs[3]? = some v) {index : Nat} (hm : (Cond.fieldLink own index "SealedStores$Ship" "duties" "[I") ∈ xtb) (hdg : decode cc pc = .ok (.getfield index, 3)) (k : W p l e R s m args below meth c H locs cells slots Q (F0 m (pc + 3) ls (v :: rest))) : W p l e R s m args below meth c H locs cells slots Q (F0 m pc ls (.ref a :: rest)) := va_get S.1 S.2.1 S.2.2.2.2 inX6 S.2.2.2.1 hK hP q0 he rfl 3 (by decide) (S.2.2.2.2 _ hm) (fun _ h9 => h9) hv hdg k
theorem g6_settings (S : CF p m c cc nL s args own) (hK : xK K s) (hP : xP K ws H) (q0 : Nat) {fs : List Value} (he : ws[q0]? = some (a, .inr (6, fs))) {v : Value} (hv : fs[4]? = some v) {index : Nat} (hm : (Cond.fieldLink own index "SealedStores$Ship" "settings" "[I") ∈ xtb) (hdg : decode cc pc = .ok (.getfield index, 3)) (k : W p l e R s m args below meth c H locs cells slots Q (F0 m (pc + 3) ls (v :: rest))) : W p l e R s m args below meth c H locs cells slots Q (F0 m pc ls (.ref a :: rest)) := va_get S.1 S.2.1 S.2.2.2.2 inX6 S.2.2.2.1 hK hP q0 he rfl 4 (by decide) (S.2.2.2.2 _ hm) (fun _ h9 => h9) hv hdg k
theorem g6_lockers (S : CF p m c cc nL s args own) (hK : xK K s) (hP : xP K ws H) (q0 : Nat) {fs : List Value} (he : ws[q0]? = some (a, .inr (6, fs))) {v : Value} (hv : fs[5]? = some v) {index : Nat} (hm : (Cond.fieldLink own index "SealedStores$Ship" "lockers" "LSealedStores$Lockers;") ∈ xtb) (hdg : decode cc pc = .ok (.getfield index, 3)) (k : W p l e R s m args below meth c H locs cells slots Q (F0 m (pc + 3) ls (v :: rest))) : W p l e R s m args below meth c H locs cells slots Q (F0 m pc ls (.ref a :: rest)) := va_get S.1 S.2.1 S.2.2.2.2 inX6 S.2.2.2.1 hK hP q0 he rfl 5 (by decide) (S.2.2.2.2 _ hm) (fun _ h9 => h9) hv hdg k
theorem g6_seals (S : CF p m c cc nL s args own) (hK : xK K s) (hP : xP K ws H) (q0 : Nat) {fs : List Value} (he : ws[q0]? = some (a, .inr (6, fs))) {v : Value} (hv : fs[6]? = some v) {index : Nat} (hm : (Cond.fieldLink own index "SealedStores$Ship" "seals" "LSealedStores$Seals;") ∈ xtb) (hdg : decode cc pc = .ok (.getfield index, 3)) (k : W p l e R s m args below meth c H locs cells slots Q (F0 m (pc + 3) ls (v :: rest))) : W p l e R s m args below meth c H locs cells slots Q (F0 m pc ls (.ref a :: rest)) := va_get S.1 S.2.1 S.2.2.2.2 inX6 S.2.2.2.1 hK hP q0 he rfl 6 (by decide) (S.2.2.2.2 _ hm) (fun _ h9 => h9) hv hdg k
theorem g6_bonds (S : CF p m c cc nL s args own) (hK : xK K s) (hP : xP K ws H) (q0 : Nat) {fs : List Value} (he : ws[q0]? = some (a, .inr (6, fs))) {v : Value} (hv : fs[7]? = some v) {index : Nat} (hm : (Cond.fieldLink own index "SealedStores$Ship" "bonds" "LSealedStores$Bonds;") ∈ xtb) (hdg : decode cc pc = .ok (.getfield index, 3)) (k : W p l e R s m args below meth c H locs cells slots Q (F0 m (pc + 3) ls (v :: rest))) : W p l e R s m args below meth c H locs cells slots Q (F0 m pc ls (.ref a :: rest)) := va_get S.1 S.2.1 S.2.2.2.2 inX6 S.2.2.2.1 hK hP q0 he rfl 7 (by decide) (S.2.2.2.2 _ hm) (fun _ h9 => h9) hv hdg k
theorem g6_releases (S : CF p m c cc nL s args own) (hK : xK K s) (hP : xP K ws H) (q0 : Nat) {fs : List Value} (he : ws[q0]? = some (a, .inr (6, fs))) {v : Value} (hv : fs[8]? = some v) {index : Nat} (hm : (Cond.fieldLink own index "SealedStores$Ship" "releases" "LSealedStores$Releases;") ∈ xtb) (hdg : decode cc pc = .ok (.getfield index, 3)) (k : W p l e R s m args below meth c H locs cells slots Q (F0 m (pc + 3) ls (v :: rest))) : W p l e R s m args below meth c H locs cells slots Q (F0 m pc ls (.ref a :: rest)) := va_get S.1 S.2.1 S.2.2.2.2 inX6 S.2.2.2.1 hK hP q0 he rfl 8 (by decide) (S.2.2.2.2 _ hm) (fun _ h9 => h9) hv hdg k
theorem g7_ship (S : CF p m c cc nL s args own) (hK : xK K s) (hP : xP K ws H) (q0 : Nat) {fs : List Value} (he : ws[q0]? = some (a, .inr (7, fs))) {v : Value} (hv : fs[0]? = some v) {index : Nat} (hm : (Cond.fieldLink own index "SealedStores" "ship" "LSealedStores$Ship;") ∈ xtb) (hdg : decode cc pc = .ok (.getfield index, 3)) (k : W p l e R s m args below meth c H locs cells slots Q (F0 m (pc + 3) ls (v :: rest))) : W p l e R s m args below meth c H locs cells slots Q (F0 m pc ls (.ref a :: rest)) := va_get S.1 S.2.1 S.2.2.2.2 inX7 S.2.2.2.1 hK hP q0 he rfl 0 (by decide) (S.2.2.2.2 _ hm) (fun _ h9 => h9) hv hdg k
theorem g7_trial (S : CF p m c cc nL s args own) (hK : xK K s) (hP : xP K ws H) (q0 : Nat) {fs : List Value} (he : ws[q0]? = some (a, .inr (7, fs))) {v : Value} (hv : fs[1]? = some v) {index : Nat} (hm : (Cond.fieldLink own index "SealedStores" "trial" "LSealedStores$Ship;") ∈ xtb) (hdg : decode cc pc = .ok (.getfield index, 3)) (k : W p l e R s m args below meth c H locs cells slots Q (F0 m (pc + 3) ls (v :: rest))) : W p l e R s m args below meth c H locs cells slots Q (F0 m pc ls (.ref a :: rest)) := va_get S.1 S.2.1 S.2.2.2.2 inX7 S.2.2.2.1 hK hP q0 he rfl 1 (by decide) (S.2.2.2.2 _ hm) (fun _ h9 => h9) hv hdg k
theorem g7_history (S : CF p m c cc nL s args own) (hK : xK K s) (hP : xP K ws H) (q0 : Nat) {fs : List Value} (he : ws[q0]? = some (a, .inr (7, fs))) {v : Value} (hv : fs[2]? = some v) {index : Nat} (hm : (Cond.fieldLink own index "SealedStores" "history" "LSealedStores$History;") ∈ xtb) (hdg : decode cc pc = .ok (.getfield index, 3)) (k : W p l e R s m args below meth c H locs cells slots Q (F0 m (pc + 3) ls (v :: rest))) : W p l e R s m args below meth c H locs cells slots Q (F0 m pc ls (.ref a :: rest)) := va_get S.1 S.2.1 S.2.2.2.2 inX7 S.2.2.2.1 hK hP q0 he rfl 2 (by decide) (S.2.2.2.2 _ hm) (fun _ h9 => h9) hv hdg k
theorem g7_log (S : CF p m c cc nL s args own) (hK : xK K s) (hP : xP K ws H) (q0 : Nat) {fs : List Value} (he : ws[q0]? = some (a, .inr (7, fs))) {v : Value} (hv : fs[3]? = some v) {index : Nat} (hm : (Cond.fieldLink own index "SealedStores" "log" "LSealedStores$OrderLog;") ∈ xtb) (hdg : decode cc pc = .ok (.getfield index, 3)) (k : W p l e R s m args below meth c H locs cells slots Q (F0 m (pc + 3) ls (v :: rest))) : W p l e R s m args below meth c H locs cells slots Q (F0 m pc ls (.ref a :: rest)) := va_get S.1 S.2.1 S.2.2.2.2 inX7 S.2.2.2.1 hK hP q0 he rfl 3 (by decide) (S.2.2.2.2 _ hm) (fun _ h9 => h9) hv hdg k
theorem g8_now (S : CF p m c cc nL s args own) (hK : xK K s) (hP : xP K ws H) (q0 : Nat) {fs : List Value} (he : ws[q0]? = some (a, .inr (8, fs))) {v : Value} (hv : fs[0]? = some v) {index : Nat} (hm : (Cond.fieldLink own index "SealedStoresModel" "now" "[I") ∈ xtb) (hdg : decode cc pc = .ok (.getfield index, 3)) (k : W p l e R s m args below meth c H locs cells slots Q (F0 m (pc + 3) ls (v :: rest))) : W p l e R s m args below meth c H locs cells slots Q (F0 m pc ls (.ref a :: rest)) := va_get S.1 S.2.1 S.2.2.2.2 inX8 S.2.2.2.1 hK hP q0 he rfl 0 (by decide) (S.2.2.2.2 _ hm) (fun _ h9 => h9) hv hdg k
theorem g8_before (S : CF p m c cc nL s args own) (hK : xK K s) (hP : xP K ws H) (q0 : Nat) {fs : List Value} (he : ws[q0]? = some (a, .inr (8, fs))) {v : Value} (hv : fs[1]? = some v) {index : Nat} (hm : (Cond.fieldLink own index "SealedStoresModel" "before" "[I") ∈ xtb) (hdg : decode cc pc = .ok (.getfield index, 3)) (k : W p l e R s m args below meth c H locs cells slots Q (F0 m (pc + 3) ls (v :: rest))) : W p l e R s m args below meth c H locs cells slots Q (F0 m pc ls (.ref a :: rest)) := va_get S.1 S.2.1 S.2.2.2.2 inX8 S.2.2.2.1 hK hP q0 he rfl 1 (by decide) (S.2.2.2.2 _ hm) (fun _ h9 => h9) hv hdg k
theorem g8_states (S : CF p m c cc nL s args own) (hK : xK K s) (hP : xP K ws H) (q0 : Nat) {fs : List Value} (he : ws[q0]? = some (a, .inr (8, fs))) {v : Value} (hv : fs[2]? = some v) {index : Nat} (hm : (Cond.fieldLink own index "SealedStoresModel" "states" "[I") ∈ xtb) (hdg : decode cc pc = .ok (.getfield index, 3)) (k : W p l e R s m args below meth c H locs cells slots Q (F0 m (pc + 3) ls (v :: rest))) : W p l e R s m args below meth c H locs cells slots Q (F0 m pc ls (.ref a :: rest)) := va_get S.1 S.2.1 S.2.2.2.2 inX8 S.2.2.2.1 hK hP q0 he rfl 2 (by decide) (S.2.2.2.2 _ hm) (fun _ h9 => h9) hv hdg k
theorem g8_text (S : CF p m c cc nL s args own) (hK : xK K s) (hP : xP K ws H) (q0 : Nat) {fs : List Value} (he : ws[q0]? = some (a, .inr (8, fs))) {v : Value} (hv : fs[3]? = some v) {index : Nat} (hm : (Cond.fieldLink own index "SealedStoresModel" "text" "[I") ∈ xtb) (hdg : decode cc pc = .ok (.getfield index, 3)) (k : W p l e R s m args below meth c H locs cells slots Q (F0 m (pc + 3) ls (v :: rest))) : W p l e R s m args below meth c H locs cells slots Q (F0 m pc ls (.ref a :: rest)) := va_get S.1 S.2.1 S.2.2.2.2 inX8 S.2.2.2.1 hK hP q0 he rfl 3 (by decide) (S.2.2.2.2 _ hm) (fun _ h9 => h9) hv hdg k
theorem g8_stateMany (S : CF p m c cc nL s args own) (hK : xK K s) (hP : xP K ws H) (q0 : Nat) {fs : List Value} (he : ws[q0]? = some (a, .inr (8, fs))) {v : Value} (hv : fs[4]? = some v) {index : Nat} (hm : (Cond.fieldLink own index "SealedStoresModel" "stateMany" "I") ∈ xtb) (hdg : decode cc pc = .ok (.getfield index, 3)) (k : W p l e R s m args below meth c H locs cells slots Q (F0 m (pc + 3) ls (v :: rest))) : W p l e R s m args below meth c H locs cells slots Q (F0 m pc ls (.ref a :: rest)) := va_get S.1 S.2.1 S.2.2.2.2 inX8 S.2.2.2.1 hK hP q0 he rfl 4 (by decide) (S.2.2.2.2 _ hm) (fun _ h9 => h9) hv hdg k
theorem p8_stateMany (S : CF p m c cc nL s args own) (hK : xK K s) (hP : xP K ws H) (hD : va_D A ws) (hS : va_S A H0 H locs) (q0 : Nat) {fs : List Value} (he : ws[q0]? = some (a, .inr (8, fs))) (hl : 4 < fs.length) {index : Nat} {v : Int} (hm : (Cond.fieldLink own index "SealedStoresModel" "stateMany" "I") ∈ xtb) (hdg : decode cc pc = .ok (.putfield index, 3)) {ws' : va_W} (hup : ∀ H1, xP K (ws.set q0 (a, .inr (8, fs.set 4 (.int (iI v))))) H1 → xP K ws' H1) (kk : ∀ (H1 : Heap) (locs1 : List Loc), xP K ws' H1 → va_S A H0 H1 locs1 → W p l e R s m args below meth c H1 locs1 cells slots Q (F0 m (pc + 3) ls rest)) : W p l e R s m args below meth c H locs cells slots Q (F0 m pc ls (.int (iI v) :: .ref a :: rest)) := va_put S.1 S.2.1 S.2.2.2.2 inX8 tyX8 tyX8_ok nmX8 S.2.2.2.1 hK hP hD hS q0 he rfl 4 (by decide) (S.2.2.2.2 _ hm) (fun _ h9 => h9) rfl (ty := .int) (by decide +kernel) rfl rfl hl hdg (fun H1 locs1 h1 _ h3 => kk H1 locs1 (hup H1 h1) h3)
theorem g8_stateAt (S : CF p m c cc nL s args own) (hK : xK K s) (hP : xP K ws H) (q0 : Nat) {fs : List Value} (he : ws[q0]? = some (a, .inr (8, fs))) {v : Value} (hv : fs[5]? = some v) {index : Nat} (hm : (Cond.fieldLink own index "SealedStoresModel" "stateAt" "I") ∈ xtb) (hdg : decode cc pc = .ok (.getfield index, 3)) (k : W p l e R s m args below meth c H locs cells slots Q (F0 m (pc + 3) ls (v :: rest))) : W p l e R s m args below meth c H locs cells slots Q (F0 m pc ls (.ref a :: rest)) := va_get S.1 S.2.1 S.2.2.2.2 inX8 S.2.2.2.1 hK hP q0 he rfl 5 (by decide) (S.2.2.2.2 _ hm) (fun _ h9 => h9) hv hdg k
theorem p8_stateAt (S : CF p m c cc nL s args own) (hK : xK K s) (hP : xP K ws H) (hD : va_D A ws) (hS : va_S A H0 H locs) (q0 : Nat) {fs : List Value} (he : ws[q0]? = some (a, .inr (8, fs))) (hl : 5 < fs.length) {index : Nat} {v : Int} (hm : (Cond.fieldLink own index "SealedStoresModel" "stateAt" "I") ∈ xtb) (hdg : decode cc pc = .ok (.putfield index, 3)) {ws' : va_W} (hup : ∀ H1, xP K (ws.set q0 (a, .inr (8, fs.set 5 (.int (iI v))))) H1 → xP K ws' H1) (kk : ∀ (H1 : Heap) (locs1 : List Loc), xP K ws' H1 → va_S A H0 H1 locs1 → W p l e R s m args below meth c H1 locs1 cells slots Q (F0 m (pc + 3) ls rest)) : W p l e R s m args below meth c H locs cells slots Q (F0 m pc ls (.int (iI v) :: .ref a :: rest)) := va_put S.1 S.2.1 S.2.2.2.2 inX8 tyX8 tyX8_ok nmX8 S.2.2.2.1 hK hP hD hS q0 he rfl 5 (by decide) (S.2.2.2.2 _ hm) (fun _ h9 => h9) rfl (ty := .int) (by decide +kernel) rfl rfl hl hdg (fun H1 locs1 h1 _ h3 => kk H1 locs1 (hup H1 h1) h3)
theorem g8_letters (S : CF p m c cc nL s args own) (hK : xK K s) (hP : xP K ws H) (q0 : Nat) {fs : List Value} (he : ws[q0]? = some (a, .inr (8, fs))) {v : Value} (hv : fs[6]? = some v) {index : Nat} (hm : (Cond.fieldLink own index "SealedStoresModel" "letters" "I") ∈ xtb) (hdg : decode cc pc = .ok (.getfield index, 3)) (k : W p l e R s m args below meth c H locs cells slots Q (F0 m (pc + 3) ls (v :: rest))) : W p l e R s m args below meth c H locs cells slots Q (F0 m pc ls (.ref a :: rest)) := va_get S.1 S.2.1 S.2.2.2.2 inX8 S.2.2.2.1 hK hP q0 he rfl 6 (by decide) (S.2.2.2.2 _ hm) (fun _ h9 => h9) hv hdg k
theorem p8_letters (S : CF p m c cc nL s args own) (hK : xK K s) (hP : xP K ws H) (hD : va_D A ws) (hS : va_S A H0 H locs) (q0 : Nat) {fs : List Value} (he : ws[q0]? = some (a, .inr (8, fs))) (hl : 6 < fs.length) {index : Nat} {v : Int} (hm : (Cond.fieldLink own index "SealedStoresModel" "letters" "I") ∈ xtb) (hdg : decode cc pc = .ok (.putfield index, 3)) {ws' : va_W} (hup : ∀ H1, xP K (ws.set q0 (a, .inr (8, fs.set 6 (.int (iI v))))) H1 → xP K ws' H1) (kk : ∀ (H1 : Heap) (locs1 : List Loc), xP K ws' H1 → va_S A H0 H1 locs1 → W p l e R s m args below meth c H1 locs1 cells slots Q (F0 m (pc + 3) ls rest)) : W p l e R s m args below meth c H locs cells slots Q (F0 m pc ls (.int (iI v) :: .ref a :: rest)) := va_put S.1 S.2.1 S.2.2.2.2 inX8 tyX8 tyX8_ok nmX8 S.2.2.2.1 hK hP hD hS q0 he rfl 6 (by decide) (S.2.2.2.2 _ hm) (fun _ h9 => h9) rfl (ty := .int) (by decide +kernel) rfl rfl hl hdg (fun H1 locs1 h1 _ h3 => kk H1 locs1 (hup H1 h1) h3)
theorem g8_readAt (S : CF p m c cc nL s args own) (hK : xK K s) (hP : xP K ws H) (q0 : Nat) {fs : List Value} (he : ws[q0]? = some (a, .inr (8, fs))) {v : Value} (hv : fs[7]? = some v) {index : Nat} (hm : (Cond.fieldLink own index "SealedStoresModel" "readAt" "I") ∈ xtb) (hdg : decode cc pc = .ok (.getfield index, 3)) (k : W p l e R s m args below meth c H locs cells slots Q (F0 m (pc + 3) ls (v :: rest))) : W p l e R s m args below meth c H locs cells slots Q (F0 m pc ls (.ref a :: rest)) := va_get S.1 S.2.1 S.2.2.2.2 inX8 S.2.2.2.1 hK hP q0 he rfl 7 (by decide) (S.2.2.2.2 _ hm) (fun _ h9 => h9) hv hdg k
theorem p8_readAt (S : CF p m c cc nL s args own) (hK : xK K s) (hP : xP K ws H) (hD : va_D A ws) (hS : va_S A H0 H locs) (q0 : Nat) {fs : List Value} (he : ws[q0]? = some (a, .inr (8, fs))) (hl : 7 < fs.length) {index : Nat} {v : Int} (hm : (Cond.fieldLink own index "SealedStoresModel" "readAt" "I") ∈ xtb) (hdg : decode cc pc = .ok (.putfield index, 3)) {ws' : va_W} (hup : ∀ H1, xP K (ws.set q0 (a, .inr (8, fs.set 7 (.int (iI v))))) H1 → xP K ws' H1) (kk : ∀ (H1 : Heap) (locs1 : List Loc), xP K ws' H1 → va_S A H0 H1 locs1 → W p l e R s m args below meth c H1 locs1 cells slots Q (F0 m (pc + 3) ls rest)) : W p l e R s m args below meth c H locs cells slots Q (F0 m pc ls (.int (iI v) :: .ref a :: rest)) := va_put S.1 S.2.1 S.2.2.2.2 inX8 tyX8 tyX8_ok nmX8 S.2.2.2.1 hK hP hD hS q0 he rfl 7 (by decide) (S.2.2.2.2 _ hm) (fun _ h9 => h9) rfl (ty := .int) (by decide +kernel) rfl rfl hl hdg (fun H1 locs1 h1 _ h3 => kk H1 locs1 (hup H1 h1) h3)
theorem g8_isForm (S : CF p m c cc nL s args own) (hK : xK K s) (hP : xP K ws H) (q0 : Nat) {fs : List Value} (he : ws[q0]? = some (a, .inr (8, fs))) {v : Value} (hv : fs[8]? = some v) {index : Nat} (hm : (Cond.fieldLink own index "SealedStoresModel" "isForm" "Z") ∈ xtb) (hdg : decode cc pc = .ok (.getfield index, 3)) (k : W p l e R s m args below meth c H locs cells slots Q (F0 m (pc + 3) ls (v :: rest))) : W p l e R s m args below meth c H locs cells slots Q (F0 m pc ls (.ref a :: rest)) := va_get S.1 S.2.1 S.2.2.2.2 inX8 S.2.2.2.1 hK hP q0 he rfl 8 (by decide) (S.2.2.2.2 _ hm) (fun _ h9 => h9) hv hdg k
theorem xn_bool {v : Int} (hv : v = 0 ∨ v = 1) : narrow .boolean (.int (iI v)) = .int (iI v) ∧ fits .boolean (.int (iI v)) = true := by
  rcases hv with rfl | rfl <;> exact ⟨by decide, by decide⟩
theorem p8_isForm (S : CF p m c cc nL s args own) (hK : xK K s) (hP : xP K ws H) (hD : va_D A ws) (hS : va_S A H0 H locs) (q0 : Nat) {fs : List Value} (he : ws[q0]? = some (a, .inr (8, fs))) (hl : 8 < fs.length) {index : Nat} {v : Int} (hv : v = 0 ∨ v = 1) (hm : (Cond.fieldLink own index "SealedStoresModel" "isForm" "Z") ∈ xtb) (hdg : decode cc pc = .ok (.putfield index, 3)) {ws' : va_W} (hup : ∀ H1, xP K (ws.set q0 (a, .inr (8, fs.set 8 (.int (iI v))))) H1 → xP K ws' H1) (kk : ∀ (H1 : Heap) (locs1 : List Loc), xP K ws' H1 → va_S A H0 H1 locs1 → W p l e R s m args below meth c H1 locs1 cells slots Q (F0 m (pc + 3) ls rest)) : W p l e R s m args below meth c H locs cells slots Q (F0 m pc ls (.int (iI v) :: .ref a :: rest)) := va_put S.1 S.2.1 S.2.2.2.2 inX8 tyX8 tyX8_ok nmX8 S.2.2.2.1 hK hP hD hS q0 he rfl 8 (by decide) (S.2.2.2.2 _ hm) (fun _ h9 => h9) rfl (ty := .boolean) (by decide +kernel) (xn_bool hv).1 (xn_bool hv).2 hl hdg (fun H1 locs1 h1 _ h3 => kk H1 locs1 (hup H1 h1) h3)
theorem g8_faultAt (S : CF p m c cc nL s args own) (hK : xK K s) (hP : xP K ws H) (q0 : Nat) {fs : List Value} (he : ws[q0]? = some (a, .inr (8, fs))) {v : Value} (hv : fs[9]? = some v) {index : Nat} (hm : (Cond.fieldLink own index "SealedStoresModel" "faultAt" "I") ∈ xtb) (hdg : decode cc pc = .ok (.getfield index, 3)) (k : W p l e R s m args below meth c H locs cells slots Q (F0 m (pc + 3) ls (v :: rest))) : W p l e R s m args below meth c H locs cells slots Q (F0 m pc ls (.ref a :: rest)) := va_get S.1 S.2.1 S.2.2.2.2 inX8 S.2.2.2.1 hK hP q0 he rfl 9 (by decide) (S.2.2.2.2 _ hm) (fun _ h9 => h9) hv hdg k
theorem p8_faultAt (S : CF p m c cc nL s args own) (hK : xK K s) (hP : xP K ws H) (hD : va_D A ws) (hS : va_S A H0 H locs) (q0 : Nat) {fs : List Value} (he : ws[q0]? = some (a, .inr (8, fs))) (hl : 9 < fs.length) {index : Nat} {v : Int} (hm : (Cond.fieldLink own index "SealedStoresModel" "faultAt" "I") ∈ xtb) (hdg : decode cc pc = .ok (.putfield index, 3)) {ws' : va_W} (hup : ∀ H1, xP K (ws.set q0 (a, .inr (8, fs.set 9 (.int (iI v))))) H1 → xP K ws' H1) (kk : ∀ (H1 : Heap) (locs1 : List Loc), xP K ws' H1 → va_S A H0 H1 locs1 → W p l e R s m args below meth c H1 locs1 cells slots Q (F0 m (pc + 3) ls rest)) : W p l e R s m args below meth c H locs cells slots Q (F0 m pc ls (.int (iI v) :: .ref a :: rest)) := va_put S.1 S.2.1 S.2.2.2.2 inX8 tyX8 tyX8_ok nmX8 S.2.2.2.1 hK hP hD hS q0 he rfl 9 (by decide) (S.2.2.2.2 _ hm) (fun _ h9 => h9) rfl (ty := .int) (by decide +kernel) rfl rfl hl hdg (fun H1 locs1 h1 _ h3 => kk H1 locs1 (hup H1 h1) h3)
theorem g8_faultReason (S : CF p m c cc nL s args own) (hK : xK K s) (hP : xP K ws H) (q0 : Nat) {fs : List Value} (he : ws[q0]? = some (a, .inr (8, fs))) {v : Value} (hv : fs[10]? = some v) {index : Nat} (hm : (Cond.fieldLink own index "SealedStoresModel" "faultReason" "I") ∈ xtb) (hdg : decode cc pc = .ok (.getfield index, 3)) (k : W p l e R s m args below meth c H locs cells slots Q (F0 m (pc + 3) ls (v :: rest))) : W p l e R s m args below meth c H locs cells slots Q (F0 m pc ls (.ref a :: rest)) := va_get S.1 S.2.1 S.2.2.2.2 inX8 S.2.2.2.1 hK hP q0 he rfl 10 (by decide) (S.2.2.2.2 _ hm) (fun _ h9 => h9) hv hdg k
theorem p8_faultReason (S : CF p m c cc nL s args own) (hK : xK K s) (hP : xP K ws H) (hD : va_D A ws) (hS : va_S A H0 H locs) (q0 : Nat) {fs : List Value} (he : ws[q0]? = some (a, .inr (8, fs))) (hl : 10 < fs.length) {index : Nat} {v : Int} (hm : (Cond.fieldLink own index "SealedStoresModel" "faultReason" "I") ∈ xtb) (hdg : decode cc pc = .ok (.putfield index, 3)) {ws' : va_W} (hup : ∀ H1, xP K (ws.set q0 (a, .inr (8, fs.set 10 (.int (iI v))))) H1 → xP K ws' H1) (kk : ∀ (H1 : Heap) (locs1 : List Loc), xP K ws' H1 → va_S A H0 H1 locs1 → W p l e R s m args below meth c H1 locs1 cells slots Q (F0 m (pc + 3) ls rest)) : W p l e R s m args below meth c H locs cells slots Q (F0 m pc ls (.int (iI v) :: .ref a :: rest)) := va_put S.1 S.2.1 S.2.2.2.2 inX8 tyX8 tyX8_ok nmX8 S.2.2.2.1 hK hP hD hS q0 he rfl 10 (by decide) (S.2.2.2.2 _ hm) (fun _ h9 => h9) rfl (ty := .int) (by decide +kernel) rfl rfl hl hdg (fun H1 locs1 h1 _ h3 => kk H1 locs1 (hup H1 h1) h3)
theorem g8_faultCause (S : CF p m c cc nL s args own) (hK : xK K s) (hP : xP K ws H) (q0 : Nat) {fs : List Value} (he : ws[q0]? = some (a, .inr (8, fs))) {v : Value} (hv : fs[11]? = some v) {index : Nat} (hm : (Cond.fieldLink own index "SealedStoresModel" "faultCause" "I") ∈ xtb) (hdg : decode cc pc = .ok (.getfield index, 3)) (k : W p l e R s m args below meth c H locs cells slots Q (F0 m (pc + 3) ls (v :: rest))) : W p l e R s m args below meth c H locs cells slots Q (F0 m pc ls (.ref a :: rest)) := va_get S.1 S.2.1 S.2.2.2.2 inX8 S.2.2.2.1 hK hP q0 he rfl 11 (by decide) (S.2.2.2.2 _ hm) (fun _ h9 => h9) hv hdg k
theorem p8_faultCause (S : CF p m c cc nL s args own) (hK : xK K s) (hP : xP K ws H) (hD : va_D A ws) (hS : va_S A H0 H locs) (q0 : Nat) {fs : List Value} (he : ws[q0]? = some (a, .inr (8, fs))) (hl : 11 < fs.length) {index : Nat} {v : Int} (hm : (Cond.fieldLink own index "SealedStoresModel" "faultCause" "I") ∈ xtb) (hdg : decode cc pc = .ok (.putfield index, 3)) {ws' : va_W} (hup : ∀ H1, xP K (ws.set q0 (a, .inr (8, fs.set 11 (.int (iI v))))) H1 → xP K ws' H1) (kk : ∀ (H1 : Heap) (locs1 : List Loc), xP K ws' H1 → va_S A H0 H1 locs1 → W p l e R s m args below meth c H1 locs1 cells slots Q (F0 m (pc + 3) ls rest)) : W p l e R s m args below meth c H locs cells slots Q (F0 m pc ls (.int (iI v) :: .ref a :: rest)) := va_put S.1 S.2.1 S.2.2.2.2 inX8 tyX8 tyX8_ok nmX8 S.2.2.2.1 hK hP hD hS q0 he rfl 11 (by decide) (S.2.2.2.2 _ hm) (fun _ h9 => h9) rfl (ty := .int) (by decide +kernel) rfl rfl hl hdg (fun H1 locs1 h1 _ h3 => kk H1 locs1 (hup H1 h1) h3)
theorem g8_orders (S : CF p m c cc nL s args own) (hK : xK K s) (hP : xP K ws H) (q0 : Nat) {fs : List Value} (he : ws[q0]? = some (a, .inr (8, fs))) {v : Value} (hv : fs[12]? = some v) {index : Nat} (hm : (Cond.fieldLink own index "SealedStoresModel" "orders" "I") ∈ xtb) (hdg : decode cc pc = .ok (.getfield index, 3)) (k : W p l e R s m args below meth c H locs cells slots Q (F0 m (pc + 3) ls (v :: rest))) : W p l e R s m args below meth c H locs cells slots Q (F0 m pc ls (.ref a :: rest)) := va_get S.1 S.2.1 S.2.2.2.2 inX8 S.2.2.2.1 hK hP q0 he rfl 12 (by decide) (S.2.2.2.2 _ hm) (fun _ h9 => h9) hv hdg k
theorem p8_orders (S : CF p m c cc nL s args own) (hK : xK K s) (hP : xP K ws H) (hD : va_D A ws) (hS : va_S A H0 H locs) (q0 : Nat) {fs : List Value} (he : ws[q0]? = some (a, .inr (8, fs))) (hl : 12 < fs.length) {index : Nat} {v : Int} (hm : (Cond.fieldLink own index "SealedStoresModel" "orders" "I") ∈ xtb) (hdg : decode cc pc = .ok (.putfield index, 3)) {ws' : va_W} (hup : ∀ H1, xP K (ws.set q0 (a, .inr (8, fs.set 12 (.int (iI v))))) H1 → xP K ws' H1) (kk : ∀ (H1 : Heap) (locs1 : List Loc), xP K ws' H1 → va_S A H0 H1 locs1 → W p l e R s m args below meth c H1 locs1 cells slots Q (F0 m (pc + 3) ls rest)) : W p l e R s m args below meth c H locs cells slots Q (F0 m pc ls (.int (iI v) :: .ref a :: rest)) := va_put S.1 S.2.1 S.2.2.2.2 inX8 tyX8 tyX8_ok nmX8 S.2.2.2.1 hK hP hD hS q0 he rfl 12 (by decide) (S.2.2.2.2 _ hm) (fun _ h9 => h9) rfl (ty := .int) (by decide +kernel) rfl rfl hl hdg (fun H1 locs1 h1 _ h3 => kk H1 locs1 (hup H1 h1) h3)
end XV
end
section
def cE (x y : Nat × va_E) : Prop := x.1 = y.1 ∧ (x.2 = y.2 ∨ (∃ (c : ClassId) (n : Nat) (f g : Nat → Int32), x.2 = .inl (c, n, .inl f) ∧ y.2 = .inl (c, n, .inl g) ∧ ∀ j, j < n → f j = g j) ∨ (∃ (c : ClassId) (n : Nat) (f g : Nat → Int64), x.2 = .inl (c, n, .inr (.inl f)) ∧ y.2 = .inl (c, n, .inr (.inl g)) ∧ ∀ j, j < n → f j = g j))
theorem arrV_congr (c : ClassId) (n : Nat) {f g : Nat → Value} (h : ∀ j, j < n → f j = g j) : arrV c n f = arrV c n g := by
  have e : (fun j : Fin n => f j.val) = fun j : Fin n => g j.val := funext fun j => h j.1 j.2
  simp only [arrV, e]
theorem cE_at {D : va_G} {cl : List vw_C} {x y : Nat × va_E} {H : Heap} (h : cE x y) (hx : va_at D cl x H) : va_at D cl y H := by
  obtain ⟨a, ex⟩ := x
  obtain ⟨b, ey⟩ := y
  obtain ⟨h1, h2⟩ := h
  dsimp only at h1 h2
  subst h1
  rcases h2 with h2 | ⟨c, n, f, g, h2, h3, h4⟩ | ⟨c, n, f, g, h2, h3, h4⟩
  · subst h2; exact hx
  · subst h2; subst h3
    have e : vp_cell c (n, .inl f) = vp_cell c (n, .inl g) := arrV_congr c n fun j hj => congrArg Value.int (h4 j hj)
    have hx' : H[a]? = some (vp_cell c (n, .inl f)) := hx
    rw [e] at hx'
    exact hx'
  · subst h2; subst h3
    have e : vp_cell c (n, .inr (.inl f)) = vp_cell c (n, .inr (.inl g)) := arrV_congr c n fun j hj => congrArg Value.long (h4 j hj)
    have hx' : H[a]? = some (vp_cell c (n, .inr (.inl f))) := hx
    rw [e] at hx'
    exact hx'
def cEs : va_W → va_W → Prop
  | [], [] => True
  | x :: xs, y :: ys => cE x y ∧ cEs xs ys
  | _, _ => False
theorem cEs_at : ∀ (xs ys : va_W), cEs xs ys → ∀ (k : Nat) (q : Nat × va_E), ys[k]? = some q → ∃ r, xs[k]? = some r ∧ cE r q
  | [], [], _, k, q, h => by simp at h
  | [], y :: ys, hc, _, _, _ => hc.elim
  | x :: xs, [], hc, _, _, _ => hc.elim
  | x :: xs, y :: ys, hc, k, q, h => by
    cases k with
    | zero =>
      rw [List.getElem?_cons_zero] at h
      cases h
      exact ⟨x, rfl, hc.1⟩
    | succ k =>
      rw [List.getElem?_cons_succ] at h
      obtain ⟨r, h1, h2⟩ := cEs_at xs ys hc.2 k q h
      exact ⟨r, by rw [List.getElem?_cons_succ]; exact h1, h2⟩
theorem xP_cEs {K : KT} {ws ws' : va_W} {H : Heap} (h : xP K ws H) (hc : cEs ws ws') : xP K ws' H := by
  intro k q hq
  obtain ⟨r, h1, h2⟩ := cEs_at ws ws' hc k q hq
  exact cE_at h2 (h k r h1)
theorem cE_rf {a : Nat} {x y : va_E} (h : x = y) : cE (a, x) (a, y) := ⟨rfl, Or.inl h⟩
theorem cE_i {a : Nat} {c : ClassId} {n : Nat} {f g : Nat → Int32} (h : ∀ j, j < n → f j = g j) : cE (a, .inl (c, n, .inl f)) (a, .inl (c, n, .inl g)) := ⟨rfl, Or.inr (Or.inl ⟨c, n, f, g, rfl, rfl, h⟩)⟩
theorem cE_l {a : Nat} {c : ClassId} {n : Nat} {f g : Nat → Int64} (h : ∀ j, j < n → f j = g j) : cE (a, .inl (c, n, .inr (.inl f))) (a, .inl (c, n, .inr (.inl g))) := ⟨rfl, Or.inr (Or.inr ⟨c, n, f, g, rfl, rfl, h⟩)⟩
theorem vI_ne {N : Int → Int} {i v o : Int} (n : Nat) (h : i < o ∨ o + (n : Int) ≤ i) : ∀ j, j < n → vI N o j = vI (uZ N i v) o j := by
  intro j hj
  show iI (N (o + (j : Int))) = iI (uZ N i v (o + (j : Int)))
  rw [uZ_ne (by omega)]
theorem vL_ne {N : Int → Int} {i v o : Int} (n : Nat) (h : i < o ∨ o + (n : Int) ≤ i) : ∀ j, j < n → vL N o j = vL (uZ N i v) o j := by
  intro j hj
  show lI (N (o + (j : Int))) = lI (uZ N i v (o + (j : Int)))
  rw [uZ_ne (by omega)]
theorem vI_up {N : Int → Int} {i v o z : Int} (n : Nat) (hz : 0 ≤ z) (hi : o + z = i) : ∀ j, j < n → upd (vI N o) z.toNat (iI v) j = vI (uZ N i v) o j := by
  intro j _
  show (if j = z.toNat then iI v else iI (N (o + (j : Int)))) = iI (if o + (j : Int) = i then v else N (o + (j : Int)))
  by_cases h : j = z.toNat
  · rw [if_pos h, if_pos (by omega)]
  · rw [if_neg h, if_neg (by omega)]
theorem vL_up {N : Int → Int} {i v o z : Int} (n : Nat) (hz : 0 ≤ z) (hi : o + z = i) : ∀ j, j < n → vp_updL (vL N o) z.toNat (lI v) j = vL (uZ N i v) o j := by
  intro j _
  show (if j = z.toNat then lI v else lI (N (o + (j : Int)))) = lI (if o + (j : Int) = i then v else N (o + (j : Int)))
  by_cases h : j = z.toNat
  · rw [if_pos h, if_pos (by omega)]
  · rw [if_neg h, if_neg (by omega)]
theorem vI_eq {N M : Int → Int} {o : Int} (n : Nat) (h : ∀ k, o ≤ k → k < o + (n : Int) → N k = M k) : ∀ j, j < n → vI N o j = vI M o j := fun j hj => congrArg iI (h _ (by omega) (by omega))
theorem vL_eq {N M : Int → Int} {o : Int} (n : Nat) (h : ∀ k, o ≤ k → k < o + (n : Int) → N k = M k) : ∀ j, j < n → vL N o j = vL M o j := fun j hj => congrArg lI (h _ (by omega) (by omega))
theorem vI_cpy {N M : Int → Int} {o : Int} (n : Nat) : ∀ j, j < n → va_cpy (vI N o) (vI M o) 0 0 n j = vI N o j := by
  intro j hj
  show (if 0 ≤ j ∧ j < 0 + n then vI N o (0 + (j - 0)) else vI M o j) = _
  rw [if_pos (by omega)]
  simp
theorem vL_cpy {N M : Int → Int} {o : Int} (n : Nat) : ∀ j, j < n → va_cpy (vL N o) (vL M o) 0 0 n j = vL N o j := by
  intro j hj
  show (if 0 ≤ j ∧ j < 0 + n then vL N o (0 + (j - 0)) else vL M o j) = _
  rw [if_pos (by omega)]
  simp
def shipW (K : KT) (o : Nat) (N : Int → Int) : va_W := [(o, .inr (6, [.int (iI (N 0)), .int (iI (N 1)), .int (iI (N 5)), .ref (o + 1), .ref (o + 2), .ref (o + 3), .ref (o + 8), .ref (o + 12), .ref (o + 18)])), (o + 1, .inl (K.2.1, 8, .inl (vI N 104))), (o + 2, .inl (K.2.1, 2, .inl (vI N 2))), (o + 3, .inr (2, [.int (iI (N 4)), .ref (o + 4), .ref (o + 5), .ref (o + 6), .ref (o + 7)])), (o + 4, .inl (K.2.1, 5, .inl (vI N 14))), (o + 5, .inl (K.2.1, 5, .inl (vI N 19))), (o + 6, .inl (K.2.1, 40, .inl (vI N 24))), (o + 7, .inl (K.2.1, 40, .inl (vI N 64))), (o + 8, .inr (5, [.int (iI (N 7)), .ref (o + 9), .ref (o + 10), .ref (o + 11)])), (o + 9, .inl (K.2.1, 201, .inl (vI N 452))), (o + 10, .inl (K.2.1, 201, .inl (vI N 653))), (o + 11, .inl (K.2.1, 201, .inl (vI N 854))), (o + 12, .inr (0, [.int (iI (N 6)), .long (lI (N 9)), .ref (o + 13), .ref (o + 14), .ref (o + 15), .ref (o + 16), .ref (o + 17)])), (o + 13, .inl (K.2.1, 60, .inl (vI N 152))), (o + 14, .inl (K.2.1, 60, .inl (vI N 212))), (o + 15, .inl (K.2.1, 60, .inl (vI N 272))), (o + 16, .inl (K.2.1, 60, .inl (vI N 332))), (o + 17, .inl (K.2.1, 60, .inl (vI N 392))), (o + 18, .inr (4, [.long (lI (N 8)), .ref (o + 19), .ref (o + 20)])), (o + 19, .inl (K.2.1, 32, .inl (vI N 120))), (o + 20, .inl (K.2.2.1, 4, .inr (.inl (vL N 10))))]
theorem ship_mk {K : KT} {o : Nat} {M : Int → Int} {H : Heap} {x0 : Int32} {x1 : Int32} {x2 : Int32} {f0 : Nat → Int32} {f1 : Nat → Int32} {x3 : Int32} {f2 : Nat → Int32} {f3 : Nat → Int32} {f4 : Nat → Int32} {f5 : Nat → Int32} {x4 : Int32} {f6 : Nat → Int32} {f7 : Nat → Int32} {f8 : Nat → Int32} {x5 : Int32} {x6 : Int64} {f9 : Nat → Int32} {f10 : Nat → Int32} {f11 : Nat → Int32} {f12 : Nat → Int32} {f13 : Nat → Int32} {x7 : Int64} {f14 : Nat → Int32} {f15 : Nat → Int64} (h : xP K [(o, .inr (6, [.int x0, .int x1, .int x2, .ref (o + 1), .ref (o + 2), .ref (o + 3), .ref (o + 8), .ref (o + 12), .ref (o + 18)])), (o + 1, .inl (K.2.1, 8, .inl f0)), (o + 2, .inl (K.2.1, 2, .inl f1)), (o + 3, .inr (2, [.int x3, .ref (o + 4), .ref (o + 5), .ref (o + 6), .ref (o + 7)])), (o + 4, .inl (K.2.1, 5, .inl f2)), (o + 5, .inl (K.2.1, 5, .inl f3)), (o + 6, .inl (K.2.1, 40, .inl f4)), (o + 7, .inl (K.2.1, 40, .inl f5)), (o + 8, .inr (5, [.int x4, .ref (o + 9), .ref (o + 10), .ref (o + 11)])), (o + 9, .inl (K.2.1, 201, .inl f6)), (o + 10, .inl (K.2.1, 201, .inl f7)), (o + 11, .inl (K.2.1, 201, .inl f8)), (o + 12, .inr (0, [.int x5, .long x6, .ref (o + 13), .ref (o + 14), .ref (o + 15), .ref (o + 16), .ref (o + 17)])), (o + 13, .inl (K.2.1, 60, .inl f9)), (o + 14, .inl (K.2.1, 60, .inl f10)), (o + 15, .inl (K.2.1, 60, .inl f11)), (o + 16, .inl (K.2.1, 60, .inl f12)), (o + 17, .inl (K.2.1, 60, .inl f13)), (o + 18, .inr (4, [.long x7, .ref (o + 19), .ref (o + 20)])), (o + 19, .inl (K.2.1, 32, .inl f14)), (o + 20, .inl (K.2.2.1, 4, .inr (.inl f15)))] H) (e_x0 : x0 = iI (M 0)) (e_x1 : x1 = iI (M 1)) (e_x2 : x2 = iI (M 5)) (e_f0 : ∀ j, j < 8 → f0 j = vI M 104 j) (e_f1 : ∀ j, j < 2 → f1 j = vI M 2 j) (e_x3 : x3 = iI (M 4)) (e_f2 : ∀ j, j < 5 → f2 j = vI M 14 j) (e_f3 : ∀ j, j < 5 → f3 j = vI M 19 j) (e_f4 : ∀ j, j < 40 → f4 j = vI M 24 j) (e_f5 : ∀ j, j < 40 → f5 j = vI M 64 j) (e_x4 : x4 = iI (M 7)) (e_f6 : ∀ j, j < 201 → f6 j = vI M 452 j) (e_f7 : ∀ j, j < 201 → f7 j = vI M 653 j) (e_f8 : ∀ j, j < 201 → f8 j = vI M 854 j) (e_x5 : x5 = iI (M 6)) (e_x6 : x6 = lI (M 9)) (e_f9 : ∀ j, j < 60 → f9 j = vI M 152 j) (e_f10 : ∀ j, j < 60 → f10 j = vI M 212 j) (e_f11 : ∀ j, j < 60 → f11 j = vI M 272 j) (e_f12 : ∀ j, j < 60 → f12 j = vI M 332 j) (e_f13 : ∀ j, j < 60 → f13 j = vI M 392 j) (e_x7 : x7 = lI (M 8)) (e_f14 : ∀ j, j < 32 → f14 j = vI M 120 j) (e_f15 : ∀ j, j < 4 → f15 j = vL M 10 j) : xP K (shipW K o M) H := xP_cEs h ⟨cE_rf (by rw [e_x0, e_x1, e_x2]), cE_i e_f0, cE_i e_f1, cE_rf (by rw [e_x3]), cE_i e_f2, cE_i e_f3, cE_i e_f4, cE_i e_f5, cE_rf (by rw [e_x4]), cE_i e_f6, cE_i e_f7, cE_i e_f8, cE_rf (by rw [e_x5, e_x6]), cE_i e_f9, cE_i e_f10, cE_i e_f11, cE_i e_f12, cE_i e_f13, cE_rf (by rw [e_x7]), cE_i e_f14, cE_l e_f15, trivial⟩
theorem su_f0 (K : KT) (o : Nat) (N : Int → Int) (v : Int) : ∀ H1, xP K ((shipW K o N).set 0 (o, .inr (6, ([.int (iI (N 0)), .int (iI (N 1)), .int (iI (N 5)), .ref (o + 1), .ref (o + 2), .ref (o + 3), .ref (o + 8), .ref (o + 12), .ref (o + 18)] : List Value).set 0 (.int (iI v))))) H1 → xP K (shipW K o (uZ N 0 v)) H1 := fun _ h => ship_mk h (by rw [uZ_eq]) (by rw [uZ_ne (by omega)]) (by rw [uZ_ne (by omega)]) (vI_ne 8 (by omega)) (vI_ne 2 (by omega)) (by rw [uZ_ne (by omega)]) (vI_ne 5 (by omega)) (vI_ne 5 (by omega)) (vI_ne 40 (by omega)) (vI_ne 40 (by omega)) (by rw [uZ_ne (by omega)]) (vI_ne 201 (by omega)) (vI_ne 201 (by omega)) (vI_ne 201 (by omega)) (by rw [uZ_ne (by omega)]) (by rw [uZ_ne (by omega)]) (vI_ne 60 (by omega)) (vI_ne 60 (by omega)) (vI_ne 60 (by omega)) (vI_ne 60 (by omega)) (vI_ne 60 (by omega)) (by rw [uZ_ne (by omega)]) (vI_ne 32 (by omega)) (vL_ne 4 (by omega))
theorem su_f1 (K : KT) (o : Nat) (N : Int → Int) (v : Int) : ∀ H1, xP K ((shipW K o N).set 0 (o, .inr (6, ([.int (iI (N 0)), .int (iI (N 1)), .int (iI (N 5)), .ref (o + 1), .ref (o + 2), .ref (o + 3), .ref (o + 8), .ref (o + 12), .ref (o + 18)] : List Value).set 1 (.int (iI v))))) H1 → xP K (shipW K o (uZ N 1 v)) H1 := fun _ h => ship_mk h (by rw [uZ_ne (by omega)]) (by rw [uZ_eq]) (by rw [uZ_ne (by omega)]) (vI_ne 8 (by omega)) (vI_ne 2 (by omega)) (by rw [uZ_ne (by omega)]) (vI_ne 5 (by omega)) (vI_ne 5 (by omega)) (vI_ne 40 (by omega)) (vI_ne 40 (by omega)) (by rw [uZ_ne (by omega)]) (vI_ne 201 (by omega)) (vI_ne 201 (by omega)) (vI_ne 201 (by omega)) (by rw [uZ_ne (by omega)]) (by rw [uZ_ne (by omega)]) (vI_ne 60 (by omega)) (vI_ne 60 (by omega)) (vI_ne 60 (by omega)) (vI_ne 60 (by omega)) (vI_ne 60 (by omega)) (by rw [uZ_ne (by omega)]) (vI_ne 32 (by omega)) (vL_ne 4 (by omega))
theorem su_f5 (K : KT) (o : Nat) (N : Int → Int) (v : Int) : ∀ H1, xP K ((shipW K o N).set 0 (o, .inr (6, ([.int (iI (N 0)), .int (iI (N 1)), .int (iI (N 5)), .ref (o + 1), .ref (o + 2), .ref (o + 3), .ref (o + 8), .ref (o + 12), .ref (o + 18)] : List Value).set 2 (.int (iI v))))) H1 → xP K (shipW K o (uZ N 5 v)) H1 := fun _ h => ship_mk h (by rw [uZ_ne (by omega)]) (by rw [uZ_ne (by omega)]) (by rw [uZ_eq]) (vI_ne 8 (by omega)) (vI_ne 2 (by omega)) (by rw [uZ_ne (by omega)]) (vI_ne 5 (by omega)) (vI_ne 5 (by omega)) (vI_ne 40 (by omega)) (vI_ne 40 (by omega)) (by rw [uZ_ne (by omega)]) (vI_ne 201 (by omega)) (vI_ne 201 (by omega)) (vI_ne 201 (by omega)) (by rw [uZ_ne (by omega)]) (by rw [uZ_ne (by omega)]) (vI_ne 60 (by omega)) (vI_ne 60 (by omega)) (vI_ne 60 (by omega)) (vI_ne 60 (by omega)) (vI_ne 60 (by omega)) (by rw [uZ_ne (by omega)]) (vI_ne 32 (by omega)) (vL_ne 4 (by omega))
theorem su_a104 (K : KT) (o : Nat) (N : Int → Int) {z i : Int} (v : Int) (hz : 0 ≤ z ∧ z < 8) (hi : 104 + z = i) : ∀ H1, xP K ((shipW K o N).set 1 (o + 1, .inl (K.2.1, 8, .inl (upd (vI N 104) z.toNat (iI v))))) H1 → xP K (shipW K o (uZ N i v)) H1 := fun _ h => ship_mk h (by rw [uZ_ne (by omega)]) (by rw [uZ_ne (by omega)]) (by rw [uZ_ne (by omega)]) (vI_up 8 hz.1 hi) (vI_ne 2 (by omega)) (by rw [uZ_ne (by omega)]) (vI_ne 5 (by omega)) (vI_ne 5 (by omega)) (vI_ne 40 (by omega)) (vI_ne 40 (by omega)) (by rw [uZ_ne (by omega)]) (vI_ne 201 (by omega)) (vI_ne 201 (by omega)) (vI_ne 201 (by omega)) (by rw [uZ_ne (by omega)]) (by rw [uZ_ne (by omega)]) (vI_ne 60 (by omega)) (vI_ne 60 (by omega)) (vI_ne 60 (by omega)) (vI_ne 60 (by omega)) (vI_ne 60 (by omega)) (by rw [uZ_ne (by omega)]) (vI_ne 32 (by omega)) (vL_ne 4 (by omega))
theorem su_a2 (K : KT) (o : Nat) (N : Int → Int) {z i : Int} (v : Int) (hz : 0 ≤ z ∧ z < 2) (hi : 2 + z = i) : ∀ H1, xP K ((shipW K o N).set 2 (o + 2, .inl (K.2.1, 2, .inl (upd (vI N 2) z.toNat (iI v))))) H1 → xP K (shipW K o (uZ N i v)) H1 := fun _ h => ship_mk h (by rw [uZ_ne (by omega)]) (by rw [uZ_ne (by omega)]) (by rw [uZ_ne (by omega)]) (vI_ne 8 (by omega)) (vI_up 2 hz.1 hi) (by rw [uZ_ne (by omega)]) (vI_ne 5 (by omega)) (vI_ne 5 (by omega)) (vI_ne 40 (by omega)) (vI_ne 40 (by omega)) (by rw [uZ_ne (by omega)]) (vI_ne 201 (by omega)) (vI_ne 201 (by omega)) (vI_ne 201 (by omega)) (by rw [uZ_ne (by omega)]) (by rw [uZ_ne (by omega)]) (vI_ne 60 (by omega)) (vI_ne 60 (by omega)) (vI_ne 60 (by omega)) (vI_ne 60 (by omega)) (vI_ne 60 (by omega)) (by rw [uZ_ne (by omega)]) (vI_ne 32 (by omega)) (vL_ne 4 (by omega))
theorem su_f4 (K : KT) (o : Nat) (N : Int → Int) (v : Int) : ∀ H1, xP K ((shipW K o N).set 3 (o + 3, .inr (2, ([.int (iI (N 4)), .ref (o + 4), .ref (o + 5), .ref (o + 6), .ref (o + 7)] : List Value).set 0 (.int (iI v))))) H1 → xP K (shipW K o (uZ N 4 v)) H1 := fun _ h => ship_mk h (by rw [uZ_ne (by omega)]) (by rw [uZ_ne (by omega)]) (by rw [uZ_ne (by omega)]) (vI_ne 8 (by omega)) (vI_ne 2 (by omega)) (by rw [uZ_eq]) (vI_ne 5 (by omega)) (vI_ne 5 (by omega)) (vI_ne 40 (by omega)) (vI_ne 40 (by omega)) (by rw [uZ_ne (by omega)]) (vI_ne 201 (by omega)) (vI_ne 201 (by omega)) (vI_ne 201 (by omega)) (by rw [uZ_ne (by omega)]) (by rw [uZ_ne (by omega)]) (vI_ne 60 (by omega)) (vI_ne 60 (by omega)) (vI_ne 60 (by omega)) (vI_ne 60 (by omega)) (vI_ne 60 (by omega)) (by rw [uZ_ne (by omega)]) (vI_ne 32 (by omega)) (vL_ne 4 (by omega))
theorem su_a14 (K : KT) (o : Nat) (N : Int → Int) {z i : Int} (v : Int) (hz : 0 ≤ z ∧ z < 5) (hi : 14 + z = i) : ∀ H1, xP K ((shipW K o N).set 4 (o + 4, .inl (K.2.1, 5, .inl (upd (vI N 14) z.toNat (iI v))))) H1 → xP K (shipW K o (uZ N i v)) H1 := fun _ h => ship_mk h (by rw [uZ_ne (by omega)]) (by rw [uZ_ne (by omega)]) (by rw [uZ_ne (by omega)]) (vI_ne 8 (by omega)) (vI_ne 2 (by omega)) (by rw [uZ_ne (by omega)]) (vI_up 5 hz.1 hi) (vI_ne 5 (by omega)) (vI_ne 40 (by omega)) (vI_ne 40 (by omega)) (by rw [uZ_ne (by omega)]) (vI_ne 201 (by omega)) (vI_ne 201 (by omega)) (vI_ne 201 (by omega)) (by rw [uZ_ne (by omega)]) (by rw [uZ_ne (by omega)]) (vI_ne 60 (by omega)) (vI_ne 60 (by omega)) (vI_ne 60 (by omega)) (vI_ne 60 (by omega)) (vI_ne 60 (by omega)) (by rw [uZ_ne (by omega)]) (vI_ne 32 (by omega)) (vL_ne 4 (by omega))
theorem su_a19 (K : KT) (o : Nat) (N : Int → Int) {z i : Int} (v : Int) (hz : 0 ≤ z ∧ z < 5) (hi : 19 + z = i) : ∀ H1, xP K ((shipW K o N).set 5 (o + 5, .inl (K.2.1, 5, .inl (upd (vI N 19) z.toNat (iI v))))) H1 → xP K (shipW K o (uZ N i v)) H1 := fun _ h => ship_mk h (by rw [uZ_ne (by omega)]) (by rw [uZ_ne (by omega)]) (by rw [uZ_ne (by omega)]) (vI_ne 8 (by omega)) (vI_ne 2 (by omega)) (by rw [uZ_ne (by omega)]) (vI_ne 5 (by omega)) (vI_up 5 hz.1 hi) (vI_ne 40 (by omega)) (vI_ne 40 (by omega)) (by rw [uZ_ne (by omega)]) (vI_ne 201 (by omega)) (vI_ne 201 (by omega)) (vI_ne 201 (by omega)) (by rw [uZ_ne (by omega)]) (by rw [uZ_ne (by omega)]) (vI_ne 60 (by omega)) (vI_ne 60 (by omega)) (vI_ne 60 (by omega)) (vI_ne 60 (by omega)) (vI_ne 60 (by omega)) (by rw [uZ_ne (by omega)]) (vI_ne 32 (by omega)) (vL_ne 4 (by omega))
theorem su_a24 (K : KT) (o : Nat) (N : Int → Int) {z i : Int} (v : Int) (hz : 0 ≤ z ∧ z < 40) (hi : 24 + z = i) : ∀ H1, xP K ((shipW K o N).set 6 (o + 6, .inl (K.2.1, 40, .inl (upd (vI N 24) z.toNat (iI v))))) H1 → xP K (shipW K o (uZ N i v)) H1 := fun _ h => ship_mk h (by rw [uZ_ne (by omega)]) (by rw [uZ_ne (by omega)]) (by rw [uZ_ne (by omega)]) (vI_ne 8 (by omega)) (vI_ne 2 (by omega)) (by rw [uZ_ne (by omega)]) (vI_ne 5 (by omega)) (vI_ne 5 (by omega)) (vI_up 40 hz.1 hi) (vI_ne 40 (by omega)) (by rw [uZ_ne (by omega)]) (vI_ne 201 (by omega)) (vI_ne 201 (by omega)) (vI_ne 201 (by omega)) (by rw [uZ_ne (by omega)]) (by rw [uZ_ne (by omega)]) (vI_ne 60 (by omega)) (vI_ne 60 (by omega)) (vI_ne 60 (by omega)) (vI_ne 60 (by omega)) (vI_ne 60 (by omega)) (by rw [uZ_ne (by omega)]) (vI_ne 32 (by omega)) (vL_ne 4 (by omega))
theorem su_a64 (K : KT) (o : Nat) (N : Int → Int) {z i : Int} (v : Int) (hz : 0 ≤ z ∧ z < 40) (hi : 64 + z = i) : ∀ H1, xP K ((shipW K o N).set 7 (o + 7, .inl (K.2.1, 40, .inl (upd (vI N 64) z.toNat (iI v))))) H1 → xP K (shipW K o (uZ N i v)) H1 := fun _ h => ship_mk h (by rw [uZ_ne (by omega)]) (by rw [uZ_ne (by omega)]) (by rw [uZ_ne (by omega)]) (vI_ne 8 (by omega)) (vI_ne 2 (by omega)) (by rw [uZ_ne (by omega)]) (vI_ne 5 (by omega)) (vI_ne 5 (by omega)) (vI_ne 40 (by omega)) (vI_up 40 hz.1 hi) (by rw [uZ_ne (by omega)]) (vI_ne 201 (by omega)) (vI_ne 201 (by omega)) (vI_ne 201 (by omega)) (by rw [uZ_ne (by omega)]) (by rw [uZ_ne (by omega)]) (vI_ne 60 (by omega)) (vI_ne 60 (by omega)) (vI_ne 60 (by omega)) (vI_ne 60 (by omega)) (vI_ne 60 (by omega)) (by rw [uZ_ne (by omega)]) (vI_ne 32 (by omega)) (vL_ne 4 (by omega))
theorem su_f7 (K : KT) (o : Nat) (N : Int → Int) (v : Int) : ∀ H1, xP K ((shipW K o N).set 8 (o + 8, .inr (5, ([.int (iI (N 7)), .ref (o + 9), .ref (o + 10), .ref (o + 11)] : List Value).set 0 (.int (iI v))))) H1 → xP K (shipW K o (uZ N 7 v)) H1 := fun _ h => ship_mk h (by rw [uZ_ne (by omega)]) (by rw [uZ_ne (by omega)]) (by rw [uZ_ne (by omega)]) (vI_ne 8 (by omega)) (vI_ne 2 (by omega)) (by rw [uZ_ne (by omega)]) (vI_ne 5 (by omega)) (vI_ne 5 (by omega)) (vI_ne 40 (by omega)) (vI_ne 40 (by omega)) (by rw [uZ_eq]) (vI_ne 201 (by omega)) (vI_ne 201 (by omega)) (vI_ne 201 (by omega)) (by rw [uZ_ne (by omega)]) (by rw [uZ_ne (by omega)]) (vI_ne 60 (by omega)) (vI_ne 60 (by omega)) (vI_ne 60 (by omega)) (vI_ne 60 (by omega)) (vI_ne 60 (by omega)) (by rw [uZ_ne (by omega)]) (vI_ne 32 (by omega)) (vL_ne 4 (by omega))
theorem su_a452 (K : KT) (o : Nat) (N : Int → Int) {z i : Int} (v : Int) (hz : 0 ≤ z ∧ z < 201) (hi : 452 + z = i) : ∀ H1, xP K ((shipW K o N).set 9 (o + 9, .inl (K.2.1, 201, .inl (upd (vI N 452) z.toNat (iI v))))) H1 → xP K (shipW K o (uZ N i v)) H1 := fun _ h => ship_mk h (by rw [uZ_ne (by omega)]) (by rw [uZ_ne (by omega)]) (by rw [uZ_ne (by omega)]) (vI_ne 8 (by omega)) (vI_ne 2 (by omega)) (by rw [uZ_ne (by omega)]) (vI_ne 5 (by omega)) (vI_ne 5 (by omega)) (vI_ne 40 (by omega)) (vI_ne 40 (by omega)) (by rw [uZ_ne (by omega)]) (vI_up 201 hz.1 hi) (vI_ne 201 (by omega)) (vI_ne 201 (by omega)) (by rw [uZ_ne (by omega)]) (by rw [uZ_ne (by omega)]) (vI_ne 60 (by omega)) (vI_ne 60 (by omega)) (vI_ne 60 (by omega)) (vI_ne 60 (by omega)) (vI_ne 60 (by omega)) (by rw [uZ_ne (by omega)]) (vI_ne 32 (by omega)) (vL_ne 4 (by omega))
theorem su_a653 (K : KT) (o : Nat) (N : Int → Int) {z i : Int} (v : Int) (hz : 0 ≤ z ∧ z < 201) (hi : 653 + z = i) : ∀ H1, xP K ((shipW K o N).set 10 (o + 10, .inl (K.2.1, 201, .inl (upd (vI N 653) z.toNat (iI v))))) H1 → xP K (shipW K o (uZ N i v)) H1 := fun _ h => ship_mk h (by rw [uZ_ne (by omega)]) (by rw [uZ_ne (by omega)]) (by rw [uZ_ne (by omega)]) (vI_ne 8 (by omega)) (vI_ne 2 (by omega)) (by rw [uZ_ne (by omega)]) (vI_ne 5 (by omega)) (vI_ne 5 (by omega)) (vI_ne 40 (by omega)) (vI_ne 40 (by omega)) (by rw [uZ_ne (by omega)]) (vI_ne 201 (by omega)) (vI_up 201 hz.1 hi) (vI_ne 201 (by omega)) (by rw [uZ_ne (by omega)]) (by rw [uZ_ne (by omega)]) (vI_ne 60 (by omega)) (vI_ne 60 (by omega)) (vI_ne 60 (by omega)) (vI_ne 60 (by omega)) (vI_ne 60 (by omega)) (by rw [uZ_ne (by omega)]) (vI_ne 32 (by omega)) (vL_ne 4 (by omega))
theorem su_a854 (K : KT) (o : Nat) (N : Int → Int) {z i : Int} (v : Int) (hz : 0 ≤ z ∧ z < 201) (hi : 854 + z = i) : ∀ H1, xP K ((shipW K o N).set 11 (o + 11, .inl (K.2.1, 201, .inl (upd (vI N 854) z.toNat (iI v))))) H1 → xP K (shipW K o (uZ N i v)) H1 := fun _ h => ship_mk h (by rw [uZ_ne (by omega)]) (by rw [uZ_ne (by omega)]) (by rw [uZ_ne (by omega)]) (vI_ne 8 (by omega)) (vI_ne 2 (by omega)) (by rw [uZ_ne (by omega)]) (vI_ne 5 (by omega)) (vI_ne 5 (by omega)) (vI_ne 40 (by omega)) (vI_ne 40 (by omega)) (by rw [uZ_ne (by omega)]) (vI_ne 201 (by omega)) (vI_ne 201 (by omega)) (vI_up 201 hz.1 hi) (by rw [uZ_ne (by omega)]) (by rw [uZ_ne (by omega)]) (vI_ne 60 (by omega)) (vI_ne 60 (by omega)) (vI_ne 60 (by omega)) (vI_ne 60 (by omega)) (vI_ne 60 (by omega)) (by rw [uZ_ne (by omega)]) (vI_ne 32 (by omega)) (vL_ne 4 (by omega))
theorem su_f6 (K : KT) (o : Nat) (N : Int → Int) (v : Int) : ∀ H1, xP K ((shipW K o N).set 12 (o + 12, .inr (0, ([.int (iI (N 6)), .long (lI (N 9)), .ref (o + 13), .ref (o + 14), .ref (o + 15), .ref (o + 16), .ref (o + 17)] : List Value).set 0 (.int (iI v))))) H1 → xP K (shipW K o (uZ N 6 v)) H1 := fun _ h => ship_mk h (by rw [uZ_ne (by omega)]) (by rw [uZ_ne (by omega)]) (by rw [uZ_ne (by omega)]) (vI_ne 8 (by omega)) (vI_ne 2 (by omega)) (by rw [uZ_ne (by omega)]) (vI_ne 5 (by omega)) (vI_ne 5 (by omega)) (vI_ne 40 (by omega)) (vI_ne 40 (by omega)) (by rw [uZ_ne (by omega)]) (vI_ne 201 (by omega)) (vI_ne 201 (by omega)) (vI_ne 201 (by omega)) (by rw [uZ_eq]) (by rw [uZ_ne (by omega)]) (vI_ne 60 (by omega)) (vI_ne 60 (by omega)) (vI_ne 60 (by omega)) (vI_ne 60 (by omega)) (vI_ne 60 (by omega)) (by rw [uZ_ne (by omega)]) (vI_ne 32 (by omega)) (vL_ne 4 (by omega))
theorem su_f9 (K : KT) (o : Nat) (N : Int → Int) (v : Int) : ∀ H1, xP K ((shipW K o N).set 12 (o + 12, .inr (0, ([.int (iI (N 6)), .long (lI (N 9)), .ref (o + 13), .ref (o + 14), .ref (o + 15), .ref (o + 16), .ref (o + 17)] : List Value).set 1 (.long (lI v))))) H1 → xP K (shipW K o (uZ N 9 v)) H1 := fun _ h => ship_mk h (by rw [uZ_ne (by omega)]) (by rw [uZ_ne (by omega)]) (by rw [uZ_ne (by omega)]) (vI_ne 8 (by omega)) (vI_ne 2 (by omega)) (by rw [uZ_ne (by omega)]) (vI_ne 5 (by omega)) (vI_ne 5 (by omega)) (vI_ne 40 (by omega)) (vI_ne 40 (by omega)) (by rw [uZ_ne (by omega)]) (vI_ne 201 (by omega)) (vI_ne 201 (by omega)) (vI_ne 201 (by omega)) (by rw [uZ_ne (by omega)]) (by rw [uZ_eq]) (vI_ne 60 (by omega)) (vI_ne 60 (by omega)) (vI_ne 60 (by omega)) (vI_ne 60 (by omega)) (vI_ne 60 (by omega)) (by rw [uZ_ne (by omega)]) (vI_ne 32 (by omega)) (vL_ne 4 (by omega))
theorem su_a152 (K : KT) (o : Nat) (N : Int → Int) {z i : Int} (v : Int) (hz : 0 ≤ z ∧ z < 60) (hi : 152 + z = i) : ∀ H1, xP K ((shipW K o N).set 13 (o + 13, .inl (K.2.1, 60, .inl (upd (vI N 152) z.toNat (iI v))))) H1 → xP K (shipW K o (uZ N i v)) H1 := fun _ h => ship_mk h (by rw [uZ_ne (by omega)]) (by rw [uZ_ne (by omega)]) (by rw [uZ_ne (by omega)]) (vI_ne 8 (by omega)) (vI_ne 2 (by omega)) (by rw [uZ_ne (by omega)]) (vI_ne 5 (by omega)) (vI_ne 5 (by omega)) (vI_ne 40 (by omega)) (vI_ne 40 (by omega)) (by rw [uZ_ne (by omega)]) (vI_ne 201 (by omega)) (vI_ne 201 (by omega)) (vI_ne 201 (by omega)) (by rw [uZ_ne (by omega)]) (by rw [uZ_ne (by omega)]) (vI_up 60 hz.1 hi) (vI_ne 60 (by omega)) (vI_ne 60 (by omega)) (vI_ne 60 (by omega)) (vI_ne 60 (by omega)) (by rw [uZ_ne (by omega)]) (vI_ne 32 (by omega)) (vL_ne 4 (by omega))
theorem su_a212 (K : KT) (o : Nat) (N : Int → Int) {z i : Int} (v : Int) (hz : 0 ≤ z ∧ z < 60) (hi : 212 + z = i) : ∀ H1, xP K ((shipW K o N).set 14 (o + 14, .inl (K.2.1, 60, .inl (upd (vI N 212) z.toNat (iI v))))) H1 → xP K (shipW K o (uZ N i v)) H1 := fun _ h => ship_mk h (by rw [uZ_ne (by omega)]) (by rw [uZ_ne (by omega)]) (by rw [uZ_ne (by omega)]) (vI_ne 8 (by omega)) (vI_ne 2 (by omega)) (by rw [uZ_ne (by omega)]) (vI_ne 5 (by omega)) (vI_ne 5 (by omega)) (vI_ne 40 (by omega)) (vI_ne 40 (by omega)) (by rw [uZ_ne (by omega)]) (vI_ne 201 (by omega)) (vI_ne 201 (by omega)) (vI_ne 201 (by omega)) (by rw [uZ_ne (by omega)]) (by rw [uZ_ne (by omega)]) (vI_ne 60 (by omega)) (vI_up 60 hz.1 hi) (vI_ne 60 (by omega)) (vI_ne 60 (by omega)) (vI_ne 60 (by omega)) (by rw [uZ_ne (by omega)]) (vI_ne 32 (by omega)) (vL_ne 4 (by omega))
theorem su_a272 (K : KT) (o : Nat) (N : Int → Int) {z i : Int} (v : Int) (hz : 0 ≤ z ∧ z < 60) (hi : 272 + z = i) : ∀ H1, xP K ((shipW K o N).set 15 (o + 15, .inl (K.2.1, 60, .inl (upd (vI N 272) z.toNat (iI v))))) H1 → xP K (shipW K o (uZ N i v)) H1 := fun _ h => ship_mk h (by rw [uZ_ne (by omega)]) (by rw [uZ_ne (by omega)]) (by rw [uZ_ne (by omega)]) (vI_ne 8 (by omega)) (vI_ne 2 (by omega)) (by rw [uZ_ne (by omega)]) (vI_ne 5 (by omega)) (vI_ne 5 (by omega)) (vI_ne 40 (by omega)) (vI_ne 40 (by omega)) (by rw [uZ_ne (by omega)]) (vI_ne 201 (by omega)) (vI_ne 201 (by omega)) (vI_ne 201 (by omega)) (by rw [uZ_ne (by omega)]) (by rw [uZ_ne (by omega)]) (vI_ne 60 (by omega)) (vI_ne 60 (by omega)) (vI_up 60 hz.1 hi) (vI_ne 60 (by omega)) (vI_ne 60 (by omega)) (by rw [uZ_ne (by omega)]) (vI_ne 32 (by omega)) (vL_ne 4 (by omega))
theorem su_a332 (K : KT) (o : Nat) (N : Int → Int) {z i : Int} (v : Int) (hz : 0 ≤ z ∧ z < 60) (hi : 332 + z = i) : ∀ H1, xP K ((shipW K o N).set 16 (o + 16, .inl (K.2.1, 60, .inl (upd (vI N 332) z.toNat (iI v))))) H1 → xP K (shipW K o (uZ N i v)) H1 := fun _ h => ship_mk h (by rw [uZ_ne (by omega)]) (by rw [uZ_ne (by omega)]) (by rw [uZ_ne (by omega)]) (vI_ne 8 (by omega)) (vI_ne 2 (by omega)) (by rw [uZ_ne (by omega)]) (vI_ne 5 (by omega)) (vI_ne 5 (by omega)) (vI_ne 40 (by omega)) (vI_ne 40 (by omega)) (by rw [uZ_ne (by omega)]) (vI_ne 201 (by omega)) (vI_ne 201 (by omega)) (vI_ne 201 (by omega)) (by rw [uZ_ne (by omega)]) (by rw [uZ_ne (by omega)]) (vI_ne 60 (by omega)) (vI_ne 60 (by omega)) (vI_ne 60 (by omega)) (vI_up 60 hz.1 hi) (vI_ne 60 (by omega)) (by rw [uZ_ne (by omega)]) (vI_ne 32 (by omega)) (vL_ne 4 (by omega))
theorem su_a392 (K : KT) (o : Nat) (N : Int → Int) {z i : Int} (v : Int) (hz : 0 ≤ z ∧ z < 60) (hi : 392 + z = i) : ∀ H1, xP K ((shipW K o N).set 17 (o + 17, .inl (K.2.1, 60, .inl (upd (vI N 392) z.toNat (iI v))))) H1 → xP K (shipW K o (uZ N i v)) H1 := fun _ h => ship_mk h (by rw [uZ_ne (by omega)]) (by rw [uZ_ne (by omega)]) (by rw [uZ_ne (by omega)]) (vI_ne 8 (by omega)) (vI_ne 2 (by omega)) (by rw [uZ_ne (by omega)]) (vI_ne 5 (by omega)) (vI_ne 5 (by omega)) (vI_ne 40 (by omega)) (vI_ne 40 (by omega)) (by rw [uZ_ne (by omega)]) (vI_ne 201 (by omega)) (vI_ne 201 (by omega)) (vI_ne 201 (by omega)) (by rw [uZ_ne (by omega)]) (by rw [uZ_ne (by omega)]) (vI_ne 60 (by omega)) (vI_ne 60 (by omega)) (vI_ne 60 (by omega)) (vI_ne 60 (by omega)) (vI_up 60 hz.1 hi) (by rw [uZ_ne (by omega)]) (vI_ne 32 (by omega)) (vL_ne 4 (by omega))
theorem su_f8 (K : KT) (o : Nat) (N : Int → Int) (v : Int) : ∀ H1, xP K ((shipW K o N).set 18 (o + 18, .inr (4, ([.long (lI (N 8)), .ref (o + 19), .ref (o + 20)] : List Value).set 0 (.long (lI v))))) H1 → xP K (shipW K o (uZ N 8 v)) H1 := fun _ h => ship_mk h (by rw [uZ_ne (by omega)]) (by rw [uZ_ne (by omega)]) (by rw [uZ_ne (by omega)]) (vI_ne 8 (by omega)) (vI_ne 2 (by omega)) (by rw [uZ_ne (by omega)]) (vI_ne 5 (by omega)) (vI_ne 5 (by omega)) (vI_ne 40 (by omega)) (vI_ne 40 (by omega)) (by rw [uZ_ne (by omega)]) (vI_ne 201 (by omega)) (vI_ne 201 (by omega)) (vI_ne 201 (by omega)) (by rw [uZ_ne (by omega)]) (by rw [uZ_ne (by omega)]) (vI_ne 60 (by omega)) (vI_ne 60 (by omega)) (vI_ne 60 (by omega)) (vI_ne 60 (by omega)) (vI_ne 60 (by omega)) (by rw [uZ_eq]) (vI_ne 32 (by omega)) (vL_ne 4 (by omega))
theorem su_a120 (K : KT) (o : Nat) (N : Int → Int) {z i : Int} (v : Int) (hz : 0 ≤ z ∧ z < 32) (hi : 120 + z = i) : ∀ H1, xP K ((shipW K o N).set 19 (o + 19, .inl (K.2.1, 32, .inl (upd (vI N 120) z.toNat (iI v))))) H1 → xP K (shipW K o (uZ N i v)) H1 := fun _ h => ship_mk h (by rw [uZ_ne (by omega)]) (by rw [uZ_ne (by omega)]) (by rw [uZ_ne (by omega)]) (vI_ne 8 (by omega)) (vI_ne 2 (by omega)) (by rw [uZ_ne (by omega)]) (vI_ne 5 (by omega)) (vI_ne 5 (by omega)) (vI_ne 40 (by omega)) (vI_ne 40 (by omega)) (by rw [uZ_ne (by omega)]) (vI_ne 201 (by omega)) (vI_ne 201 (by omega)) (vI_ne 201 (by omega)) (by rw [uZ_ne (by omega)]) (by rw [uZ_ne (by omega)]) (vI_ne 60 (by omega)) (vI_ne 60 (by omega)) (vI_ne 60 (by omega)) (vI_ne 60 (by omega)) (vI_ne 60 (by omega)) (by rw [uZ_ne (by omega)]) (vI_up 32 hz.1 hi) (vL_ne 4 (by omega))
theorem su_a10 (K : KT) (o : Nat) (N : Int → Int) {z i : Int} (v : Int) (hz : 0 ≤ z ∧ z < 4) (hi : 10 + z = i) : ∀ H1, xP K ((shipW K o N).set 20 (o + 20, .inl (K.2.2.1, 4, .inr (.inl (vp_updL (vL N 10) z.toNat (lI v)))))) H1 → xP K (shipW K o (uZ N i v)) H1 := fun _ h => ship_mk h (by rw [uZ_ne (by omega)]) (by rw [uZ_ne (by omega)]) (by rw [uZ_ne (by omega)]) (vI_ne 8 (by omega)) (vI_ne 2 (by omega)) (by rw [uZ_ne (by omega)]) (vI_ne 5 (by omega)) (vI_ne 5 (by omega)) (vI_ne 40 (by omega)) (vI_ne 40 (by omega)) (by rw [uZ_ne (by omega)]) (vI_ne 201 (by omega)) (vI_ne 201 (by omega)) (vI_ne 201 (by omega)) (by rw [uZ_ne (by omega)]) (by rw [uZ_ne (by omega)]) (vI_ne 60 (by omega)) (vI_ne 60 (by omega)) (vI_ne 60 (by omega)) (vI_ne 60 (by omega)) (vI_ne 60 (by omega)) (by rw [uZ_ne (by omega)]) (vI_ne 32 (by omega)) (vL_up 4 hz.1 hi)
theorem ship_agree {K : KT} {o : Nat} {N M : Int → Int} {H : Heap} (h : ∀ k, 0 ≤ k → k < 1055 → (k < 112 ∨ 120 ≤ k) → N k = M k) (hP : xP K (shipW K o N) H) : xP K (shipW K o M) H := ship_mk hP (congrArg iI (h _ (by omega) (by omega) (by omega))) (congrArg iI (h _ (by omega) (by omega) (by omega))) (congrArg iI (h _ (by omega) (by omega) (by omega))) (vI_eq 8 fun k h1 h2 => h k (by omega) (by omega) (by omega)) (vI_eq 2 fun k h1 h2 => h k (by omega) (by omega) (by omega)) (congrArg iI (h _ (by omega) (by omega) (by omega))) (vI_eq 5 fun k h1 h2 => h k (by omega) (by omega) (by omega)) (vI_eq 5 fun k h1 h2 => h k (by omega) (by omega) (by omega)) (vI_eq 40 fun k h1 h2 => h k (by omega) (by omega) (by omega)) (vI_eq 40 fun k h1 h2 => h k (by omega) (by omega) (by omega)) (congrArg iI (h _ (by omega) (by omega) (by omega))) (vI_eq 201 fun k h1 h2 => h k (by omega) (by omega) (by omega)) (vI_eq 201 fun k h1 h2 => h k (by omega) (by omega) (by omega)) (vI_eq 201 fun k h1 h2 => h k (by omega) (by omega) (by omega)) (congrArg iI (h _ (by omega) (by omega) (by omega))) (congrArg lI (h _ (by omega) (by omega) (by omega))) (vI_eq 60 fun k h1 h2 => h k (by omega) (by omega) (by omega)) (vI_eq 60 fun k h1 h2 => h k (by omega) (by omega) (by omega)) (vI_eq 60 fun k h1 h2 => h k (by omega) (by omega) (by omega)) (vI_eq 60 fun k h1 h2 => h k (by omega) (by omega) (by omega)) (vI_eq 60 fun k h1 h2 => h k (by omega) (by omega) (by omega)) (congrArg lI (h _ (by omega) (by omega) (by omega))) (vI_eq 32 fun k h1 h2 => h k (by omega) (by omega) (by omega)) (vL_eq 4 fun k h1 h2 => h k (by omega) (by omega) (by omega))
theorem blk_D {o n : Nat} {ws : va_W} (h : ∀ (k : Nat) (q : Nat × va_E), ws[k]? = some q → q.1 = o + k) (hn : ws.length = n) : va_D (Blk o n) ws := by
  refine ⟨fun i j p q hi hj hpq => ?_, fun k q hk => ?_⟩
  · have := h i p hi
    have := h j q hj
    omega
  · have h1 := h k q hk
    have h2 : k < ws.length := (List.getElem?_eq_some_iff.mp hk).1
    exact ⟨by omega, by omega⟩
def cns : Nat → va_W → Prop
  | _, [] => True
  | o, x :: xs => x.1 = o ∧ cns (o + 1) xs
theorem cns_at : ∀ (ws : va_W) (o : Nat), cns o ws → ∀ (k : Nat) (q : Nat × va_E), ws[k]? = some q → q.1 = o + k
  | [], _, _, k, q, h => by simp at h
  | x :: xs, o, hc, k, q, h => by
    cases k with
    | zero =>
      rw [List.getElem?_cons_zero] at h
      cases h
      exact hc.1
    | succ k =>
      rw [List.getElem?_cons_succ] at h
      have := cns_at xs (o + 1) hc.2 k q h
      omega
theorem ship_D (K : KT) (o : Nat) (N : Int → Int) : va_D (Blk o 21) (shipW K o N) := blk_D (cns_at _ o ⟨rfl, rfl, rfl, rfl, rfl, rfl, rfl, rfl, rfl, rfl, rfl, rfl, rfl, rfl, rfl, rfl, rfl, rfl, rfl, rfl, rfl, trivial⟩) rfl
def mW (K : KT) (o : Nat) (N B SS T F : Int → Int) : va_W := [(o, .inr (8, [.ref (o + 1), .ref (o + 2), .ref (o + 3), .ref (o + 4), .int (iI (F 0)), .int (iI (F 1)), .int (iI (F 2)), .int (iI (F 3)), .int (iI (F 4)), .int (iI (F 5)), .int (iI (F 6)), .int (iI (F 7)), .int (iI (F 8))])), (o + 1, .inl (K.2.1, 1055, .inl (vI N 0))), (o + 2, .inl (K.2.1, 1055, .inl (vI B 0))), (o + 3, .inl (K.2.1, 4220, .inl (vI SS 0))), (o + 4, .inl (K.2.1, 80, .inl (vI T 0)))]
theorem m_D (K : KT) (o : Nat) (N B SS T F : Int → Int) : va_D (Blk o 5) (mW K o N B SS T F) := blk_D (cns_at _ o ⟨rfl, rfl, rfl, rfl, rfl, trivial⟩) rfl
theorem m_mk {K : KT} {o : Nat} {N B SS T F : Int → Int} {H : Heap} {x0 : Int32} {x1 : Int32} {x2 : Int32} {x3 : Int32} {x4 : Int32} {x5 : Int32} {x6 : Int32} {x7 : Int32} {x8 : Int32} {f0 f1 f2 f3 : Nat → Int32} (h : xP K [(o, .inr (8, [.ref (o + 1), .ref (o + 2), .ref (o + 3), .ref (o + 4), .int x0, .int x1, .int x2, .int x3, .int x4, .int x5, .int x6, .int x7, .int x8])), (o + 1, .inl (K.2.1, 1055, .inl f0)), (o + 2, .inl (K.2.1, 1055, .inl f1)), (o + 3, .inl (K.2.1, 4220, .inl f2)), (o + 4, .inl (K.2.1, 80, .inl f3))] H) (e0 : x0 = iI (F 0)) (e1 : x1 = iI (F 1)) (e2 : x2 = iI (F 2)) (e3 : x3 = iI (F 3)) (e4 : x4 = iI (F 4)) (e5 : x5 = iI (F 5)) (e6 : x6 = iI (F 6)) (e7 : x7 = iI (F 7)) (e8 : x8 = iI (F 8)) (h0 : ∀ j, j < 1055 → f0 j = vI N 0 j) (h1 : ∀ j, j < 1055 → f1 j = vI B 0 j) (h2 : ∀ j, j < 4220 → f2 j = vI SS 0 j) (h3 : ∀ j, j < 80 → f3 j = vI T 0 j) : xP K (mW K o N B SS T F) H := xP_cEs h ⟨cE_rf (by rw [e0, e1, e2, e3, e4, e5, e6, e7, e8]), cE_i h0, cE_i h1, cE_i h2, cE_i h3, trivial⟩
theorem mu_N (K : KT) (o : Nat) (N B SS T F : Int → Int) {z : Int} (v : Int) (hz : 0 ≤ z ∧ z < 1055) : ∀ H1, xP K ((mW K o N B SS T F).set 1 (o + 1, .inl (K.2.1, 1055, .inl (upd (vI N 0) z.toNat (iI v))))) H1 → xP K (mW K o (uZ N z v) B SS T F) H1 := fun _ h => m_mk h rfl rfl rfl rfl rfl rfl rfl rfl rfl (vI_up 1055 hz.1 (by omega)) (fun _ _ => rfl) (fun _ _ => rfl) (fun _ _ => rfl)
theorem mu_B (K : KT) (o : Nat) (N B SS T F : Int → Int) {z : Int} (v : Int) (hz : 0 ≤ z ∧ z < 1055) : ∀ H1, xP K ((mW K o N B SS T F).set 2 (o + 2, .inl (K.2.1, 1055, .inl (upd (vI B 0) z.toNat (iI v))))) H1 → xP K (mW K o N (uZ B z v) SS T F) H1 := fun _ h => m_mk h rfl rfl rfl rfl rfl rfl rfl rfl rfl (fun _ _ => rfl) (vI_up 1055 hz.1 (by omega)) (fun _ _ => rfl) (fun _ _ => rfl)
theorem mu_SS (K : KT) (o : Nat) (N B SS T F : Int → Int) {z : Int} (v : Int) (hz : 0 ≤ z ∧ z < 4220) : ∀ H1, xP K ((mW K o N B SS T F).set 3 (o + 3, .inl (K.2.1, 4220, .inl (upd (vI SS 0) z.toNat (iI v))))) H1 → xP K (mW K o N B (uZ SS z v) T F) H1 := fun _ h => m_mk h rfl rfl rfl rfl rfl rfl rfl rfl rfl (fun _ _ => rfl) (fun _ _ => rfl) (vI_up 4220 hz.1 (by omega)) (fun _ _ => rfl)
theorem mu_T (K : KT) (o : Nat) (N B SS T F : Int → Int) {z : Int} (v : Int) (hz : 0 ≤ z ∧ z < 80) : ∀ H1, xP K ((mW K o N B SS T F).set 4 (o + 4, .inl (K.2.1, 80, .inl (upd (vI T 0) z.toNat (iI v))))) H1 → xP K (mW K o N B SS (uZ T z v) F) H1 := fun _ h => m_mk h rfl rfl rfl rfl rfl rfl rfl rfl rfl (fun _ _ => rfl) (fun _ _ => rfl) (fun _ _ => rfl) (vI_up 80 hz.1 (by omega))
theorem mu_F0 (K : KT) (o : Nat) (N B SS T F : Int → Int) (v : Int) : ∀ H1, xP K ((mW K o N B SS T F).set 0 (o, .inr (8, ([.ref (o + 1), .ref (o + 2), .ref (o + 3), .ref (o + 4), .int (iI (F 0)), .int (iI (F 1)), .int (iI (F 2)), .int (iI (F 3)), .int (iI (F 4)), .int (iI (F 5)), .int (iI (F 6)), .int (iI (F 7)), .int (iI (F 8))] : List Value).set 4 (.int (iI v))))) H1 → xP K (mW K o N B SS T (uZ F 0 v)) H1 := fun _ h => m_mk h (by rw [uZ_eq]) (by rw [uZ_ne (by omega)]) (by rw [uZ_ne (by omega)]) (by rw [uZ_ne (by omega)]) (by rw [uZ_ne (by omega)]) (by rw [uZ_ne (by omega)]) (by rw [uZ_ne (by omega)]) (by rw [uZ_ne (by omega)]) (by rw [uZ_ne (by omega)]) (fun _ _ => rfl) (fun _ _ => rfl) (fun _ _ => rfl) (fun _ _ => rfl)
theorem mu_F1 (K : KT) (o : Nat) (N B SS T F : Int → Int) (v : Int) : ∀ H1, xP K ((mW K o N B SS T F).set 0 (o, .inr (8, ([.ref (o + 1), .ref (o + 2), .ref (o + 3), .ref (o + 4), .int (iI (F 0)), .int (iI (F 1)), .int (iI (F 2)), .int (iI (F 3)), .int (iI (F 4)), .int (iI (F 5)), .int (iI (F 6)), .int (iI (F 7)), .int (iI (F 8))] : List Value).set 5 (.int (iI v))))) H1 → xP K (mW K o N B SS T (uZ F 1 v)) H1 := fun _ h => m_mk h (by rw [uZ_ne (by omega)]) (by rw [uZ_eq]) (by rw [uZ_ne (by omega)]) (by rw [uZ_ne (by omega)]) (by rw [uZ_ne (by omega)]) (by rw [uZ_ne (by omega)]) (by rw [uZ_ne (by omega)]) (by rw [uZ_ne (by omega)]) (by rw [uZ_ne (by omega)]) (fun _ _ => rfl) (fun _ _ => rfl) (fun _ _ => rfl) (fun _ _ => rfl)
theorem mu_F2 (K : KT) (o : Nat) (N B SS T F : Int → Int) (v : Int) : ∀ H1, xP K ((mW K o N B SS T F).set 0 (o, .inr (8, ([.ref (o + 1), .ref (o + 2), .ref (o + 3), .ref (o + 4), .int (iI (F 0)), .int (iI (F 1)), .int (iI (F 2)), .int (iI (F 3)), .int (iI (F 4)), .int (iI (F 5)), .int (iI (F 6)), .int (iI (F 7)), .int (iI (F 8))] : List Value).set 6 (.int (iI v))))) H1 → xP K (mW K o N B SS T (uZ F 2 v)) H1 := fun _ h => m_mk h (by rw [uZ_ne (by omega)]) (by rw [uZ_ne (by omega)]) (by rw [uZ_eq]) (by rw [uZ_ne (by omega)]) (by rw [uZ_ne (by omega)]) (by rw [uZ_ne (by omega)]) (by rw [uZ_ne (by omega)]) (by rw [uZ_ne (by omega)]) (by rw [uZ_ne (by omega)]) (fun _ _ => rfl) (fun _ _ => rfl) (fun _ _ => rfl) (fun _ _ => rfl)
theorem mu_F3 (K : KT) (o : Nat) (N B SS T F : Int → Int) (v : Int) : ∀ H1, xP K ((mW K o N B SS T F).set 0 (o, .inr (8, ([.ref (o + 1), .ref (o + 2), .ref (o + 3), .ref (o + 4), .int (iI (F 0)), .int (iI (F 1)), .int (iI (F 2)), .int (iI (F 3)), .int (iI (F 4)), .int (iI (F 5)), .int (iI (F 6)), .int (iI (F 7)), .int (iI (F 8))] : List Value).set 7 (.int (iI v))))) H1 → xP K (mW K o N B SS T (uZ F 3 v)) H1 := fun _ h => m_mk h (by rw [uZ_ne (by omega)]) (by rw [uZ_ne (by omega)]) (by rw [uZ_ne (by omega)]) (by rw [uZ_eq]) (by rw [uZ_ne (by omega)]) (by rw [uZ_ne (by omega)]) (by rw [uZ_ne (by omega)]) (by rw [uZ_ne (by omega)]) (by rw [uZ_ne (by omega)]) (fun _ _ => rfl) (fun _ _ => rfl) (fun _ _ => rfl) (fun _ _ => rfl)
theorem mu_F4 (K : KT) (o : Nat) (N B SS T F : Int → Int) (v : Int) : ∀ H1, xP K ((mW K o N B SS T F).set 0 (o, .inr (8, ([.ref (o + 1), .ref (o + 2), .ref (o + 3), .ref (o + 4), .int (iI (F 0)), .int (iI (F 1)), .int (iI (F 2)), .int (iI (F 3)), .int (iI (F 4)), .int (iI (F 5)), .int (iI (F 6)), .int (iI (F 7)), .int (iI (F 8))] : List Value).set 8 (.int (iI v))))) H1 → xP K (mW K o N B SS T (uZ F 4 v)) H1 := fun _ h => m_mk h (by rw [uZ_ne (by omega)]) (by rw [uZ_ne (by omega)]) (by rw [uZ_ne (by omega)]) (by rw [uZ_ne (by omega)]) (by rw [uZ_eq]) (by rw [uZ_ne (by omega)]) (by rw [uZ_ne (by omega)]) (by rw [uZ_ne (by omega)]) (by rw [uZ_ne (by omega)]) (fun _ _ => rfl) (fun _ _ => rfl) (fun _ _ => rfl) (fun _ _ => rfl)
theorem mu_F5 (K : KT) (o : Nat) (N B SS T F : Int → Int) (v : Int) : ∀ H1, xP K ((mW K o N B SS T F).set 0 (o, .inr (8, ([.ref (o + 1), .ref (o + 2), .ref (o + 3), .ref (o + 4), .int (iI (F 0)), .int (iI (F 1)), .int (iI (F 2)), .int (iI (F 3)), .int (iI (F 4)), .int (iI (F 5)), .int (iI (F 6)), .int (iI (F 7)), .int (iI (F 8))] : List Value).set 9 (.int (iI v))))) H1 → xP K (mW K o N B SS T (uZ F 5 v)) H1 := fun _ h => m_mk h (by rw [uZ_ne (by omega)]) (by rw [uZ_ne (by omega)]) (by rw [uZ_ne (by omega)]) (by rw [uZ_ne (by omega)]) (by rw [uZ_ne (by omega)]) (by rw [uZ_eq]) (by rw [uZ_ne (by omega)]) (by rw [uZ_ne (by omega)]) (by rw [uZ_ne (by omega)]) (fun _ _ => rfl) (fun _ _ => rfl) (fun _ _ => rfl) (fun _ _ => rfl)
theorem mu_F6 (K : KT) (o : Nat) (N B SS T F : Int → Int) (v : Int) : ∀ H1, xP K ((mW K o N B SS T F).set 0 (o, .inr (8, ([.ref (o + 1), .ref (o + 2), .ref (o + 3), .ref (o + 4), .int (iI (F 0)), .int (iI (F 1)), .int (iI (F 2)), .int (iI (F 3)), .int (iI (F 4)), .int (iI (F 5)), .int (iI (F 6)), .int (iI (F 7)), .int (iI (F 8))] : List Value).set 10 (.int (iI v))))) H1 → xP K (mW K o N B SS T (uZ F 6 v)) H1 := fun _ h => m_mk h (by rw [uZ_ne (by omega)]) (by rw [uZ_ne (by omega)]) (by rw [uZ_ne (by omega)]) (by rw [uZ_ne (by omega)]) (by rw [uZ_ne (by omega)]) (by rw [uZ_ne (by omega)]) (by rw [uZ_eq]) (by rw [uZ_ne (by omega)]) (by rw [uZ_ne (by omega)]) (fun _ _ => rfl) (fun _ _ => rfl) (fun _ _ => rfl) (fun _ _ => rfl)
theorem mu_F7 (K : KT) (o : Nat) (N B SS T F : Int → Int) (v : Int) : ∀ H1, xP K ((mW K o N B SS T F).set 0 (o, .inr (8, ([.ref (o + 1), .ref (o + 2), .ref (o + 3), .ref (o + 4), .int (iI (F 0)), .int (iI (F 1)), .int (iI (F 2)), .int (iI (F 3)), .int (iI (F 4)), .int (iI (F 5)), .int (iI (F 6)), .int (iI (F 7)), .int (iI (F 8))] : List Value).set 11 (.int (iI v))))) H1 → xP K (mW K o N B SS T (uZ F 7 v)) H1 := fun _ h => m_mk h (by rw [uZ_ne (by omega)]) (by rw [uZ_ne (by omega)]) (by rw [uZ_ne (by omega)]) (by rw [uZ_ne (by omega)]) (by rw [uZ_ne (by omega)]) (by rw [uZ_ne (by omega)]) (by rw [uZ_ne (by omega)]) (by rw [uZ_eq]) (by rw [uZ_ne (by omega)]) (fun _ _ => rfl) (fun _ _ => rfl) (fun _ _ => rfl) (fun _ _ => rfl)
theorem mu_F8 (K : KT) (o : Nat) (N B SS T F : Int → Int) (v : Int) : ∀ H1, xP K ((mW K o N B SS T F).set 0 (o, .inr (8, ([.ref (o + 1), .ref (o + 2), .ref (o + 3), .ref (o + 4), .int (iI (F 0)), .int (iI (F 1)), .int (iI (F 2)), .int (iI (F 3)), .int (iI (F 4)), .int (iI (F 5)), .int (iI (F 6)), .int (iI (F 7)), .int (iI (F 8))] : List Value).set 12 (.int (iI v))))) H1 → xP K (mW K o N B SS T (uZ F 8 v)) H1 := fun _ h => m_mk h (by rw [uZ_ne (by omega)]) (by rw [uZ_ne (by omega)]) (by rw [uZ_ne (by omega)]) (by rw [uZ_ne (by omega)]) (by rw [uZ_ne (by omega)]) (by rw [uZ_ne (by omega)]) (by rw [uZ_ne (by omega)]) (by rw [uZ_ne (by omega)]) (by rw [uZ_eq]) (fun _ _ => rfl) (fun _ _ => rfl) (fun _ _ => rfl) (fun _ _ => rfl)
theorem m_agree {K : KT} {o : Nat} {N B SS T F N2 B2 S2 T2 : Int → Int} {H : Heap} (hN : ∀ k, 0 ≤ k → k < 1055 → N k = N2 k) (hB : ∀ k, 0 ≤ k → k < 1055 → B k = B2 k) (hS : ∀ k, 0 ≤ k → k < 4220 → SS k = S2 k) (hT : ∀ k, 0 ≤ k → k < 80 → T k = T2 k) (hP : xP K (mW K o N B SS T F) H) : xP K (mW K o N2 B2 S2 T2 F) H := m_mk hP rfl rfl rfl rfl rfl rfl rfl rfl rfl (vI_eq 1055 fun k h1 h2 => hN k h1 (by omega)) (vI_eq 1055 fun k h1 h2 => hB k h1 (by omega)) (vI_eq 4220 fun k h1 h2 => hS k h1 (by omega)) (vI_eq 80 fun k h1 h2 => hT k h1 (by omega))
end
section
abbrev rmF (f lo : Nat) : Room := { frames := f, cells := 0, slots := 0, locals := lo }
abbrev wy (y : MethodName) (cc : ByteArray) (n : Nat) (r : Option FieldType) : List Cond := Cond.code y cc n r :: xtb
abbrev pcX (K : KT) (as : List Value) (w0 : va_W) : Array Value → State → Prop := va_Pc as (fun U => xP K w0 U.heap ∧ xK K U)
abbrev qI {S : Type} (K : KT) (post : Int → S → Prop) (w1 : S → va_W) (A : Nat → Prop) : Array Value → State → Outcome → State → Prop := va_Qi (fun (r : Int32) (u : S) => ∃ z : Int, r = iI z ∧ post z u) (fun (u : S) (t : State) => xP K (w1 u) t.heap ∧ xK K t) A
abbrev qL {S : Type} (K : KT) (post : Int → S → Prop) (w1 : S → va_W) (A : Nat → Prop) : Array Value → State → Outcome → State → Prop := va_Ql (fun (r : Int64) (u : S) => ∃ z : Int, r = lI z ∧ post z u) (fun (u : S) (t : State) => xP K (w1 u) t.heap ∧ xK K t) A
abbrev qV {S : Type} (K : KT) (post : S → Prop) (w1 : S → va_W) (A : Nat → Prop) : Array Value → State → Outcome → State → Prop := va_Qv post (fun (u : S) (t : State) => xP K (w1 u) t.heap ∧ xK K t) A
def CtI (l : Launch) (y : MethodName) (cc : ByteArray) (n : Nat) (rt : FieldType) (f lo : Nat) (K : KT) (as : List Value) (w0 : va_W) (A : Nat → Prop) {S : Type} (post : Int → S → Prop) (w1 : S → va_W) : Prop := Met l y (wy y cc n (some rt)) (rmF f lo) (pcX K as w0) (qI K post w1 A) 0 0 A
def CtL (l : Launch) (y : MethodName) (cc : ByteArray) (n : Nat) (f lo : Nat) (K : KT) (as : List Value) (w0 : va_W) (A : Nat → Prop) {S : Type} (post : Int → S → Prop) (w1 : S → va_W) : Prop := Met l y (wy y cc n (some .long)) (rmF f lo) (pcX K as w0) (qL K post w1 A) 0 0 A
def CtV (l : Launch) (y : MethodName) (cc : ByteArray) (n : Nat) (f lo : Nat) (K : KT) (as : List Value) (w0 : va_W) (A : Nat → Prop) {S : Type} (post : S → Prop) (w1 : S → va_W) : Prop := Met l y (wy y cc n none) (rmF f lo) (pcX K as w0) (qV K post w1 A) 0 0 A
def VInfo (C : String) (y : MethodName) (cc : ByteArray) (n : Nat) (rt : Option FieldType) (k : Nat) : Prop := Cond.instanceMethod y ∈ xtb ∧ Cond.selects C y y ∈ xtb ∧ Cond.initialized C ∈ xtb ∧ Cond.code y cc n rt ∈ xtb ∧ (y.cls = C ∧ y.cls ≠ "java/lang/invoke/MethodHandle" ∧ y.cls ≠ "java/lang/invoke/VarHandle" ∧ (parseMethodDescriptor y.desc).map (fun d => d.parameters.length) = some k)
def SInfo (C : String) (y : MethodName) (cc : ByteArray) (n : Nat) (rt : Option FieldType) (k : Nat) : Prop := Cond.static y ∈ xtb ∧ Cond.initialized C ∈ xtb ∧ Cond.code y cc n rt ∈ xtb ∧ (y.cls = C ∧ y.cls ≠ "java/lang/invoke/MethodHandle" ∧ y.cls ≠ "java/lang/invoke/VarHandle" ∧ (parseMethodDescriptor y.desc).map (fun d => d.parameters.length) = some k)
theorem gx {w : Cond} (h : w ∈ xtb) : w ∈ xtb ∧ ((w.onTables && w.keeps) = true ∨ ∃ ty, w = .arrayClass ty) := ⟨h, good_of_word (xtb_good w h)⟩
theorem gxy {y : MethodName} {cc : ByteArray} {n : Nat} {rt : Option FieldType} (h : Cond.code y cc n rt ∈ xtb) : GoodIn xtb (wy y cc n rt) := fun w hw => by
  rcases List.mem_cons.mp hw with rfl | hw
  · exact gx h
  · exact gx hw
theorem gxV {own C : String} {idx : Nat} {y : MethodName} {cc : ByteArray} {n k : Nat} {rt : Option FieldType} (h : VInfo C y cc n rt k) (hm : Cond.methodLink own idx y ∈ xtb) : GoodIn xtb (wsV own idx C y (wy y cc n rt)) := fun w hw => by
  rcases List.mem_append.mp hw with hw | hw
  · simp only [List.mem_cons, List.not_mem_nil, or_false] at hw
    rcases hw with rfl | rfl | rfl | rfl
    · exact gx hm
    · exact gx h.1
    · exact gx h.2.1
    · exact gx h.2.2.1
  · exact gxy h.2.2.2.1 w hw
theorem gxS {own : String} {idx : Nat} {y : MethodName} {cc : ByteArray} {n k : Nat} {rt : Option FieldType} (h : SInfo own y cc n rt k) (hm : Cond.methodLink own idx y ∈ xtb) : GoodIn xtb (wsS own idx y (wy y cc n rt)) := fun w hw => by
  rcases List.mem_append.mp hw with hw | hw
  · simp only [List.mem_cons, List.not_mem_nil, or_false] at hw
    rcases hw with rfl | rfl | rfl
    · exact gx hm
    · exact gx h.1
    · exact gx h.2.1
  · exact gxy h.2.2.1 w hw
theorem blindX {K : KT} {as : List Value} {w0 : va_W} : FrameBlind (pcX K as w0) := fun a U g mk q => ⟨q.1, q.2.1, va_K.moved (u := U) (U := U.calling g mk a) (Vm.Alike.refl U.vm) q.2.2⟩
theorem preX {K : KT} {s : State} {H : Heap} {as : List Value} {w0 : va_W} (hP : xP K w0 H) (hK : xK K s) : ∀ U : State, U.heap = H → s.WarmedH U.vm → pcX K as w0 as.toArray U := fun U hU hW => ⟨rfl, by rw [hU]; exact hP, va_K.moved hW.alike hK⟩
theorem CtI_of {l : Launch} {y : MethodName} {cc : ByteArray} {n : Nat} {rt : FieldType} {f lo : Nat} {K : KT} {as : List Value} {w0 : va_W} {A : Nat → Prop} {S : Type} {post : Int → S → Prop} {w1 : S → va_W} (hy : plainName y.cls = true) (hn : (lg_sl as).length ≤ n) (body : ∀ (p : Program) (e : Env) (s : State) (m : MethodId) (args : Array Value) (below : List Frame) (meth : Method) (c : Code), CF p m c cc n s args y.cls → meth.sig.returnType = (some rt) → meth.locks = false → xP K w0 s.heap → xK K s → ∀ ls : Array Slot, lv_has ls n (lv_args 0 as) → W p l e (rmF f lo) s m args below meth c s.heap [] 0 0 (MQ below (qI K post w1 A) args s 0 0 A) (F0 m 0 ls [])) : CtI l y cc n rt f lo K as w0 A post w1 := by
  refine Met.ofW (cc := cc) (maxL := n) (ret := (some rt)) hy rfl ?_
  intro p e s m args below meth c s₁ B hml hv
  obtain ⟨rfl, hP, hK⟩ := hv
  have hts := atoms_spec (ws := wy y cc n (some rt)) B.pre
  have hl := lv_entry as (n := n) hn
  rw [lg_entry_eq]
  exact body p e s m _ below meth c ⟨B.exec, B.bytes, hml, findClass_of_methodNamed B.named, fun w h => hts w (List.mem_cons_of_mem _ h)⟩ B.returns B.notSynchronized hP hK _ hl
theorem CtL_of {l : Launch} {y : MethodName} {cc : ByteArray} {n : Nat} {f lo : Nat} {K : KT} {as : List Value} {w0 : va_W} {A : Nat → Prop} {S : Type} {post : Int → S → Prop} {w1 : S → va_W} (hy : plainName y.cls = true) (hn : (lg_sl as).length ≤ n) (body : ∀ (p : Program) (e : Env) (s : State) (m : MethodId) (args : Array Value) (below : List Frame) (meth : Method) (c : Code), CF p m c cc n s args y.cls → meth.sig.returnType = (some .long) → meth.locks = false → xP K w0 s.heap → xK K s → ∀ ls : Array Slot, lv_has ls n (lv_args 0 as) → W p l e (rmF f lo) s m args below meth c s.heap [] 0 0 (MQ below (qL K post w1 A) args s 0 0 A) (F0 m 0 ls [])) : CtL l y cc n f lo K as w0 A post w1 := by
  refine Met.ofW (cc := cc) (maxL := n) (ret := (some .long)) hy rfl ?_
  intro p e s m args below meth c s₁ B hml hv
  obtain ⟨rfl, hP, hK⟩ := hv
  have hts := atoms_spec (ws := wy y cc n (some .long)) B.pre
  have hl := lv_entry as (n := n) hn
  rw [lg_entry_eq]
  exact body p e s m _ below meth c ⟨B.exec, B.bytes, hml, findClass_of_methodNamed B.named, fun w h => hts w (List.mem_cons_of_mem _ h)⟩ B.returns B.notSynchronized hP hK _ hl
theorem CtV_of {l : Launch} {y : MethodName} {cc : ByteArray} {n : Nat} {f lo : Nat} {K : KT} {as : List Value} {w0 : va_W} {A : Nat → Prop} {S : Type} {post : S → Prop} {w1 : S → va_W} (hy : plainName y.cls = true) (hn : (lg_sl as).length ≤ n) (body : ∀ (p : Program) (e : Env) (s : State) (m : MethodId) (args : Array Value) (below : List Frame) (meth : Method) (c : Code), CF p m c cc n s args y.cls → meth.sig.returnType = none → meth.locks = false → xP K w0 s.heap → xK K s → ∀ ls : Array Slot, lv_has ls n (lv_args 0 as) → W p l e (rmF f lo) s m args below meth c s.heap [] 0 0 (MQ below (qV K post w1 A) args s 0 0 A) (F0 m 0 ls [])) : CtV l y cc n f lo K as w0 A post w1 := by
  refine Met.ofW (cc := cc) (maxL := n) (ret := none) hy rfl ?_
  intro p e s m args below meth c s₁ B hml hv
  obtain ⟨rfl, hP, hK⟩ := hv
  have hts := atoms_spec (ws := wy y cc n none) B.pre
  have hl := lv_entry as (n := n) hn
  rw [lg_entry_eq]
  exact body p e s m _ below meth c ⟨B.exec, B.bytes, hml, findClass_of_methodNamed B.named, fun w h => hts w (List.mem_cons_of_mem _ h)⟩ B.returns B.notSynchronized hP hK _ hl
section CR
variable {p : Program} {l : Launch} {e : Env} {R : Room} {s : State} {m : MethodId} {args : Array Value} {below : List Frame} {meth : Method} {c : Code} {H : Heap} {locs : List Loc} {cells slots : Nat} {Q : State → Prop}
variable {cc : ByteArray} {pc nL : Nat} {ls : Array Slot} {rest : List Value} {own : String}
variable {K : KT} {A A0 : Nat → Prop} {S : Type} {u : S} {w1 : S → va_W} {z : Int}
theorem rI (T : CF p m c cc nL s args own) {post : Int → S → Prop} (hr : meth.sig.returnType = some .int) (hk : meth.locks = false) (hK : xK K s) (hP : xP K (w1 u) H) (hS : va_S A s.heap H locs) (hdg : decode cc pc = .ok (.ireturn, 1)) (hp : post z u) : W p l e R s m args below meth c H locs cells slots (MQ below (qI K post w1 A) args s cells slots A) (F0 m pc ls [.int (iI z)]) := W.iret T.1 T.2.1 hr (fun t ht hW => ⟨⟨iI z, u, rfl, ⟨z, rfl, hp⟩, by rw [ht]; exact hP, va_K.moved hW.alike hK⟩, hS.F ht⟩) hS.2.2 hdg hk
theorem rB (T : CF p m c cc nL s args own) {post : Int → S → Prop} (hr : meth.sig.returnType = some .boolean) (hk : meth.locks = false) (hK : xK K s) (hP : xP K (w1 u) H) (hS : va_S A s.heap H locs) (hz : z = 0 ∨ z = 1) (hdg : decode cc pc = .ok (.ireturn, 1)) (hp : post z u) : W p l e R s m args below meth c H locs cells slots (MQ below (qI K post w1 A) args s cells slots A) (F0 m pc ls [.int (iI z)]) := W.zret T.1 T.2.1 hr (xn_bool hz).1 (fun t ht hW => ⟨⟨iI z, u, rfl, ⟨z, rfl, hp⟩, by rw [ht]; exact hP, va_K.moved hW.alike hK⟩, hS.F ht⟩) hS.2.2 hdg hk
theorem rL (T : CF p m c cc nL s args own) {post : Int → S → Prop} (hr : meth.sig.returnType = some .long) (hk : meth.locks = false) (hK : xK K s) (hP : xP K (w1 u) H) (hS : va_S A s.heap H locs) (hdg : decode cc pc = .ok (.lreturn, 1)) (hp : post z u) : W p l e R s m args below meth c H locs cells slots (MQ below (qL K post w1 A) args s cells slots A) (F0 m pc ls [.long (lI z)]) := W.lret T.1 T.2.1 hr (fun t ht hW => ⟨⟨lI z, u, rfl, ⟨z, rfl, hp⟩, by rw [ht]; exact hP, va_K.moved hW.alike hK⟩, hS.F ht⟩) hS.2.2 hdg hk
theorem rV (T : CF p m c cc nL s args own) {post : S → Prop} (hr : meth.sig.returnType = none) (hk : meth.locks = false) (hK : xK K s) (hP : xP K (w1 u) H) (hS : va_S A s.heap H locs) (hdg : decode cc pc = .ok (.return_, 1)) (hp : post u) : W p l e R s m args below meth c H locs cells slots (MQ below (qV K post w1 A) args s cells slots A) (F0 m pc ls []) := W.vret T.1 T.2.1 hr (fun t ht hW => ⟨⟨u, rfl, hp, by rw [ht]; exact hP, va_K.moved hW.alike hK⟩, hS.F ht⟩) hS.2.2 hdg hk
variable {y : MethodName} {cy : ByteArray} {n f lo k idx : Nat} {rt : FieldType} {C : String} {w0 ws : va_W} {H0 : Heap} {b : Nat} {As : List Value}
theorem cI_V (T : CF p m c cc nL s args own) (hK : xK K s) (hP : xP K ws H) (hS : va_S A0 H0 H locs) (q0 : Nat) {ci : Nat} {r : vw_C} {fs : List Value} (he : ws[q0]? = some (b, .inr (ci, fs))) (hc : vwCl[ci]? = some r) (hC : r.1 = C)  {post : Int → S → Prop} (hM : CtI l y cy n rt f lo K (.ref b :: As) w0 A post w1) (hi : VInfo C y cy n (some rt) k) (hm : Cond.methodLink own idx y ∈ xtb) (hR : f + 1 ≤ R.frames ∧ 8 + (n + 11) + lo ≤ R.locals) (hw0 : xP K w0 H) (hA : ∀ q, A q → A0 q) (hn : As.length = k) (hsz : ls.size = nL) {st : List Value} (hst : st = As.reverse ++ .ref b :: rest) (hrm : (rest.map fun v => v.category).sum ≤ 8) (hcs : cells ≤ R.cells ∧ slots ≤ R.slots) (hdg : decode cc pc = .ok (.invokevirtual idx, 3)) (kk : ∀ (z : Int) (u : S) (H1 : Heap) (locs1 : List Loc), post z u → xP K (w1 u) H1 → H.size ≤ H1.size → (∀ q : Nat, q < H.size → ¬ A q → H1[q]? = H[q]?) → va_S A0 H0 H1 locs1 → W p l e R s m args below meth c H1 locs1 cells slots Q (F0 m (pc + 3) ls (.int (iI z) :: rest))) : W p l e R s m args below meth c H locs cells slots Q (F0 m pc ls st) := by
  refine va_calli (va_runV T hM (cwV k T.2.2.2.2 (gxV hi hm) rfl rfl rfl hi.2.2.2.2 hR) ⟨blindX, by rw [← hC]; exact va_recv hK hP hc he, preX hw0 hK⟩ rfl hn hsz hst (lv_room hrm) hdg hcs) hS (fun q _ h => hA q h) hA (fun r u t H1 locs1 ht hvm hp hB h1 h2 h3 => ?_)
  obtain ⟨z, rfl, hp⟩ := hp
  rw [ht] at hB
  exact kk z u H1 locs1 hp hB.1 h1 h2 h3
theorem cI_S (T : CF p m c cc nL s args own) (hK : xK K s) (hP : xP K ws H) (hS : va_S A0 H0 H locs)  {post : Int → S → Prop} (hM : CtI l y cy n rt f lo K As w0 A post w1) (hi : SInfo own y cy n (some rt) k) (hm : Cond.methodLink own idx y ∈ xtb) (hR : f + 1 ≤ R.frames ∧ 8 + (n + 11) + lo ≤ R.locals) (hw0 : xP K w0 H) (hA : ∀ q, A q → A0 q) (hn : As.length = k) (hsz : ls.size = nL) {st : List Value} (hst : st = As.reverse ++ rest) (hrm : (rest.map fun v => v.category).sum ≤ 8) (hcs : cells ≤ R.cells ∧ slots ≤ R.slots) (hdg : decode cc pc = .ok (.invokestatic idx, 3)) (kk : ∀ (z : Int) (u : S) (H1 : Heap) (locs1 : List Loc), post z u → xP K (w1 u) H1 → H.size ≤ H1.size → (∀ q : Nat, q < H.size → ¬ A q → H1[q]? = H[q]?) → va_S A0 H0 H1 locs1 → W p l e R s m args below meth c H1 locs1 cells slots Q (F0 m (pc + 3) ls (.int (iI z) :: rest))) : W p l e R s m args below meth c H locs cells slots Q (F0 m pc ls st) := by
  refine va_calli (va_runS T hM (cwS k T.2.2.2.2 (gxS hi hm) rfl rfl rfl hi.2.2.2 hR) ⟨blindX, preX hw0 hK⟩ rfl hn hsz hst (lv_room hrm) hdg hcs) hS (fun q _ h => hA q h) hA (fun r u t H1 locs1 ht hvm hp hB h1 h2 h3 => ?_)
  obtain ⟨z, rfl, hp⟩ := hp
  rw [ht] at hB
  exact kk z u H1 locs1 hp hB.1 h1 h2 h3
theorem cL_V (T : CF p m c cc nL s args own) (hK : xK K s) (hP : xP K ws H) (hS : va_S A0 H0 H locs) (q0 : Nat) {ci : Nat} {r : vw_C} {fs : List Value} (he : ws[q0]? = some (b, .inr (ci, fs))) (hc : vwCl[ci]? = some r) (hC : r.1 = C)  {post : Int → S → Prop} (hM : CtL l y cy n f lo K (.ref b :: As) w0 A post w1) (hi : VInfo C y cy n (some .long) k) (hm : Cond.methodLink own idx y ∈ xtb) (hR : f + 1 ≤ R.frames ∧ 8 + (n + 11) + lo ≤ R.locals) (hw0 : xP K w0 H) (hA : ∀ q, A q → A0 q) (hn : As.length = k) (hsz : ls.size = nL) {st : List Value} (hst : st = As.reverse ++ .ref b :: rest) (hrm : (rest.map fun v => v.category).sum ≤ 8) (hcs : cells ≤ R.cells ∧ slots ≤ R.slots) (hdg : decode cc pc = .ok (.invokevirtual idx, 3)) (kk : ∀ (z : Int) (u : S) (H1 : Heap) (locs1 : List Loc), post z u → xP K (w1 u) H1 → H.size ≤ H1.size → (∀ q : Nat, q < H.size → ¬ A q → H1[q]? = H[q]?) → va_S A0 H0 H1 locs1 → W p l e R s m args below meth c H1 locs1 cells slots Q (F0 m (pc + 3) ls (.long (lI z) :: rest))) : W p l e R s m args below meth c H locs cells slots Q (F0 m pc ls st) := by
  refine va_calll (va_runV T hM (cwV k T.2.2.2.2 (gxV hi hm) rfl rfl rfl hi.2.2.2.2 hR) ⟨blindX, by rw [← hC]; exact va_recv hK hP hc he, preX hw0 hK⟩ rfl hn hsz hst (lv_room hrm) hdg hcs) hS (fun q _ h => hA q h) hA (fun r u t H1 locs1 ht hvm hp hB h1 h2 h3 => ?_)
  obtain ⟨z, rfl, hp⟩ := hp
  rw [ht] at hB
  exact kk z u H1 locs1 hp hB.1 h1 h2 h3
theorem cL_S (T : CF p m c cc nL s args own) (hK : xK K s) (hP : xP K ws H) (hS : va_S A0 H0 H locs)  {post : Int → S → Prop} (hM : CtL l y cy n f lo K As w0 A post w1) (hi : SInfo own y cy n (some .long) k) (hm : Cond.methodLink own idx y ∈ xtb) (hR : f + 1 ≤ R.frames ∧ 8 + (n + 11) + lo ≤ R.locals) (hw0 : xP K w0 H) (hA : ∀ q, A q → A0 q) (hn : As.length = k) (hsz : ls.size = nL) {st : List Value} (hst : st = As.reverse ++ rest) (hrm : (rest.map fun v => v.category).sum ≤ 8) (hcs : cells ≤ R.cells ∧ slots ≤ R.slots) (hdg : decode cc pc = .ok (.invokestatic idx, 3)) (kk : ∀ (z : Int) (u : S) (H1 : Heap) (locs1 : List Loc), post z u → xP K (w1 u) H1 → H.size ≤ H1.size → (∀ q : Nat, q < H.size → ¬ A q → H1[q]? = H[q]?) → va_S A0 H0 H1 locs1 → W p l e R s m args below meth c H1 locs1 cells slots Q (F0 m (pc + 3) ls (.long (lI z) :: rest))) : W p l e R s m args below meth c H locs cells slots Q (F0 m pc ls st) := by
  refine va_calll (va_runS T hM (cwS k T.2.2.2.2 (gxS hi hm) rfl rfl rfl hi.2.2.2 hR) ⟨blindX, preX hw0 hK⟩ rfl hn hsz hst (lv_room hrm) hdg hcs) hS (fun q _ h => hA q h) hA (fun r u t H1 locs1 ht hvm hp hB h1 h2 h3 => ?_)
  obtain ⟨z, rfl, hp⟩ := hp
  rw [ht] at hB
  exact kk z u H1 locs1 hp hB.1 h1 h2 h3
theorem cV_V (T : CF p m c cc nL s args own) (hK : xK K s) (hP : xP K ws H) (hS : va_S A0 H0 H locs) (q0 : Nat) {ci : Nat} {r : vw_C} {fs : List Value} (he : ws[q0]? = some (b, .inr (ci, fs))) (hc : vwCl[ci]? = some r) (hC : r.1 = C)  {post : S → Prop} (hM : CtV l y cy n f lo K (.ref b :: As) w0 A post w1) (hi : VInfo C y cy n none k) (hm : Cond.methodLink own idx y ∈ xtb) (hR : f + 1 ≤ R.frames ∧ 8 + (n + 11) + lo ≤ R.locals) (hw0 : xP K w0 H) (hA : ∀ q, A q → A0 q) (hn : As.length = k) (hsz : ls.size = nL) {st : List Value} (hst : st = As.reverse ++ .ref b :: rest) (hrm : (rest.map fun v => v.category).sum ≤ 8) (hcs : cells ≤ R.cells ∧ slots ≤ R.slots) (hdg : decode cc pc = .ok (.invokevirtual idx, 3)) (kk : ∀ (u : S) (H1 : Heap) (locs1 : List Loc), post u → xP K (w1 u) H1 → H.size ≤ H1.size → (∀ q : Nat, q < H.size → ¬ A q → H1[q]? = H[q]?) → va_S A0 H0 H1 locs1 → W p l e R s m args below meth c H1 locs1 cells slots Q (F0 m (pc + 3) ls (rest))) : W p l e R s m args below meth c H locs cells slots Q (F0 m pc ls st) := by
  refine va_callv (va_runV T hM (cwV k T.2.2.2.2 (gxV hi hm) rfl rfl rfl hi.2.2.2.2 hR) ⟨blindX, by rw [← hC]; exact va_recv hK hP hc he, preX hw0 hK⟩ rfl hn hsz hst (lv_room hrm) hdg hcs) hS (fun q _ h => hA q h) hA (fun u t H1 locs1 ht hvm hp hB h1 h2 h3 => ?_)
  rw [ht] at hB
  exact kk u H1 locs1 hp hB.1 h1 h2 h3
theorem cV_S (T : CF p m c cc nL s args own) (hK : xK K s) (hP : xP K ws H) (hS : va_S A0 H0 H locs)  {post : S → Prop} (hM : CtV l y cy n f lo K As w0 A post w1) (hi : SInfo own y cy n none k) (hm : Cond.methodLink own idx y ∈ xtb) (hR : f + 1 ≤ R.frames ∧ 8 + (n + 11) + lo ≤ R.locals) (hw0 : xP K w0 H) (hA : ∀ q, A q → A0 q) (hn : As.length = k) (hsz : ls.size = nL) {st : List Value} (hst : st = As.reverse ++ rest) (hrm : (rest.map fun v => v.category).sum ≤ 8) (hcs : cells ≤ R.cells ∧ slots ≤ R.slots) (hdg : decode cc pc = .ok (.invokestatic idx, 3)) (kk : ∀ (u : S) (H1 : Heap) (locs1 : List Loc), post u → xP K (w1 u) H1 → H.size ≤ H1.size → (∀ q : Nat, q < H.size → ¬ A q → H1[q]? = H[q]?) → va_S A0 H0 H1 locs1 → W p l e R s m args below meth c H1 locs1 cells slots Q (F0 m (pc + 3) ls (rest))) : W p l e R s m args below meth c H locs cells slots Q (F0 m pc ls st) := by
  refine va_callv (va_runS T hM (cwS k T.2.2.2.2 (gxS hi hm) rfl rfl rfl hi.2.2.2 hR) ⟨blindX, preX hw0 hK⟩ rfl hn hsz hst (lv_room hrm) hdg hcs) hS (fun q _ h => hA q h) hA (fun u t H1 locs1 ht hvm hp hB h1 h2 h3 => ?_)
  rw [ht] at hB
  exact kk u H1 locs1 hp hB.1 h1 h2 h3
theorem xP_kept {H1 : Heap} (hP : xP K ws H) (h : ∀ q : Nat, q < H.size → ¬ NoA q → H1[q]? = H[q]?) : xP K ws H1 := va_P.kept hP (fun k q hk => h q.1 (va_at.lt (hP k q hk)) (fun z => z))
theorem noA {B : Nat → Prop} : ∀ q, NoA q → B q := fun _ h => h.elim
theorem xP_nil {H : Heap} : xP K [] H := fun k q h => by simp at h
end CR
theorem iX0_become : VInfo RX0 yX0_become cX0_become 2 none 1 := ⟨mw_2_43, mw_2_44, mw_1_5, mw_2_45, rfl, by decide +kernel, by decide +kernel, by decide +kernel⟩
theorem iX0_add : VInfo RX0 yX0_add cX0_add 6 (some .int) 4 := ⟨mw_2_127, mw_2_128, mw_1_5, mw_2_129, rfl, by decide +kernel, by decide +kernel, by decide +kernel⟩
theorem iX0_held : VInfo RX0 yX0_held cX0_held 2 (some .long) 1 := ⟨mw_2_155, mw_2_156, mw_1_5, mw_2_157, rfl, by decide +kernel, by decide +kernel, by decide +kernel⟩
theorem iX0_heldByAll : VInfo RX0 yX0_heldByAll cX0_heldByAll 4 (some .long) 0 := ⟨mw_3_58, mw_3_59, mw_1_5, mw_3_60, rfl, by decide +kernel, by decide +kernel, by decide +kernel⟩
theorem iX0_withUnits : VInfo RX0 yX0_withUnits cX0_withUnits 3 (some .int) 0 := ⟨mw_3_71, mw_3_72, mw_1_5, mw_3_73, rfl, by decide +kernel, by decide +kernel, by decide +kernel⟩
theorem iX0_loaded : VInfo RX0 yX0_loaded cX0_loaded 4 (some .int) 1 := ⟨mw_3_45, mw_3_46, mw_1_5, mw_3_47, rfl, by decide +kernel, by decide +kernel, by decide +kernel⟩
theorem iX0_leftOf : VInfo RX0 yX0_leftOf cX0_leftOf 4 (some .int) 1 := ⟨mw_3_89, mw_3_90, mw_1_5, mw_3_91, rfl, by decide +kernel, by decide +kernel, by decide +kernel⟩
theorem iX0_nextAfter : VInfo RX0 yX0_nextAfter cX0_nextAfter 9 (some .int) 2 := ⟨mw_2_163, mw_2_164, mw_1_5, mw_2_165, rfl, by decide +kernel, by decide +kernel, by decide +kernel⟩
theorem iX0_amountOf : VInfo RX0 yX0_amountOf cX0_amountOf 10 (some .long) 3 := ⟨mw_2_179, mw_2_180, mw_1_5, mw_2_181, rfl, by decide +kernel, by decide +kernel, by decide +kernel⟩
theorem iX1_prepare : VInfo RX1 yX1_prepare cX1_prepare 2 none 1 := ⟨mw_2_18, mw_2_19, mw_1_7, mw_2_20, rfl, by decide +kernel, by decide +kernel, by decide +kernel⟩
theorem iX1_finish : VInfo RX1 yX1_finish cX1_finish 2 (some .int) 1 := ⟨mw_2_69, mw_2_70, mw_1_7, mw_2_71, rfl, by decide +kernel, by decide +kernel, by decide +kernel⟩
theorem iX1_restore : VInfo RX1 yX1_restore cX1_restore 2 (some .int) 1 := ⟨mw_3_80, mw_3_81, mw_1_7, mw_3_82, rfl, by decide +kernel, by decide +kernel, by decide +kernel⟩
theorem iX1_spare : VInfo RX1 yX1_spare cX1_spare 1 (some .int) 0 := ⟨mw_2_23, mw_0_0, mw_1_7, mw_2_24, rfl, by decide +kernel, by decide +kernel, by decide +kernel⟩
theorem iX2_become : VInfo RX2 yX2_become cX2_become 2 none 1 := ⟨mw_2_33, mw_2_34, mw_1_3, mw_2_35, rfl, by decide +kernel, by decide +kernel, by decide +kernel⟩
theorem iX2_place : VInfo RX2 yX2_place cX2_place 3 (some .int) 2 := ⟨mw_2_117, mw_2_118, mw_1_3, mw_2_119, rfl, by decide +kernel, by decide +kernel, by decide +kernel⟩
theorem iX2_inState : VInfo RX2 yX2_inState cX2_inState 4 (some .int) 1 := ⟨mw_2_237, mw_2_238, mw_1_3, mw_2_239, rfl, by decide +kernel, by decide +kernel, by decide +kernel⟩
theorem iX2_sumOfLocker : VInfo RX2 yX2_sumOfLocker cX2_sumOfLocker 5 (some .int) 2 := ⟨mw_2_136, mw_2_137, mw_1_3, mw_2_138, rfl, by decide +kernel, by decide +kernel, by decide +kernel⟩
theorem iX2_sumOfGood : VInfo RX2 yX2_sumOfGood cX2_sumOfGood 5 (some .int) 2 := ⟨mw_3_49, mw_3_50, mw_1_3, mw_3_51, rfl, by decide +kernel, by decide +kernel, by decide +kernel⟩
theorem iX2_takeFromAny : VInfo RX2 yX2_takeFromAny cX2_takeFromAny 4 none 2 := ⟨mw_3_23, mw_3_24, mw_1_3, mw_3_25, rfl, by decide +kernel, by decide +kernel, by decide +kernel⟩
theorem iX2_takeLowestFirst : VInfo RX2 yX2_takeLowestFirst cX2_takeLowestFirst 8 (some .int) 3 := ⟨mw_3_28, mw_0_8, mw_1_3, mw_3_29, rfl, by decide +kernel, by decide +kernel, by decide +kernel⟩
theorem iX3_append : VInfo RX3 yX3_append cX3_append 2 (some .int) 1 := ⟨mw_3_111, mw_3_112, mw_1_8, mw_3_113, rfl, by decide +kernel, by decide +kernel, by decide +kernel⟩
theorem iX3_empty : VInfo RX3 yX3_empty cX3_empty 2 (some .int) 0 := ⟨mw_3_119, mw_3_120, mw_1_8, mw_3_121, rfl, by decide +kernel, by decide +kernel, by decide +kernel⟩
theorem iX3_tryOn : VInfo RX3 yX3_tryOn cX3_tryOn 6 none 2 := ⟨mw_3_127, mw_3_128, mw_1_8, mw_3_129, rfl, by decide +kernel, by decide +kernel, by decide +kernel⟩
theorem iX3_noteFault : VInfo RX3 yX3_noteFault cX3_noteFault 4 none 3 := ⟨mw_3_148, mw_0_12, mw_1_8, mw_3_149, rfl, by decide +kernel, by decide +kernel, by decide +kernel⟩
theorem iX3_readOrder : VInfo RX3 yX3_readOrder cX3_readOrder 3 (some .boolean) 0 := ⟨mw_3_133, mw_0_9, mw_1_8, mw_3_134, rfl, by decide +kernel, by decide +kernel, by decide +kernel⟩
theorem iX3_numbersOf : SInfo RX3 yX3_numbersOf cX3_numbersOf 1 (some .int) 1 := ⟨mw_3_136, mw_1_8, mw_3_137, rfl, by decide +kernel, by decide +kernel, by decide +kernel⟩
theorem iX3_readSign : VInfo RX3 yX3_readSign cX3_readSign 2 (some .boolean) 1 := ⟨mw_3_140, mw_0_10, mw_1_8, mw_3_141, rfl, by decide +kernel, by decide +kernel, by decide +kernel⟩
theorem iX3_readNumber : VInfo RX3 yX3_readNumber cX3_readNumber 4 (some .boolean) 1 := ⟨mw_3_144, mw_0_11, mw_1_8, mw_3_145, rfl, by decide +kernel, by decide +kernel, by decide +kernel⟩
theorem iX3_doOrder : VInfo RX3 yX3_doOrder cX3_doOrder 2 (some .int) 1 := ⟨mw_3_152, mw_0_13, mw_1_8, mw_3_153, rfl, by decide +kernel, by decide +kernel, by decide +kernel⟩
theorem iX4_become : VInfo RX4 yX4_become cX4_become 2 none 1 := ⟨mw_2_48, mw_2_49, mw_1_6, mw_2_50, rfl, by decide +kernel, by decide +kernel, by decide +kernel⟩
theorem iX4_place : VInfo RX4 yX4_place cX4_place 3 (some .int) 2 := ⟨mw_2_189, mw_2_190, mw_1_6, mw_2_191, rfl, by decide +kernel, by decide +kernel, by decide +kernel⟩
theorem iX4_add : VInfo RX4 yX4_add cX4_add 6 none 4 := ⟨mw_2_185, mw_2_186, mw_1_6, mw_2_187, rfl, by decide +kernel, by decide +kernel, by decide +kernel⟩
theorem iX5_become : VInfo RX5 yX5_become cX5_become 2 none 1 := ⟨mw_2_38, mw_2_39, mw_1_4, mw_2_40, rfl, by decide +kernel, by decide +kernel, by decide +kernel⟩
theorem iX5_left : VInfo RX5 yX5_left cX5_left 1 (some .int) 0 := ⟨mw_2_57, mw_2_58, mw_1_4, mw_2_59, rfl, by decide +kernel, by decide +kernel, by decide +kernel⟩
theorem iX5_putOn : VInfo RX5 yX5_putOn cX5_putOn 3 (some .int) 2 := ⟨mw_2_65, mw_2_66, mw_1_4, mw_2_67, rfl, by decide +kernel, by decide +kernel, by decide +kernel⟩
theorem iX6_become : VInfo RX6 yX6_become cX6_become 2 none 1 := ⟨mw_2_26, mw_2_27, mw_1_2, mw_2_28, rfl, by decide +kernel, by decide +kernel, by decide +kernel⟩
theorem iX6_hasLocker : VInfo RX6 yX6_hasLocker cX6_hasLocker 2 (some .boolean) 1 := ⟨mw_2_113, mw_2_114, mw_1_2, mw_2_115, rfl, by decide +kernel, by decide +kernel, by decide +kernel⟩
theorem iX6_hasGood : VInfo RX6 yX6_hasGood cX6_hasGood 2 (some .boolean) 1 := ⟨mw_2_97, mw_2_98, mw_1_2, mw_2_99, rfl, by decide +kernel, by decide +kernel, by decide +kernel⟩
theorem iX6_isDuty : VInfo RX6 yX6_isDuty cX6_isDuty 2 (some .boolean) 1 := ⟨mw_2_84, mw_2_85, mw_1_2, mw_2_86, rfl, by decide +kernel, by decide +kernel, by decide +kernel⟩
theorem iX6_canMove : VInfo RX6 yX6_canMove cX6_canMove 4 (some .boolean) 3 := ⟨mw_2_109, mw_2_110, mw_1_2, mw_2_111, rfl, by decide +kernel, by decide +kernel, by decide +kernel⟩
theorem iX6_addLocker : VInfo RX6 yX6_addLocker cX6_addLocker 2 (some .int) 0 := ⟨mw_2_53, mw_2_54, mw_1_2, mw_2_55, rfl, by decide +kernel, by decide +kernel, by decide +kernel⟩
theorem iX6_addGood : VInfo RX6 yX6_addGood cX6_addGood 2 (some .int) 1 := ⟨mw_2_80, mw_2_81, mw_1_2, mw_2_82, rfl, by decide +kernel, by decide +kernel, by decide +kernel⟩
theorem iX6_changeDuty : VInfo RX6 yX6_changeDuty cX6_changeDuty 4 (some .int) 2 := ⟨mw_2_93, mw_2_94, mw_1_2, mw_2_95, rfl, by decide +kernel, by decide +kernel, by decide +kernel⟩
theorem iX6_loadUnits : VInfo RX6 yX6_loadUnits cX6_loadUnits 7 (some .int) 3 := ⟨mw_2_105, mw_2_106, mw_1_2, mw_2_107, rfl, by decide +kernel, by decide +kernel, by decide +kernel⟩
theorem iX6_useUnits : VInfo RX6 yX6_useUnits cX6_useUnits 5 (some .int) 3 := ⟨mw_2_171, mw_2_172, mw_1_2, mw_2_173, rfl, by decide +kernel, by decide +kernel, by decide +kernel⟩
theorem iX6_returnUnits : VInfo RX6 yX6_returnUnits cX6_returnUnits 5 (some .int) 3 := ⟨mw_2_197, mw_2_198, mw_1_2, mw_2_199, rfl, by decide +kernel, by decide +kernel, by decide +kernel⟩
theorem iX6_breakUnits : VInfo RX6 yX6_breakUnits cX6_breakUnits 6 (some .int) 4 := ⟨mw_2_205, mw_2_206, mw_1_2, mw_2_207, rfl, by decide +kernel, by decide +kernel, by decide +kernel⟩
theorem iX6_tearSeal : VInfo RX6 yX6_tearSeal cX6_tearSeal 2 (some .int) 1 := ⟨mw_2_213, mw_2_214, mw_1_2, mw_2_215, rfl, by decide +kernel, by decide +kernel, by decide +kernel⟩
theorem iX6_countLocker : VInfo RX6 yX6_countLocker cX6_countLocker 7 (some .int) 1 := ⟨mw_2_221, mw_2_222, mw_1_2, mw_2_223, rfl, by decide +kernel, by decide +kernel, by decide +kernel⟩
theorem iX6_crossTo : VInfo RX6 yX6_crossTo cX6_crossTo 3 (some .int) 1 := ⟨mw_2_233, mw_2_234, mw_1_2, mw_2_235, rfl, by decide +kernel, by decide +kernel, by decide +kernel⟩
theorem iX6_passDays : VInfo RX6 yX6_passDays cX6_passDays 2 (some .int) 1 := ⟨mw_3_13, mw_3_14, mw_1_2, mw_3_15, rfl, by decide +kernel, by decide +kernel, by decide +kernel⟩
theorem iX6_changeSetting : VInfo RX6 yX6_changeSetting cX6_changeSetting 6 (some .int) 2 := ⟨mw_3_36, mw_3_37, mw_1_2, mw_3_38, rfl, by decide +kernel, by decide +kernel, by decide +kernel⟩
theorem iX6_toPayForAll : VInfo RX6 yX6_toPayForAll cX6_toPayForAll 4 (some .long) 0 := ⟨mw_3_98, mw_3_99, mw_1_2, mw_3_100, rfl, by decide +kernel, by decide +kernel, by decide +kernel⟩
theorem iX6_release : VInfo RX6 yX6_release cX6_release 6 (some .long) 3 := ⟨mw_2_176, mw_0_3, mw_1_2, mw_2_177, rfl, by decide +kernel, by decide +kernel, by decide +kernel⟩
theorem iX6_taxesOf : VInfo RX6 yX6_taxesOf cX6_taxesOf 5 (some .long) 1 := ⟨mw_2_226, mw_0_4, mw_1_2, mw_2_227, rfl, by decide +kernel, by decide +kernel, by decide +kernel⟩
theorem iX6_runOutBonds : VInfo RX6 yX6_runOutBonds cX6_runOutBonds 9 (some .long) 0 := ⟨mw_3_18, mw_0_7, mw_1_2, mw_3_19, rfl, by decide +kernel, by decide +kernel, by decide +kernel⟩
theorem iX6_putSeal : VInfo RX6 yX6_putSeal cX6_putSeal 2 none 1 := ⟨mw_2_62, mw_0_1, mw_1_2, mw_2_63, rfl, by decide +kernel, by decide +kernel, by decide +kernel⟩
theorem iX6_sealByOfficer : VInfo RX6 yX6_sealByOfficer cX6_sealByOfficer 2 none 1 := ⟨mw_2_124, mw_0_2, mw_1_2, mw_2_125, rfl, by decide +kernel, by decide +kernel, by decide +kernel⟩
theorem iX6_sealOpenLockers : VInfo RX6 yX6_sealOpenLockers cX6_sealOpenLockers 3 (some .int) 0 := ⟨mw_3_2, mw_0_5, mw_1_2, mw_3_3, rfl, by decide +kernel, by decide +kernel, by decide +kernel⟩
theorem iX6_openLockers : VInfo RX6 yX6_openLockers cX6_openLockers 3 (some .int) 0 := ⟨mw_3_6, mw_0_6, mw_1_2, mw_3_7, rfl, by decide +kernel, by decide +kernel, by decide +kernel⟩
theorem iX7_locker : VInfo RX7 yX7_locker cX7_locker 1 (some .int) 0 := ⟨mw_2_14, mw_2_15, mw_1_1, mw_2_16, rfl, by decide +kernel, by decide +kernel, by decide +kernel⟩
theorem iX7_good : VInfo RX7 yX7_good cX7_good 2 (some .int) 1 := ⟨mw_2_76, mw_2_77, mw_1_1, mw_2_78, rfl, by decide +kernel, by decide +kernel, by decide +kernel⟩
theorem iX7_duty : VInfo RX7 yX7_duty cX7_duty 3 (some .int) 2 := ⟨mw_2_89, mw_2_90, mw_1_1, mw_2_91, rfl, by decide +kernel, by decide +kernel, by decide +kernel⟩
theorem iX7_load : VInfo RX7 yX7_load cX7_load 4 (some .int) 3 := ⟨mw_2_101, mw_2_102, mw_1_1, mw_2_103, rfl, by decide +kernel, by decide +kernel, by decide +kernel⟩
theorem iX7_lockerOf : VInfo RX7 yX7_lockerOf cX7_lockerOf 4 (some .int) 2 := ⟨mw_2_131, mw_2_132, mw_1_1, mw_2_133, rfl, by decide +kernel, by decide +kernel, by decide +kernel⟩
theorem iX7_missing : VInfo RX7 yX7_missing cX7_missing 3 (some .int) 2 := ⟨mw_2_143, mw_2_144, mw_1_1, mw_2_145, rfl, by decide +kernel, by decide +kernel, by decide +kernel⟩
theorem iX7_seal : VInfo RX7 yX7_seal cX7_seal 4 (some .int) 2 := ⟨mw_2_147, mw_2_148, mw_1_1, mw_2_149, rfl, by decide +kernel, by decide +kernel, by decide +kernel⟩
theorem iX7_bond : VInfo RX7 yX7_bond cX7_bond 4 (some .int) 2 := ⟨mw_2_151, mw_2_152, mw_1_1, mw_2_153, rfl, by decide +kernel, by decide +kernel, by decide +kernel⟩
theorem iX7_nextBond : VInfo RX7 yX7_nextBond cX7_nextBond 3 (some .int) 1 := ⟨mw_2_159, mw_2_160, mw_1_1, mw_2_161, rfl, by decide +kernel, by decide +kernel, by decide +kernel⟩
theorem iX7_use : VInfo RX7 yX7_use cX7_use 4 (some .int) 3 := ⟨mw_2_167, mw_2_168, mw_1_1, mw_2_169, rfl, by decide +kernel, by decide +kernel, by decide +kernel⟩
theorem iX7_bring : VInfo RX7 yX7_bring cX7_bring 4 (some .int) 3 := ⟨mw_2_193, mw_2_194, mw_1_1, mw_2_195, rfl, by decide +kernel, by decide +kernel, by decide +kernel⟩
theorem iX7_smash : VInfo RX7 yX7_smash cX7_smash 5 (some .int) 4 := ⟨mw_2_201, mw_2_202, mw_1_1, mw_2_203, rfl, by decide +kernel, by decide +kernel, by decide +kernel⟩
theorem iX7_tear : VInfo RX7 yX7_tear cX7_tear 2 (some .int) 1 := ⟨mw_2_209, mw_2_210, mw_1_1, mw_2_211, rfl, by decide +kernel, by decide +kernel, by decide +kernel⟩
theorem iX7_inspect : VInfo RX7 yX7_inspect cX7_inspect 2 (some .int) 1 := ⟨mw_2_217, mw_2_218, mw_1_1, mw_2_219, rfl, by decide +kernel, by decide +kernel, by decide +kernel⟩
theorem iX7_cross : VInfo RX7 yX7_cross cX7_cross 2 (some .int) 1 := ⟨mw_2_229, mw_2_230, mw_1_1, mw_2_231, rfl, by decide +kernel, by decide +kernel, by decide +kernel⟩
theorem iX7_pass : VInfo RX7 yX7_pass cX7_pass 2 (some .int) 1 := ⟨mw_3_9, mw_3_10, mw_1_1, mw_3_11, rfl, by decide +kernel, by decide +kernel, by decide +kernel⟩
theorem iX7_set : VInfo RX7 yX7_set cX7_set 3 (some .int) 2 := ⟨mw_3_32, mw_3_33, mw_1_1, mw_3_34, rfl, by decide +kernel, by decide +kernel, by decide +kernel⟩
theorem iX7_account : VInfo RX7 yX7_account cX7_account 4 (some .int) 2 := ⟨mw_3_41, mw_3_42, mw_1_1, mw_3_43, rfl, by decide +kernel, by decide +kernel, by decide +kernel⟩
theorem iX7_cents : VInfo RX7 yX7_cents cX7_cents 2 (some .int) 1 := ⟨mw_3_54, mw_3_55, mw_1_1, mw_3_56, rfl, by decide +kernel, by decide +kernel, by decide +kernel⟩
theorem iX7_count : VInfo RX7 yX7_count cX7_count 2 (some .int) 1 := ⟨mw_3_67, mw_3_68, mw_1_1, mw_3_69, rfl, by decide +kernel, by decide +kernel, by decide +kernel⟩
theorem iX7_undo : VInfo RX7 yX7_undo cX7_undo 1 (some .int) 0 := ⟨mw_3_76, mw_3_77, mw_1_1, mw_3_78, rfl, by decide +kernel, by decide +kernel, by decide +kernel⟩
theorem iX7_worth : VInfo RX7 yX7_worth cX7_worth 3 (some .int) 2 := ⟨mw_3_84, mw_3_85, mw_1_1, mw_3_86, rfl, by decide +kernel, by decide +kernel, by decide +kernel⟩
theorem iX7_toPay : VInfo RX7 yX7_toPay cX7_toPay 1 (some .int) 0 := ⟨mw_3_94, mw_3_95, mw_1_1, mw_3_96, rfl, by decide +kernel, by decide +kernel, by decide +kernel⟩
theorem iX7_runsOut : VInfo RX7 yX7_runsOut cX7_runsOut 2 (some .int) 0 := ⟨mw_3_103, mw_3_104, mw_1_1, mw_3_105, rfl, by decide +kernel, by decide +kernel, by decide +kernel⟩
theorem iX7_type : VInfo RX7 yX7_type cX7_type 2 (some .int) 1 := ⟨mw_3_107, mw_3_108, mw_1_1, mw_3_109, rfl, by decide +kernel, by decide +kernel, by decide +kernel⟩
theorem iX7_clearText : VInfo RX7 yX7_clearText cX7_clearText 1 (some .int) 0 := ⟨mw_3_115, mw_3_116, mw_1_1, mw_3_117, rfl, by decide +kernel, by decide +kernel, by decide +kernel⟩
theorem iX7_fault : VInfo RX7 yX7_fault cX7_fault 2 (some .int) 1 := ⟨mw_3_123, mw_3_124, mw_1_1, mw_3_125, rfl, by decide +kernel, by decide +kernel, by decide +kernel⟩
theorem iX7_play : VInfo RX7 yX7_play cX7_play 1 (some .int) 0 := ⟨mw_3_162, mw_3_163, mw_1_1, mw_3_164, rfl, by decide +kernel, by decide +kernel, by decide +kernel⟩
theorem iX7_centsOrLimit : SInfo RX7 yX7_centsOrLimit cX7_centsOrLimit 2 (some .int) 1 := ⟨mw_3_63, mw_1_1, mw_3_64, rfl, by decide +kernel, by decide +kernel, by decide +kernel⟩
theorem iX8_in : SInfo RX8 yX8_in cX8_in 3 (some .boolean) 3 := ⟨mw_4_13, mw_1_9, mw_4_14, rfl, by decide +kernel, by decide +kernel, by decide +kernel⟩
theorem iX8_isLocker : VInfo RX8 yX8_isLocker cX8_isLocker 2 (some .boolean) 1 := ⟨mw_4_37, mw_0_23, mw_1_9, mw_4_38, rfl, by decide +kernel, by decide +kernel, by decide +kernel⟩
theorem iX8_isGood : VInfo RX8 yX8_isGood cX8_isGood 2 (some .boolean) 1 := ⟨mw_4_21, mw_0_20, mw_1_9, mw_4_22, rfl, by decide +kernel, by decide +kernel, by decide +kernel⟩
theorem iX8_copy : VInfo RX8 yX8_copy cX8_copy 2 none 0 := ⟨mw_3_222, mw_0_14, mw_1_9, mw_3_223, rfl, by decide +kernel, by decide +kernel, by decide +kernel⟩
theorem iX8_back : VInfo RX8 yX8_back cX8_back 2 none 0 := ⟨mw_4_220, mw_0_45, mw_1_9, mw_4_221, rfl, by decide +kernel, by decide +kernel, by decide +kernel⟩
theorem iX8_recorded : VInfo RX8 yX8_recorded cX8_recorded 3 (some .int) 1 := ⟨mw_3_238, mw_0_18, mw_1_9, mw_3_239, rfl, by decide +kernel, by decide +kernel, by decide +kernel⟩
theorem iX8_undo : VInfo RX8 yX8_undo cX8_undo 2 (some .int) 0 := ⟨mw_3_213, mw_3_214, mw_1_9, mw_3_215, rfl, by decide +kernel, by decide +kernel, by decide +kernel⟩
theorem iX8_hasSeals : VInfo RX8 yX8_hasSeals cX8_hasSeals 2 (some .boolean) 1 := ⟨mw_3_230, mw_0_16, mw_1_9, mw_3_231, rfl, by decide +kernel, by decide +kernel, by decide +kernel⟩
theorem iX8_seals : VInfo RX8 yX8_seals cX8_seals 3 none 1 := ⟨mw_3_234, mw_0_17, mw_1_9, mw_3_235, rfl, by decide +kernel, by decide +kernel, by decide +kernel⟩
theorem iX8_takesOff : VInfo RX8 yX8_takesOff cX8_takesOff 3 none 2 := ⟨mw_4_43, mw_0_24, mw_1_9, mw_4_44, rfl, by decide +kernel, by decide +kernel, by decide +kernel⟩
theorem iX8_nextOf : VInfo RX8 yX8_nextOf cX8_nextOf 7 (some .int) 2 := ⟨mw_4_71, mw_0_26, mw_1_9, mw_4_72, rfl, by decide +kernel, by decide +kernel, by decide +kernel⟩
theorem iX8_least : SInfo RX8 yX8_least cX8_least 2 (some .int) 2 := ⟨mw_4_86, mw_1_9, mw_4_87, rfl, by decide +kernel, by decide +kernel, by decide +kernel⟩
theorem iX8_worthOf : VInfo RX8 yX8_worthOf cX8_worthOf 8 (some .long) 2 := ⟨mw_4_126, mw_0_34, mw_1_9, mw_4_127, rfl, by decide +kernel, by decide +kernel, by decide +kernel⟩
theorem iX8_takes : VInfo RX8 yX8_takes cX8_takes 5 (some .int) 3 := ⟨mw_4_90, mw_0_29, mw_1_9, mw_4_91, rfl, by decide +kernel, by decide +kernel, by decide +kernel⟩
theorem iX8_releases : VInfo RX8 yX8_releases cX8_releases 8 (some .int) 3 := ⟨mw_4_83, mw_0_28, mw_1_9, mw_4_84, rfl, by decide +kernel, by decide +kernel, by decide +kernel⟩
theorem iX8_addsLocker : VInfo RX8 yX8_addsLocker cX8_addsLocker 1 (some .int) 0 := ⟨mw_3_226, mw_0_15, mw_1_9, mw_3_227, rfl, by decide +kernel, by decide +kernel, by decide +kernel⟩
theorem iX8_locker : VInfo RX8 yX8_locker cX8_locker 1 (some .int) 0 := ⟨mw_3_217, mw_3_218, mw_1_9, mw_3_219, rfl, by decide +kernel, by decide +kernel, by decide +kernel⟩
theorem iX8_isDuty : SInfo RX8 yX8_isDuty cX8_isDuty 1 (some .boolean) 1 := ⟨mw_4_9, mw_1_9, mw_4_10, rfl, by decide +kernel, by decide +kernel, by decide +kernel⟩
theorem iX8_addsGood : VInfo RX8 yX8_addsGood cX8_addsGood 2 (some .int) 1 := ⟨mw_4_6, mw_0_19, mw_1_9, mw_4_7, rfl, by decide +kernel, by decide +kernel, by decide +kernel⟩
theorem iX8_good : VInfo RX8 yX8_good cX8_good 2 (some .int) 1 := ⟨mw_4_1, mw_4_2, mw_1_9, mw_4_3, rfl, by decide +kernel, by decide +kernel, by decide +kernel⟩
theorem iX8_duty : VInfo RX8 yX8_duty cX8_duty 4 (some .int) 2 := ⟨mw_4_16, mw_4_17, mw_1_9, mw_4_18, rfl, by decide +kernel, by decide +kernel, by decide +kernel⟩
theorem iX8_isMove : VInfo RX8 yX8_isMove cX8_isMove 4 (some .boolean) 3 := ⟨mw_4_33, mw_0_22, mw_1_9, mw_4_34, rfl, by decide +kernel, by decide +kernel, by decide +kernel⟩
theorem iX8_loads : VInfo RX8 yX8_loads cX8_loads 7 (some .int) 3 := ⟨mw_4_29, mw_0_21, mw_1_9, mw_4_30, rfl, by decide +kernel, by decide +kernel, by decide +kernel⟩
theorem iX8_load : VInfo RX8 yX8_load cX8_load 4 (some .int) 3 := ⟨mw_4_24, mw_4_25, mw_1_9, mw_4_26, rfl, by decide +kernel, by decide +kernel, by decide +kernel⟩
theorem iX8_sum : VInfo RX8 yX8_sum cX8_sum 4 (some .int) 1 := ⟨mw_4_51, mw_0_25, mw_1_9, mw_4_52, rfl, by decide +kernel, by decide +kernel, by decide +kernel⟩
theorem iX8_lockerOf : VInfo RX8 yX8_lockerOf cX8_lockerOf 4 (some .int) 2 := ⟨mw_4_46, mw_4_47, mw_1_9, mw_4_48, rfl, by decide +kernel, by decide +kernel, by decide +kernel⟩
theorem iX8_missing : VInfo RX8 yX8_missing cX8_missing 3 (some .int) 2 := ⟨mw_4_54, mw_4_55, mw_1_9, mw_4_56, rfl, by decide +kernel, by decide +kernel, by decide +kernel⟩
theorem iX8_seal : VInfo RX8 yX8_seal cX8_seal 3 (some .int) 2 := ⟨mw_4_58, mw_4_59, mw_1_9, mw_4_60, rfl, by decide +kernel, by decide +kernel, by decide +kernel⟩
theorem iX8_bond : VInfo RX8 yX8_bond cX8_bond 3 (some .int) 2 := ⟨mw_4_62, mw_4_63, mw_1_9, mw_4_64, rfl, by decide +kernel, by decide +kernel, by decide +kernel⟩
theorem iX8_nextBond : VInfo RX8 yX8_nextBond cX8_nextBond 2 (some .int) 1 := ⟨mw_4_66, mw_4_67, mw_1_9, mw_4_68, rfl, by decide +kernel, by decide +kernel, by decide +kernel⟩
theorem iX8_uses : VInfo RX8 yX8_uses cX8_uses 5 (some .int) 3 := ⟨mw_4_79, mw_0_27, mw_1_9, mw_4_80, rfl, by decide +kernel, by decide +kernel, by decide +kernel⟩
theorem iX8_use : VInfo RX8 yX8_use cX8_use 4 (some .int) 3 := ⟨mw_4_74, mw_4_75, mw_1_9, mw_4_76, rfl, by decide +kernel, by decide +kernel, by decide +kernel⟩
theorem iX8_brings : VInfo RX8 yX8_brings cX8_brings 5 (some .int) 3 := ⟨mw_4_98, mw_0_30, mw_1_9, mw_4_99, rfl, by decide +kernel, by decide +kernel, by decide +kernel⟩
theorem iX8_bring : VInfo RX8 yX8_bring cX8_bring 4 (some .int) 3 := ⟨mw_4_93, mw_4_94, mw_1_9, mw_4_95, rfl, by decide +kernel, by decide +kernel, by decide +kernel⟩
theorem iX8_smashes : VInfo RX8 yX8_smashes cX8_smashes 6 (some .int) 4 := ⟨mw_4_106, mw_0_31, mw_1_9, mw_4_107, rfl, by decide +kernel, by decide +kernel, by decide +kernel⟩
theorem iX8_smash : VInfo RX8 yX8_smash cX8_smash 5 (some .int) 4 := ⟨mw_4_101, mw_4_102, mw_1_9, mw_4_103, rfl, by decide +kernel, by decide +kernel, by decide +kernel⟩
theorem iX8_tears : VInfo RX8 yX8_tears cX8_tears 2 (some .int) 1 := ⟨mw_4_114, mw_0_32, mw_1_9, mw_4_115, rfl, by decide +kernel, by decide +kernel, by decide +kernel⟩
theorem iX8_tear : VInfo RX8 yX8_tear cX8_tear 2 (some .int) 1 := ⟨mw_4_109, mw_4_110, mw_1_9, mw_4_111, rfl, by decide +kernel, by decide +kernel, by decide +kernel⟩
theorem iX8_inspects : VInfo RX8 yX8_inspects cX8_inspects 5 (some .int) 1 := ⟨mw_4_122, mw_0_33, mw_1_9, mw_4_123, rfl, by decide +kernel, by decide +kernel, by decide +kernel⟩
theorem iX8_inspect : VInfo RX8 yX8_inspect cX8_inspect 2 (some .int) 1 := ⟨mw_4_117, mw_4_118, mw_1_9, mw_4_119, rfl, by decide +kernel, by decide +kernel, by decide +kernel⟩
theorem iX8_lockersThat : VInfo RX8 yX8_lockersThat cX8_lockersThat 4 (some .int) 1 := ⟨mw_4_139, mw_0_36, mw_1_9, mw_4_140, rfl, by decide +kernel, by decide +kernel, by decide +kernel⟩
theorem iX8_crosses : VInfo RX8 yX8_crosses cX8_crosses 5 (some .int) 1 := ⟨mw_4_135, mw_0_35, mw_1_9, mw_4_136, rfl, by decide +kernel, by decide +kernel, by decide +kernel⟩
theorem iX8_cross : VInfo RX8 yX8_cross cX8_cross 2 (some .int) 1 := ⟨mw_4_130, mw_4_131, mw_1_9, mw_4_132, rfl, by decide +kernel, by decide +kernel, by decide +kernel⟩
theorem iX8_loses : VInfo RX8 yX8_loses cX8_loses 7 none 2 := ⟨mw_4_151, mw_0_38, mw_1_9, mw_4_152, rfl, by decide +kernel, by decide +kernel, by decide +kernel⟩
theorem iX8_passes : VInfo RX8 yX8_passes cX8_passes 6 (some .int) 1 := ⟨mw_4_147, mw_0_37, mw_1_9, mw_4_148, rfl, by decide +kernel, by decide +kernel, by decide +kernel⟩
theorem iX8_pass : VInfo RX8 yX8_pass cX8_pass 2 (some .int) 1 := ⟨mw_4_142, mw_4_143, mw_1_9, mw_4_144, rfl, by decide +kernel, by decide +kernel, by decide +kernel⟩
theorem iX8_set : VInfo RX8 yX8_set cX8_set 4 (some .int) 2 := ⟨mw_4_154, mw_4_155, mw_1_9, mw_4_156, rfl, by decide +kernel, by decide +kernel, by decide +kernel⟩
theorem iX8_overLockers : VInfo RX8 yX8_overLockers cX8_overLockers 5 (some .int) 2 := ⟨mw_4_164, mw_0_39, mw_1_9, mw_4_165, rfl, by decide +kernel, by decide +kernel, by decide +kernel⟩
theorem iX8_account : VInfo RX8 yX8_account cX8_account 3 (some .int) 2 := ⟨mw_4_159, mw_4_160, mw_1_9, mw_4_161, rfl, by decide +kernel, by decide +kernel, by decide +kernel⟩
theorem iX8_cents : VInfo RX8 yX8_cents cX8_cents 4 (some .int) 1 := ⟨mw_4_167, mw_4_168, mw_1_9, mw_4_169, rfl, by decide +kernel, by decide +kernel, by decide +kernel⟩
theorem iX8_count : VInfo RX8 yX8_count cX8_count 4 (some .int) 1 := ⟨mw_4_171, mw_4_172, mw_1_9, mw_4_173, rfl, by decide +kernel, by decide +kernel, by decide +kernel⟩
theorem iX8_worth : VInfo RX8 yX8_worth cX8_worth 5 (some .int) 2 := ⟨mw_4_175, mw_4_176, mw_1_9, mw_4_177, rfl, by decide +kernel, by decide +kernel, by decide +kernel⟩
theorem iX8_toPay : VInfo RX8 yX8_toPay cX8_toPay 4 (some .int) 0 := ⟨mw_4_179, mw_4_180, mw_1_9, mw_4_181, rfl, by decide +kernel, by decide +kernel, by decide +kernel⟩
theorem iX8_runsOut : VInfo RX8 yX8_runsOut cX8_runsOut 2 (some .int) 0 := ⟨mw_4_183, mw_4_184, mw_1_9, mw_4_185, rfl, by decide +kernel, by decide +kernel, by decide +kernel⟩
theorem iX8_type : VInfo RX8 yX8_type cX8_type 2 (some .int) 1 := ⟨mw_4_187, mw_4_188, mw_1_9, mw_4_189, rfl, by decide +kernel, by decide +kernel, by decide +kernel⟩
theorem iX8_clearText : VInfo RX8 yX8_clearText cX8_clearText 2 (some .int) 0 := ⟨mw_4_191, mw_4_192, mw_1_9, mw_4_193, rfl, by decide +kernel, by decide +kernel, by decide +kernel⟩
theorem iX8_here : VInfo RX8 yX8_here cX8_here 1 (some .int) 0 := ⟨mw_4_208, mw_0_42, mw_1_9, mw_4_209, rfl, by decide +kernel, by decide +kernel, by decide +kernel⟩
theorem iX8_passesSign : VInfo RX8 yX8_passesSign cX8_passesSign 2 none 1 := ⟨mw_4_216, mw_0_44, mw_1_9, mw_4_217, rfl, by decide +kernel, by decide +kernel, by decide +kernel⟩
theorem iX8_number : VInfo RX8 yX8_number cX8_number 3 (some .int) 0 := ⟨mw_4_212, mw_0_43, mw_1_9, mw_4_213, rfl, by decide +kernel, by decide +kernel, by decide +kernel⟩
theorem iX8_order : VInfo RX8 yX8_order cX8_order 6 (some .int) 0 := ⟨mw_4_204, mw_0_41, mw_1_9, mw_4_205, rfl, by decide +kernel, by decide +kernel, by decide +kernel⟩
theorem iX8_tries : VInfo RX8 yX8_tries cX8_tries 1 none 0 := ⟨mw_4_200, mw_0_40, mw_1_9, mw_4_201, rfl, by decide +kernel, by decide +kernel, by decide +kernel⟩
theorem iX8_fault : VInfo RX8 yX8_fault cX8_fault 2 (some .int) 1 := ⟨mw_4_195, mw_4_196, mw_1_9, mw_4_197, rfl, by decide +kernel, by decide +kernel, by decide +kernel⟩
theorem iX8_play : VInfo RX8 yX8_play cX8_play 1 (some .int) 0 := ⟨mw_4_223, mw_4_224, mw_1_9, mw_4_225, rfl, by decide +kernel, by decide +kernel, by decide +kernel⟩
end
section
section X8
variable {p : Program} {l : Launch} {e : Env} {R : Room} {s : State} {m : MethodId} {args : Array Value} {below : List Frame} {meth : Method} {c : Code} {H : Heap} {locs : List Loc} {cells slots : Nat} {Q : State → Prop}
variable {cc : ByteArray} {pc nL : Nat} {ls : Array Slot} {rest : List Value} {own : String}
theorem xv_cv {a b : Int} (h : a = b) (k : W p l e R s m args below meth c H locs cells slots Q (F0 m pc ls (.int (iI b) :: rest))) : W p l e R s m args below meth c H locs cells slots Q (F0 m pc ls (.int (iI a) :: rest)) := by rw [h]; exact k
theorem xv_cvL {a b : Int} (h : a = b) (k : W p l e R s m args below meth c H locs cells slots Q (F0 m pc ls (.long (lI b) :: rest))) : W p l e R s m args below meth c H locs cells slots Q (F0 m pc ls (.long (lI a) :: rest)) := by rw [h]; exact k
theorem xv_i2c (T : CF p m c cc nL s args own) {a : Int} (h : 0 ≤ a ∧ a < 65536) (hdg : decode cc pc = .ok (.i2c, 1)) (k : W p l e R s m args below meth c H locs cells slots Q (F0 m (pc + 1) ls (.int (iI a) :: rest))) : W p l e R s m args below meth c H locs cells slots Q (F0 m pc ls (.int (iI a) :: rest)) := lv_i2c T.1 T.2.1 hdg (by
  rw [pk_char, show iI a = nI a.toNat by rw [show a = ((a.toNat : Nat) : Int) by omega, iI_ofNat]; rfl, pk_tn (by omega), Nat.mod_eq_of_lt (by omega)]) k
theorem xv_min (T : CF p m c cc nL s args own) {idx : Nat} (hm : (Cond.methodLink own idx Lib.Math.min.name) ∈ xtb) (hdg : decode cc pc = .ok (.invokestatic idx, 3)) (hsz : ls.size = nL) (hf : 1 ≤ R.frames) (hlo : (rest.map fun v => v.category).sum + 13 ≤ R.locals) (hcs : cells ≤ R.cells ∧ slots ≤ R.slots) {a b : Int} (h : (-2147483648 ≤ a ∧ a ≤ 2147483647) ∧ (-2147483648 ≤ b ∧ b ≤ 2147483647)) (k : ∀ z : Int, (z ≤ a ∧ z ≤ b ∧ (z = a ∨ z = b)) → W p l e R s m args below meth c H locs cells slots Q (F0 m (pc + 3) ls (.int (iI z) :: rest))) : W p l e R s m args below meth c H locs cells slots Q (F0 m pc ls (.int (iI b) :: .int (iI a) :: rest)) := by
  refine va_mmin T.1 T.2.1 (T.2.2.1.trans hsz.symm) T.2.2.2.1 (T.2.2.2.2 _ hm) (T.2.2.2.2 _ mw_2_73) (T.2.2.2.2 _ mw_1_11) (T.2.2.2.2 _ mw_2_74) hf hlo hcs.1 hcs.2 hdg ?_
  have e : (iI b < iI a) ↔ b < a := iI_lt ⟨h.2, h.1⟩
  by_cases q : b < a
  · rw [if_pos (e.mpr q)]
    exact k b ⟨by omega, by omega, Or.inr rfl⟩
  · rw [if_neg (fun r => q (e.mp r))]
    exact k a ⟨by omega, by omega, Or.inl rfl⟩
end X8
def In0 (N : Int → Int) : Prop := (0 ≤ N 0 ∧ N 0 ≤ 2) ∧ (0 ≤ N 1 ∧ N 1 ≤ 5000) ∧ (0 ≤ N 2 ∧ N 2 ≤ 100000) ∧ (1 ≤ N 3 ∧ N 3 ≤ 99) ∧ (0 ≤ N 4 ∧ N 4 ≤ 5) ∧ (0 ≤ N 5 ∧ N 5 ≤ 8) ∧ (0 ≤ N 6 ∧ N 6 ≤ 60) ∧ (0 ≤ N 7 ∧ N 7 ≤ 200) ∧ (0 ≤ N 8 ∧ N 8 ≤ 100000 * N 7) ∧ (0 ≤ N 9 ∧ N 9 ≤ 2147483647)
def InL (N : Int → Int) : Prop := ∀ l : Int, 0 ≤ l → l < 5 → (0 ≤ N (14 + l) ∧ N (14 + l) ≤ 2) ∧ (0 ≤ N (19 + l) ∧ N (19 + l) ≤ N 7) ∧ (N (14 + l) = 1 → 1 ≤ N (19 + l))
def InH (N : Int → Int) : Prop := ∀ l g : Int, 0 ≤ l → l < 5 → 0 ≤ g → g < 8 → (0 ≤ N (24 + 8 * l + g) ∧ N (24 + 8 * l + g) ≤ 99999) ∧ (0 ≤ N (64 + 8 * l + g) ∧ N (64 + 8 * l + g) ≤ 600000) ∧ (N 4 ≤ l → N (24 + 8 * l + g) = 0 ∧ N (64 + 8 * l + g) = 0)
def InB (N : Int → Int) : Prop := ∀ b : Int, 0 ≤ b → b < N 6 → (0 ≤ N (152 + b) ∧ N (152 + b) < N 5) ∧ (1 ≤ N (212 + b) ∧ N (212 + b) ≤ 9999) ∧ (0 ≤ N (272 + b) ∧ N (272 + b) ≤ 9999) ∧ (1 ≤ N (332 + b) ∧ N (332 + b) ≤ 1000000) ∧ (0 ≤ N (392 + b) ∧ N (392 + b) ≤ 5099)
def InD (N : Int → Int) : Prop := ∀ g : Int, 0 ≤ g → g < N 5 → 1 ≤ N (104 + g) ∧ N (104 + g) ≤ 1000000
/-- the sum of f over 0 .. n-1 -/
def sumZ (f : Int → Int) : Nat → Int
  | 0 => 0
  | n + 1 => sumZ f n + f (n : Int)
/-- units of a good left in bonds -/
def restF (N : Int → Int) (g : Int) : Int := sumZ (fun b => if N (152 + b) = g then N (272 + b) else 0) (N 6).toNat
/-- units of a good in lockers, and missing ones -/
def hasF (N : Int → Int) (g : Int) : Int := sumZ (fun l => N (24 + 8 * l + g)) 5
def missF (N : Int → Int) (g : Int) : Int := sumZ (fun l => N (64 + 8 * l + g)) 5
def InC (N : Int → Int) : Prop := ∀ g : Int, 0 ≤ g → g < 8 → hasF N g + missF N g ≤ restF N g
def InG (N : Int → Int) : Prop := ∀ g : Int, 0 ≤ g → g < 8 → N (112 + g) = sumZ (fun b => if N (152 + b) = g then N (212 + b) else 0) (N 6).toNat
def InZ (N : Int → Int) : Prop := N 0 = 0 → ∀ l : Int, 0 ≤ l → l < N 4 → N (14 + l) = 0
def Inv (N : Int → Int) : Prop := In0 N ∧ InL N ∧ InH N ∧ InB N ∧ InD N ∧ InC N ∧ InG N ∧ InZ N
end
section
theorem sumZ_step {f : Int → Int} {i : Int} (h : 0 ≤ i) : sumZ f (i + 1).toNat = sumZ f i.toNat + f i := by
  rw [show (i + 1).toNat = i.toNat + 1 by omega]
  show sumZ f i.toNat + f ((i.toNat : Nat) : Int) = _
  rw [Int.toNat_of_nonneg h]
theorem sumZ_congr {f g : Int → Int} : ∀ (n : Nat), (∀ k : Int, 0 ≤ k → k < (n : Int) → f k = g k) → sumZ f n = sumZ g n
  | 0, _ => rfl
  | n + 1, h => by
    show sumZ f n + f (n : Int) = sumZ g n + g (n : Int)
    rw [sumZ_congr n fun k h1 h2 => h k h1 (by omega), h (n : Int) (by omega) (by omega)]
theorem sumZ_add {f g : Int → Int} : ∀ (n : Nat), sumZ (fun k => f k + g k) n = sumZ f n + sumZ g n
  | 0 => rfl
  | n + 1 => by
    show sumZ (fun k => f k + g k) n + (f (n : Int) + g (n : Int)) = (sumZ f n + f (n : Int)) + (sumZ g n + g (n : Int))
    rw [sumZ_add n]
    omega
theorem sumZ_nonneg {f : Int → Int} : ∀ (n : Nat), (∀ k : Int, 0 ≤ k → k < (n : Int) → 0 ≤ f k) → 0 ≤ sumZ f n
  | 0, _ => Int.le_refl 0
  | n + 1, h => by
    show 0 ≤ sumZ f n + f (n : Int)
    have h1 := sumZ_nonneg n fun k h1 h2 => h k h1 (by omega)
    have h2 := h (n : Int) (by omega) (by omega)
    omega
theorem sumZ_le {f g : Int → Int} : ∀ (n : Nat), (∀ k : Int, 0 ≤ k → k < (n : Int) → f k ≤ g k) → sumZ f n ≤ sumZ g n
  | 0, _ => Int.le_refl 0
  | n + 1, h => by
    show sumZ f n + f (n : Int) ≤ sumZ g n + g (n : Int)
    have h1 := sumZ_le n fun k h1 h2 => h k h1 (by omega)
    have h2 := h (n : Int) (by omega) (by omega)
    omega
theorem sumZ_const (c : Int) : ∀ (n : Nat), sumZ (fun _ => c) n = c * n
  | 0 => by simp [sumZ]
  | n + 1 => by
    show sumZ (fun _ => c) n + c = _
    rw [sumZ_const c n]
    push_cast
    rw [Int.mul_add, Int.mul_one]
/-- one place of a sum is changed by d -/
theorem sumZ_one {f g : Int → Int} {i d : Int} : ∀ (n : Nat), 0 ≤ i → i < (n : Int) → g i = f i + d → (∀ k : Int, 0 ≤ k → k < (n : Int) → k ≠ i → g k = f k) → sumZ g n = sumZ f n + d
  | 0, h0, h1, _, _ => by omega
  | n + 1, h0, h1, hi, ho => by
    show sumZ g n + g (n : Int) = sumZ f n + f (n : Int) + d
    by_cases hn : i = (n : Int)
    · rw [sumZ_congr (f := g) (g := f) n fun k h2 h3 => ho k h2 (by omega) (by omega), ← hn, hi]
      omega
    · rw [sumZ_one n h0 (by omega) hi fun k h2 h3 h4 => ho k h2 (by omega) h4, ho (n : Int) (by omega) (by omega) (by omega)]
      omega
/-- one place of a sum of what is not below 0 -/
theorem sumZ_ge {f : Int → Int} {i : Int} : ∀ (n : Nat), (∀ k : Int, 0 ≤ k → k < (n : Int) → 0 ≤ f k) → 0 ≤ i → i < (n : Int) → f i ≤ sumZ f n
  | 0, _, h0, h1 => by omega
  | n + 1, h, h0, h1 => by
    show f i ≤ sumZ f n + f (n : Int)
    have hn := h (n : Int) (by omega) (by omega)
    by_cases hi : i = (n : Int)
    · rw [hi]
      have := sumZ_nonneg n fun k h1 h2 => h k h1 (by omega)
      omega
    · have := sumZ_ge n (fun k h1 h2 => h k h1 (by omega)) h0 (by omega)
      omega
/-- a bond that comes behind p, of the good g (any, below 0), with units left -/
def okB (N : Int → Int) (g p b : Int) : Prop := 0 < N (272 + b) ∧ (g < 0 ∨ N (152 + b) = g) ∧ (p < 0 ∨ N (392 + p) < N (392 + b) ∨ (N (392 + p) = N (392 + b) ∧ p < b))
def IsNx (N : Int → Int) (g p z : Int) : Prop := (z = -4 ∧ ∀ k : Int, 0 ≤ k → k < N 6 → ¬ okB N g p k) ∨ ((0 ≤ z ∧ z < N 6) ∧ okB N g p z ∧ ∀ k : Int, 0 ≤ k → k < N 6 → okB N g p k → N (392 + z) < N (392 + k) ∨ (N (392 + z) = N (392 + k) ∧ z ≤ k))
/-- the same among the bonds above b: what the reference's loop knows -/
def NxI (N : Int → Int) (g p b z : Int) : Prop := (z = -4 ∧ ∀ k : Int, b < k → k < N 6 → ¬ okB N g p k) ∨ ((b < z ∧ z < N 6) ∧ okB N g p z ∧ ∀ k : Int, b < k → k < N 6 → okB N g p k → N (392 + z) < N (392 + k) ∨ (N (392 + z) = N (392 + k) ∧ z ≤ k))
theorem nxI_0 {N : Int → Int} {g p b : Int} (h : N 6 - 1 = b) : NxI N g p b (-4) := Or.inl ⟨rfl, fun k h1 h2 => by omega⟩
theorem nxI_at {N : Int → Int} {g p b z : Int} (h : NxI N g p b z) : z = -4 ∨ (b < z ∧ z < N 6) := h.elim (fun q => Or.inl q.1) (fun q => Or.inr q.1)
theorem nxI_no {N : Int → Int} {g p b z : Int} (h : NxI N g p b z) (hb : ¬ okB N g p b) : NxI N g p (b - 1) z := by
  rcases h with ⟨h1, h2⟩ | ⟨h1, h2, h3⟩
  · refine Or.inl ⟨h1, fun k a1 a2 => ?_⟩
    by_cases e : k = b
    · rw [e]; exact hb
    · exact h2 k (by omega) a2
  · refine Or.inr ⟨by omega, h2, fun k a1 a2 a3 => ?_⟩
    by_cases e : k = b
    · rw [e] at a3; exact absurd a3 hb
    · exact h3 k (by omega) a2 a3
theorem nxI_yes {N : Int → Int} {g p b z : Int} (h : NxI N g p b z) (hb : okB N g p b) (hl : b < N 6) (hz : z < 0 ∨ N (392 + b) ≤ N (392 + z)) (hb0 : 0 ≤ b) : NxI N g p (b - 1) b := by
  refine Or.inr ⟨by omega, hb, fun k a1 a2 a3 => ?_⟩
  by_cases e : k = b
  · rw [e]; exact Or.inr ⟨rfl, Int.le_refl b⟩
  · rcases h with ⟨h1, h2⟩ | ⟨h1, h2, h3⟩
    · exact absurd a3 (h2 k (by omega) a2)
    · have := h3 k (by omega) a2 a3
      omega
theorem nxI_not {N : Int → Int} {g p b z : Int} (h : NxI N g p b z) (hz : ¬ z < 0) (hd : N (392 + z) < N (392 + b)) : NxI N g p (b - 1) z := by
  rcases h with ⟨h1, h2⟩ | ⟨h1, h2, h3⟩
  · omega
  · refine Or.inr ⟨by omega, h2, fun k a1 a2 a3 => ?_⟩
    by_cases e : k = b
    · rw [e]; exact Or.inl hd
    · exact h3 k (by omega) a2 a3
theorem nxI_end {N : Int → Int} {g p b z : Int} (h : NxI N g p b z) (hb : b = -1) : IsNx N g p z := by
  subst hb
  rcases h with ⟨h1, h2⟩ | ⟨h1, h2, h3⟩
  · exact Or.inl ⟨h1, fun k a1 a2 => h2 k (by omega) a2⟩
  · exact Or.inr ⟨by omega, h2, fun k a1 a2 a3 => h3 k (by omega) a2 a3⟩
theorem isNx_1 {N : Int → Int} {g p y z : Int} (hy : IsNx N g p y) (hz : IsNx N g p z) : y = z := by
  rcases hy with ⟨a1, a2⟩ | ⟨a1, a2, a3⟩ <;> rcases hz with ⟨b1, b2⟩ | ⟨b1, b2, b3⟩
  · omega
  · exact absurd b2 (a2 z b1.1 b1.2)
  · exact absurd a2 (b2 y a1.1 a1.2)
  · have h1 := a3 z b1.1 b1.2 b2
    have h2 := b3 y a1.1 a1.2 a2
    omega
theorem nxI_ex (N : Int → Int) (g p : Int) : ∀ (n : Nat), (n : Int) ≤ N 6 → ∃ z, NxI N g p (N 6 - 1 - n) z
  | 0, _ => ⟨-4, nxI_0 (by omega)⟩
  | n + 1, h => by
    obtain ⟨z, hz⟩ := nxI_ex N g p n (by omega)
    have e : N 6 - 1 - ((n + 1 : Nat) : Int) = N 6 - 1 - n - 1 := by omega
    rw [e]
    by_cases hb : okB N g p (N 6 - 1 - n)
    · by_cases hq : z < 0 ∨ N (392 + (N 6 - 1 - n)) ≤ N (392 + z)
      · exact ⟨_, nxI_yes hz hb (by omega) hq (by omega)⟩
      · exact ⟨_, nxI_not hz (by omega) (by omega)⟩
    · exact ⟨_, nxI_no hz hb⟩
theorem isNx_ex (N : Int → Int) (g p : Int) : ∃ z, IsNx N g p z := by
  by_cases h : 0 ≤ N 6
  · obtain ⟨z, hz⟩ := nxI_ex N g p (N 6).toNat (by omega)
    exact ⟨z, nxI_end hz (by omega)⟩
  · exact ⟨-4, Or.inl ⟨rfl, fun k h1 h2 => by omega⟩⟩
noncomputable def nxt (N : Int → Int) (g p : Int) : Int := Classical.choose (isNx_ex N g p)
theorem nxt_is (N : Int → Int) (g p : Int) : IsNx N g p (nxt N g p) := Classical.choose_spec (isNx_ex N g p)
theorem nxt_eq {N : Int → Int} {g p z : Int} (h : IsNx N g p z) : z = nxt N g p := isNx_1 h (nxt_is N g p)
theorem nxt_or (N : Int → Int) (g p : Int) : nxt N g p = -4 ∨ (0 ≤ nxt N g p ∧ nxt N g p < N 6) := (nxt_is N g p).elim (fun h => Or.inl h.1) (fun h => Or.inr h.1)
/-- a seal is put on the locker l -/
def sealsF (N : Int → Int) (l : Int) : Int → Int := uZ (uZ (uZ (uZ (uZ (uZ N 7 (N 7 + 1)) (14 + l) 1) (19 + l) (N 7 + 1)) (453 + N 7) l) (654 + N 7) (N 1)) (855 + N 7) 0
/-- the seal of l is taken off, if there is one on it -/
def offF (N : Int → Int) (l w : Int) : Int → Int := if N (14 + l) = 1 then uZ (uZ N (854 + N (19 + l)) w) (14 + l) 0 else N
/-- units of the bond b are released for the reason r -/
def takeF (N : Int → Int) (b u r : Int) : Int → Int := uZ (uZ (uZ N (272 + b) (N (272 + b) - u)) (10 + r) (N (10 + r) + u * N (332 + b))) (120 + 4 * N (152 + b) + r) (N (120 + 4 * N (152 + b) + r) + u)
end
section
def InR (N : Int → Int) : Prop := In0 N ∧ InB N
theorem sealsF_ne {N : Int → Int} {l k : Int} (h : k ≠ 7 ∧ k ≠ 14 + l ∧ k ≠ 19 + l ∧ k ≠ 453 + N 7 ∧ k ≠ 654 + N 7 ∧ k ≠ 855 + N 7) : sealsF N l k = N k := by
  unfold sealsF
  rw [uZ_ne h.2.2.2.2.2, uZ_ne h.2.2.2.2.1, uZ_ne h.2.2.2.1, uZ_ne h.2.2.1, uZ_ne h.2.1, uZ_ne h.1]
theorem offF_ne {N : Int → Int} {l w k : Int} (h : k ≠ 14 + l ∧ k ≠ 854 + N (19 + l)) : offF N l w k = N k := by
  unfold offF
  split
  · rw [uZ_ne h.1, uZ_ne h.2]
  · rfl
end
section
set_option maxHeartbeats 4000000 in
set_option maxRecDepth 100000 in
theorem c_X8_in (l : Launch) (K : KT) (v low high : Int) (r_v : -2147483648 ≤ v ∧ v ≤ 2147483647) (r_low : -2147483648 ≤ low ∧ low ≤ 2147483647) (r_high : -2147483648 ≤ high ∧ high ≤ 2147483647) : CtI l yX8_in cX8_in 3 .boolean 0 0 K [.int (iI v), .int (iI low), .int (iI high)] ([]) (NoA) (fun (z : Int) (_ : Unit) => (z = 1 ∧ (low ≤ v ∧ v ≤ high)) ∨ (z = 0 ∧ ¬ (low ≤ v ∧ v ≤ high))) (fun _ => []) := by
  refine CtI_of (by decide) (Nat.le_of_ble_eq_true rfl) ?_
  intro p e s m args below meth c T hr hk hP hK ls hl
  have T : CF p m c cX8_in 3 s args RX8 := T
  have hS : va_S (NoA) s.heap s.heap [] := va_S.rf
  have hl : lv_has ls 3 [(0, .int (iI v)), (1, .int (iI low)), (2, .int (iI high))] := hl
  refine lv_iload_n T.1 T.2.1 dX8_in_0 rfl (lv_at hl 0 rfl) ?_
  refine lv_iload_n T.1 T.2.1 dX8_in_1 rfl (lv_at hl 1 rfl) ?_
  refine xv_icmp_lt T (by omega) (tgt := 14) dX8_in_2 (by decide) (fun c1 => ?_) (fun c1 => ?_)
  · skip
    refine xv_iconst T dX8_in_14 ?_
    exact rB T (u := ()) hr hk hK hP hS (by omega) dX8_in_15 (by omega)
  · skip
    refine lv_iload_n T.1 T.2.1 dX8_in_5 rfl (lv_at hl 0 rfl) ?_
    refine lv_iload_n T.1 T.2.1 dX8_in_6 rfl (lv_at hl 2 rfl) ?_
    refine xv_icmp_gt T (by omega) (tgt := 14) dX8_in_7 (by decide) (fun c2 => ?_) (fun c2 => ?_)
    · skip
      refine xv_iconst T dX8_in_14 ?_
      exact rB T (u := ()) hr hk hK hP hS (by omega) dX8_in_15 (by omega)
    · skip
      refine xv_iconst T dX8_in_10 ?_
      refine lv_goto T.1 T.2.1 (tgt := 15) dX8_in_11 (by decide) ?_
      exact rB T (u := ()) hr hk hK hP hS (by omega) dX8_in_15 (by omega)
set_option maxHeartbeats 4000000 in
set_option maxRecDepth 100000 in
theorem c_X8_isLocker (l : Launch) (K : KT) (o : Nat) (N B SS TT F : Int → Int) (lk : Int) (r_lk : -2147483648 ≤ lk ∧ lk ≤ 2147483647) (hI : Inv N) : CtI l yX8_isLocker cX8_isLocker 2 .boolean 1 22 K [.ref o, .int (iI lk)] (mW K o N B SS TT F) (NoA) (fun (z : Int) (_ : Unit) => (z = 1 ∧ (0 ≤ lk ∧ lk < N 4)) ∨ (z = 0 ∧ ¬ (0 ≤ lk ∧ lk < N 4))) (fun _ => mW K o N B SS TT F) := by
  refine CtI_of (by decide) (Nat.le_of_ble_eq_true rfl) ?_
  intro p e s m args below meth c T hr hk hP hK ls hl
  have T : CF p m c cX8_isLocker 2 s args RX8 := T
  have hS : va_S (NoA) s.heap s.heap [] := va_S.rf
  have hl : lv_has ls 2 [(0, .ref o), (1, .int (iI lk))] := hl
  obtain ⟨hI0, hIL, hIH, hIB, hID, hIC, hIG, hIZ⟩ := id hI
  have hR : InR N := ⟨hI0, hIB⟩
  obtain ⟨b0, b1, b2, b3, b4, b5, b6, b7, b8, b9⟩ := id hI0
  refine lv_iload_n T.1 T.2.1 dX8_isLocker_0 rfl (lv_at hl 1 rfl) ?_
  refine xv_iconst T dX8_isLocker_1 ?_
  refine lv_aload_n T.1 T.2.1 dX8_isLocker_2 rfl (lv_at hl 0 rfl) ?_
  refine g8_now T hK hP 0 rfl rfl mw_3_172 dX8_isLocker_3 ?_
  refine xv_iconst T dX8_isLocker_6 ?_
  refine xa_iald T hK hP 1 rfl rfl 4 (by omega) (by omega) (by decide) dX8_isLocker_7 ?_
  refine xv_iconst T dX8_isLocker_8 ?_
  refine xv_isub T dX8_isLocker_9 ?_
  refine cI_S T hK hP hS (c_X8_in l K lk 0 (N 4 - 1) (by omega) (by omega) (by omega)) iX8_in mw_4_12 ⟨Nat.le_of_ble_eq_true rfl, Nat.le_of_ble_eq_true rfl⟩ xP_nil noA rfl hl.1 rfl (Nat.le_of_ble_eq_true rfl) ⟨Nat.zero_le _, Nat.zero_le _⟩ dX8_isLocker_10 (fun z1 _ H1 locs q2 hP1 hg1 hg2 hS => ?_)
  have hP := xP_kept hP hg2
  generalize H1 = H at hP hS ⊢
  clear hg1 hg2 hP1
  rcases q2 with ⟨rfl, q2⟩ | ⟨rfl, q2⟩
  · skip
    exact rB T (u := ()) hr hk hK hP hS (by omega) dX8_isLocker_13 (by omega)
  · skip
    exact rB T (u := ()) hr hk hK hP hS (by omega) dX8_isLocker_13 (by omega)
set_option maxHeartbeats 4000000 in
set_option maxRecDepth 100000 in
theorem c_X8_isGood (l : Launch) (K : KT) (o : Nat) (N B SS TT F : Int → Int) (gd : Int) (r_gd : -2147483648 ≤ gd ∧ gd ≤ 2147483647) (hI : Inv N) : CtI l yX8_isGood cX8_isGood 2 .boolean 1 22 K [.ref o, .int (iI gd)] (mW K o N B SS TT F) (NoA) (fun (z : Int) (_ : Unit) => (z = 1 ∧ (0 ≤ gd ∧ gd < N 5)) ∨ (z = 0 ∧ ¬ (0 ≤ gd ∧ gd < N 5))) (fun _ => mW K o N B SS TT F) := by
  refine CtI_of (by decide) (Nat.le_of_ble_eq_true rfl) ?_
  intro p e s m args below meth c T hr hk hP hK ls hl
  have T : CF p m c cX8_isGood 2 s args RX8 := T
  have hS : va_S (NoA) s.heap s.heap [] := va_S.rf
  have hl : lv_has ls 2 [(0, .ref o), (1, .int (iI gd))] := hl
  obtain ⟨hI0, hIL, hIH, hIB, hID, hIC, hIG, hIZ⟩ := id hI
  have hR : InR N := ⟨hI0, hIB⟩
  obtain ⟨b0, b1, b2, b3, b4, b5, b6, b7, b8, b9⟩ := id hI0
  refine lv_iload_n T.1 T.2.1 dX8_isGood_0 rfl (lv_at hl 1 rfl) ?_
  refine xv_iconst T dX8_isGood_1 ?_
  refine lv_aload_n T.1 T.2.1 dX8_isGood_2 rfl (lv_at hl 0 rfl) ?_
  refine g8_now T hK hP 0 rfl rfl mw_3_172 dX8_isGood_3 ?_
  refine xv_iconst T dX8_isGood_6 ?_
  refine xa_iald T hK hP 1 rfl rfl 5 (by omega) (by omega) (by decide) dX8_isGood_7 ?_
  refine xv_iconst T dX8_isGood_8 ?_
  refine xv_isub T dX8_isGood_9 ?_
  refine cI_S T hK hP hS (c_X8_in l K gd 0 (N 5 - 1) (by omega) (by omega) (by omega)) iX8_in mw_4_12 ⟨Nat.le_of_ble_eq_true rfl, Nat.le_of_ble_eq_true rfl⟩ xP_nil noA rfl hl.1 rfl (Nat.le_of_ble_eq_true rfl) ⟨Nat.zero_le _, Nat.zero_le _⟩ dX8_isGood_10 (fun z1 _ H1 locs q2 hP1 hg1 hg2 hS => ?_)
  have hP := xP_kept hP hg2
  generalize H1 = H at hP hS ⊢
  clear hg1 hg2 hP1
  rcases q2 with ⟨rfl, q2⟩ | ⟨rfl, q2⟩
  · skip
    exact rB T (u := ()) hr hk hK hP hS (by omega) dX8_isGood_13 (by omega)
  · skip
    exact rB T (u := ()) hr hk hK hP hS (by omega) dX8_isGood_13 (by omega)
set_option maxHeartbeats 4000000 in
set_option maxRecDepth 100000 in
theorem c_X8_hasSeals (l : Launch) (K : KT) (o : Nat) (N B SS TT F : Int → Int) (many : Int) (r_many : 0 ≤ many ∧ many ≤ 1000) (r_ns : 0 ≤ N 7 ∧ N 7 ≤ 200) : CtI l yX8_hasSeals cX8_hasSeals 2 .boolean 0 0 K [.ref o, .int (iI many)] (mW K o N B SS TT F) (NoA) (fun (z : Int) (_ : Unit) => (z = 1 ∧ (N 7 + many ≤ 200)) ∨ (z = 0 ∧ ¬ (N 7 + many ≤ 200))) (fun _ => mW K o N B SS TT F) := by
  refine CtI_of (by decide) (Nat.le_of_ble_eq_true rfl) ?_
  intro p e s m args below meth c T hr hk hP hK ls hl
  have T : CF p m c cX8_hasSeals 2 s args RX8 := T
  have hS : va_S (NoA) s.heap s.heap [] := va_S.rf
  have hl : lv_has ls 2 [(0, .ref o), (1, .int (iI many))] := hl
  refine lv_aload_n T.1 T.2.1 dX8_hasSeals_0 rfl (lv_at hl 0 rfl) ?_
  refine g8_now T hK hP 0 rfl rfl mw_3_172 dX8_hasSeals_1 ?_
  refine xv_bipush T dX8_hasSeals_4 (by omega) ?_
  refine xa_iald T hK hP 1 rfl rfl 7 (by omega) (by omega) (by decide) dX8_hasSeals_6 ?_
  refine lv_iload_n T.1 T.2.1 dX8_hasSeals_7 rfl (lv_at hl 1 rfl) ?_
  refine xv_iadd T dX8_hasSeals_8 ?_
  refine xv_sipush T dX8_hasSeals_9 (by omega) ?_
  refine xv_icmp_gt T (by omega) (tgt := 19) dX8_hasSeals_12 (by decide) (fun c1 => ?_) (fun c1 => ?_)
  · skip
    refine xv_iconst T dX8_hasSeals_19 ?_
    exact rB T (u := ()) hr hk hK hP hS (by omega) dX8_hasSeals_20 (by omega)
  · skip
    refine xv_iconst T dX8_hasSeals_15 ?_
    refine lv_goto T.1 T.2.1 (tgt := 20) dX8_hasSeals_16 (by decide) ?_
    exact rB T (u := ()) hr hk hK hP hS (by omega) dX8_hasSeals_20 (by omega)
set_option maxHeartbeats 4000000 in
set_option maxRecDepth 100000 in
theorem c_X8_isDuty (l : Launch) (K : KT) (dt : Int) (r_dt : -2147483648 ≤ dt ∧ dt ≤ 2147483647) : CtI l yX8_isDuty cX8_isDuty 1 .boolean 1 22 K [.int (iI dt)] ([]) (NoA) (fun (z : Int) (_ : Unit) => (z = 1 ∧ (1 ≤ dt ∧ dt ≤ 1000000)) ∨ (z = 0 ∧ ¬ (1 ≤ dt ∧ dt ≤ 1000000))) (fun _ => []) := by
  refine CtI_of (by decide) (Nat.le_of_ble_eq_true rfl) ?_
  intro p e s m args below meth c T hr hk hP hK ls hl
  have T : CF p m c cX8_isDuty 1 s args RX8 := T
  have hS : va_S (NoA) s.heap s.heap [] := va_S.rf
  have hl : lv_has ls 1 [(0, .int (iI dt))] := hl
  refine lv_iload_n T.1 T.2.1 dX8_isDuty_0 rfl (lv_at hl 0 rfl) ?_
  refine xv_iconst T dX8_isDuty_1 ?_
  refine xv_ldc T mw_4_11 (n := 1000000) (by decide +kernel) dX8_isDuty_2 ?_
  refine cI_S T hK hP hS (c_X8_in l K dt 1 1000000 (by omega) (by omega) (by omega)) iX8_in mw_4_12 ⟨Nat.le_of_ble_eq_true rfl, Nat.le_of_ble_eq_true rfl⟩ xP_nil noA rfl hl.1 rfl (Nat.le_of_ble_eq_true rfl) ⟨Nat.zero_le _, Nat.zero_le _⟩ dX8_isDuty_4 (fun z1 _ H1 locs q2 hP1 hg1 hg2 hS => ?_)
  have hP := xP_kept hP hg2
  generalize H1 = H at hP hS ⊢
  clear hg1 hg2 hP1
  rcases q2 with ⟨rfl, q2⟩ | ⟨rfl, q2⟩
  · skip
    exact rB T (u := ()) hr hk hK hP hS (by omega) dX8_isDuty_7 (by omega)
  · skip
    exact rB T (u := ()) hr hk hK hP hS (by omega) dX8_isDuty_7 (by omega)
set_option maxHeartbeats 4000000 in
set_option maxRecDepth 100000 in
theorem c_X8_least (l : Launch) (K : KT) (a b : Int) (r_a : -2147483648 ≤ a ∧ a ≤ 2147483647) (r_b : -2147483648 ≤ b ∧ b ≤ 2147483647) : CtI l yX8_least cX8_least 2 .int 0 0 K [.int (iI a), .int (iI b)] ([]) (NoA) (fun (z : Int) (_ : Unit) => z ≤ a ∧ z ≤ b ∧ (z = a ∨ z = b)) (fun _ => []) := by
  refine CtI_of (by decide) (Nat.le_of_ble_eq_true rfl) ?_
  intro p e s m args below meth c T hr hk hP hK ls hl
  have T : CF p m c cX8_least 2 s args RX8 := T
  have hS : va_S (NoA) s.heap s.heap [] := va_S.rf
  have hl : lv_has ls 2 [(0, .int (iI a)), (1, .int (iI b))] := hl
  refine lv_iload_n T.1 T.2.1 dX8_least_0 rfl (lv_at hl 0 rfl) ?_
  refine lv_iload_n T.1 T.2.1 dX8_least_1 rfl (lv_at hl 1 rfl) ?_
  refine xv_icmp_ge T (by omega) (tgt := 9) dX8_least_2 (by decide) (fun c1 => ?_) (fun c1 => ?_)
  · skip
    refine lv_iload_n T.1 T.2.1 dX8_least_9 rfl (lv_at hl 1 rfl) ?_
    exact rI T (u := ()) hr hk hK hP hS dX8_least_10 (by omega)
  · skip
    refine lv_iload_n T.1 T.2.1 dX8_least_5 rfl (lv_at hl 0 rfl) ?_
    refine lv_goto T.1 T.2.1 (tgt := 10) dX8_least_6 (by decide) ?_
    exact rI T (u := ()) hr hk hK hP hS dX8_least_10 (by omega)
set_option maxHeartbeats 4000000 in
set_option maxRecDepth 100000 in
theorem c_X8_isMove (l : Launch) (K : KT) (o : Nat) (N B SS TT F : Int → Int) (lk gd un : Int) (r_lk : -2147483648 ≤ lk ∧ lk ≤ 2147483647) (r_gd : -2147483648 ≤ gd ∧ gd ≤ 2147483647) (r_un : -2147483648 ≤ un ∧ un ≤ 2147483647) (hI : Inv N) : CtI l yX8_isMove cX8_isMove 4 .boolean 2 43 K [.ref o, .int (iI lk), .int (iI gd), .int (iI un)] (mW K o N B SS TT F) (NoA) (fun (z : Int) (_ : Unit) => (z = 1 ∧ ((0 ≤ lk ∧ lk < N 4) ∧ (0 ≤ gd ∧ gd < N 5) ∧ (1 ≤ un ∧ un ≤ 9999))) ∨ (z = 0 ∧ ¬ ((0 ≤ lk ∧ lk < N 4) ∧ (0 ≤ gd ∧ gd < N 5) ∧ (1 ≤ un ∧ un ≤ 9999)))) (fun _ => mW K o N B SS TT F) := by
  refine CtI_of (by decide) (Nat.le_of_ble_eq_true rfl) ?_
  intro p e s m args below meth c T hr hk hP hK ls hl
  have T : CF p m c cX8_isMove 4 s args RX8 := T
  have hS : va_S (NoA) s.heap s.heap [] := va_S.rf
  have hl : lv_has ls 4 [(0, .ref o), (1, .int (iI lk)), (2, .int (iI gd)), (3, .int (iI un))] := hl
  obtain ⟨hI0, hIL, hIH, hIB, hID, hIC, hIG, hIZ⟩ := id hI
  have hR : InR N := ⟨hI0, hIB⟩
  obtain ⟨b0, b1, b2, b3, b4, b5, b6, b7, b8, b9⟩ := id hI0
  refine lv_aload_n T.1 T.2.1 dX8_isMove_0 rfl (lv_at hl 0 rfl) ?_
  refine lv_iload_n T.1 T.2.1 dX8_isMove_1 rfl (lv_at hl 1 rfl) ?_
  refine cI_V T hK hP hS 0 rfl rfl rfl (c_X8_isLocker l K o N B SS TT F lk (by omega) hI) iX8_isLocker mw_4_35 ⟨Nat.le_of_ble_eq_true rfl, Nat.le_of_ble_eq_true rfl⟩ hP noA rfl hl.1 rfl (Nat.le_of_ble_eq_true rfl) ⟨Nat.zero_le _, Nat.zero_le _⟩ dX8_isMove_2 (fun z1 _ H1 locs q2 hP1 hg1 hg2 hS => ?_)
  have hP := xP_kept hP hg2
  generalize H1 = H at hP hS ⊢
  clear hg1 hg2 hP1
  rcases q2 with ⟨rfl, q2⟩ | ⟨rfl, q2⟩
  · skip
    refine xv_if_eq T (by omega) (tgt := 31) dX8_isMove_5 (by decide) (fun c3 => absurd c3 (by omega)) (fun _ => ?_)
    refine lv_aload_n T.1 T.2.1 dX8_isMove_8 rfl (lv_at hl 0 rfl) ?_
    refine lv_iload_n T.1 T.2.1 dX8_isMove_9 rfl (lv_at hl 2 rfl) ?_
    refine cI_V T hK hP hS 0 rfl rfl rfl (c_X8_isGood l K o N B SS TT F gd (by omega) hI) iX8_isGood mw_4_19 ⟨Nat.le_of_ble_eq_true rfl, Nat.le_of_ble_eq_true rfl⟩ hP noA rfl hl.1 rfl (Nat.le_of_ble_eq_true rfl) ⟨Nat.zero_le _, Nat.zero_le _⟩ dX8_isMove_10 (fun z4 _ H1 locs q5 hP1 hg1 hg2 hS => ?_)
    have hP := xP_kept hP hg2
    generalize H1 = H at hP hS ⊢
    clear hg1 hg2 hP1
    rcases q5 with ⟨rfl, q5⟩ | ⟨rfl, q5⟩
    · skip
      refine xv_if_eq T (by omega) (tgt := 31) dX8_isMove_13 (by decide) (fun c6 => absurd c6 (by omega)) (fun _ => ?_)
      refine lv_iload_n T.1 T.2.1 dX8_isMove_16 rfl (lv_at hl 3 rfl) ?_
      refine xv_iconst T dX8_isMove_17 ?_
      refine xv_sipush T dX8_isMove_18 (by omega) ?_
      refine cI_S T hK hP hS (c_X8_in l K un 1 9999 (by omega) (by omega) (by omega)) iX8_in mw_4_12 ⟨Nat.le_of_ble_eq_true rfl, Nat.le_of_ble_eq_true rfl⟩ xP_nil noA rfl hl.1 rfl (Nat.le_of_ble_eq_true rfl) ⟨Nat.zero_le _, Nat.zero_le _⟩ dX8_isMove_21 (fun z7 _ H1 locs q8 hP1 hg1 hg2 hS => ?_)
      have hP := xP_kept hP hg2
      generalize H1 = H at hP hS ⊢
      clear hg1 hg2 hP1
      rcases q8 with ⟨rfl, q8⟩ | ⟨rfl, q8⟩
      · skip
        refine xv_if_eq T (by omega) (tgt := 31) dX8_isMove_24 (by decide) (fun c9 => absurd c9 (by omega)) (fun _ => ?_)
        refine xv_iconst T dX8_isMove_27 ?_
        refine lv_goto T.1 T.2.1 (tgt := 32) dX8_isMove_28 (by decide) ?_
        exact rB T (u := ()) hr hk hK hP hS (by omega) dX8_isMove_32 (by omega)
      · skip
        refine xv_if_eq T (by omega) (tgt := 31) dX8_isMove_24 (by decide) (fun _ => ?_) (fun c10 => absurd c10 (by omega))
        refine xv_iconst T dX8_isMove_31 ?_
        exact rB T (u := ()) hr hk hK hP hS (by omega) dX8_isMove_32 (by omega)
    · skip
      refine xv_if_eq T (by omega) (tgt := 31) dX8_isMove_13 (by decide) (fun _ => ?_) (fun c11 => absurd c11 (by omega))
      refine xv_iconst T dX8_isMove_31 ?_
      exact rB T (u := ()) hr hk hK hP hS (by omega) dX8_isMove_32 (by omega)
  · skip
    refine xv_if_eq T (by omega) (tgt := 31) dX8_isMove_5 (by decide) (fun _ => ?_) (fun c12 => absurd c12 (by omega))
    refine xv_iconst T dX8_isMove_31 ?_
    exact rB T (u := ()) hr hk hK hP hS (by omega) dX8_isMove_32 (by omega)
set_option maxHeartbeats 4000000 in
set_option maxRecDepth 100000 in
theorem c_X8_sum (l : Launch) (K : KT) (o : Nat) (N B SS TT F : Int → Int) (fr : Int) (r_fr : 0 ≤ fr ∧ fr ≤ 1000) : CtI l yX8_sum cX8_sum 4 .int 0 0 K [.ref o, .int (iI fr)] (mW K o N B SS TT F) (NoA) (fun (z : Int) (_ : Unit) => z = sumZ (fun k => N (fr + k)) 8) (fun _ => mW K o N B SS TT F) := by
  refine CtI_of (by decide) (Nat.le_of_ble_eq_true rfl) ?_
  intro p e s m args below meth c T hr hk hP hK ls hl
  have T : CF p m c cX8_sum 4 s args RX8 := T
  have hS : va_S (NoA) s.heap s.heap [] := va_S.rf
  have hl : lv_has ls 4 [(0, .ref o), (1, .int (iI fr))] := hl
  refine xv_iconst T dX8_sum_0 ?_
  refine lv_istore_n (lv' := [(2, .int (iI 0)), (0, .ref o), (1, .int (iI fr))]) T.1 T.2.1 dX8_sum_1 rfl hl (by decide) rfl (fun ls hl => ?_)
  refine xv_iconst T dX8_sum_2 ?_
  refine lv_istore_n (lv' := [(3, .int (iI 0)), (2, .int (iI 0)), (0, .ref o), (1, .int (iI fr))]) T.1 T.2.1 dX8_sum_3 rfl hl (by decide) rfl (fun ls hl => ?_)
  have lp4 : ∀ (fuel : Nat) (acc : Int) (i : Int) (H : Heap) (locs : List Loc) (ls : Array Slot), (0 ≤ i ∧ i ≤ 8) → (acc = sumZ (fun k => N (fr + k)) i.toNat) → 8 - i < (fuel : Int) → xP K (mW K o N B SS TT F) H → va_S (NoA) s.heap H locs → lv_has ls 4 [(0, .ref o), (1, .int (iI fr)), (2, .int (iI acc)), (3, .int (iI i))] → W p l e (rmF 0 0) s m args below meth c H locs 0 0 (MQ below (qI K (fun (z : Int) (_ : Unit) => z = sumZ (fun k => N (fr + k)) 8) (fun _ => mW K o N B SS TT F) (NoA)) args s 0 0 (NoA)) (F0 m 4 ls []) := by
    intro fuel
    induction fuel with
    | zero =>
      intro acc i H locs ls hi ha hm hP hS hl
      exact absurd hm (by omega)
    | succ fuel ih4 =>
      intro acc i H locs ls hi ha hm hP hS hl
      refine lv_iload_n T.1 T.2.1 dX8_sum_4 rfl (lv_at hl 3 rfl) ?_
      refine xv_bipush T dX8_sum_5 (by omega) ?_
      refine xv_icmp_ge T (by omega) (tgt := 27) dX8_sum_7 (by decide) (fun c1 => ?_) (fun c1 => ?_)
      · skip
        refine lv_iload_n T.1 T.2.1 dX8_sum_27 rfl (lv_at hl 2 rfl) ?_
        exact rI T (u := ()) hr hk hK hP hS dX8_sum_28 (by rw [ha]; congr 1; omega)
      · skip
        refine lv_iload_n T.1 T.2.1 dX8_sum_10 rfl (lv_at hl 2 rfl) ?_
        refine lv_aload_n T.1 T.2.1 dX8_sum_11 rfl (lv_at hl 0 rfl) ?_
        refine g8_now T hK hP 0 rfl rfl mw_3_172 dX8_sum_12 ?_
        refine lv_iload_n T.1 T.2.1 dX8_sum_15 rfl (lv_at hl 1 rfl) ?_
        refine lv_iload_n T.1 T.2.1 dX8_sum_16 rfl (lv_at hl 3 rfl) ?_
        refine xv_iadd T dX8_sum_17 ?_
        refine xa_iald T hK hP 1 rfl rfl (fr + i) (by omega) (by omega) (by decide) dX8_sum_18 ?_
        refine xv_iadd T dX8_sum_19 ?_
        refine lv_istore_n (lv' := [(2, .int (iI (acc + (N (fr + i))))), (0, .ref o), (1, .int (iI fr)), (3, .int (iI i))]) T.1 T.2.1 dX8_sum_20 rfl hl (by decide) rfl (fun ls hl => ?_)
        refine xv_iinc T (y := i + 1) (lv' := [(3, .int (iI (i + 1))), (2, .int (iI (acc + (N (fr + i))))), (0, .ref o), (1, .int (iI fr))]) dX8_sum_21 hl (q := 3) rfl (by omega) (by decide) rfl (fun ls hl => ?_)
        refine lv_goto T.1 T.2.1 (tgt := 4) dX8_sum_24 (by decide) ?_
        exact ih4 (acc + (N (fr + i))) (i + 1) _ _ ls (by omega) (by rw [sumZ_step (by omega), ha]) (by omega) hP hS (lv_sub hl [2, 3, 1, 0] rfl)
  exact lp4 (8 + 1) 0 0 _ _ ls (by omega) rfl (by omega) hP hS (lv_sub hl [2, 3, 1, 0] rfl)
set_option maxHeartbeats 4000000 in
set_option maxRecDepth 100000 in
theorem c_X8_lockersThat (l : Launch) (K : KT) (o : Nat) (N B SS TT F : Int → Int) (how : Int) (r_how : -2147483648 ≤ how ∧ how ≤ 2147483647) (hI : Inv N) : CtI l yX8_lockersThat cX8_lockersThat 4 .int 0 0 K [.ref o, .int (iI how)] (mW K o N B SS TT F) (NoA) (fun (z : Int) (_ : Unit) => z = sumZ (fun k => if N (14 + k) = how then 1 else 0) (N 4).toNat) (fun _ => mW K o N B SS TT F) := by
  refine CtI_of (by decide) (Nat.le_of_ble_eq_true rfl) ?_
  intro p e s m args below meth c T hr hk hP hK ls hl
  have T : CF p m c cX8_lockersThat 4 s args RX8 := T
  have hS : va_S (NoA) s.heap s.heap [] := va_S.rf
  have hl : lv_has ls 4 [(0, .ref o), (1, .int (iI how))] := hl
  obtain ⟨hI0, hIL, hIH, hIB, hID, hIC, hIG, hIZ⟩ := id hI
  have hR : InR N := ⟨hI0, hIB⟩
  obtain ⟨b0, b1, b2, b3, b4, b5, b6, b7, b8, b9⟩ := id hI0
  refine xv_iconst T dX8_lockersThat_0 ?_
  refine lv_istore_n (lv' := [(2, .int (iI 0)), (0, .ref o), (1, .int (iI how))]) T.1 T.2.1 dX8_lockersThat_1 rfl hl (by decide) rfl (fun ls hl => ?_)
  refine xv_iconst T dX8_lockersThat_2 ?_
  refine lv_istore_n (lv' := [(3, .int (iI 0)), (2, .int (iI 0)), (0, .ref o), (1, .int (iI how))]) T.1 T.2.1 dX8_lockersThat_3 rfl hl (by decide) rfl (fun ls hl => ?_)
  have lp4 : ∀ (fuel : Nat) (acc : Int) (i : Int) (H : Heap) (locs : List Loc) (ls : Array Slot), (0 ≤ i ∧ i ≤ N 4) → (acc = sumZ (fun k => if N (14 + k) = how then 1 else 0) i.toNat) → N 4 - i < (fuel : Int) → xP K (mW K o N B SS TT F) H → va_S (NoA) s.heap H locs → lv_has ls 4 [(0, .ref o), (1, .int (iI how)), (2, .int (iI acc)), (3, .int (iI i))] → W p l e (rmF 0 0) s m args below meth c H locs 0 0 (MQ below (qI K (fun (z : Int) (_ : Unit) => z = sumZ (fun k => if N (14 + k) = how then 1 else 0) (N 4).toNat) (fun _ => mW K o N B SS TT F) (NoA)) args s 0 0 (NoA)) (F0 m 4 ls []) := by
    intro fuel
    induction fuel with
    | zero =>
      intro acc i H locs ls hi ha hm hP hS hl
      exact absurd hm (by omega)
    | succ fuel ih4 =>
      intro acc i H locs ls hi ha hm hP hS hl
      refine lv_iload_n T.1 T.2.1 dX8_lockersThat_4 rfl (lv_at hl 3 rfl) ?_
      refine lv_aload_n T.1 T.2.1 dX8_lockersThat_5 rfl (lv_at hl 0 rfl) ?_
      refine g8_now T hK hP 0 rfl rfl mw_3_172 dX8_lockersThat_6 ?_
      refine xv_iconst T dX8_lockersThat_9 ?_
      refine xa_iald T hK hP 1 rfl rfl 4 (by omega) (by omega) (by decide) dX8_lockersThat_10 ?_
      refine xv_icmp_ge T (by omega) (tgt := 41) dX8_lockersThat_11 (by decide) (fun c1 => ?_) (fun c1 => ?_)
      · skip
        refine lv_iload_n T.1 T.2.1 dX8_lockersThat_41 rfl (lv_at hl 2 rfl) ?_
        exact rI T (u := ()) hr hk hK hP hS dX8_lockersThat_42 (by rw [ha]; congr 1; omega)
      · skip
        refine lv_iload_n T.1 T.2.1 dX8_lockersThat_14 rfl (lv_at hl 2 rfl) ?_
        refine lv_aload_n T.1 T.2.1 dX8_lockersThat_15 rfl (lv_at hl 0 rfl) ?_
        refine g8_now T hK hP 0 rfl rfl mw_3_172 dX8_lockersThat_16 ?_
        refine xv_bipush T dX8_lockersThat_19 (by omega) ?_
        refine lv_iload_n T.1 T.2.1 dX8_lockersThat_21 rfl (lv_at hl 3 rfl) ?_
        refine xv_iadd T dX8_lockersThat_22 ?_
        refine xa_iald T hK hP 1 rfl rfl (14 + i) (by omega) (by omega) (by decide) dX8_lockersThat_23 ?_
        have f2 := hIL i (by omega) (by omega)
        refine lv_iload_n T.1 T.2.1 dX8_lockersThat_24 rfl (lv_at hl 1 rfl) ?_
        refine xv_icmp_ne T (by omega) (tgt := 32) dX8_lockersThat_25 (by decide) (fun c3 => ?_) (fun c3 => ?_)
        · skip
          refine xv_iconst T dX8_lockersThat_32 ?_
          refine xv_iadd T dX8_lockersThat_33 ?_
          refine lv_istore_n (lv' := [(2, .int (iI (acc + 0))), (0, .ref o), (1, .int (iI how)), (3, .int (iI i))]) T.1 T.2.1 dX8_lockersThat_34 rfl hl (by decide) rfl (fun ls hl => ?_)
          refine xv_iinc T (y := i + 1) (lv' := [(3, .int (iI (i + 1))), (2, .int (iI (acc + 0))), (0, .ref o), (1, .int (iI how))]) dX8_lockersThat_35 hl (q := 3) rfl (by omega) (by decide) rfl (fun ls hl => ?_)
          refine lv_goto T.1 T.2.1 (tgt := 4) dX8_lockersThat_38 (by decide) ?_
          exact ih4 (acc + 0) (i + 1) _ _ ls (by omega) (by rw [sumZ_step (by omega), ha]; first | rw [if_pos (by assumption)] | rw [if_neg (by assumption)]) (by omega) hP hS (lv_sub hl [2, 3, 1, 0] rfl)
        · skip
          refine xv_iconst T dX8_lockersThat_28 ?_
          refine lv_goto T.1 T.2.1 (tgt := 33) dX8_lockersThat_29 (by decide) ?_
          refine xv_iadd T dX8_lockersThat_33 ?_
          refine lv_istore_n (lv' := [(2, .int (iI (acc + 1))), (0, .ref o), (1, .int (iI how)), (3, .int (iI i))]) T.1 T.2.1 dX8_lockersThat_34 rfl hl (by decide) rfl (fun ls hl => ?_)
          refine xv_iinc T (y := i + 1) (lv' := [(3, .int (iI (i + 1))), (2, .int (iI (acc + 1))), (0, .ref o), (1, .int (iI how))]) dX8_lockersThat_35 hl (q := 3) rfl (by omega) (by decide) rfl (fun ls hl => ?_)
          refine lv_goto T.1 T.2.1 (tgt := 4) dX8_lockersThat_38 (by decide) ?_
          exact ih4 (acc + 1) (i + 1) _ _ ls (by omega) (by rw [sumZ_step (by omega), ha]; first | rw [if_pos (by assumption)] | rw [if_neg (by assumption)]) (by omega) hP hS (lv_sub hl [2, 3, 1, 0] rfl)
  exact lp4 6 0 0 _ _ ls (by omega) rfl (by omega) hP hS (lv_sub hl [2, 3, 1, 0] rfl)
set_option maxHeartbeats 4000000 in
set_option maxRecDepth 100000 in
theorem c_X8_overLockers (l : Launch) (K : KT) (o : Nat) (N B SS TT F : Int → Int) (fr gd : Int) (r_fr : 0 ≤ fr ∧ fr ≤ 900) (r_gd : 0 ≤ gd ∧ gd < 8) : CtI l yX8_overLockers cX8_overLockers 5 .int 0 0 K [.ref o, .int (iI fr), .int (iI gd)] (mW K o N B SS TT F) (NoA) (fun (z : Int) (_ : Unit) => z = sumZ (fun k => N (fr + 8 * k + gd)) 5) (fun _ => mW K o N B SS TT F) := by
  refine CtI_of (by decide) (Nat.le_of_ble_eq_true rfl) ?_
  intro p e s m args below meth c T hr hk hP hK ls hl
  have T : CF p m c cX8_overLockers 5 s args RX8 := T
  have hS : va_S (NoA) s.heap s.heap [] := va_S.rf
  have hl : lv_has ls 5 [(0, .ref o), (1, .int (iI fr)), (2, .int (iI gd))] := hl
  refine xv_iconst T dX8_overLockers_0 ?_
  refine lv_istore_n (lv' := [(3, .int (iI 0)), (0, .ref o), (1, .int (iI fr)), (2, .int (iI gd))]) T.1 T.2.1 dX8_overLockers_1 rfl hl (by decide) rfl (fun ls hl => ?_)
  refine xv_iconst T dX8_overLockers_2 ?_
  refine lv_istore (lv' := [(4, .int (iI 0)), (3, .int (iI 0)), (0, .ref o), (1, .int (iI fr)), (2, .int (iI gd))]) T.1 T.2.1 dX8_overLockers_3 hl (by decide) rfl (fun ls hl => ?_)
  have lp5 : ∀ (fuel : Nat) (acc : Int) (i : Int) (H : Heap) (locs : List Loc) (ls : Array Slot), (0 ≤ i ∧ i ≤ 5) → (acc = sumZ (fun k => N (fr + 8 * k + gd)) i.toNat) → 5 - i < (fuel : Int) → xP K (mW K o N B SS TT F) H → va_S (NoA) s.heap H locs → lv_has ls 5 [(0, .ref o), (1, .int (iI fr)), (2, .int (iI gd)), (3, .int (iI acc)), (4, .int (iI i))] → W p l e (rmF 0 0) s m args below meth c H locs 0 0 (MQ below (qI K (fun (z : Int) (_ : Unit) => z = sumZ (fun k => N (fr + 8 * k + gd)) 5) (fun _ => mW K o N B SS TT F) (NoA)) args s 0 0 (NoA)) (F0 m 5 ls []) := by
    intro fuel
    induction fuel with
    | zero =>
      intro acc i H locs ls hi ha hm hP hS hl
      exact absurd hm (by omega)
    | succ fuel ih5 =>
      intro acc i H locs ls hi ha hm hP hS hl
      refine lv_iload T.1 T.2.1 dX8_overLockers_5 (lv_at hl 4 rfl) ?_
      refine xv_iconst T dX8_overLockers_7 ?_
      refine xv_icmp_ge T (by omega) (tgt := 34) dX8_overLockers_8 (by decide) (fun c1 => ?_) (fun c1 => ?_)
      · skip
        refine lv_iload_n T.1 T.2.1 dX8_overLockers_34 rfl (lv_at hl 3 rfl) ?_
        exact rI T (u := ()) hr hk hK hP hS dX8_overLockers_35 (by rw [ha]; congr 1; omega)
      · skip
        refine lv_iload_n T.1 T.2.1 dX8_overLockers_11 rfl (lv_at hl 3 rfl) ?_
        refine lv_aload_n T.1 T.2.1 dX8_overLockers_12 rfl (lv_at hl 0 rfl) ?_
        refine g8_now T hK hP 0 rfl rfl mw_3_172 dX8_overLockers_13 ?_
        refine lv_iload_n T.1 T.2.1 dX8_overLockers_16 rfl (lv_at hl 1 rfl) ?_
        refine xv_bipush T dX8_overLockers_17 (by omega) ?_
        refine lv_iload T.1 T.2.1 dX8_overLockers_19 (lv_at hl 4 rfl) ?_
        refine xv_imul T dX8_overLockers_21 ?_
        refine xv_iadd T dX8_overLockers_22 ?_
        refine lv_iload_n T.1 T.2.1 dX8_overLockers_23 rfl (lv_at hl 2 rfl) ?_
        refine xv_iadd T dX8_overLockers_24 ?_
        refine xa_iald T hK hP 1 rfl rfl (8 * i + fr + gd) (by omega) (by omega) (by decide) dX8_overLockers_25 ?_
        refine xv_iadd T dX8_overLockers_26 ?_
        refine lv_istore_n (lv' := [(3, .int (iI (acc + (N (8 * i + fr + gd))))), (0, .ref o), (1, .int (iI fr)), (2, .int (iI gd)), (4, .int (iI i))]) T.1 T.2.1 dX8_overLockers_27 rfl hl (by decide) rfl (fun ls hl => ?_)
        refine xv_iinc T (y := i + 1) (lv' := [(4, .int (iI (i + 1))), (3, .int (iI (acc + (N (8 * i + fr + gd))))), (0, .ref o), (1, .int (iI fr)), (2, .int (iI gd))]) dX8_overLockers_28 hl (q := 4) rfl (by omega) (by decide) rfl (fun ls hl => ?_)
        refine lv_goto T.1 T.2.1 (tgt := 5) dX8_overLockers_31 (by decide) ?_
        exact ih5 (acc + (N (8 * i + fr + gd))) (i + 1) _ _ ls (by omega) (by rw [sumZ_step (by omega), ha, show 8 * i + fr + gd = fr + 8 * i + gd by omega]) (by omega) hP hS (lv_sub hl [2, 3, 4, 1, 0] rfl)
  exact lp5 6 0 0 _ _ ls (by omega) rfl (by omega) hP hS (lv_sub hl [2, 3, 4, 1, 0] rfl)
set_option maxHeartbeats 4000000 in
set_option maxRecDepth 100000 in
theorem c_X8_nextOf (l : Launch) (K : KT) (o : Nat) (N B SS TT F : Int → Int) (gd pv : Int) (r_gd : -2147483648 ≤ gd ∧ gd ≤ 2147483647) (r_pv : pv = -1 ∨ (0 ≤ pv ∧ pv < N 6)) (hR : InR N) : CtI l yX8_nextOf cX8_nextOf 7 .int 0 0 K [.ref o, .int (iI gd), .int (iI pv)] (mW K o N B SS TT F) (NoA) (fun (z : Int) (_ : Unit) => z = nxt N gd pv ∧ IsNx N gd pv z) (fun _ => mW K o N B SS TT F) := by
  refine CtI_of (by decide) (Nat.le_of_ble_eq_true rfl) ?_
  intro p e s m args below meth c T hr hk hP hK ls hl
  have T : CF p m c cX8_nextOf 7 s args RX8 := T
  have hS : va_S (NoA) s.heap s.heap [] := va_S.rf
  have hl : lv_has ls 7 [(0, .ref o), (1, .int (iI gd)), (2, .int (iI pv))] := hl
  obtain ⟨hI0, hIB⟩ := id hR
  obtain ⟨b0, b1, b2, b3, b4, b5, b6, b7, b8, b9⟩ := id hI0
  refine xv_bipush T dX8_nextOf_0 (by omega) ?_
  refine lv_istore_n (lv' := [(3, .int (iI (-4))), (0, .ref o), (1, .int (iI gd)), (2, .int (iI pv))]) T.1 T.2.1 dX8_nextOf_2 rfl hl (by decide) rfl (fun ls hl => ?_)
  refine lv_aload_n T.1 T.2.1 dX8_nextOf_3 rfl (lv_at hl 1 rfl) ?_
  refine g8_now T hK hP 0 rfl rfl mw_3_172 dX8_nextOf_4 ?_
  refine xv_bipush T dX8_nextOf_7 (by omega) ?_
  refine xa_iald T hK hP 1 rfl rfl 6 (by omega) (by omega) (by decide) dX8_nextOf_9 ?_
  refine xv_iconst T dX8_nextOf_10 ?_
  refine xv_isub T dX8_nextOf_11 ?_
  refine lv_istore (lv' := [(4, .int (iI (N 6 - 1))), (3, .int (iI (-4))), (0, .ref o), (1, .int (iI gd)), (2, .int (iI pv))]) T.1 T.2.1 dX8_nextOf_12 hl (by decide) rfl (fun ls hl => ?_)
  have lp14 : ∀ (fuel : Nat) (best : Int) (b : Int) (H : Heap) (locs : List Loc) (ls : Array Slot), (-1 ≤ b ∧ b < N 6) → (NxI N gd pv b best) → b + 1 < (fuel : Int) → xP K (mW K o N B SS TT F) H → va_S (NoA) s.heap H locs → lv_has ls 7 [(0, .ref o), (1, .int (iI gd)), (2, .int (iI pv)), (3, .int (iI best)), (4, .int (iI b))] → W p l e (rmF 0 0) s m args below meth c H locs 0 0 (MQ below (qI K (fun (z : Int) (_ : Unit) => z = nxt N gd pv ∧ IsNx N gd pv z) (fun _ => mW K o N B SS TT F) (NoA)) args s 0 0 (NoA)) (F0 m 14 ls []) := by
    intro fuel
    induction fuel with
    | zero =>
      intro best b H locs ls hb hB hm hP hS hl
      exact absurd hm (by omega)
    | succ fuel ih14 =>
      intro best b H locs ls hb hB hm hP hS hl
      have hB2 := nxI_at hB
      refine lv_iload T.1 T.2.1 dX8_nextOf_14 (lv_at hl 4 rfl) ?_
      refine xv_if_lt T (by omega) (tgt := 171) dX8_nextOf_16 (by decide) (fun c1 => ?_) (fun c1 => ?_)
      · skip
        refine lv_iload_n T.1 T.2.1 dX8_nextOf_171 rfl (lv_at hl 3 rfl) ?_
        exact rI T (u := ()) hr hk hK hP hS dX8_nextOf_172 (by have h9 := nxI_end hB (by omega); exact ⟨nxt_eq h9, h9⟩)
      · skip
        have jn57 : ∀ (iv : Int) (H : Heap) (locs : List Loc) (ls : Array Slot), ((iv = 1 ∧ (0 < N (272 + b) ∧ (gd < 0 ∨ N (152 + b) = gd))) ∨ (iv = 0 ∧ ¬ (0 < N (272 + b) ∧ (gd < 0 ∨ N (152 + b) = gd)))) → xP K (mW K o N B SS TT F) H → va_S (NoA) s.heap H locs → lv_has ls 7 [(0, .ref o), (1, .int (iI gd)), (2, .int (iI pv)), (3, .int (iI best)), (4, .int (iI b))] → W p l e (rmF 0 0) s m args below meth c H locs 0 0 (MQ below (qI K (fun (z : Int) (_ : Unit) => z = nxt N gd pv ∧ IsNx N gd pv z) (fun _ => mW K o N B SS TT F) (NoA)) args s 0 0 (NoA)) (F0 m 57 ls [.int (iI iv)]) := by
          intro iv H locs ls q1 hP hS hl
          refine lv_istore (lv' := [(5, .int (iI iv)), (0, .ref o), (1, .int (iI gd)), (2, .int (iI pv)), (3, .int (iI best)), (4, .int (iI b))]) T.1 T.2.1 dX8_nextOf_57 hl (by decide) rfl (fun ls hl => ?_)
          have jn122 : ∀ (bv : Int) (H : Heap) (locs : List Loc) (ls : Array Slot), ((bv = 1 ∧ (pv < 0 ∨ N (392 + pv) < N (392 + b) ∨ (N (392 + pv) = N (392 + b) ∧ pv < b))) ∨ (bv = 0 ∧ ¬ (pv < 0 ∨ N (392 + pv) < N (392 + b) ∨ (N (392 + pv) = N (392 + b) ∧ pv < b)))) → xP K (mW K o N B SS TT F) H → va_S (NoA) s.heap H locs → lv_has ls 7 [(5, .int (iI iv)), (0, .ref o), (1, .int (iI gd)), (2, .int (iI pv)), (3, .int (iI best)), (4, .int (iI b))] → W p l e (rmF 0 0) s m args below meth c H locs 0 0 (MQ below (qI K (fun (z : Int) (_ : Unit) => z = nxt N gd pv ∧ IsNx N gd pv z) (fun _ => mW K o N B SS TT F) (NoA)) args s 0 0 (NoA)) (F0 m 122 ls [.int (iI bv)]) := by
            intro bv H locs ls q2 hP hS hl
            refine lv_istore (lv' := [(6, .int (iI bv)), (5, .int (iI iv)), (0, .ref o), (1, .int (iI gd)), (2, .int (iI pv)), (3, .int (iI best)), (4, .int (iI b))]) T.1 T.2.1 dX8_nextOf_122 hl (by decide) rfl (fun ls hl => ?_)
            refine lv_iload T.1 T.2.1 dX8_nextOf_124 (lv_at hl 1 rfl) ?_
            refine xv_if_eq T (by omega) (tgt := 165) dX8_nextOf_126 (by decide) (fun c2 => ?_) (fun c2 => ?_)
            · skip
              refine xv_iinc T (y := b - 1) (lv' := [(4, .int (iI (b - 1))), (6, .int (iI bv)), (5, .int (iI iv)), (0, .ref o), (1, .int (iI gd)), (2, .int (iI pv)), (3, .int (iI best))]) dX8_nextOf_165 hl (q := 6) rfl (by omega) (by decide) rfl (fun ls hl => ?_)
              refine lv_goto T.1 T.2.1 (tgt := 14) dX8_nextOf_168 (by decide) ?_
              exact ih14 best (b - 1) _ _ ls (by omega) (by first | exact nxI_no hB (by unfold okB; omega) | exact nxI_yes hB (by unfold okB; omega) (by omega) (by omega) (by omega) | exact nxI_not hB (by omega) (by omega)) (by omega) hP hS (lv_sub hl [3, 4, 5, 6, 0] rfl)
            · skip
              refine lv_iload T.1 T.2.1 dX8_nextOf_129 (lv_at hl 0 rfl) ?_
              refine xv_if_eq T (by omega) (tgt := 165) dX8_nextOf_131 (by decide) (fun c3 => ?_) (fun c3 => ?_)
              · skip
                refine xv_iinc T (y := b - 1) (lv' := [(4, .int (iI (b - 1))), (6, .int (iI bv)), (5, .int (iI iv)), (0, .ref o), (1, .int (iI gd)), (2, .int (iI pv)), (3, .int (iI best))]) dX8_nextOf_165 hl (q := 6) rfl (by omega) (by decide) rfl (fun ls hl => ?_)
                refine lv_goto T.1 T.2.1 (tgt := 14) dX8_nextOf_168 (by decide) ?_
                exact ih14 best (b - 1) _ _ ls (by omega) (by first | exact nxI_no hB (by unfold okB; omega) | exact nxI_yes hB (by unfold okB; omega) (by omega) (by omega) (by omega) | exact nxI_not hB (by omega) (by omega)) (by omega) hP hS (lv_sub hl [3, 4, 5, 6, 0] rfl)
              · skip
                refine lv_iload_n T.1 T.2.1 dX8_nextOf_134 rfl (lv_at hl 5 rfl) ?_
                refine xv_if_lt T (by omega) (tgt := 162) dX8_nextOf_135 (by decide) (fun c4 => ?_) (fun c4 => ?_)
                · skip
                  refine lv_iload T.1 T.2.1 dX8_nextOf_162 (lv_at hl 6 rfl) ?_
                  refine lv_istore_n (lv' := [(3, .int (iI b)), (6, .int (iI bv)), (5, .int (iI iv)), (0, .ref o), (1, .int (iI gd)), (2, .int (iI pv)), (4, .int (iI b))]) T.1 T.2.1 dX8_nextOf_164 rfl hl (by decide) rfl (fun ls hl => ?_)
                  refine xv_iinc T (y := b - 1) (lv' := [(4, .int (iI (b - 1))), (3, .int (iI b)), (6, .int (iI bv)), (5, .int (iI iv)), (0, .ref o), (1, .int (iI gd)), (2, .int (iI pv))]) dX8_nextOf_165 hl (q := 6) rfl (by omega) (by decide) rfl (fun ls hl => ?_)
                  refine lv_goto T.1 T.2.1 (tgt := 14) dX8_nextOf_168 (by decide) ?_
                  exact ih14 b (b - 1) _ _ ls (by omega) (by first | exact nxI_no hB (by unfold okB; omega) | exact nxI_yes hB (by unfold okB; omega) (by omega) (by omega) (by omega) | exact nxI_not hB (by omega) (by omega)) (by omega) hP hS (lv_sub hl [4, 5, 6, 1, 0] rfl)
                · skip
                  refine lv_aload_n T.1 T.2.1 dX8_nextOf_138 rfl (lv_at hl 2 rfl) ?_
                  refine g8_now T hK hP 0 rfl rfl mw_3_172 dX8_nextOf_139 ?_
                  refine xv_sipush T dX8_nextOf_142 (by omega) ?_
                  refine lv_iload T.1 T.2.1 dX8_nextOf_145 (lv_at hl 6 rfl) ?_
                  refine xv_iadd T dX8_nextOf_147 ?_
                  refine xa_iald T hK hP 1 rfl rfl (392 + b) (by omega) (by omega) (by decide) dX8_nextOf_148 ?_
                  have f5 := hIB b (by omega) (by omega)
                  refine lv_aload_n T.1 T.2.1 dX8_nextOf_149 rfl (lv_at hl 2 rfl) ?_
                  refine g8_now T hK hP 0 rfl rfl mw_3_172 dX8_nextOf_150 ?_
                  refine xv_sipush T dX8_nextOf_153 (by omega) ?_
                  refine lv_iload_n T.1 T.2.1 dX8_nextOf_156 rfl (lv_at hl 5 rfl) ?_
                  refine xv_iadd T dX8_nextOf_157 ?_
                  refine xa_iald T hK hP 1 rfl rfl (392 + best) (by omega) (by omega) (by decide) dX8_nextOf_158 ?_
                  have f6 := hIB best (by omega) (by omega)
                  refine xv_icmp_gt T (by omega) (tgt := 165) dX8_nextOf_159 (by decide) (fun c7 => ?_) (fun c7 => ?_)
                  · skip
                    refine xv_iinc T (y := b - 1) (lv' := [(4, .int (iI (b - 1))), (6, .int (iI bv)), (5, .int (iI iv)), (0, .ref o), (1, .int (iI gd)), (2, .int (iI pv)), (3, .int (iI best))]) dX8_nextOf_165 hl (q := 6) rfl (by omega) (by decide) rfl (fun ls hl => ?_)
                    refine lv_goto T.1 T.2.1 (tgt := 14) dX8_nextOf_168 (by decide) ?_
                    exact ih14 best (b - 1) _ _ ls (by omega) (by first | exact nxI_no hB (by unfold okB; omega) | exact nxI_yes hB (by unfold okB; omega) (by omega) (by omega) (by omega) | exact nxI_not hB (by omega) (by omega)) (by omega) hP hS (lv_sub hl [3, 4, 5, 6, 0] rfl)
                  · skip
                    refine lv_iload T.1 T.2.1 dX8_nextOf_162 (lv_at hl 6 rfl) ?_
                    refine lv_istore_n (lv' := [(3, .int (iI b)), (6, .int (iI bv)), (5, .int (iI iv)), (0, .ref o), (1, .int (iI gd)), (2, .int (iI pv)), (4, .int (iI b))]) T.1 T.2.1 dX8_nextOf_164 rfl hl (by decide) rfl (fun ls hl => ?_)
                    refine xv_iinc T (y := b - 1) (lv' := [(4, .int (iI (b - 1))), (3, .int (iI b)), (6, .int (iI bv)), (5, .int (iI iv)), (0, .ref o), (1, .int (iI gd)), (2, .int (iI pv))]) dX8_nextOf_165 hl (q := 6) rfl (by omega) (by decide) rfl (fun ls hl => ?_)
                    refine lv_goto T.1 T.2.1 (tgt := 14) dX8_nextOf_168 (by decide) ?_
                    exact ih14 b (b - 1) _ _ ls (by omega) (by first | exact nxI_no hB (by unfold okB; omega) | exact nxI_yes hB (by unfold okB; omega) (by omega) (by omega) (by omega) | exact nxI_not hB (by omega) (by omega)) (by omega) hP hS (lv_sub hl [4, 5, 6, 1, 0] rfl)
          refine lv_iload_n T.1 T.2.1 dX8_nextOf_59 rfl (lv_at hl 3 rfl) ?_
          refine xv_if_lt T (by omega) (tgt := 117) dX8_nextOf_60 (by decide) (fun c8 => ?_) (fun c8 => ?_)
          · skip
            refine xv_iconst T dX8_nextOf_117 ?_
            refine lv_goto T.1 T.2.1 (tgt := 122) dX8_nextOf_118 (by decide) ?_
            exact jn122 1 _ _ ls (by omega) hP hS (lv_sub hl [0, 1, 2, 3, 4, 5] rfl)
          · skip
            refine lv_aload_n T.1 T.2.1 dX8_nextOf_63 rfl (lv_at hl 1 rfl) ?_
            refine g8_now T hK hP 0 rfl rfl mw_3_172 dX8_nextOf_64 ?_
            refine xv_sipush T dX8_nextOf_67 (by omega) ?_
            refine lv_iload T.1 T.2.1 dX8_nextOf_70 (lv_at hl 5 rfl) ?_
            refine xv_iadd T dX8_nextOf_72 ?_
            refine xa_iald T hK hP 1 rfl rfl (392 + b) (by omega) (by omega) (by decide) dX8_nextOf_73 ?_
            have f9 := hIB b (by omega) (by omega)
            refine lv_aload_n T.1 T.2.1 dX8_nextOf_74 rfl (lv_at hl 1 rfl) ?_
            refine g8_now T hK hP 0 rfl rfl mw_3_172 dX8_nextOf_75 ?_
            refine xv_sipush T dX8_nextOf_78 (by omega) ?_
            refine lv_iload_n T.1 T.2.1 dX8_nextOf_81 rfl (lv_at hl 3 rfl) ?_
            refine xv_iadd T dX8_nextOf_82 ?_
            refine xa_iald T hK hP 1 rfl rfl (392 + pv) (by omega) (by omega) (by decide) dX8_nextOf_83 ?_
            have f10 := hIB pv (by omega) (by omega)
            refine xv_icmp_gt T (by omega) (tgt := 117) dX8_nextOf_84 (by decide) (fun c11 => ?_) (fun c11 => ?_)
            · skip
              refine xv_iconst T dX8_nextOf_117 ?_
              refine lv_goto T.1 T.2.1 (tgt := 122) dX8_nextOf_118 (by decide) ?_
              exact jn122 1 _ _ ls (by omega) hP hS (lv_sub hl [0, 1, 2, 3, 4, 5] rfl)
            · skip
              refine lv_aload_n T.1 T.2.1 dX8_nextOf_87 rfl (lv_at hl 1 rfl) ?_
              refine g8_now T hK hP 0 rfl rfl mw_3_172 dX8_nextOf_88 ?_
              refine xv_sipush T dX8_nextOf_91 (by omega) ?_
              refine lv_iload T.1 T.2.1 dX8_nextOf_94 (lv_at hl 5 rfl) ?_
              refine xv_iadd T dX8_nextOf_96 ?_
              refine xa_iald T hK hP 1 rfl rfl (392 + b) (by omega) (by omega) (by decide) dX8_nextOf_97 ?_
              refine lv_aload_n T.1 T.2.1 dX8_nextOf_98 rfl (lv_at hl 1 rfl) ?_
              refine g8_now T hK hP 0 rfl rfl mw_3_172 dX8_nextOf_99 ?_
              refine xv_sipush T dX8_nextOf_102 (by omega) ?_
              refine lv_iload_n T.1 T.2.1 dX8_nextOf_105 rfl (lv_at hl 3 rfl) ?_
              refine xv_iadd T dX8_nextOf_106 ?_
              refine xa_iald T hK hP 1 rfl rfl (392 + pv) (by omega) (by omega) (by decide) dX8_nextOf_107 ?_
              refine xv_icmp_ne T (by omega) (tgt := 121) dX8_nextOf_108 (by decide) (fun c12 => ?_) (fun c12 => ?_)
              · skip
                refine xv_iconst T dX8_nextOf_121 ?_
                exact jn122 0 _ _ ls (by omega) hP hS (lv_sub hl [0, 1, 2, 3, 4, 5] rfl)
              · skip
                refine lv_iload T.1 T.2.1 dX8_nextOf_111 (lv_at hl 5 rfl) ?_
                refine lv_iload_n T.1 T.2.1 dX8_nextOf_113 rfl (lv_at hl 3 rfl) ?_
                refine xv_icmp_le T (by omega) (tgt := 121) dX8_nextOf_114 (by decide) (fun c13 => ?_) (fun c13 => ?_)
                · skip
                  refine xv_iconst T dX8_nextOf_121 ?_
                  exact jn122 0 _ _ ls (by omega) hP hS (lv_sub hl [0, 1, 2, 3, 4, 5] rfl)
                · skip
                  refine xv_iconst T dX8_nextOf_117 ?_
                  refine lv_goto T.1 T.2.1 (tgt := 122) dX8_nextOf_118 (by decide) ?_
                  exact jn122 1 _ _ ls (by omega) hP hS (lv_sub hl [0, 1, 2, 3, 4, 5] rfl)
        refine lv_aload_n T.1 T.2.1 dX8_nextOf_19 rfl (lv_at hl 0 rfl) ?_
        refine g8_now T hK hP 0 rfl rfl mw_3_172 dX8_nextOf_20 ?_
        refine xv_sipush T dX8_nextOf_23 (by omega) ?_
        refine lv_iload T.1 T.2.1 dX8_nextOf_26 (lv_at hl 4 rfl) ?_
        refine xv_iadd T dX8_nextOf_28 ?_
        refine xa_iald T hK hP 1 rfl rfl (272 + b) (by omega) (by omega) (by decide) dX8_nextOf_29 ?_
        have f14 := hIB b (by omega) (by omega)
        refine xv_if_le T (by omega) (tgt := 56) dX8_nextOf_30 (by decide) (fun c15 => ?_) (fun c15 => ?_)
        · skip
          refine xv_iconst T dX8_nextOf_56 ?_
          exact jn57 0 _ _ ls (by omega) hP hS (lv_sub hl [0, 1, 2, 3, 4] rfl)
        · skip
          refine lv_iload_n T.1 T.2.1 dX8_nextOf_33 rfl (lv_at hl 1 rfl) ?_
          refine xv_if_lt T (by omega) (tgt := 52) dX8_nextOf_34 (by decide) (fun c16 => ?_) (fun c16 => ?_)
          · skip
            refine xv_iconst T dX8_nextOf_52 ?_
            refine lv_goto T.1 T.2.1 (tgt := 57) dX8_nextOf_53 (by decide) ?_
            exact jn57 1 _ _ ls (by omega) hP hS (lv_sub hl [0, 1, 2, 3, 4] rfl)
          · skip
            refine lv_aload_n T.1 T.2.1 dX8_nextOf_37 rfl (lv_at hl 0 rfl) ?_
            refine g8_now T hK hP 0 rfl rfl mw_3_172 dX8_nextOf_38 ?_
            refine xv_sipush T dX8_nextOf_41 (by omega) ?_
            refine lv_iload T.1 T.2.1 dX8_nextOf_44 (lv_at hl 4 rfl) ?_
            refine xv_iadd T dX8_nextOf_46 ?_
            refine xa_iald T hK hP 1 rfl rfl (152 + b) (by omega) (by omega) (by decide) dX8_nextOf_47 ?_
            refine lv_iload_n T.1 T.2.1 dX8_nextOf_48 rfl (lv_at hl 1 rfl) ?_
            refine xv_icmp_ne T (by omega) (tgt := 56) dX8_nextOf_49 (by decide) (fun c17 => ?_) (fun c17 => ?_)
            · skip
              refine xv_iconst T dX8_nextOf_56 ?_
              exact jn57 0 _ _ ls (by omega) hP hS (lv_sub hl [0, 1, 2, 3, 4] rfl)
            · skip
              refine xv_iconst T dX8_nextOf_52 ?_
              refine lv_goto T.1 T.2.1 (tgt := 57) dX8_nextOf_53 (by decide) ?_
              exact jn57 1 _ _ ls (by omega) hP hS (lv_sub hl [0, 1, 2, 3, 4] rfl)
  exact lp14 61 (-4) (N 6 - 1) _ _ ls (by omega) (nxI_0 (by omega)) (by omega) hP hS (lv_sub hl [2, 3, 4, 1, 0] rfl)
set_option maxHeartbeats 4000000 in
set_option maxRecDepth 100000 in
theorem c_X8_takesOff (l : Launch) (K : KT) (o : Nat) (N B SS TT F : Int → Int) (lk w : Int) (r_lk : 0 ≤ lk ∧ lk < 5) (r_w : -2147483648 ≤ w ∧ w ≤ 2147483647) (h_l : (0 ≤ N (14 + lk) ∧ N (14 + lk) ≤ 2) ∧ (0 ≤ N (19 + lk) ∧ N (19 + lk) ≤ 200)) : CtV l yX8_takesOff cX8_takesOff 3 0 0 K [.ref o, .int (iI lk), .int (iI w)] (mW K o N B SS TT F) (Blk o 5) (fun (u : Int → Int) => u = offF N lk w) (fun u => mW K o u B SS TT F) := by
  refine CtV_of (by decide) (Nat.le_of_ble_eq_true rfl) ?_
  intro p e s m args below meth c T hr hk hP hK ls hl
  have T : CF p m c cX8_takesOff 3 s args RX8 := T
  have hS : va_S (Blk o 5) s.heap s.heap [] := va_S.rf
  have hl : lv_has ls 3 [(0, .ref o), (1, .int (iI lk)), (2, .int (iI w))] := hl
  refine lv_aload_n T.1 T.2.1 dX8_takesOff_0 rfl (lv_at hl 0 rfl) ?_
  refine g8_now T hK hP 0 rfl rfl mw_3_172 dX8_takesOff_1 ?_
  refine xv_bipush T dX8_takesOff_4 (by omega) ?_
  refine lv_iload_n T.1 T.2.1 dX8_takesOff_6 rfl (lv_at hl 1 rfl) ?_
  refine xv_iadd T dX8_takesOff_7 ?_
  refine xa_iald T hK hP 1 rfl rfl (14 + lk) (by omega) (by omega) (by decide) dX8_takesOff_8 ?_
  refine xv_iconst T dX8_takesOff_9 ?_
  refine xv_icmp_ne T (by omega) (tgt := 42) dX8_takesOff_10 (by decide) (fun c1 => ?_) (fun c1 => ?_)
  · skip
    exact rV T (u := N) hr hk hK hP hS dX8_takesOff_42 (by skip; unfold offF; first | rw [if_pos (by assumption)] | rw [if_neg (by assumption)])
  · skip
    refine lv_aload_n T.1 T.2.1 dX8_takesOff_13 rfl (lv_at hl 0 rfl) ?_
    refine g8_now T hK hP 0 rfl rfl mw_3_172 dX8_takesOff_14 ?_
    refine xv_sipush T dX8_takesOff_17 (by omega) ?_
    refine lv_aload_n T.1 T.2.1 dX8_takesOff_20 rfl (lv_at hl 0 rfl) ?_
    refine g8_now T hK hP 0 rfl rfl mw_3_172 dX8_takesOff_21 ?_
    refine xv_bipush T dX8_takesOff_24 (by omega) ?_
    refine lv_iload_n T.1 T.2.1 dX8_takesOff_26 rfl (lv_at hl 1 rfl) ?_
    refine xv_iadd T dX8_takesOff_27 ?_
    refine xa_iald T hK hP 1 rfl rfl (19 + lk) (by omega) (by omega) (by decide) dX8_takesOff_28 ?_
    refine xv_iadd T dX8_takesOff_29 ?_
    refine lv_iload_n T.1 T.2.1 dX8_takesOff_30 rfl (lv_at hl 2 rfl) ?_
    refine xa_iast T hK hP (m_D K o N B SS TT F) hS 1 rfl rfl (by omega) (by decide) dX8_takesOff_31 (mu_N K o N B SS TT F w (by omega)) (fun H locs hP hS => ?_)
    obtain ⟨N2, hN2⟩ : ∃ M : Int → Int, M = uZ N (854 + (N (19 + lk))) w := ⟨_, rfl⟩
    have hP : xP K (mW K o N2 B SS TT F) H := by rw [hN2]; exact hP
    rw [show 854 + (N (19 + lk)) = 854 + N (19 + lk) by omega] at hN2
    refine lv_aload_n T.1 T.2.1 dX8_takesOff_32 rfl (lv_at hl 0 rfl) ?_
    refine g8_now T hK hP 0 rfl rfl mw_3_172 dX8_takesOff_33 ?_
    refine xv_bipush T dX8_takesOff_36 (by omega) ?_
    refine lv_iload_n T.1 T.2.1 dX8_takesOff_38 rfl (lv_at hl 1 rfl) ?_
    refine xv_iadd T dX8_takesOff_39 ?_
    refine xv_iconst T dX8_takesOff_40 ?_
    refine xa_iast T hK hP (m_D K o N2 B SS TT F) hS 1 rfl rfl (by omega) (by decide) dX8_takesOff_41 (mu_N K o N2 B SS TT F 0 (by omega)) (fun H locs hP hS => ?_)
    obtain ⟨N3, hN3⟩ : ∃ M : Int → Int, M = uZ N2 (14 + lk) 0 := ⟨_, rfl⟩
    have hP : xP K (mW K o N3 B SS TT F) H := by rw [hN3]; exact hP
    exact rV T (u := N3) hr hk hK hP hS dX8_takesOff_42 (by subst hN3 hN2; unfold offF; first | rw [if_pos (by assumption)] | rw [if_neg (by assumption)])
set_option maxHeartbeats 4000000 in
set_option maxRecDepth 100000 in
theorem c_X8_seals (l : Launch) (K : KT) (o : Nat) (N B SS TT F : Int → Int) (lk : Int) (r_lk : 0 ≤ lk ∧ lk < 5) (r_ns : 0 ≤ N 7 ∧ N 7 < 200) : CtV l yX8_seals cX8_seals 3 0 0 K [.ref o, .int (iI lk)] (mW K o N B SS TT F) (Blk o 5) (fun (u : Int → Int) => u = sealsF N lk) (fun u => mW K o u B SS TT F) := by
  refine CtV_of (by decide) (Nat.le_of_ble_eq_true rfl) ?_
  intro p e s m args below meth c T hr hk hP hK ls hl
  have T : CF p m c cX8_seals 3 s args RX8 := T
  have hS : va_S (Blk o 5) s.heap s.heap [] := va_S.rf
  have hl : lv_has ls 3 [(0, .ref o), (1, .int (iI lk))] := hl
  refine lv_aload_n T.1 T.2.1 dX8_seals_0 rfl (lv_at hl 0 rfl) ?_
  refine g8_now T hK hP 0 rfl rfl mw_3_172 dX8_seals_1 ?_
  refine xv_bipush T dX8_seals_4 (by omega) ?_
  refine lv_dup2_11 T.1 T.2.1 dX8_seals_6 rfl rfl ?_
  refine xa_iald T hK hP 1 rfl rfl 7 (by omega) (by omega) (by decide) dX8_seals_7 ?_
  refine xv_iconst T dX8_seals_8 ?_
  refine xv_iadd T dX8_seals_9 ?_
  refine xa_iast T hK hP (m_D K o N B SS TT F) hS 1 rfl rfl (by omega) (by decide) dX8_seals_10 (mu_N K o N B SS TT F (N 7 + 1) (by omega)) (fun H locs hP hS => ?_)
  obtain ⟨N1, hN1⟩ : ∃ M : Int → Int, M = uZ N 7 (N 7 + 1) := ⟨_, rfl⟩
  have hP : xP K (mW K o N1 B SS TT F) H := by rw [hN1]; exact hP
  refine lv_aload_n T.1 T.2.1 dX8_seals_11 rfl (lv_at hl 0 rfl) ?_
  refine g8_now T hK hP 0 rfl rfl mw_3_172 dX8_seals_12 ?_
  refine xv_bipush T dX8_seals_15 (by omega) ?_
  refine xa_iald T hK hP 1 rfl rfl 7 (by omega) (by omega) (by decide) dX8_seals_17 ?_
  refine xv_cv (b := N 7 + 1) (by rw [hN1, uZ_eq]) ?_
  refine lv_istore_n (lv' := [(2, .int (iI (N 7 + 1))), (0, .ref o), (1, .int (iI lk))]) T.1 T.2.1 dX8_seals_18 rfl hl (by decide) rfl (fun ls hl => ?_)
  refine lv_aload_n T.1 T.2.1 dX8_seals_19 rfl (lv_at hl 1 rfl) ?_
  refine g8_now T hK hP 0 rfl rfl mw_3_172 dX8_seals_20 ?_
  refine xv_bipush T dX8_seals_23 (by omega) ?_
  refine lv_iload_n T.1 T.2.1 dX8_seals_25 rfl (lv_at hl 2 rfl) ?_
  refine xv_iadd T dX8_seals_26 ?_
  refine xv_iconst T dX8_seals_27 ?_
  refine xa_iast T hK hP (m_D K o N1 B SS TT F) hS 1 rfl rfl (by omega) (by decide) dX8_seals_28 (mu_N K o N1 B SS TT F 1 (by omega)) (fun H locs hP hS => ?_)
  obtain ⟨N2, hN2⟩ : ∃ M : Int → Int, M = uZ N1 (14 + lk) 1 := ⟨_, rfl⟩
  have hP : xP K (mW K o N2 B SS TT F) H := by rw [hN2]; exact hP
  refine lv_aload_n T.1 T.2.1 dX8_seals_29 rfl (lv_at hl 1 rfl) ?_
  refine g8_now T hK hP 0 rfl rfl mw_3_172 dX8_seals_30 ?_
  refine xv_bipush T dX8_seals_33 (by omega) ?_
  refine lv_iload_n T.1 T.2.1 dX8_seals_35 rfl (lv_at hl 2 rfl) ?_
  refine xv_iadd T dX8_seals_36 ?_
  refine lv_iload_n T.1 T.2.1 dX8_seals_37 rfl (lv_at hl 0 rfl) ?_
  refine xa_iast T hK hP (m_D K o N2 B SS TT F) hS 1 rfl rfl (by omega) (by decide) dX8_seals_38 (mu_N K o N2 B SS TT F (N 7 + 1) (by omega)) (fun H locs hP hS => ?_)
  obtain ⟨N3, hN3⟩ : ∃ M : Int → Int, M = uZ N2 (19 + lk) (N 7 + 1) := ⟨_, rfl⟩
  have hP : xP K (mW K o N3 B SS TT F) H := by rw [hN3]; exact hP
  refine lv_aload_n T.1 T.2.1 dX8_seals_39 rfl (lv_at hl 1 rfl) ?_
  refine g8_now T hK hP 0 rfl rfl mw_3_172 dX8_seals_40 ?_
  refine xv_sipush T dX8_seals_43 (by omega) ?_
  refine lv_iload_n T.1 T.2.1 dX8_seals_46 rfl (lv_at hl 0 rfl) ?_
  refine xv_iadd T dX8_seals_47 ?_
  refine lv_iload_n T.1 T.2.1 dX8_seals_48 rfl (lv_at hl 2 rfl) ?_
  refine xa_iast T hK hP (m_D K o N3 B SS TT F) hS 1 rfl rfl (by omega) (by decide) dX8_seals_49 (mu_N K o N3 B SS TT F lk (by omega)) (fun H locs hP hS => ?_)
  obtain ⟨N4, hN4⟩ : ∃ M : Int → Int, M = uZ N3 (452 + (N 7 + 1)) lk := ⟨_, rfl⟩
  have hP : xP K (mW K o N4 B SS TT F) H := by rw [hN4]; exact hP
  rw [show 452 + (N 7 + 1) = 453 + N 7 by omega] at hN4
  refine lv_aload_n T.1 T.2.1 dX8_seals_50 rfl (lv_at hl 1 rfl) ?_
  refine g8_now T hK hP 0 rfl rfl mw_3_172 dX8_seals_51 ?_
  refine xv_sipush T dX8_seals_54 (by omega) ?_
  refine lv_iload_n T.1 T.2.1 dX8_seals_57 rfl (lv_at hl 0 rfl) ?_
  refine xv_iadd T dX8_seals_58 ?_
  refine lv_aload_n T.1 T.2.1 dX8_seals_59 rfl (lv_at hl 1 rfl) ?_
  refine g8_now T hK hP 0 rfl rfl mw_3_172 dX8_seals_60 ?_
  refine xv_iconst T dX8_seals_63 ?_
  refine xa_iald T hK hP 1 rfl rfl 1 (by omega) (by omega) (by decide) dX8_seals_64 ?_
  refine xv_cv (b := N 1) (by rw [hN4, uZ_ne (by omega), hN3, uZ_ne (by omega), hN2, uZ_ne (by omega), hN1, uZ_ne (by omega)]) ?_
  refine xa_iast T hK hP (m_D K o N4 B SS TT F) hS 1 rfl rfl (by omega) (by decide) dX8_seals_65 (mu_N K o N4 B SS TT F (N 1) (by omega)) (fun H locs hP hS => ?_)
  obtain ⟨N5, hN5⟩ : ∃ M : Int → Int, M = uZ N4 (653 + (N 7 + 1)) (N 1) := ⟨_, rfl⟩
  have hP : xP K (mW K o N5 B SS TT F) H := by rw [hN5]; exact hP
  rw [show 653 + (N 7 + 1) = 654 + N 7 by omega] at hN5
  refine lv_aload_n T.1 T.2.1 dX8_seals_66 rfl (lv_at hl 1 rfl) ?_
  refine g8_now T hK hP 0 rfl rfl mw_3_172 dX8_seals_67 ?_
  refine xv_sipush T dX8_seals_70 (by omega) ?_
  refine lv_iload_n T.1 T.2.1 dX8_seals_73 rfl (lv_at hl 0 rfl) ?_
  refine xv_iadd T dX8_seals_74 ?_
  refine xv_iconst T dX8_seals_75 ?_
  refine xa_iast T hK hP (m_D K o N5 B SS TT F) hS 1 rfl rfl (by omega) (by decide) dX8_seals_76 (mu_N K o N5 B SS TT F 0 (by omega)) (fun H locs hP hS => ?_)
  obtain ⟨N6, hN6⟩ : ∃ M : Int → Int, M = uZ N5 (854 + (N 7 + 1)) 0 := ⟨_, rfl⟩
  have hP : xP K (mW K o N6 B SS TT F) H := by rw [hN6]; exact hP
  rw [show 854 + (N 7 + 1) = 855 + N 7 by omega] at hN6
  exact rV T (u := N6) hr hk hK hP hS dX8_seals_77 (by subst hN6 hN5 hN4 hN3 hN2 hN1; rfl)
end
section
theorem nx_pos {N : Int → Int} {g z : Int} (h : 0 < restF N g) (hz : IsNx N g (-1) z) : (0 ≤ z ∧ z < N 6) ∧ 0 < N (272 + z) ∧ (g < 0 ∨ N (152 + z) = g) := by
  rcases hz with ⟨h1, h2⟩ | ⟨h1, h2, -⟩
  · exfalso
    have h3 : restF N g ≤ sumZ (fun _ => (0 : Int)) (N 6).toNat := by
      refine sumZ_le _ fun k a1 a2 => ?_
      have a3 := h2 k a1 (by omega)
      unfold okB at a3
      split <;> omega
    rw [sumZ_const] at h3
    omega
  · exact ⟨h1, h2.1, h2.2.1⟩
theorem isNx_pos {N : Int → Int} {g p z : Int} (h : IsNx N g p z) (hz : 0 ≤ z) : 0 < N (272 + z) := by
  rcases h with ⟨h1, -⟩ | ⟨-, h2, -⟩
  · omega
  · exact h2.1
theorem takeF_at {N : Int → Int} {b u r : Int} (hb : 0 ≤ b ∧ b < 60) (hr : 0 ≤ r ∧ r < 4) (ho : 0 ≤ N (152 + b) ∧ N (152 + b) < 8) : takeF N b u r (272 + b) = N (272 + b) - u := by
  unfold takeF
  rw [uZ_ne (by omega), uZ_ne (by omega), uZ_eq]
theorem takeF_ne {N : Int → Int} {b u r k : Int} (h1 : k ≠ 272 + b) (h2 : k ≠ 10 + r) (h3 : k ≠ 120 + 4 * N (152 + b) + r) : takeF N b u r k = N k := by
  unfold takeF
  rw [uZ_ne h3, uZ_ne h2, uZ_ne h1]
theorem takeF_R {N : Int → Int} {b u r : Int} (h : InR N) (hb : 0 ≤ b ∧ b < N 6) (hu : 0 ≤ u ∧ u ≤ N (272 + b)) (hr : 0 ≤ r ∧ r < 4) : InR (takeF N b u r) := by
  obtain ⟨h0, hB⟩ := h
  have ho := hB b hb.1 hb.2
  have h00 := h0
  obtain ⟨b0, b1, b2, b3, b4, b5, b6, b7, b8, b9⟩ := h00
  have e : ∀ k : Int, (k < 10) → takeF N b u r k = N k := fun k hk => takeF_ne (by omega) (by omega) (by omega)
  have e2 : ∀ k : Int, 152 ≤ k → k ≠ 272 + b → takeF N b u r k = N k := fun k hk hk2 => takeF_ne hk2 (by omega) (by omega)
  refine ⟨?_, fun k h1 h2 => ?_⟩
  · unfold In0
    rw [e 0 (by omega), e 1 (by omega), e 2 (by omega), e 3 (by omega), e 4 (by omega), e 5 (by omega), e 6 (by omega), e 7 (by omega), e 8 (by omega), e 9 (by omega)]
    exact h0
  · rw [e 6 (by omega)] at h2
    rw [e2 (152 + k) (by omega) (by omega), e2 (212 + k) (by omega) (by omega), e2 (332 + k) (by omega) (by omega), e2 (392 + k) (by omega) (by omega), e 5 (by omega)]
    have hk := hB k h1 h2
    by_cases hkb : k = b
    · rw [hkb, takeF_at (by omega) hr (by omega)]
      rw [hkb] at hk
      omega
    · rw [e2 (272 + k) (by omega) (by omega)]
      exact hk
theorem takeF_rest {N : Int → Int} {b u r : Int} (h : InR N) (hb : 0 ≤ b ∧ b < N 6) (hr : 0 ≤ r ∧ r < 4) : restF (takeF N b u r) (N (152 + b)) = restF N (N (152 + b)) - u := by
  obtain ⟨h0, hB⟩ := h
  have ho := hB b hb.1 hb.2
  obtain ⟨b0, b1, b2, b3, b4, b5, b6, b7, b8, b9⟩ := h0
  have e2 : ∀ k : Int, 152 ≤ k → k ≠ 272 + b → takeF N b u r k = N k := fun k hk hk2 => takeF_ne hk2 (by omega) (by omega)
  unfold restF
  rw [takeF_ne (k := 6) (by omega) (by omega) (by omega)]
  rw [sumZ_one (f := fun k => if N (152 + k) = N (152 + b) then N (272 + k) else 0) (i := b) (d := -u) (N 6).toNat hb.1 (by omega) ?_ ?_]
  · omega
  · rw [e2 (152 + b) (by omega) (by omega), if_pos rfl, if_pos rfl, takeF_at (by omega) hr (by omega)]
    omega
  · intro k h1 h2 h3
    rw [e2 (152 + k) (by omega) (by omega), e2 (272 + k) (by omega) (by omega)]
theorem takeF_rest2 {N : Int → Int} {b u r g : Int} (h : InR N) (hb : 0 ≤ b ∧ b < N 6) (hr : 0 ≤ r ∧ r < 4) (hg : g ≠ N (152 + b)) : restF (takeF N b u r) g = restF N g := by
  obtain ⟨h0, hB⟩ := h
  have ho := hB b hb.1 hb.2
  obtain ⟨b0, b1, b2, b3, b4, b5, b6, b7, b8, b9⟩ := h0
  have e2 : ∀ k : Int, 152 ≤ k → k ≠ 272 + b → takeF N b u r k = N k := fun k hk hk2 => takeF_ne hk2 (by omega) (by omega)
  unfold restF
  rw [takeF_ne (k := 6) (by omega) (by omega) (by omega)]
  refine sumZ_congr _ fun k h1 h2 => ?_
  rw [e2 (152 + k) (by omega) (by omega)]
  by_cases hk : k = b
  · rw [hk, if_neg (fun q => hg q.symm), if_neg (fun q => hg q.symm)]
  · rw [e2 (272 + k) (by omega) (by omega)]
/-- what is taken from the bond that is next -/
noncomputable def byF (N : Int → Int) (g p u : Int) : Int := if u ≤ N (272 + nxt N g p) then u else N (272 + nxt N g p)
/-- units of a good are released, bond by bond: the state, and the amount -/
noncomputable def relF : Nat → (Int → Int) → Int → Int → Int → (Int → Int) × Int
  | 0, N, _, _, _ => (N, 0)
  | n + 1, N, g, u, r => if u ≤ 0 then (N, 0) else ((relF n (takeF N (nxt N g (-1)) (byF N g (-1) u) r) g (u - byF N g (-1) u) r).1, byF N g (-1) u * N (332 + nxt N g (-1)) + (relF n (takeF N (nxt N g (-1)) (byF N g (-1) u) r) g (u - byF N g (-1) u) r).2)
theorem relF_0 {n : Nat} {N : Int → Int} {g u r : Int} (h : u ≤ 0) : relF n N g u r = (N, 0) := by
  cases n with
  | zero => rfl
  | succ n => show (if u ≤ 0 then (N, 0) else _) = _; rw [if_pos h]
theorem relF_s {n : Nat} {N : Int → Int} {g u r : Int} (h : ¬ u ≤ 0) : relF (n + 1) N g u r = ((relF n (takeF N (nxt N g (-1)) (byF N g (-1) u) r) g (u - byF N g (-1) u) r).1, byF N g (-1) u * N (332 + nxt N g (-1)) + (relF n (takeF N (nxt N g (-1)) (byF N g (-1) u) r) g (u - byF N g (-1) u) r).2) := if_neg h
/-- what units of a good would release behind the bond p: the amount, and what is wanting -/
noncomputable def worF : Nat → (Int → Int) → Int → Int → Int → Int × Int
  | 0, _, _, _, u => (0, u)
  | n + 1, N, g, p, u => if u ≤ 0 then (0, u) else if nxt N g p < 0 then (0, u) else (byF N g p u * N (332 + nxt N g p) + (worF n N g (nxt N g p) (u - byF N g p u)).1, (worF n N g (nxt N g p) (u - byF N g p u)).2)
theorem worF_0 {n : Nat} {N : Int → Int} {g p u : Int} (h : u ≤ 0 ∨ nxt N g p < 0) : worF n N g p u = (0, u) := by
  cases n with
  | zero => rfl
  | succ n =>
    show (if u ≤ 0 then (0, u) else if nxt N g p < 0 then (0, u) else _) = _
    by_cases h1 : u ≤ 0
    · rw [if_pos h1]
    · rw [if_neg h1, if_pos (by omega)]
theorem worF_s {n : Nat} {N : Int → Int} {g p u : Int} (h : ¬ u ≤ 0) (h2 : ¬ nxt N g p < 0) : worF (n + 1) N g p u = (byF N g p u * N (332 + nxt N g p) + (worF n N g (nxt N g p) (u - byF N g p u)).1, (worF n N g (nxt N g p) (u - byF N g p u)).2) := by
  show (if u ≤ 0 then (0, u) else if nxt N g p < 0 then (0, u) else _) = _
  rw [if_neg h, if_neg h2]
theorem byF_of {N : Int → Int} {g p u z : Int} (h : z ≤ u ∧ z ≤ N (272 + nxt N g p) ∧ (z = u ∨ z = N (272 + nxt N g p))) : z = byF N g p u := by
  unfold byF
  split <;> omega
/-- what units of a good would release now; -1 where its bonds have fewer -/
noncomputable def worA (N : Int → Int) (g u : Int) : Int := if 0 < (worF u.toNat N g (-1) u).2 then -1 else (worF u.toNat N g (-1) u).1
end
section
set_option maxHeartbeats 4000000 in
set_option maxRecDepth 100000 in
theorem c_X8_takes (l : Launch) (K : KT) (o : Nat) (N B SS TT F : Int → Int) (b un re : Int) (r_b : 0 ≤ b ∧ b < N 6) (r_re : 0 ≤ re ∧ re < 4) (r_un : -2147483648 ≤ un ∧ un ≤ 2147483647) (hR : InR N) : CtI l yX8_takes cX8_takes 5 .int 0 0 K [.ref o, .int (iI b), .int (iI un), .int (iI re)] (mW K o N B SS TT F) (Blk o 5) (fun (z : Int) (u : Int → Int) => z = un * N (332 + b) ∧ u = takeF N b un re) (fun u => mW K o u B SS TT F) := by
  refine CtI_of (by decide) (Nat.le_of_ble_eq_true rfl) ?_
  intro p e s m args below meth c T hr hk hP hK ls hl
  have T : CF p m c cX8_takes 5 s args RX8 := T
  have hS : va_S (Blk o 5) s.heap s.heap [] := va_S.rf
  have hl : lv_has ls 5 [(0, .ref o), (1, .int (iI b)), (2, .int (iI un)), (3, .int (iI re))] := hl
  obtain ⟨hI0, hIB⟩ := id hR
  obtain ⟨b0, b1, b2, b3, b4, b5, b6, b7, b8, b9⟩ := id hI0
  have f0 := hIB b (by omega) (by omega)
  refine lv_iload_n T.1 T.2.1 dX8_takes_0 rfl (lv_at hl 2 rfl) ?_
  refine lv_aload_n T.1 T.2.1 dX8_takes_1 rfl (lv_at hl 0 rfl) ?_
  refine g8_now T hK hP 0 rfl rfl mw_3_172 dX8_takes_2 ?_
  refine xv_sipush T dX8_takes_5 (by omega) ?_
  refine lv_iload_n T.1 T.2.1 dX8_takes_8 rfl (lv_at hl 1 rfl) ?_
  refine xv_iadd T dX8_takes_9 ?_
  refine xa_iald T hK hP 1 rfl rfl (332 + b) (by omega) (by omega) (by decide) dX8_takes_10 ?_
  have f1 := hIB b (by omega) (by omega)
  refine xv_imul T dX8_takes_11 ?_
  refine lv_istore (lv' := [(4, .int (iI (un * (N (332 + b))))), (0, .ref o), (1, .int (iI b)), (2, .int (iI un)), (3, .int (iI re))]) T.1 T.2.1 dX8_takes_12 hl (by decide) rfl (fun ls hl => ?_)
  refine lv_aload_n T.1 T.2.1 dX8_takes_14 rfl (lv_at hl 1 rfl) ?_
  refine g8_now T hK hP 0 rfl rfl mw_3_172 dX8_takes_15 ?_
  refine xv_sipush T dX8_takes_18 (by omega) ?_
  refine lv_iload_n T.1 T.2.1 dX8_takes_21 rfl (lv_at hl 2 rfl) ?_
  refine xv_iadd T dX8_takes_22 ?_
  refine lv_dup2_11 T.1 T.2.1 dX8_takes_23 rfl rfl ?_
  refine xa_iald T hK hP 1 rfl rfl (272 + b) (by omega) (by omega) (by decide) dX8_takes_24 ?_
  refine lv_iload_n T.1 T.2.1 dX8_takes_25 rfl (lv_at hl 3 rfl) ?_
  refine xv_isub T dX8_takes_26 ?_
  refine xa_iast T hK hP (m_D K o N B SS TT F) hS 1 rfl rfl (by omega) (by decide) dX8_takes_27 (mu_N K o N B SS TT F (N (272 + b) - un) (by omega)) (fun H locs hP hS => ?_)
  obtain ⟨N2, hN2⟩ : ∃ M : Int → Int, M = uZ N (272 + b) (N (272 + b) - un) := ⟨_, rfl⟩
  have hP : xP K (mW K o N2 B SS TT F) H := by rw [hN2]; exact hP
  refine lv_aload_n T.1 T.2.1 dX8_takes_28 rfl (lv_at hl 1 rfl) ?_
  refine g8_now T hK hP 0 rfl rfl mw_3_172 dX8_takes_29 ?_
  refine xv_bipush T dX8_takes_32 (by omega) ?_
  refine lv_iload_n T.1 T.2.1 dX8_takes_34 rfl (lv_at hl 4 rfl) ?_
  refine xv_iadd T dX8_takes_35 ?_
  refine lv_dup2_11 T.1 T.2.1 dX8_takes_36 rfl rfl ?_
  refine xa_iald T hK hP 1 rfl rfl (10 + re) (by omega) (by omega) (by decide) dX8_takes_37 ?_
  refine xv_cv (b := N (10 + re)) (by rw [hN2, uZ_ne (by omega)]) ?_
  refine lv_iload T.1 T.2.1 dX8_takes_38 (lv_at hl 0 rfl) ?_
  refine xv_iadd T dX8_takes_40 ?_
  refine xa_iast T hK hP (m_D K o N2 B SS TT F) hS 1 rfl rfl (by omega) (by decide) dX8_takes_41 (mu_N K o N2 B SS TT F (N (10 + re) + (un * (N (332 + b)))) (by omega)) (fun H locs hP hS => ?_)
  obtain ⟨N3, hN3⟩ : ∃ M : Int → Int, M = uZ N2 (10 + re) (N (10 + re) + (un * (N (332 + b)))) := ⟨_, rfl⟩
  have hP : xP K (mW K o N3 B SS TT F) H := by rw [hN3]; exact hP
  refine lv_aload_n T.1 T.2.1 dX8_takes_42 rfl (lv_at hl 1 rfl) ?_
  refine g8_now T hK hP 0 rfl rfl mw_3_172 dX8_takes_43 ?_
  refine xv_bipush T dX8_takes_46 (by omega) ?_
  refine xv_iconst T dX8_takes_48 ?_
  refine lv_aload_n T.1 T.2.1 dX8_takes_49 rfl (lv_at hl 1 rfl) ?_
  refine g8_now T hK hP 0 rfl rfl mw_3_172 dX8_takes_50 ?_
  refine xv_sipush T dX8_takes_53 (by omega) ?_
  refine lv_iload_n T.1 T.2.1 dX8_takes_56 rfl (lv_at hl 2 rfl) ?_
  refine xv_iadd T dX8_takes_57 ?_
  refine xa_iald T hK hP 1 rfl rfl (152 + b) (by omega) (by omega) (by decide) dX8_takes_58 ?_
  refine xv_cv (b := N (152 + b)) (by rw [hN3, uZ_ne (by omega), hN2, uZ_ne (by omega)]) ?_
  refine xv_imul T dX8_takes_59 ?_
  refine xv_iadd T dX8_takes_60 ?_
  refine lv_iload_n T.1 T.2.1 dX8_takes_61 rfl (lv_at hl 4 rfl) ?_
  refine xv_iadd T dX8_takes_62 ?_
  refine lv_dup2_11 T.1 T.2.1 dX8_takes_63 rfl rfl ?_
  refine xa_iald T hK hP 1 rfl rfl (120 + 4 * (N (152 + b)) + re) (by omega) (by omega) (by decide) dX8_takes_64 ?_
  refine xv_cv (b := N (120 + 4 * (N (152 + b)) + re)) (by rw [hN3, uZ_ne (by omega), hN2, uZ_ne (by omega)]) ?_
  refine lv_iload_n T.1 T.2.1 dX8_takes_65 rfl (lv_at hl 3 rfl) ?_
  refine xv_iadd T dX8_takes_66 ?_
  refine xa_iast T hK hP (m_D K o N3 B SS TT F) hS 1 rfl rfl (by omega) (by decide) dX8_takes_67 (mu_N K o N3 B SS TT F (N (120 + 4 * (N (152 + b)) + re) + un) (by omega)) (fun H locs hP hS => ?_)
  obtain ⟨N4, hN4⟩ : ∃ M : Int → Int, M = uZ N3 (120 + (4 * (N (152 + b))) + re) (N (120 + 4 * (N (152 + b)) + re) + un) := ⟨_, rfl⟩
  have hP : xP K (mW K o N4 B SS TT F) H := by rw [hN4]; exact hP
  rw [show 120 + (4 * (N (152 + b))) + re = 120 + 4 * (N (152 + b)) + re by omega] at hN4
  refine lv_iload T.1 T.2.1 dX8_takes_68 (lv_at hl 0 rfl) ?_
  exact rI T (u := N4) hr hk hK hP hS dX8_takes_70 (by subst hN4 hN3 hN2; exact ⟨rfl, rfl⟩)
set_option maxHeartbeats 4000000 in
set_option maxRecDepth 100000 in
theorem c_X8_releases (l : Launch) (K : KT) (o : Nat) (N B SS TT F : Int → Int) (gd un re : Int) (r_gd : 0 ≤ gd ∧ gd < 8) (r_un : 0 ≤ un ∧ un ≤ 600000) (r_re : 0 ≤ re ∧ re < 4) (h_un : un ≤ restF N gd) (hR : InR N) : CtI l yX8_releases cX8_releases 8 .int 1 26 K [.ref o, .int (iI gd), .int (iI un), .int (iI re)] (mW K o N B SS TT F) (Blk o 5) (fun (z : Int) (u : Int → Int) => z = (relF un.toNat N gd un re).2 ∧ u = (relF un.toNat N gd un re).1) (fun u => mW K o u B SS TT F) := by
  refine CtI_of (by decide) (Nat.le_of_ble_eq_true rfl) ?_
  intro p e s m args below meth c T hr hk hP hK ls hl
  have T : CF p m c cX8_releases 8 s args RX8 := T
  have hS : va_S (Blk o 5) s.heap s.heap [] := va_S.rf
  have hl : lv_has ls 8 [(0, .ref o), (1, .int (iI gd)), (2, .int (iI un)), (3, .int (iI re))] := hl
  obtain ⟨hI0, hIB⟩ := id hR
  obtain ⟨b0, b1, b2, b3, b4, b5, b6, b7, b8, b9⟩ := id hI0
  refine xv_iconst T dX8_releases_0 ?_
  refine lv_istore (lv' := [(4, .int (iI 0)), (0, .ref o), (1, .int (iI gd)), (2, .int (iI un)), (3, .int (iI re))]) T.1 T.2.1 dX8_releases_1 hl (by decide) rfl (fun ls hl => ?_)
  refine lv_iload_n T.1 T.2.1 dX8_releases_3 rfl (lv_at hl 3 rfl) ?_
  refine lv_istore (lv' := [(5, .int (iI un)), (4, .int (iI 0)), (0, .ref o), (1, .int (iI gd)), (2, .int (iI un)), (3, .int (iI re))]) T.1 T.2.1 dX8_releases_4 hl (by decide) rfl (fun ls hl => ?_)
  have lp6 : ∀ (fuel : Nat) (acc : Int) (left : Int) (NL : Int → Int) (H : Heap) (locs : List Loc) (ls : Array Slot), (0 ≤ left ∧ left ≤ 600000) → (InR NL) → (left ≤ restF NL gd) → (∃ n : Nat, left ≤ (n : Int) ∧ relF un.toNat N gd un re = ((relF n NL gd left re).1, acc + (relF n NL gd left re).2)) → left < (fuel : Int) → xP K (mW K o NL B SS TT F) H → va_S (Blk o 5) s.heap H locs → lv_has ls 8 [(0, .ref o), (1, .int (iI gd)), (2, .int (iI un)), (3, .int (iI re)), (4, .int (iI acc)), (5, .int (iI left))] → W p l e (rmF 1 26) s m args below meth c H locs 0 0 (MQ below (qI K (fun (z : Int) (u : Int → Int) => z = (relF un.toNat N gd un re).2 ∧ u = (relF un.toNat N gd un re).1) (fun u => mW K o u B SS TT F) (Blk o 5)) args s 0 0 (Blk o 5)) (F0 m 6 ls []) := by
    intro fuel
    induction fuel with
    | zero =>
      intro acc left NL H locs ls hl0 hRL hrs hq hm hP hS hl
      exact absurd hm (by omega)
    | succ fuel ih6 =>
      intro acc left NL H locs ls hl0 hRL hrs hq hm hP hS hl
      obtain ⟨n, hn, hq⟩ := hq
      obtain ⟨c0, c1, c2, c3, c4, c5, c6, c7, c8, c9⟩ := id hRL.1
      refine lv_iload T.1 T.2.1 dX8_releases_6 (lv_at hl 5 rfl) ?_
      refine xv_if_le T (by omega) (tgt := 61) dX8_releases_8 (by decide) (fun c1 => ?_) (fun c1 => ?_)
      · skip
        refine lv_iload T.1 T.2.1 dX8_releases_61 (lv_at hl 4 rfl) ?_
        exact rI T (u := NL) hr hk hK hP hS dX8_releases_63 (by rw [hq, relF_0 (by omega)]; exact ⟨by omega, rfl⟩)
      · skip
        refine lv_aload_n T.1 T.2.1 dX8_releases_11 rfl (lv_at hl 0 rfl) ?_
        refine lv_iload_n T.1 T.2.1 dX8_releases_12 rfl (lv_at hl 1 rfl) ?_
        refine xv_iconst T dX8_releases_13 ?_
        refine cI_V T hK hP hS 0 rfl rfl rfl (c_X8_nextOf l K o NL B SS TT F gd (-1) (by omega) (by omega) hRL) iX8_nextOf mw_4_69 ⟨Nat.le_of_ble_eq_true rfl, Nat.le_of_ble_eq_true rfl⟩ hP noA rfl hl.1 rfl (Nat.le_of_ble_eq_true rfl) ⟨Nat.zero_le _, Nat.zero_le _⟩ dX8_releases_14 (fun bz _ H1 locs qz hP1 hg1 hg2 hS => ?_)
        have hP := xP_kept hP hg2
        generalize H1 = H at hP hS ⊢
        clear hg1 hg2 hP1
        obtain ⟨hz1, hz2⟩ := qz
        have hb := nx_pos (by omega) hz2
        have hf := hRL.2 bz (by omega) (by omega)
        refine lv_istore (lv' := [(6, .int (iI bz)), (0, .ref o), (1, .int (iI gd)), (2, .int (iI un)), (3, .int (iI re)), (4, .int (iI acc)), (5, .int (iI left))]) T.1 T.2.1 dX8_releases_17 hl (by decide) rfl (fun ls hl => ?_)
        refine lv_iload T.1 T.2.1 dX8_releases_19 (lv_at hl 6 rfl) ?_
        refine lv_aload_n T.1 T.2.1 dX8_releases_21 rfl (lv_at hl 1 rfl) ?_
        refine g8_now T hK hP 0 rfl rfl mw_3_172 dX8_releases_22 ?_
        refine xv_sipush T dX8_releases_25 (by omega) ?_
        refine lv_iload T.1 T.2.1 dX8_releases_28 (lv_at hl 0 rfl) ?_
        refine xv_iadd T dX8_releases_30 ?_
        refine xa_iald T hK hP 1 rfl rfl (272 + bz) (by omega) (by omega) (by decide) dX8_releases_31 ?_
        refine cI_S T hK hP hS (c_X8_least l K left (NL (272 + bz)) (by omega) (by omega)) iX8_least mw_4_85 ⟨Nat.le_of_ble_eq_true rfl, Nat.le_of_ble_eq_true rfl⟩ xP_nil noA rfl hl.1 rfl (Nat.le_of_ble_eq_true rfl) ⟨Nat.zero_le _, Nat.zero_le _⟩ dX8_releases_32 (fun bu _ H1 locs qb hP1 hg1 hg2 hS => ?_)
        have hP := xP_kept hP hg2
        generalize H1 = H at hP hS ⊢
        clear hg1 hg2 hP1
        refine lv_istore (lv' := [(7, .int (iI bu)), (6, .int (iI bz)), (0, .ref o), (1, .int (iI gd)), (2, .int (iI un)), (3, .int (iI re)), (4, .int (iI acc)), (5, .int (iI left))]) T.1 T.2.1 dX8_releases_35 hl (by decide) rfl (fun ls hl => ?_)
        refine lv_iload T.1 T.2.1 dX8_releases_37 (lv_at hl 6 rfl) ?_
        refine lv_aload_n T.1 T.2.1 dX8_releases_39 rfl (lv_at hl 2 rfl) ?_
        refine lv_iload T.1 T.2.1 dX8_releases_40 (lv_at hl 1 rfl) ?_
        refine lv_iload T.1 T.2.1 dX8_releases_42 (lv_at hl 0 rfl) ?_
        refine lv_iload_n T.1 T.2.1 dX8_releases_44 rfl (lv_at hl 5 rfl) ?_
        refine cI_V T hK hP hS 0 rfl rfl rfl (c_X8_takes l K o NL B SS TT F bz bu re (by omega) (by omega) (by omega) hRL) iX8_takes mw_4_88 ⟨Nat.le_of_ble_eq_true rfl, Nat.le_of_ble_eq_true rfl⟩ hP (fun _ h => h) rfl hl.1 rfl (Nat.le_of_ble_eq_true rfl) ⟨Nat.zero_le _, Nat.zero_le _⟩ dX8_releases_45 (fun bv NQ7 H1 locs q7 hP1 hg1 hg2 hS => ?_)
        have hP : xP K (mW K o NQ7 B SS TT F) H1 := hP1
        generalize H1 = H at hP hS ⊢
        clear hg1 hg2 hP1
        refine xv_iadd T dX8_releases_48 ?_
        refine lv_istore (lv' := [(4, .int (iI (acc + bv))), (7, .int (iI bu)), (6, .int (iI bz)), (0, .ref o), (1, .int (iI gd)), (2, .int (iI un)), (3, .int (iI re)), (5, .int (iI left))]) T.1 T.2.1 dX8_releases_49 hl (by decide) rfl (fun ls hl => ?_)
        refine lv_iload T.1 T.2.1 dX8_releases_51 (lv_at hl 7 rfl) ?_
        refine lv_iload T.1 T.2.1 dX8_releases_53 (lv_at hl 1 rfl) ?_
        refine xv_isub T dX8_releases_55 ?_
        refine lv_istore (lv' := [(5, .int (iI (left - bu))), (4, .int (iI (acc + bv))), (7, .int (iI bu)), (6, .int (iI bz)), (0, .ref o), (1, .int (iI gd)), (2, .int (iI un)), (3, .int (iI re))]) T.1 T.2.1 dX8_releases_56 hl (by decide) rfl (fun ls hl => ?_)
        refine lv_goto T.1 T.2.1 (tgt := 6) dX8_releases_58 (by decide) ?_
        obtain ⟨n, rfl⟩ : ∃ k : Nat, n = k + 1 := ⟨n - 1, by omega⟩
        have e1 := byF_of (N := NL) (g := gd) (p := -1) (u := left) (z := bu) (by rw [← hz1]; exact qb)
        obtain ⟨hv, hNQ7⟩ := q7
        have hgd : NL (152 + bz) = gd := by omega
        have t := takeF_rest (u := bu) (r := re) hRL hb.1 (by omega)
        rw [hgd] at t
        exact ih6 (acc + bv) (left - bu) NQ7 _ _ ls (by omega) (by rw [hNQ7]; exact takeF_R hRL hb.1 (by omega) (by omega)) (by rw [hNQ7, t]; omega) ⟨n, by omega, by rw [hq, relF_s (by omega), ← e1, ← hz1, hNQ7, hv, Int.add_assoc]⟩ (by omega) hP hS (lv_sub hl [4, 5, 6, 7, 1, 0] rfl)
  exact lp6 600001 0 un N _ _ ls (by omega) hR h_un ⟨un.toNat, by omega, by rw [Int.zero_add]⟩ (by omega) hP hS (lv_sub hl [2, 3, 4, 5, 1, 0] rfl)
set_option maxHeartbeats 4000000 in
set_option maxRecDepth 100000 in
theorem c_X8_worthOf (l : Launch) (K : KT) (o : Nat) (N B SS TT F : Int → Int) (gd un : Int) (r_gd : 0 ≤ gd ∧ gd < 8) (r_un : 0 ≤ un ∧ un ≤ 6000000) (hR : InR N) : CtL l yX8_worthOf cX8_worthOf 8 1 26 K [.ref o, .int (iI gd), .int (iI un)] (mW K o N B SS TT F) (NoA) (fun (z : Int) (_ : Unit) => z = worA N gd un) (fun _ => mW K o N B SS TT F) := by
  refine CtL_of (by decide) (Nat.le_of_ble_eq_true rfl) ?_
  intro p e s m args below meth c T hr hk hP hK ls hl
  have T : CF p m c cX8_worthOf 8 s args RX8 := T
  have hS : va_S (NoA) s.heap s.heap [] := va_S.rf
  have hl : lv_has ls 8 [(0, .ref o), (1, .int (iI gd)), (2, .int (iI un))] := hl
  obtain ⟨hI0, hIB⟩ := id hR
  obtain ⟨b0, b1, b2, b3, b4, b5, b6, b7, b8, b9⟩ := id hI0
  refine xv_lconst T (z := 0) dX8_worthOf_0 rfl ?_
  refine lv_lstore_n (lv' := [(3, .long (lI 0)), (0, .ref o), (1, .int (iI gd)), (2, .int (iI un))]) T.1 T.2.1 dX8_worthOf_1 rfl hl (by decide) rfl (fun ls hl => ?_)
  refine lv_iload_n T.1 T.2.1 dX8_worthOf_2 rfl (lv_at hl 3 rfl) ?_
  refine lv_istore (lv' := [(5, .int (iI un)), (3, .long (lI 0)), (0, .ref o), (1, .int (iI gd)), (2, .int (iI un))]) T.1 T.2.1 dX8_worthOf_3 hl (by decide) rfl (fun ls hl => ?_)
  refine lv_aload_n T.1 T.2.1 dX8_worthOf_5 rfl (lv_at hl 2 rfl) ?_
  refine lv_iload_n T.1 T.2.1 dX8_worthOf_6 rfl (lv_at hl 3 rfl) ?_
  refine xv_iconst T dX8_worthOf_7 ?_
  refine cI_V T hK hP hS 0 rfl rfl rfl (c_X8_nextOf l K o N B SS TT F gd (-1) (by omega) (by omega) hR) iX8_nextOf mw_4_69 ⟨Nat.le_of_ble_eq_true rfl, Nat.le_of_ble_eq_true rfl⟩ hP noA rfl hl.1 rfl (Nat.le_of_ble_eq_true rfl) ⟨Nat.zero_le _, Nat.zero_le _⟩ dX8_worthOf_8 (fun bz _ H1 locs qz hP1 hg1 hg2 hS => ?_)
  have hP := xP_kept hP hg2
  generalize H1 = H at hP hS ⊢
  clear hg1 hg2 hP1
  refine lv_istore (lv' := [(6, .int (iI bz)), (5, .int (iI un)), (3, .long (lI 0)), (0, .ref o), (1, .int (iI gd)), (2, .int (iI un))]) T.1 T.2.1 dX8_worthOf_11 hl (by decide) rfl (fun ls hl => ?_)
  have lp13 : ∀ (fuel : Nat) (acc : Int) (left : Int) (b : Int) (H : Heap) (locs : List Loc) (ls : Array Slot), (0 ≤ left ∧ left ≤ 6000000) → (b = -4 ∨ (0 ≤ b ∧ b < N 6)) → (∃ (n : Nat) (pp : Int), left ≤ (n : Int) ∧ b = nxt N gd pp ∧ worF un.toNat N gd (-1) un = (acc + (worF n N gd pp left).1, (worF n N gd pp left).2) ∧ (0 ≤ b → 0 < N (272 + b))) → left + (if b < 0 then 0 else 1) < (fuel : Int) → xP K (mW K o N B SS TT F) H → va_S (NoA) s.heap H locs → lv_has ls 8 [(0, .ref o), (1, .int (iI gd)), (2, .int (iI un)), (3, .long (lI acc)), (5, .int (iI left)), (6, .int (iI b))] → W p l e (rmF 1 26) s m args below meth c H locs 0 0 (MQ below (qL K (fun (z : Int) (_ : Unit) => z = worA N gd un) (fun _ => mW K o N B SS TT F) (NoA)) args s 0 0 (NoA)) (F0 m 13 ls []) := by
    intro fuel
    induction fuel with
    | zero =>
      intro acc left b H locs ls hl0 hb hq hm hP hS hl
      exact absurd hm (by split at hm <;> omega)
    | succ fuel ih13 =>
      intro acc left b H locs ls hl0 hb hq hm hP hS hl
      obtain ⟨n, pp, hn, hbn, hq, hpos⟩ := hq
      refine lv_iload T.1 T.2.1 dX8_worthOf_13 (lv_at hl 5 rfl) ?_
      refine xv_if_lt T (by omega) (tgt := 79) dX8_worthOf_15 (by decide) (fun c1 => ?_) (fun c1 => ?_)
      · skip
        refine lv_iload T.1 T.2.1 dX8_worthOf_79 (lv_at hl 4 rfl) ?_
        refine xv_if_le T (by omega) (tgt := 90) dX8_worthOf_81 (by decide) (fun c2 => ?_) (fun c2 => ?_)
        · skip
          have hw : worF un.toNat N gd (-1) un = (acc, left) := by rw [hq, worF_0 (by omega)]; simp
          refine lv_lload_n T.1 T.2.1 dX8_worthOf_90 rfl (lv_at hl 3 rfl) ?_
          exact rL T (u := ()) hr hk hK hP hS dX8_worthOf_91 (by unfold worA; rw [hw]; dsimp only; split <;> omega)
        · skip
          have hw : worF un.toNat N gd (-1) un = (acc, left) := by rw [hq, worF_0 (by omega)]; simp
          refine xv_ldc2 T mw_4_128 (n := (-1)) (by decide +kernel) dX8_worthOf_84 ?_
          refine lv_goto T.1 T.2.1 (tgt := 91) dX8_worthOf_87 (by decide) ?_
          exact rL T (u := ()) hr hk hK hP hS dX8_worthOf_91 (by unfold worA; rw [hw]; dsimp only; split <;> omega)
      · skip
        refine lv_iload T.1 T.2.1 dX8_worthOf_18 (lv_at hl 4 rfl) ?_
        refine xv_if_le T (by omega) (tgt := 79) dX8_worthOf_20 (by decide) (fun c3 => ?_) (fun c3 => ?_)
        · skip
          refine lv_iload T.1 T.2.1 dX8_worthOf_79 (lv_at hl 4 rfl) ?_
          refine xv_if_le T (by omega) (tgt := 90) dX8_worthOf_81 (by decide) (fun c4 => ?_) (fun c4 => ?_)
          · skip
            have hw : worF un.toNat N gd (-1) un = (acc, left) := by rw [hq, worF_0 (by omega)]; simp
            refine lv_lload_n T.1 T.2.1 dX8_worthOf_90 rfl (lv_at hl 3 rfl) ?_
            exact rL T (u := ()) hr hk hK hP hS dX8_worthOf_91 (by unfold worA; rw [hw]; dsimp only; split <;> omega)
          · skip
            have hw : worF un.toNat N gd (-1) un = (acc, left) := by rw [hq, worF_0 (by omega)]; simp
            refine xv_ldc2 T mw_4_128 (n := (-1)) (by decide +kernel) dX8_worthOf_84 ?_
            refine lv_goto T.1 T.2.1 (tgt := 91) dX8_worthOf_87 (by decide) ?_
            exact rL T (u := ()) hr hk hK hP hS dX8_worthOf_91 (by unfold worA; rw [hw]; dsimp only; split <;> omega)
        · skip
          refine lv_iload T.1 T.2.1 dX8_worthOf_23 (lv_at hl 4 rfl) ?_
          refine lv_aload_n T.1 T.2.1 dX8_worthOf_25 rfl (lv_at hl 0 rfl) ?_
          refine g8_now T hK hP 0 rfl rfl mw_3_172 dX8_worthOf_26 ?_
          refine xv_sipush T dX8_worthOf_29 (by omega) ?_
          refine lv_iload T.1 T.2.1 dX8_worthOf_32 (lv_at hl 5 rfl) ?_
          refine xv_iadd T dX8_worthOf_34 ?_
          refine xa_iald T hK hP 1 rfl rfl (272 + b) (by omega) (by omega) (by decide) dX8_worthOf_35 ?_
          have f5 := hIB b (by omega) (by omega)
          refine cI_S T hK hP hS (c_X8_least l K left (N (272 + b)) (by omega) (by omega)) iX8_least mw_4_85 ⟨Nat.le_of_ble_eq_true rfl, Nat.le_of_ble_eq_true rfl⟩ xP_nil noA rfl hl.1 rfl (Nat.le_of_ble_eq_true rfl) ⟨Nat.zero_le _, Nat.zero_le _⟩ dX8_worthOf_36 (fun bu _ H1 locs qb hP1 hg1 hg2 hS => ?_)
          have hP := xP_kept hP hg2
          generalize H1 = H at hP hS ⊢
          clear hg1 hg2 hP1
          refine lv_istore (lv' := [(7, .int (iI bu)), (0, .ref o), (1, .int (iI gd)), (2, .int (iI un)), (3, .long (lI acc)), (5, .int (iI left)), (6, .int (iI b))]) T.1 T.2.1 dX8_worthOf_39 hl (by decide) rfl (fun ls hl => ?_)
          refine lv_lload_n T.1 T.2.1 dX8_worthOf_41 rfl (lv_at hl 4 rfl) ?_
          refine lv_iload T.1 T.2.1 dX8_worthOf_42 (lv_at hl 0 rfl) ?_
          refine xv_i2l T (by omega) dX8_worthOf_44 ?_
          refine lv_aload_n T.1 T.2.1 dX8_worthOf_45 rfl (lv_at hl 1 rfl) ?_
          refine g8_now T hK hP 0 rfl rfl mw_3_172 dX8_worthOf_46 ?_
          refine xv_sipush T dX8_worthOf_49 (by omega) ?_
          refine lv_iload T.1 T.2.1 dX8_worthOf_52 (lv_at hl 6 rfl) ?_
          refine xv_iadd T dX8_worthOf_54 ?_
          refine xa_iald T hK hP 1 rfl rfl (332 + b) (by omega) (by omega) (by decide) dX8_worthOf_55 ?_
          refine xv_i2l T (by omega) dX8_worthOf_56 ?_
          refine xv_lmul T dX8_worthOf_57 ?_
          refine xv_ladd T dX8_worthOf_58 ?_
          refine lv_lstore_n (lv' := [(3, .long (lI (acc + (bu * (N (332 + b)))))), (7, .int (iI bu)), (0, .ref o), (1, .int (iI gd)), (2, .int (iI un)), (5, .int (iI left)), (6, .int (iI b))]) T.1 T.2.1 dX8_worthOf_59 rfl hl (by decide) rfl (fun ls hl => ?_)
          refine lv_iload T.1 T.2.1 dX8_worthOf_60 (lv_at hl 5 rfl) ?_
          refine lv_iload T.1 T.2.1 dX8_worthOf_62 (lv_at hl 1 rfl) ?_
          refine xv_isub T dX8_worthOf_64 ?_
          refine lv_istore (lv' := [(5, .int (iI (left - bu))), (3, .long (lI (acc + (bu * (N (332 + b)))))), (7, .int (iI bu)), (0, .ref o), (1, .int (iI gd)), (2, .int (iI un)), (6, .int (iI b))]) T.1 T.2.1 dX8_worthOf_65 hl (by decide) rfl (fun ls hl => ?_)
          refine lv_aload_n T.1 T.2.1 dX8_worthOf_67 rfl (lv_at hl 3 rfl) ?_
          refine lv_iload_n T.1 T.2.1 dX8_worthOf_68 rfl (lv_at hl 4 rfl) ?_
          refine lv_iload T.1 T.2.1 dX8_worthOf_69 (lv_at hl 6 rfl) ?_
          refine cI_V T hK hP hS 0 rfl rfl rfl (c_X8_nextOf l K o N B SS TT F gd b (by omega) (by omega) hR) iX8_nextOf mw_4_69 ⟨Nat.le_of_ble_eq_true rfl, Nat.le_of_ble_eq_true rfl⟩ hP noA rfl hl.1 rfl (Nat.le_of_ble_eq_true rfl) ⟨Nat.zero_le _, Nat.zero_le _⟩ dX8_worthOf_71 (fun by2 _ H1 locs qy hP1 hg1 hg2 hS => ?_)
          have hP := xP_kept hP hg2
          generalize H1 = H at hP hS ⊢
          clear hg1 hg2 hP1
          refine lv_istore (lv' := [(6, .int (iI by2)), (5, .int (iI (left - bu))), (3, .long (lI (acc + (bu * (N (332 + b)))))), (7, .int (iI bu)), (0, .ref o), (1, .int (iI gd)), (2, .int (iI un))]) T.1 T.2.1 dX8_worthOf_74 hl (by decide) rfl (fun ls hl => ?_)
          refine lv_goto T.1 T.2.1 (tgt := 13) dX8_worthOf_76 (by decide) ?_
          obtain ⟨n, rfl⟩ : ∃ k : Nat, n = k + 1 := ⟨n - 1, by omega⟩
          have e1 := byF_of (N := N) (g := gd) (p := pp) (u := left) (z := bu) (by rw [← hbn]; exact qb)
          exact ih13 (acc + (bu * (N (332 + b)))) (left - bu) by2 _ _ ls (by omega) (by have := nxt_or N gd b; rw [← qy.1] at this; exact this) ⟨n, b, by omega, qy.1, by rw [hq, worF_s (by omega) (by omega), ← e1, ← hbn, Int.add_assoc], isNx_pos qy.2⟩ (by split at hm <;> split <;> omega) hP hS (lv_sub hl [4, 5, 6, 2, 1, 0] rfl)
  exact lp13 6000003 0 un bz _ _ ls (by omega) (by have := nxt_or N gd (-1); rw [← qz.1] at this; exact this) ⟨un.toNat, -1, by omega, qz.1, by rw [Int.zero_add], isNx_pos qz.2⟩ (by omega) hP hS (lv_sub hl [3, 4, 5, 2, 1, 0] rfl)
end
section
def mvP (N : Int → Int) (l g u : Int) : Prop := (0 ≤ l ∧ l < N 4) ∧ (0 ≤ g ∧ g < N 5) ∧ (1 ≤ u ∧ u ≤ 9999)
def sLocker (N : Int → Int) : Int × (Int → Int) := if N 0 ≠ 2 then (-2, N) else if N 4 = 5 ∨ ¬ N 7 + 1 ≤ 200 then (-3, N) else (N 4, uZ (sealsF N (N 4)) 4 (N 4 + 1))
def sGood (N : Int → Int) (d : Int) : Int × (Int → Int) := if ¬ (1 ≤ d ∧ d ≤ 1000000) then (-1, N) else if N 5 = 8 then (-3, N) else (N 5, uZ (uZ N (104 + N 5) d) 5 (N 5 + 1))
def sDuty (N : Int → Int) (g d : Int) : Int × (Int → Int) := if ¬ ((0 ≤ g ∧ g < N 5) ∧ (1 ≤ d ∧ d ≤ 1000000)) then (-1, N) else (N (104 + g), uZ N (104 + g) d)
/-- units u of the good g come into the locker l under the next bond: the bond -/
def bondF (N : Int → Int) (l g u : Int) : Int → Int := uZ (uZ (uZ (uZ (uZ (uZ (uZ (uZ (uZ (offF N l 2) (152 + N 6) g) (212 + N 6) u) (272 + N 6) u) (332 + N 6) (N (104 + g))) (392 + N 6) (N 1 + N 3)) 6 (N 6 + 1)) 9 (N 9 + u * N (104 + g))) (112 + g) (N (112 + g) + u)) (24 + 8 * l + g) (N (24 + 8 * l + g) + u)
noncomputable def sLoad (N : Int → Int) (l g u : Int) : Int × (Int → Int) := if ¬ ((0 ≤ l ∧ l < N 4) ∧ (0 ≤ g ∧ g < N 5) ∧ (1 ≤ u ∧ u ≤ 9999)) then (-1, N) else if N 0 ≠ 2 ∨ N (14 + l) = 2 then (-2, N) else if N 6 = 60 ∨ ¬ N 7 + 1 ≤ 200 ∨ 99999 < N (24 + 8 * l + g) + u ∨ 2147483647 < N 9 + u * N (104 + g) then (-3, N) else (N 6, sealsF (bondF N l g u) l)
/-- the answer and the state of a release -/
noncomputable def relP (N : Int → Int) (g u r : Int) : Int × (Int → Int) := ((relF u.toNat N g u r).2, (relF u.toNat N g u r).1)
noncomputable def sUse (N : Int → Int) (l g u : Int) : Int × (Int → Int) := if ¬ ((0 ≤ l ∧ l < N 4) ∧ (0 ≤ g ∧ g < N 5) ∧ (1 ≤ u ∧ u ≤ 9999)) then (-1, N) else if N 0 ≠ 0 ∨ N (24 + 8 * l + g) < u then (-2, N) else relP (uZ N (24 + 8 * l + g) (N (24 + 8 * l + g) - u)) g u 0
noncomputable def sBring (N : Int → Int) (l g u : Int) : Int × (Int → Int) := if ¬ ((0 ≤ l ∧ l < N 4) ∧ (0 ≤ g ∧ g < N 5) ∧ (1 ≤ u ∧ u ≤ 9999)) then (-1, N) else if N 0 ≠ 2 ∨ N (14 + l) = 2 ∨ N (24 + 8 * l + g) < u then (-2, N) else if ¬ N 7 + 1 ≤ 200 then (-3, N) else relP (sealsF (uZ (offF N l 2) (24 + 8 * l + g) (N (24 + 8 * l + g) - u)) l) g u 1
noncomputable def sSmash (N : Int → Int) (l g u w : Int) : Int × (Int → Int) := if ¬ (((0 ≤ l ∧ l < N 4) ∧ (0 ≤ g ∧ g < N 5) ∧ (1 ≤ u ∧ u ≤ 9999)) ∧ (0 ≤ w ∧ w ≤ 9)) then (-1, N) else if N 0 ≠ 0 ∨ N (24 + 8 * l + g) < u then (-2, N) else if 0 < w then relP (uZ N (24 + 8 * l + g) (N (24 + 8 * l + g) - u)) g u 2 else (0, uZ (uZ N (24 + 8 * l + g) (N (24 + 8 * l + g) - u)) (64 + 8 * l + g) (N (64 + 8 * l + g) + u))
def sTear (N : Int → Int) (l : Int) : Int × (Int → Int) := if ¬ (0 ≤ l ∧ l < N 4) then (-1, N) else if N (14 + l) ≠ 1 then (-2, N) else (N (19 + l), uZ (uZ N (14 + l) 2) (854 + N (19 + l)) 3)
def sSet (N : Int → Int) (w v : Int) : Int × (Int → Int) := if ¬ ((0 ≤ w ∧ w ≤ 1) ∧ (w ≤ v ∧ v ≤ if w = 0 then 100000 else 99)) then (-1, N) else (N (2 + w), uZ N (2 + w) v)
theorem inR_has {N : Int → Int} {i v : Int} (h : InR N) (hi : 10 ≤ i ∧ i < 152) : InR (uZ N i v) := by
  obtain ⟨h0, hB⟩ := h
  have e : ∀ k : Int, k < 10 ∨ 152 ≤ k → uZ N i v k = N k := fun k hk => uZ_ne (by omega)
  refine ⟨?_, fun k h1 h2 => ?_⟩
  · unfold In0
    rw [e 0 (by omega), e 1 (by omega), e 2 (by omega), e 3 (by omega), e 4 (by omega), e 5 (by omega), e 6 (by omega), e 7 (by omega), e 8 (by omega), e 9 (by omega)]
    exact h0
  · rw [e 6 (by omega)] at h2
    rw [e (152 + k) (by omega), e (212 + k) (by omega), e (272 + k) (by omega), e (332 + k) (by omega), e (392 + k) (by omega), e 5 (by omega)]
    exact hB k h1 h2
/-- two states with the same bonds have the same units left -/
theorem restF_eq {N M : Int → Int} {g : Int} (h6 : M 6 = N 6) (h : ∀ b : Int, 0 ≤ b → b < N 6 → M (152 + b) = N (152 + b) ∧ M (272 + b) = N (272 + b)) : restF M g = restF N g := by
  unfold restF
  rw [h6]
  refine sumZ_congr _ fun k h1 h2 => ?_
  rw [(h k h1 (by omega)).1, (h k h1 (by omega)).2]
theorem inR_eq {N M : Int → Int} (h : InR N) (h0 : In0 M) (h6 : M 6 = N 6) (h5 : M 5 = N 5) (hb : ∀ k : Int, 152 ≤ k → k < 452 → M k = N k) : InR M := by
  obtain ⟨g0, hB⟩ := h
  have g00 := g0
  obtain ⟨b0, b1, b2, b3, b4, b5, b6, b7, b8, b9⟩ := g00
  refine ⟨h0, fun k h1 h2 => ?_⟩
  rw [h6] at h2
  rw [hb (152 + k) (by omega) (by omega), hb (212 + k) (by omega) (by omega), hb (272 + k) (by omega) (by omega), hb (332 + k) (by omega) (by omega), hb (392 + k) (by omega) (by omega), h5]
  exact hB k h1 h2
/-- what is in one locker is left in bonds -/
theorem has_rest {N : Int → Int} {l g : Int} (hI : Inv N) (hl : 0 ≤ l ∧ l < 5) (hg : 0 ≤ g ∧ g < 8) : N (24 + 8 * l + g) + N (64 + 8 * l + g) ≤ restF N g ∧ missF N g ≤ restF N g ∧ 0 ≤ hasF N g ∧ N (64 + 8 * l + g) ≤ missF N g := by
  obtain ⟨hI0, hIL, hIH, hIB, hID, hIC, hIG, hIZ⟩ := hI
  have h1 := hIC g hg.1 hg.2
  have h2 : N (24 + 8 * l + g) ≤ hasF N g := sumZ_ge (f := fun l => N (24 + 8 * l + g)) 5 (fun k a b => (hIH k g a (by omega) hg.1 hg.2).1.1) hl.1 (by omega)
  have h3 : N (64 + 8 * l + g) ≤ missF N g := sumZ_ge (f := fun l => N (64 + 8 * l + g)) 5 (fun k a b => (hIH k g a (by omega) hg.1 hg.2).2.1.1) hl.1 (by omega)
  have h4 : 0 ≤ hasF N g := sumZ_nonneg (f := fun l => N (24 + 8 * l + g)) 5 (fun k a b => (hIH k g a (by omega) hg.1 hg.2).1.1)
  exact ⟨by omega, by omega, h4, h3⟩
theorem rest_max {N : Int → Int} (h : InR N) (g : Int) : 0 ≤ restF N g ∧ restF N g ≤ 600000 := by
  obtain ⟨h0, hB⟩ := h
  obtain ⟨b0, b1, b2, b3, b4, b5, b6, b7, b8, b9⟩ := h0
  constructor
  · refine sumZ_nonneg _ fun k h1 h2 => ?_
    have := hB k h1 (by omega)
    split <;> omega
  · have h1 : restF N g ≤ sumZ (fun _ => (9999 : Int)) (N 6).toNat := by
      refine sumZ_le _ fun k h1 h2 => ?_
      have := hB k h1 (by omega)
      split <;> omega
    rw [sumZ_const] at h1
    omega
theorem rest_has {N : Int → Int} {i v : Int} (g : Int) (hi : 10 ≤ i ∧ i < 152) (h6 : N 6 ≤ 60) : restF (uZ N i v) g = restF N g := restF_eq (uZ_ne (by omega)) fun b h1 h2 => ⟨uZ_ne (by omega), uZ_ne (by omega)⟩
theorem in0_of {N M : Int → Int} (h : In0 N) (e : ∀ k : Int, 0 ≤ k → k < 10 → k ≠ 7 → M k = N k) (h7 : N 7 ≤ M 7 ∧ M 7 ≤ 200) : In0 M := by
  have h' := h
  obtain ⟨b0, b1, b2, b3, b4, b5, b6, b7, b8, b9⟩ := h'
  unfold In0
  rw [e 0 (by omega) (by omega) (by omega), e 1 (by omega) (by omega) (by omega), e 2 (by omega) (by omega) (by omega), e 3 (by omega) (by omega) (by omega), e 4 (by omega) (by omega) (by omega), e 5 (by omega) (by omega) (by omega), e 6 (by omega) (by omega) (by omega), e 8 (by omega) (by omega) (by omega), e 9 (by omega) (by omega) (by omega)]
  omega
theorem sealsF_7 {N : Int → Int} {l : Int} (hl : 0 ≤ l ∧ l < 5) (h : 0 ≤ N 7) : sealsF N l 7 = N 7 + 1 := by
  unfold sealsF
  rw [uZ_ne (by omega), uZ_ne (by omega), uZ_ne (by omega), uZ_ne (by omega), uZ_ne (by omega), uZ_eq]
theorem sealsF_R {N : Int → Int} {l : Int} (h : InR N) (hl : 0 ≤ l ∧ l < 5) (h7 : N 7 < 200) : InR (sealsF N l) := by
  have h0 := h.1
  obtain ⟨b0, b1, b2, b3, b4, b5, b6, b7, b8, b9⟩ := h0
  exact inR_eq h (in0_of h.1 (fun k h1 h2 h3 => sealsF_ne (by omega)) (by rw [sealsF_7 hl b7.1]; omega)) (sealsF_ne (by omega)) (sealsF_ne (by omega)) fun k h1 h2 => sealsF_ne (by omega)
theorem sealsF_rest {N : Int → Int} {l : Int} (h : InR N) (hl : 0 ≤ l ∧ l < 5) (g : Int) : restF (sealsF N l) g = restF N g := by
  have h0 := h.1
  obtain ⟨b0, b1, b2, b3, b4, b5, b6, b7, b8, b9⟩ := h0
  exact restF_eq (sealsF_ne (by omega)) fun b h1 h2 => ⟨sealsF_ne (by omega), sealsF_ne (by omega)⟩
theorem offF_R {N : Int → Int} {l w : Int} (h : InR N) (hl : 0 ≤ l ∧ l < 5) (h9 : 0 ≤ N (19 + l) ∧ N (19 + l) ≤ 200) : InR (offF N l w) := inR_eq h (in0_of h.1 (fun k h1 h2 h3 => offF_ne (by omega)) (by
  have h0 := h.1
  obtain ⟨b0, b1, b2, b3, b4, b5, b6, b7, b8, b9⟩ := h0
  rw [offF_ne (by omega)]
  omega)) (offF_ne (by omega)) (offF_ne (by omega)) fun k h1 h2 => offF_ne (by omega)
theorem offF_rest {N : Int → Int} {l w : Int} (h : InR N) (hl : 0 ≤ l ∧ l < 5) (h9 : 0 ≤ N (19 + l) ∧ N (19 + l) ≤ 200) (g : Int) : restF (offF N l w) g = restF N g := by
  have h0 := h.1
  obtain ⟨b0, b1, b2, b3, b4, b5, b6, b7, b8, b9⟩ := h0
  exact restF_eq (offF_ne (by omega)) fun b h1 h2 => ⟨offF_ne (by omega), offF_ne (by omega)⟩
end
section
set_option maxHeartbeats 4000000 in
set_option maxRecDepth 100000 in
theorem c_X8_addsLocker (l : Launch) (K : KT) (o : Nat) (N B SS TT F : Int → Int) (hI : Inv N) : CtI l yX8_addsLocker cX8_addsLocker 1 .int 1 22 K [.ref o] (mW K o N B SS TT F) (Blk o 5) (fun (z : Int) (u : Int → Int) => (z, u) = sLocker N) (fun u => mW K o u B SS TT F) := by
  refine CtI_of (by decide) (Nat.le_of_ble_eq_true rfl) ?_
  intro p e s m args below meth c T hr hk hP hK ls hl
  have T : CF p m c cX8_addsLocker 1 s args RX8 := T
  have hS : va_S (Blk o 5) s.heap s.heap [] := va_S.rf
  have hl : lv_has ls 1 [(0, .ref o)] := hl
  obtain ⟨hI0, hIL, hIH, hIB, hID, hIC, hIG, hIZ⟩ := id hI
  have hR : InR N := ⟨hI0, hIB⟩
  obtain ⟨b0, b1, b2, b3, b4, b5, b6, b7, b8, b9⟩ := id hI0
  refine lv_aload_n T.1 T.2.1 dX8_addsLocker_0 rfl (lv_at hl 0 rfl) ?_
  refine g8_now T hK hP 0 rfl rfl mw_3_172 dX8_addsLocker_1 ?_
  refine xv_iconst T dX8_addsLocker_4 ?_
  refine xa_iald T hK hP 1 rfl rfl 0 (by omega) (by omega) (by decide) dX8_addsLocker_5 ?_
  refine xv_iconst T dX8_addsLocker_6 ?_
  refine xv_icmp_eq T (by omega) (tgt := 13) dX8_addsLocker_7 (by decide) (fun c1 => ?_) (fun c1 => ?_)
  · skip
    refine lv_aload_n T.1 T.2.1 dX8_addsLocker_13 rfl (lv_at hl 0 rfl) ?_
    refine g8_now T hK hP 0 rfl rfl mw_3_172 dX8_addsLocker_14 ?_
    refine xv_iconst T dX8_addsLocker_17 ?_
    refine xa_iald T hK hP 1 rfl rfl 4 (by omega) (by omega) (by decide) dX8_addsLocker_18 ?_
    refine xv_iconst T dX8_addsLocker_19 ?_
    refine xv_icmp_eq T (by omega) (tgt := 31) dX8_addsLocker_20 (by decide) (fun c2 => ?_) (fun c2 => ?_)
    · skip
      refine xv_bipush T dX8_addsLocker_31 (by omega) ?_
      exact rI T (u := N) hr hk hK hP hS dX8_addsLocker_33 (by skip; unfold sLocker; (repeat' split) <;> first | (exfalso; omega) | rfl | (rw [Int.add_sub_cancel]))
    · skip
      refine lv_aload_n T.1 T.2.1 dX8_addsLocker_23 rfl (lv_at hl 0 rfl) ?_
      refine xv_iconst T dX8_addsLocker_24 ?_
      refine cI_V T hK hP hS 0 rfl rfl rfl (c_X8_hasSeals l K o N B SS TT F 1 (by omega) (by omega)) iX8_hasSeals mw_3_228 ⟨Nat.le_of_ble_eq_true rfl, Nat.le_of_ble_eq_true rfl⟩ hP noA rfl hl.1 rfl (Nat.le_of_ble_eq_true rfl) ⟨Nat.zero_le _, Nat.zero_le _⟩ dX8_addsLocker_25 (fun z3 _ H1 locs q4 hP1 hg1 hg2 hS => ?_)
      have hP := xP_kept hP hg2
      generalize H1 = H at hP hS ⊢
      clear hg1 hg2 hP1
      rcases q4 with ⟨rfl, q4⟩ | ⟨rfl, q4⟩
      · skip
        refine xv_if_ne T (by omega) (tgt := 34) dX8_addsLocker_28 (by decide) (fun _ => ?_) (fun c5 => absurd c5 (by omega))
        refine lv_aload_n T.1 T.2.1 dX8_addsLocker_34 rfl (lv_at hl 0 rfl) ?_
        refine lv_aload_n T.1 T.2.1 dX8_addsLocker_35 rfl (lv_at hl 0 rfl) ?_
        refine g8_now T hK hP 0 rfl rfl mw_3_172 dX8_addsLocker_36 ?_
        refine xv_iconst T dX8_addsLocker_39 ?_
        refine xa_iald T hK hP 1 rfl rfl 4 (by omega) (by omega) (by decide) dX8_addsLocker_40 ?_
        refine cV_V T hK hP hS 0 rfl rfl rfl (c_X8_seals l K o N B SS TT F (N 4) (by omega) (by omega)) iX8_seals mw_3_232 ⟨Nat.le_of_ble_eq_true rfl, Nat.le_of_ble_eq_true rfl⟩ hP (fun _ h => h) rfl hl.1 rfl (Nat.le_of_ble_eq_true rfl) ⟨Nat.zero_le _, Nat.zero_le _⟩ dX8_addsLocker_41 (fun N8 H1 locs q7 hP1 hg1 hg2 hS => ?_)
        have hP : xP K (mW K o N8 B SS TT F) H1 := hP1
        generalize H1 = H at hP hS ⊢
        clear hg1 hg2 hP1
        refine lv_aload_n T.1 T.2.1 dX8_addsLocker_44 rfl (lv_at hl 0 rfl) ?_
        refine g8_now T hK hP 0 rfl rfl mw_3_172 dX8_addsLocker_45 ?_
        refine xv_iconst T dX8_addsLocker_48 ?_
        refine lv_dup2_11 T.1 T.2.1 dX8_addsLocker_49 rfl rfl ?_
        refine xa_iald T hK hP 1 rfl rfl 4 (by omega) (by omega) (by decide) dX8_addsLocker_50 ?_
        refine xv_cv (b := N 4) (by rw [q7, sealsF_ne (by omega)]) ?_
        refine xv_iconst T dX8_addsLocker_51 ?_
        refine xv_iadd T dX8_addsLocker_52 ?_
        refine xa_iast T hK hP (m_D K o N8 B SS TT F) hS 1 rfl rfl (by omega) (by decide) dX8_addsLocker_53 (mu_N K o N8 B SS TT F (N 4 + 1) (by omega)) (fun H locs hP hS => ?_)
        obtain ⟨N9, hN9⟩ : ∃ M : Int → Int, M = uZ N8 4 (N 4 + 1) := ⟨_, rfl⟩
        have hP : xP K (mW K o N9 B SS TT F) H := by rw [hN9]; exact hP
        refine lv_aload_n T.1 T.2.1 dX8_addsLocker_54 rfl (lv_at hl 0 rfl) ?_
        refine g8_now T hK hP 0 rfl rfl mw_3_172 dX8_addsLocker_55 ?_
        refine xv_iconst T dX8_addsLocker_58 ?_
        refine xa_iald T hK hP 1 rfl rfl 4 (by omega) (by omega) (by decide) dX8_addsLocker_59 ?_
        refine xv_cv (b := N 4 + 1) (by rw [hN9, uZ_eq]) ?_
        refine xv_iconst T dX8_addsLocker_60 ?_
        refine xv_isub T dX8_addsLocker_61 ?_
        exact rI T (u := N9) hr hk hK hP hS dX8_addsLocker_62 (by subst hN9 q7; unfold sLocker; (repeat' split) <;> first | (exfalso; omega) | rfl | (rw [Int.add_sub_cancel]))
      · skip
        refine xv_if_ne T (by omega) (tgt := 34) dX8_addsLocker_28 (by decide) (fun c10 => absurd c10 (by omega)) (fun _ => ?_)
        refine xv_bipush T dX8_addsLocker_31 (by omega) ?_
        exact rI T (u := N) hr hk hK hP hS dX8_addsLocker_33 (by skip; unfold sLocker; (repeat' split) <;> first | (exfalso; omega) | rfl | (rw [Int.add_sub_cancel]))
  · skip
    refine xv_bipush T dX8_addsLocker_10 (by omega) ?_
    exact rI T (u := N) hr hk hK hP hS dX8_addsLocker_12 (by skip; unfold sLocker; (repeat' split) <;> first | (exfalso; omega) | rfl | (rw [Int.add_sub_cancel]))
set_option maxHeartbeats 4000000 in
set_option maxRecDepth 100000 in
theorem c_X8_addsGood (l : Launch) (K : KT) (o : Nat) (N B SS TT F : Int → Int) (dt : Int) (r_dt : -2147483648 ≤ dt ∧ dt ≤ 2147483647) (hI : Inv N) : CtI l yX8_addsGood cX8_addsGood 2 .int 2 42 K [.ref o, .int (iI dt)] (mW K o N B SS TT F) (Blk o 5) (fun (z : Int) (u : Int → Int) => (z, u) = sGood N dt) (fun u => mW K o u B SS TT F) := by
  refine CtI_of (by decide) (Nat.le_of_ble_eq_true rfl) ?_
  intro p e s m args below meth c T hr hk hP hK ls hl
  have T : CF p m c cX8_addsGood 2 s args RX8 := T
  have hS : va_S (Blk o 5) s.heap s.heap [] := va_S.rf
  have hl : lv_has ls 2 [(0, .ref o), (1, .int (iI dt))] := hl
  obtain ⟨hI0, hIL, hIH, hIB, hID, hIC, hIG, hIZ⟩ := id hI
  have hR : InR N := ⟨hI0, hIB⟩
  obtain ⟨b0, b1, b2, b3, b4, b5, b6, b7, b8, b9⟩ := id hI0
  refine lv_iload_n T.1 T.2.1 dX8_addsGood_0 rfl (lv_at hl 1 rfl) ?_
  refine cI_S T hK hP hS (c_X8_isDuty l K dt (by omega)) iX8_isDuty mw_4_8 ⟨Nat.le_of_ble_eq_true rfl, Nat.le_of_ble_eq_true rfl⟩ xP_nil noA rfl hl.1 rfl (Nat.le_of_ble_eq_true rfl) ⟨Nat.zero_le _, Nat.zero_le _⟩ dX8_addsGood_1 (fun z1 _ H1 locs q2 hP1 hg1 hg2 hS => ?_)
  have hP := xP_kept hP hg2
  generalize H1 = H at hP hS ⊢
  clear hg1 hg2 hP1
  rcases q2 with ⟨rfl, q2⟩ | ⟨rfl, q2⟩
  · skip
    refine xv_if_ne T (by omega) (tgt := 9) dX8_addsGood_4 (by decide) (fun _ => ?_) (fun c3 => absurd c3 (by omega))
    refine lv_aload_n T.1 T.2.1 dX8_addsGood_9 rfl (lv_at hl 0 rfl) ?_
    refine g8_now T hK hP 0 rfl rfl mw_3_172 dX8_addsGood_10 ?_
    refine xv_iconst T dX8_addsGood_13 ?_
    refine xa_iald T hK hP 1 rfl rfl 5 (by omega) (by omega) (by decide) dX8_addsGood_14 ?_
    refine xv_bipush T dX8_addsGood_15 (by omega) ?_
    refine xv_icmp_ne T (by omega) (tgt := 23) dX8_addsGood_17 (by decide) (fun c4 => ?_) (fun c4 => ?_)
    · skip
      refine lv_aload_n T.1 T.2.1 dX8_addsGood_23 rfl (lv_at hl 0 rfl) ?_
      refine g8_now T hK hP 0 rfl rfl mw_3_172 dX8_addsGood_24 ?_
      refine xv_bipush T dX8_addsGood_27 (by omega) ?_
      refine lv_aload_n T.1 T.2.1 dX8_addsGood_29 rfl (lv_at hl 0 rfl) ?_
      refine g8_now T hK hP 0 rfl rfl mw_3_172 dX8_addsGood_30 ?_
      refine xv_iconst T dX8_addsGood_33 ?_
      refine xa_iald T hK hP 1 rfl rfl 5 (by omega) (by omega) (by decide) dX8_addsGood_34 ?_
      refine xv_iadd T dX8_addsGood_35 ?_
      refine lv_iload_n T.1 T.2.1 dX8_addsGood_36 rfl (lv_at hl 1 rfl) ?_
      refine xa_iast T hK hP (m_D K o N B SS TT F) hS 1 rfl rfl (by omega) (by decide) dX8_addsGood_37 (mu_N K o N B SS TT F dt (by omega)) (fun H locs hP hS => ?_)
      obtain ⟨N5, hN5⟩ : ∃ M : Int → Int, M = uZ N (104 + (N 5)) dt := ⟨_, rfl⟩
      have hP : xP K (mW K o N5 B SS TT F) H := by rw [hN5]; exact hP
      rw [show 104 + (N 5) = 104 + N 5 by omega] at hN5
      refine lv_aload_n T.1 T.2.1 dX8_addsGood_38 rfl (lv_at hl 0 rfl) ?_
      refine g8_now T hK hP 0 rfl rfl mw_3_172 dX8_addsGood_39 ?_
      refine xv_iconst T dX8_addsGood_42 ?_
      refine lv_dup2_11 T.1 T.2.1 dX8_addsGood_43 rfl rfl ?_
      refine xa_iald T hK hP 1 rfl rfl 5 (by omega) (by omega) (by decide) dX8_addsGood_44 ?_
      refine xv_cv (b := N 5) (by rw [hN5, uZ_ne (by omega)]) ?_
      refine xv_iconst T dX8_addsGood_45 ?_
      refine xv_iadd T dX8_addsGood_46 ?_
      refine xa_iast T hK hP (m_D K o N5 B SS TT F) hS 1 rfl rfl (by omega) (by decide) dX8_addsGood_47 (mu_N K o N5 B SS TT F (N 5 + 1) (by omega)) (fun H locs hP hS => ?_)
      obtain ⟨N6, hN6⟩ : ∃ M : Int → Int, M = uZ N5 5 (N 5 + 1) := ⟨_, rfl⟩
      have hP : xP K (mW K o N6 B SS TT F) H := by rw [hN6]; exact hP
      refine lv_aload_n T.1 T.2.1 dX8_addsGood_48 rfl (lv_at hl 0 rfl) ?_
      refine g8_now T hK hP 0 rfl rfl mw_3_172 dX8_addsGood_49 ?_
      refine xv_iconst T dX8_addsGood_52 ?_
      refine xa_iald T hK hP 1 rfl rfl 5 (by omega) (by omega) (by decide) dX8_addsGood_53 ?_
      refine xv_cv (b := N 5 + 1) (by rw [hN6, uZ_eq]) ?_
      refine xv_iconst T dX8_addsGood_54 ?_
      refine xv_isub T dX8_addsGood_55 ?_
      exact rI T (u := N6) hr hk hK hP hS dX8_addsGood_56 (by subst hN6 hN5; unfold sGood; (repeat' split) <;> first | (exfalso; omega) | rfl | (rw [Int.add_sub_cancel]))
    · skip
      refine xv_bipush T dX8_addsGood_20 (by omega) ?_
      exact rI T (u := N) hr hk hK hP hS dX8_addsGood_22 (by skip; unfold sGood; (repeat' split) <;> first | (exfalso; omega) | rfl | (rw [Int.add_sub_cancel]))
  · skip
    refine xv_if_ne T (by omega) (tgt := 9) dX8_addsGood_4 (by decide) (fun c7 => absurd c7 (by omega)) (fun _ => ?_)
    refine xv_iconst T dX8_addsGood_7 ?_
    exact rI T (u := N) hr hk hK hP hS dX8_addsGood_8 (by skip; unfold sGood; (repeat' split) <;> first | (exfalso; omega) | rfl | (rw [Int.add_sub_cancel]))
set_option maxHeartbeats 4000000 in
set_option maxRecDepth 100000 in
theorem c_X8_loads (l : Launch) (K : KT) (o : Nat) (N B SS TT F : Int → Int) (lk gd un : Int) (r_lk : -2147483648 ≤ lk ∧ lk ≤ 2147483647) (r_gd : -2147483648 ≤ gd ∧ gd ≤ 2147483647) (r_un : -2147483648 ≤ un ∧ un ≤ 2147483647) (hI : Inv N) : CtI l yX8_loads cX8_loads 7 .int 3 66 K [.ref o, .int (iI lk), .int (iI gd), .int (iI un)] (mW K o N B SS TT F) (Blk o 5) (fun (z : Int) (u : Int → Int) => (z, u) = sLoad N lk gd un) (fun u => mW K o u B SS TT F) := by
  refine CtI_of (by decide) (Nat.le_of_ble_eq_true rfl) ?_
  intro p e s m args below meth c T hr hk hP hK ls hl
  have T : CF p m c cX8_loads 7 s args RX8 := T
  have hS : va_S (Blk o 5) s.heap s.heap [] := va_S.rf
  have hl : lv_has ls 7 [(0, .ref o), (1, .int (iI lk)), (2, .int (iI gd)), (3, .int (iI un))] := hl
  obtain ⟨hI0, hIL, hIH, hIB, hID, hIC, hIG, hIZ⟩ := id hI
  have hR : InR N := ⟨hI0, hIB⟩
  obtain ⟨b0, b1, b2, b3, b4, b5, b6, b7, b8, b9⟩ := id hI0
  refine lv_aload_n T.1 T.2.1 dX8_loads_0 rfl (lv_at hl 0 rfl) ?_
  refine lv_iload_n T.1 T.2.1 dX8_loads_1 rfl (lv_at hl 1 rfl) ?_
  refine lv_iload_n T.1 T.2.1 dX8_loads_2 rfl (lv_at hl 2 rfl) ?_
  refine lv_iload_n T.1 T.2.1 dX8_loads_3 rfl (lv_at hl 3 rfl) ?_
  refine cI_V T hK hP hS 0 rfl rfl rfl (c_X8_isMove l K o N B SS TT F lk gd un (by omega) (by omega) (by omega) hI) iX8_isMove mw_4_31 ⟨Nat.le_of_ble_eq_true rfl, Nat.le_of_ble_eq_true rfl⟩ hP noA rfl hl.1 rfl (Nat.le_of_ble_eq_true rfl) ⟨Nat.zero_le _, Nat.zero_le _⟩ dX8_loads_4 (fun z1 _ H1 locs q2 hP1 hg1 hg2 hS => ?_)
  have hP := xP_kept hP hg2
  generalize H1 = H at hP hS ⊢
  clear hg1 hg2 hP1
  rcases q2 with ⟨rfl, q2⟩ | ⟨rfl, q2⟩
  · skip
    refine xv_if_ne T (by omega) (tgt := 12) dX8_loads_7 (by decide) (fun _ => ?_) (fun c3 => absurd c3 (by omega))
    refine lv_aload_n T.1 T.2.1 dX8_loads_12 rfl (lv_at hl 0 rfl) ?_
    refine g8_now T hK hP 0 rfl rfl mw_3_172 dX8_loads_13 ?_
    refine xv_iconst T dX8_loads_16 ?_
    refine xa_iald T hK hP 1 rfl rfl 0 (by omega) (by omega) (by decide) dX8_loads_17 ?_
    refine xv_iconst T dX8_loads_18 ?_
    refine xv_icmp_ne T (by omega) (tgt := 35) dX8_loads_19 (by decide) (fun c4 => ?_) (fun c4 => ?_)
    · skip
      refine xv_bipush T dX8_loads_35 (by omega) ?_
      exact rI T (u := N) hr hk hK hP hS dX8_loads_37 (by skip; unfold sLoad; (repeat' split) <;> first | (exfalso; omega) | rfl)
    · skip
      refine lv_aload_n T.1 T.2.1 dX8_loads_22 rfl (lv_at hl 0 rfl) ?_
      refine g8_now T hK hP 0 rfl rfl mw_3_172 dX8_loads_23 ?_
      refine xv_bipush T dX8_loads_26 (by omega) ?_
      refine lv_iload_n T.1 T.2.1 dX8_loads_28 rfl (lv_at hl 1 rfl) ?_
      refine xv_iadd T dX8_loads_29 ?_
      refine xa_iald T hK hP 1 rfl rfl (14 + lk) (by omega) (by omega) (by decide) dX8_loads_30 ?_
      have f5 := hIL lk (by omega) (by omega)
      refine xv_iconst T dX8_loads_31 ?_
      refine xv_icmp_ne T (by omega) (tgt := 38) dX8_loads_32 (by decide) (fun c6 => ?_) (fun c6 => ?_)
      · skip
        refine lv_iload_n T.1 T.2.1 dX8_loads_38 rfl (lv_at hl 3 rfl) ?_
        refine xv_i2l T (by omega) dX8_loads_39 ?_
        refine lv_aload_n T.1 T.2.1 dX8_loads_40 rfl (lv_at hl 0 rfl) ?_
        refine g8_now T hK hP 0 rfl rfl mw_3_172 dX8_loads_41 ?_
        refine xv_bipush T dX8_loads_44 (by omega) ?_
        refine lv_iload_n T.1 T.2.1 dX8_loads_46 rfl (lv_at hl 2 rfl) ?_
        refine xv_iadd T dX8_loads_47 ?_
        refine xa_iald T hK hP 1 rfl rfl (104 + gd) (by omega) (by omega) (by decide) dX8_loads_48 ?_
        have f7 := hID gd (by omega) (by omega)
        refine xv_i2l T (by omega) dX8_loads_49 ?_
        refine xv_lmul T dX8_loads_50 ?_
        refine lv_lstore (lv' := [(4, .long (lI (un * (N (104 + gd))))), (0, .ref o), (1, .int (iI lk)), (2, .int (iI gd)), (3, .int (iI un))]) T.1 T.2.1 dX8_loads_51 hl (by decide) rfl (fun ls hl => ?_)
        have hp : 0 ≤ un * N (104 + gd) ∧ un * N (104 + gd) ≤ 9999 * 1000000 := ⟨Int.mul_nonneg (by omega) (by omega), Int.mul_le_mul (by omega) (by omega) (by omega) (by omega)⟩
        refine lv_aload_n T.1 T.2.1 dX8_loads_53 rfl (lv_at hl 1 rfl) ?_
        refine g8_now T hK hP 0 rfl rfl mw_3_172 dX8_loads_54 ?_
        refine xv_bipush T dX8_loads_57 (by omega) ?_
        refine xa_iald T hK hP 1 rfl rfl 6 (by omega) (by omega) (by decide) dX8_loads_59 ?_
        refine xv_bipush T dX8_loads_60 (by omega) ?_
        refine xv_icmp_eq T (by omega) (tgt := 112) dX8_loads_62 (by decide) (fun c8 => ?_) (fun c8 => ?_)
        · skip
          refine xv_bipush T dX8_loads_112 (by omega) ?_
          exact rI T (u := N) hr hk hK hP hS dX8_loads_114 (by skip; unfold sLoad; (repeat' split) <;> first | (exfalso; omega) | rfl)
        · skip
          refine lv_aload_n T.1 T.2.1 dX8_loads_65 rfl (lv_at hl 1 rfl) ?_
          refine xv_iconst T dX8_loads_66 ?_
          refine cI_V T hK hP hS 0 rfl rfl rfl (c_X8_hasSeals l K o N B SS TT F 1 (by omega) (by omega)) iX8_hasSeals mw_3_228 ⟨Nat.le_of_ble_eq_true rfl, Nat.le_of_ble_eq_true rfl⟩ hP noA rfl hl.1 rfl (Nat.le_of_ble_eq_true rfl) ⟨Nat.zero_le _, Nat.zero_le _⟩ dX8_loads_67 (fun z9 _ H1 locs q10 hP1 hg1 hg2 hS => ?_)
          have hP := xP_kept hP hg2
          generalize H1 = H at hP hS ⊢
          clear hg1 hg2 hP1
          rcases q10 with ⟨rfl, q10⟩ | ⟨rfl, q10⟩
          · skip
            refine xv_if_eq T (by omega) (tgt := 112) dX8_loads_70 (by decide) (fun c11 => absurd c11 (by omega)) (fun _ => ?_)
            refine lv_aload_n T.1 T.2.1 dX8_loads_73 rfl (lv_at hl 1 rfl) ?_
            refine g8_now T hK hP 0 rfl rfl mw_3_172 dX8_loads_74 ?_
            refine xv_bipush T dX8_loads_77 (by omega) ?_
            refine xv_bipush T dX8_loads_79 (by omega) ?_
            refine lv_iload_n T.1 T.2.1 dX8_loads_81 rfl (lv_at hl 2 rfl) ?_
            refine xv_imul T dX8_loads_82 ?_
            refine xv_iadd T dX8_loads_83 ?_
            refine lv_iload_n T.1 T.2.1 dX8_loads_84 rfl (lv_at hl 3 rfl) ?_
            refine xv_iadd T dX8_loads_85 ?_
            refine xa_iald T hK hP 1 rfl rfl (24 + 8 * lk + gd) (by omega) (by omega) (by decide) dX8_loads_86 ?_
            have f12 := hIH lk gd (by omega) (by omega) (by omega) (by omega)
            refine lv_iload_n T.1 T.2.1 dX8_loads_87 rfl (lv_at hl 4 rfl) ?_
            refine xv_iadd T dX8_loads_88 ?_
            refine xv_ldc T mw_4_39 (n := 99999) (by decide +kernel) dX8_loads_89 ?_
            refine xv_icmp_gt T (by omega) (tgt := 112) dX8_loads_91 (by decide) (fun c13 => ?_) (fun c13 => ?_)
            · skip
              refine xv_bipush T dX8_loads_112 (by omega) ?_
              exact rI T (u := N) hr hk hK hP hS dX8_loads_114 (by skip; unfold sLoad; (repeat' split) <;> first | (exfalso; omega) | rfl)
            · skip
              refine lv_aload_n T.1 T.2.1 dX8_loads_94 rfl (lv_at hl 1 rfl) ?_
              refine g8_now T hK hP 0 rfl rfl mw_3_172 dX8_loads_95 ?_
              refine xv_bipush T dX8_loads_98 (by omega) ?_
              refine xa_iald T hK hP 1 rfl rfl 9 (by omega) (by omega) (by decide) dX8_loads_100 ?_
              refine xv_i2l T (by omega) dX8_loads_101 ?_
              refine lv_lload T.1 T.2.1 dX8_loads_102 (lv_at hl 0 rfl) ?_
              refine xv_ladd T dX8_loads_104 ?_
              refine xv_ldc2 T mw_4_40 (n := 2147483647) (by decide +kernel) dX8_loads_105 ?_
              refine xv_lcmp_le T (tgt := 115) dX8_loads_108 dX8_loads_109 (by decide) (fun c14 => ?_) (fun c14 => ?_)
              · skip
                have c14 := (lI_le (by omega)).mp c14
                refine lv_aload_n T.1 T.2.1 dX8_loads_115 rfl (lv_at hl 1 rfl) ?_
                refine g8_now T hK hP 0 rfl rfl mw_3_172 dX8_loads_116 ?_
                refine xv_bipush T dX8_loads_119 (by omega) ?_
                refine xa_iald T hK hP 1 rfl rfl 6 (by omega) (by omega) (by decide) dX8_loads_121 ?_
                refine lv_istore (lv' := [(6, .int (iI (N 6))), (4, .long (lI (un * (N (104 + gd))))), (0, .ref o), (1, .int (iI lk)), (2, .int (iI gd)), (3, .int (iI un))]) T.1 T.2.1 dX8_loads_122 hl (by decide) rfl (fun ls hl => ?_)
                have fl := hIL lk (by omega) (by omega)
                refine lv_aload_n T.1 T.2.1 dX8_loads_124 rfl (lv_at hl 2 rfl) ?_
                refine lv_iload_n T.1 T.2.1 dX8_loads_125 rfl (lv_at hl 3 rfl) ?_
                refine xv_iconst T dX8_loads_126 ?_
                refine cV_V T hK hP hS 0 rfl rfl rfl (c_X8_takesOff l K o N B SS TT F lk 2 (by omega) (by omega) (by omega)) iX8_takesOff mw_4_41 ⟨Nat.le_of_ble_eq_true rfl, Nat.le_of_ble_eq_true rfl⟩ hP (fun _ h => h) rfl hl.1 rfl (Nat.le_of_ble_eq_true rfl) ⟨Nat.zero_le _, Nat.zero_le _⟩ dX8_loads_127 (fun N17 H1 locs q16 hP1 hg1 hg2 hS => ?_)
                have hP : xP K (mW K o N17 B SS TT F) H1 := hP1
                generalize H1 = H at hP hS ⊢
                clear hg1 hg2 hP1
                refine lv_aload_n T.1 T.2.1 dX8_loads_130 rfl (lv_at hl 2 rfl) ?_
                refine g8_now T hK hP 0 rfl rfl mw_3_172 dX8_loads_131 ?_
                refine xv_sipush T dX8_loads_134 (by omega) ?_
                refine lv_iload T.1 T.2.1 dX8_loads_137 (lv_at hl 0 rfl) ?_
                refine xv_iadd T dX8_loads_139 ?_
                refine lv_iload_n T.1 T.2.1 dX8_loads_140 rfl (lv_at hl 4 rfl) ?_
                refine xa_iast T hK hP (m_D K o N17 B SS TT F) hS 1 rfl rfl (by omega) (by decide) dX8_loads_141 (mu_N K o N17 B SS TT F gd (by omega)) (fun H locs hP hS => ?_)
                obtain ⟨N18, hN18⟩ : ∃ M : Int → Int, M = uZ N17 (152 + (N 6)) gd := ⟨_, rfl⟩
                have hP : xP K (mW K o N18 B SS TT F) H := by rw [hN18]; exact hP
                rw [show 152 + (N 6) = 152 + N 6 by omega] at hN18
                refine lv_aload_n T.1 T.2.1 dX8_loads_142 rfl (lv_at hl 2 rfl) ?_
                refine g8_now T hK hP 0 rfl rfl mw_3_172 dX8_loads_143 ?_
                refine xv_sipush T dX8_loads_146 (by omega) ?_
                refine lv_iload T.1 T.2.1 dX8_loads_149 (lv_at hl 0 rfl) ?_
                refine xv_iadd T dX8_loads_151 ?_
                refine lv_iload_n T.1 T.2.1 dX8_loads_152 rfl (lv_at hl 5 rfl) ?_
                refine xa_iast T hK hP (m_D K o N18 B SS TT F) hS 1 rfl rfl (by omega) (by decide) dX8_loads_153 (mu_N K o N18 B SS TT F un (by omega)) (fun H locs hP hS => ?_)
                obtain ⟨N19, hN19⟩ : ∃ M : Int → Int, M = uZ N18 (212 + (N 6)) un := ⟨_, rfl⟩
                have hP : xP K (mW K o N19 B SS TT F) H := by rw [hN19]; exact hP
                rw [show 212 + (N 6) = 212 + N 6 by omega] at hN19
                refine lv_aload_n T.1 T.2.1 dX8_loads_154 rfl (lv_at hl 2 rfl) ?_
                refine g8_now T hK hP 0 rfl rfl mw_3_172 dX8_loads_155 ?_
                refine xv_sipush T dX8_loads_158 (by omega) ?_
                refine lv_iload T.1 T.2.1 dX8_loads_161 (lv_at hl 0 rfl) ?_
                refine xv_iadd T dX8_loads_163 ?_
                refine lv_iload_n T.1 T.2.1 dX8_loads_164 rfl (lv_at hl 5 rfl) ?_
                refine xa_iast T hK hP (m_D K o N19 B SS TT F) hS 1 rfl rfl (by omega) (by decide) dX8_loads_165 (mu_N K o N19 B SS TT F un (by omega)) (fun H locs hP hS => ?_)
                obtain ⟨N20, hN20⟩ : ∃ M : Int → Int, M = uZ N19 (272 + (N 6)) un := ⟨_, rfl⟩
                have hP : xP K (mW K o N20 B SS TT F) H := by rw [hN20]; exact hP
                rw [show 272 + (N 6) = 272 + N 6 by omega] at hN20
                refine lv_aload_n T.1 T.2.1 dX8_loads_166 rfl (lv_at hl 2 rfl) ?_
                refine g8_now T hK hP 0 rfl rfl mw_3_172 dX8_loads_167 ?_
                refine xv_sipush T dX8_loads_170 (by omega) ?_
                refine lv_iload T.1 T.2.1 dX8_loads_173 (lv_at hl 0 rfl) ?_
                refine xv_iadd T dX8_loads_175 ?_
                refine lv_aload_n T.1 T.2.1 dX8_loads_176 rfl (lv_at hl 2 rfl) ?_
                refine g8_now T hK hP 0 rfl rfl mw_3_172 dX8_loads_177 ?_
                refine xv_bipush T dX8_loads_180 (by omega) ?_
                refine lv_iload_n T.1 T.2.1 dX8_loads_182 rfl (lv_at hl 4 rfl) ?_
                refine xv_iadd T dX8_loads_183 ?_
                refine xa_iald T hK hP 1 rfl rfl (104 + gd) (by omega) (by omega) (by decide) dX8_loads_184 ?_
                refine xv_cv (b := N (104 + gd)) (by rw [hN20, uZ_ne (by omega), hN19, uZ_ne (by omega), hN18, uZ_ne (by omega), q16, offF_ne (by omega)]) ?_
                refine xa_iast T hK hP (m_D K o N20 B SS TT F) hS 1 rfl rfl (by omega) (by decide) dX8_loads_185 (mu_N K o N20 B SS TT F (N (104 + gd)) (by omega)) (fun H locs hP hS => ?_)
                obtain ⟨N21, hN21⟩ : ∃ M : Int → Int, M = uZ N20 (332 + (N 6)) (N (104 + gd)) := ⟨_, rfl⟩
                have hP : xP K (mW K o N21 B SS TT F) H := by rw [hN21]; exact hP
                rw [show 332 + (N 6) = 332 + N 6 by omega] at hN21
                refine lv_aload_n T.1 T.2.1 dX8_loads_186 rfl (lv_at hl 2 rfl) ?_
                refine g8_now T hK hP 0 rfl rfl mw_3_172 dX8_loads_187 ?_
                refine xv_sipush T dX8_loads_190 (by omega) ?_
                refine lv_iload T.1 T.2.1 dX8_loads_193 (lv_at hl 0 rfl) ?_
                refine xv_iadd T dX8_loads_195 ?_
                refine lv_aload_n T.1 T.2.1 dX8_loads_196 rfl (lv_at hl 2 rfl) ?_
                refine g8_now T hK hP 0 rfl rfl mw_3_172 dX8_loads_197 ?_
                refine xv_iconst T dX8_loads_200 ?_
                refine xa_iald T hK hP 1 rfl rfl 1 (by omega) (by omega) (by decide) dX8_loads_201 ?_
                refine xv_cv (b := N 1) (by rw [hN21, uZ_ne (by omega), hN20, uZ_ne (by omega), hN19, uZ_ne (by omega), hN18, uZ_ne (by omega), q16, offF_ne (by omega)]) ?_
                refine lv_aload_n T.1 T.2.1 dX8_loads_202 rfl (lv_at hl 2 rfl) ?_
                refine g8_now T hK hP 0 rfl rfl mw_3_172 dX8_loads_203 ?_
                refine xv_iconst T dX8_loads_206 ?_
                refine xa_iald T hK hP 1 rfl rfl 3 (by omega) (by omega) (by decide) dX8_loads_207 ?_
                refine xv_cv (b := N 3) (by rw [hN21, uZ_ne (by omega), hN20, uZ_ne (by omega), hN19, uZ_ne (by omega), hN18, uZ_ne (by omega), q16, offF_ne (by omega)]) ?_
                refine xv_iadd T dX8_loads_208 ?_
                refine xa_iast T hK hP (m_D K o N21 B SS TT F) hS 1 rfl rfl (by omega) (by decide) dX8_loads_209 (mu_N K o N21 B SS TT F (N 1 + (N 3)) (by omega)) (fun H locs hP hS => ?_)
                obtain ⟨N22, hN22⟩ : ∃ M : Int → Int, M = uZ N21 (392 + (N 6)) (N 1 + (N 3)) := ⟨_, rfl⟩
                have hP : xP K (mW K o N22 B SS TT F) H := by rw [hN22]; exact hP
                rw [show 392 + (N 6) = 392 + N 6 by omega] at hN22
                refine lv_aload_n T.1 T.2.1 dX8_loads_210 rfl (lv_at hl 2 rfl) ?_
                refine g8_now T hK hP 0 rfl rfl mw_3_172 dX8_loads_211 ?_
                refine xv_bipush T dX8_loads_214 (by omega) ?_
                refine lv_dup2_11 T.1 T.2.1 dX8_loads_216 rfl rfl ?_
                refine xa_iald T hK hP 1 rfl rfl 6 (by omega) (by omega) (by decide) dX8_loads_217 ?_
                refine xv_cv (b := N 6) (by rw [hN22, uZ_ne (by omega), hN21, uZ_ne (by omega), hN20, uZ_ne (by omega), hN19, uZ_ne (by omega), hN18, uZ_ne (by omega), q16, offF_ne (by omega)]) ?_
                refine xv_iconst T dX8_loads_218 ?_
                refine xv_iadd T dX8_loads_219 ?_
                refine xa_iast T hK hP (m_D K o N22 B SS TT F) hS 1 rfl rfl (by omega) (by decide) dX8_loads_220 (mu_N K o N22 B SS TT F (N 6 + 1) (by omega)) (fun H locs hP hS => ?_)
                obtain ⟨N23, hN23⟩ : ∃ M : Int → Int, M = uZ N22 6 (N 6 + 1) := ⟨_, rfl⟩
                have hP : xP K (mW K o N23 B SS TT F) H := by rw [hN23]; exact hP
                refine lv_aload_n T.1 T.2.1 dX8_loads_221 rfl (lv_at hl 2 rfl) ?_
                refine g8_now T hK hP 0 rfl rfl mw_3_172 dX8_loads_222 ?_
                refine xv_bipush T dX8_loads_225 (by omega) ?_
                refine lv_dup2_11 T.1 T.2.1 dX8_loads_227 rfl rfl ?_
                refine xa_iald T hK hP 1 rfl rfl 9 (by omega) (by omega) (by decide) dX8_loads_228 ?_
                refine xv_cv (b := N 9) (by rw [hN23, uZ_ne (by omega), hN22, uZ_ne (by omega), hN21, uZ_ne (by omega), hN20, uZ_ne (by omega), hN19, uZ_ne (by omega), hN18, uZ_ne (by omega), q16, offF_ne (by omega)]) ?_
                refine lv_lload T.1 T.2.1 dX8_loads_229 (lv_at hl 1 rfl) ?_
                refine xv_l2i T dX8_loads_231 ?_
                refine xv_iadd T dX8_loads_232 ?_
                refine xa_iast T hK hP (m_D K o N23 B SS TT F) hS 1 rfl rfl (by omega) (by decide) dX8_loads_233 (mu_N K o N23 B SS TT F (N 9 + (un * (N (104 + gd)))) (by omega)) (fun H locs hP hS => ?_)
                obtain ⟨N24, hN24⟩ : ∃ M : Int → Int, M = uZ N23 9 (N 9 + (un * (N (104 + gd)))) := ⟨_, rfl⟩
                have hP : xP K (mW K o N24 B SS TT F) H := by rw [hN24]; exact hP
                refine lv_aload_n T.1 T.2.1 dX8_loads_234 rfl (lv_at hl 2 rfl) ?_
                refine g8_now T hK hP 0 rfl rfl mw_3_172 dX8_loads_235 ?_
                refine xv_bipush T dX8_loads_238 (by omega) ?_
                refine lv_iload_n T.1 T.2.1 dX8_loads_240 rfl (lv_at hl 4 rfl) ?_
                refine xv_iadd T dX8_loads_241 ?_
                refine lv_dup2_11 T.1 T.2.1 dX8_loads_242 rfl rfl ?_
                refine xa_iald T hK hP 1 rfl rfl (112 + gd) (by omega) (by omega) (by decide) dX8_loads_243 ?_
                refine xv_cv (b := N (112 + gd)) (by rw [hN24, uZ_ne (by omega), hN23, uZ_ne (by omega), hN22, uZ_ne (by omega), hN21, uZ_ne (by omega), hN20, uZ_ne (by omega), hN19, uZ_ne (by omega), hN18, uZ_ne (by omega), q16, offF_ne (by omega)]) ?_
                refine lv_iload_n T.1 T.2.1 dX8_loads_244 rfl (lv_at hl 5 rfl) ?_
                refine xv_iadd T dX8_loads_245 ?_
                refine xa_iast T hK hP (m_D K o N24 B SS TT F) hS 1 rfl rfl (by omega) (by decide) dX8_loads_246 (mu_N K o N24 B SS TT F (N (112 + gd) + un) (by omega)) (fun H locs hP hS => ?_)
                obtain ⟨N25, hN25⟩ : ∃ M : Int → Int, M = uZ N24 (112 + gd) (N (112 + gd) + un) := ⟨_, rfl⟩
                have hP : xP K (mW K o N25 B SS TT F) H := by rw [hN25]; exact hP
                refine lv_aload_n T.1 T.2.1 dX8_loads_247 rfl (lv_at hl 2 rfl) ?_
                refine g8_now T hK hP 0 rfl rfl mw_3_172 dX8_loads_248 ?_
                refine xv_bipush T dX8_loads_251 (by omega) ?_
                refine xv_bipush T dX8_loads_253 (by omega) ?_
                refine lv_iload_n T.1 T.2.1 dX8_loads_255 rfl (lv_at hl 3 rfl) ?_
                refine xv_imul T dX8_loads_256 ?_
                refine xv_iadd T dX8_loads_257 ?_
                refine lv_iload_n T.1 T.2.1 dX8_loads_258 rfl (lv_at hl 4 rfl) ?_
                refine xv_iadd T dX8_loads_259 ?_
                refine lv_dup2_11 T.1 T.2.1 dX8_loads_260 rfl rfl ?_
                refine xa_iald T hK hP 1 rfl rfl (24 + 8 * lk + gd) (by omega) (by omega) (by decide) dX8_loads_261 ?_
                refine xv_cv (b := N (24 + 8 * lk + gd)) (by rw [hN25, uZ_ne (by omega), hN24, uZ_ne (by omega), hN23, uZ_ne (by omega), hN22, uZ_ne (by omega), hN21, uZ_ne (by omega), hN20, uZ_ne (by omega), hN19, uZ_ne (by omega), hN18, uZ_ne (by omega), q16, offF_ne (by omega)]) ?_
                refine lv_iload_n T.1 T.2.1 dX8_loads_262 rfl (lv_at hl 5 rfl) ?_
                refine xv_iadd T dX8_loads_263 ?_
                refine xa_iast T hK hP (m_D K o N25 B SS TT F) hS 1 rfl rfl (by omega) (by decide) dX8_loads_264 (mu_N K o N25 B SS TT F (N (24 + 8 * lk + gd) + un) (by omega)) (fun H locs hP hS => ?_)
                obtain ⟨N26, hN26⟩ : ∃ M : Int → Int, M = uZ N25 (24 + (8 * lk) + gd) (N (24 + 8 * lk + gd) + un) := ⟨_, rfl⟩
                have hP : xP K (mW K o N26 B SS TT F) H := by rw [hN26]; exact hP
                rw [show 24 + (8 * lk) + gd = 24 + 8 * lk + gd by omega] at hN26
                refine lv_aload_n T.1 T.2.1 dX8_loads_265 rfl (lv_at hl 2 rfl) ?_
                refine lv_iload_n T.1 T.2.1 dX8_loads_266 rfl (lv_at hl 3 rfl) ?_
                refine cV_V T hK hP hS 0 rfl rfl rfl (c_X8_seals l K o N26 B SS TT F lk (by omega) (by rw [hN26, uZ_ne (by omega), hN25, uZ_ne (by omega), hN24, uZ_ne (by omega), hN23, uZ_ne (by omega), hN22, uZ_ne (by omega), hN21, uZ_ne (by omega), hN20, uZ_ne (by omega), hN19, uZ_ne (by omega), hN18, uZ_ne (by omega), q16, offF_ne (by omega)]; omega)) iX8_seals mw_3_232 ⟨Nat.le_of_ble_eq_true rfl, Nat.le_of_ble_eq_true rfl⟩ hP (fun _ h => h) rfl hl.1 rfl (Nat.le_of_ble_eq_true rfl) ⟨Nat.zero_le _, Nat.zero_le _⟩ dX8_loads_267 (fun N29 H1 locs q28 hP1 hg1 hg2 hS => ?_)
                have hP : xP K (mW K o N29 B SS TT F) H1 := hP1
                generalize H1 = H at hP hS ⊢
                clear hg1 hg2 hP1
                refine lv_iload T.1 T.2.1 dX8_loads_270 (lv_at hl 0 rfl) ?_
                exact rI T (u := N29) hr hk hK hP hS dX8_loads_272 (by subst q28 hN26 hN25 hN24 hN23 hN22 hN21 hN20 hN19 hN18 q16; unfold sLoad; (repeat' split) <;> first | (exfalso; omega) | rfl)
              · skip
                have c14 : ¬ (N 9 + (un * (N (104 + gd))) ≤ 2147483647) := fun q => c14 ((lI_le (by omega)).mpr q)
                refine xv_bipush T dX8_loads_112 (by omega) ?_
                exact rI T (u := N) hr hk hK hP hS dX8_loads_114 (by skip; unfold sLoad; (repeat' split) <;> first | (exfalso; omega) | rfl)
          · skip
            refine xv_if_eq T (by omega) (tgt := 112) dX8_loads_70 (by decide) (fun _ => ?_) (fun c30 => absurd c30 (by omega))
            refine xv_bipush T dX8_loads_112 (by omega) ?_
            exact rI T (u := N) hr hk hK hP hS dX8_loads_114 (by skip; unfold sLoad; (repeat' split) <;> first | (exfalso; omega) | rfl)
      · skip
        refine xv_bipush T dX8_loads_35 (by omega) ?_
        exact rI T (u := N) hr hk hK hP hS dX8_loads_37 (by skip; unfold sLoad; (repeat' split) <;> first | (exfalso; omega) | rfl)
  · skip
    refine xv_if_ne T (by omega) (tgt := 12) dX8_loads_7 (by decide) (fun c31 => absurd c31 (by omega)) (fun _ => ?_)
    refine xv_iconst T dX8_loads_10 ?_
    exact rI T (u := N) hr hk hK hP hS dX8_loads_11 (by skip; unfold sLoad; (repeat' split) <;> first | (exfalso; omega) | rfl)
set_option maxHeartbeats 4000000 in
set_option maxRecDepth 100000 in
theorem c_X8_uses (l : Launch) (K : KT) (o : Nat) (N B SS TT F : Int → Int) (lk gd un : Int) (r_lk : -2147483648 ≤ lk ∧ lk ≤ 2147483647) (r_gd : -2147483648 ≤ gd ∧ gd ≤ 2147483647) (r_un : -2147483648 ≤ un ∧ un ≤ 2147483647) (hI : Inv N) : CtI l yX8_uses cX8_uses 5 .int 3 66 K [.ref o, .int (iI lk), .int (iI gd), .int (iI un)] (mW K o N B SS TT F) (Blk o 5) (fun (z : Int) (u : Int → Int) => (z, u) = sUse N lk gd un) (fun u => mW K o u B SS TT F) := by
  refine CtI_of (by decide) (Nat.le_of_ble_eq_true rfl) ?_
  intro p e s m args below meth c T hr hk hP hK ls hl
  have T : CF p m c cX8_uses 5 s args RX8 := T
  have hS : va_S (Blk o 5) s.heap s.heap [] := va_S.rf
  have hl : lv_has ls 5 [(0, .ref o), (1, .int (iI lk)), (2, .int (iI gd)), (3, .int (iI un))] := hl
  obtain ⟨hI0, hIL, hIH, hIB, hID, hIC, hIG, hIZ⟩ := id hI
  have hR : InR N := ⟨hI0, hIB⟩
  obtain ⟨b0, b1, b2, b3, b4, b5, b6, b7, b8, b9⟩ := id hI0
  refine lv_aload_n T.1 T.2.1 dX8_uses_0 rfl (lv_at hl 0 rfl) ?_
  refine lv_iload_n T.1 T.2.1 dX8_uses_1 rfl (lv_at hl 1 rfl) ?_
  refine lv_iload_n T.1 T.2.1 dX8_uses_2 rfl (lv_at hl 2 rfl) ?_
  refine lv_iload_n T.1 T.2.1 dX8_uses_3 rfl (lv_at hl 3 rfl) ?_
  refine cI_V T hK hP hS 0 rfl rfl rfl (c_X8_isMove l K o N B SS TT F lk gd un (by omega) (by omega) (by omega) hI) iX8_isMove mw_4_31 ⟨Nat.le_of_ble_eq_true rfl, Nat.le_of_ble_eq_true rfl⟩ hP noA rfl hl.1 rfl (Nat.le_of_ble_eq_true rfl) ⟨Nat.zero_le _, Nat.zero_le _⟩ dX8_uses_4 (fun z1 _ H1 locs q2 hP1 hg1 hg2 hS => ?_)
  have hP := xP_kept hP hg2
  generalize H1 = H at hP hS ⊢
  clear hg1 hg2 hP1
  rcases q2 with ⟨rfl, q2⟩ | ⟨rfl, q2⟩
  · skip
    refine xv_if_ne T (by omega) (tgt := 12) dX8_uses_7 (by decide) (fun _ => ?_) (fun c3 => absurd c3 (by omega))
    refine xv_bipush T dX8_uses_12 (by omega) ?_
    refine xv_bipush T dX8_uses_14 (by omega) ?_
    refine lv_iload_n T.1 T.2.1 dX8_uses_16 rfl (lv_at hl 1 rfl) ?_
    refine xv_imul T dX8_uses_17 ?_
    refine xv_iadd T dX8_uses_18 ?_
    refine lv_iload_n T.1 T.2.1 dX8_uses_19 rfl (lv_at hl 2 rfl) ?_
    refine xv_iadd T dX8_uses_20 ?_
    refine lv_istore (lv' := [(4, .int (iI (24 + (8 * lk) + gd))), (0, .ref o), (1, .int (iI lk)), (2, .int (iI gd)), (3, .int (iI un))]) T.1 T.2.1 dX8_uses_21 hl (by decide) rfl (fun ls hl => ?_)
    refine lv_aload_n T.1 T.2.1 dX8_uses_23 rfl (lv_at hl 1 rfl) ?_
    refine g8_now T hK hP 0 rfl rfl mw_3_172 dX8_uses_24 ?_
    refine xv_iconst T dX8_uses_27 ?_
    refine xa_iald T hK hP 1 rfl rfl 0 (by omega) (by omega) (by decide) dX8_uses_28 ?_
    refine xv_if_ne T (by omega) (tgt := 43) dX8_uses_29 (by decide) (fun c4 => ?_) (fun c4 => ?_)
    · skip
      refine xv_bipush T dX8_uses_43 (by omega) ?_
      exact rI T (u := N) hr hk hK hP hS dX8_uses_45 (by skip; unfold sUse; (repeat' split) <;> first | (exfalso; omega) | rfl)
    · skip
      refine lv_aload_n T.1 T.2.1 dX8_uses_32 rfl (lv_at hl 1 rfl) ?_
      refine g8_now T hK hP 0 rfl rfl mw_3_172 dX8_uses_33 ?_
      refine lv_iload T.1 T.2.1 dX8_uses_36 (lv_at hl 0 rfl) ?_
      refine xa_iald T hK hP 1 rfl rfl (24 + 8 * lk + gd) (by omega) (by omega) (by decide) dX8_uses_38 ?_
      have f5 := hIH lk gd (by omega) (by omega) (by omega) (by omega)
      refine lv_iload_n T.1 T.2.1 dX8_uses_39 rfl (lv_at hl 4 rfl) ?_
      refine xv_icmp_ge T (by omega) (tgt := 46) dX8_uses_40 (by decide) (fun c6 => ?_) (fun c6 => ?_)
      · skip
        refine lv_aload_n T.1 T.2.1 dX8_uses_46 rfl (lv_at hl 1 rfl) ?_
        refine g8_now T hK hP 0 rfl rfl mw_3_172 dX8_uses_47 ?_
        refine lv_iload T.1 T.2.1 dX8_uses_50 (lv_at hl 0 rfl) ?_
        refine lv_dup2_11 T.1 T.2.1 dX8_uses_52 rfl rfl ?_
        refine xa_iald T hK hP 1 rfl rfl (24 + 8 * lk + gd) (by omega) (by omega) (by decide) dX8_uses_53 ?_
        refine lv_iload_n T.1 T.2.1 dX8_uses_54 rfl (lv_at hl 4 rfl) ?_
        refine xv_isub T dX8_uses_55 ?_
        refine xa_iast T hK hP (m_D K o N B SS TT F) hS 1 rfl rfl (by omega) (by decide) dX8_uses_56 (mu_N K o N B SS TT F (N (24 + 8 * lk + gd) - un) (by omega)) (fun H locs hP hS => ?_)
        obtain ⟨N7, hN7⟩ : ∃ M : Int → Int, M = uZ N (24 + (8 * lk) + gd) (N (24 + 8 * lk + gd) - un) := ⟨_, rfl⟩
        have hP : xP K (mW K o N7 B SS TT F) H := by rw [hN7]; exact hP
        rw [show 24 + (8 * lk) + gd = 24 + 8 * lk + gd by omega] at hN7
        have hrs := has_rest hI (l := lk) (g := gd) (by omega) (by omega)
        refine lv_aload_n T.1 T.2.1 dX8_uses_57 rfl (lv_at hl 1 rfl) ?_
        refine lv_iload_n T.1 T.2.1 dX8_uses_58 rfl (lv_at hl 3 rfl) ?_
        refine lv_iload_n T.1 T.2.1 dX8_uses_59 rfl (lv_at hl 4 rfl) ?_
        refine xv_iconst T dX8_uses_60 ?_
        refine cI_V T hK hP hS 0 rfl rfl rfl (c_X8_releases l K o N7 B SS TT F gd un 0 (by omega) (by omega) (by omega) (by rw [hN7, rest_has gd (by omega) (by omega)]; omega) (by rw [hN7]; exact inR_has hR (by omega))) iX8_releases mw_4_81 ⟨Nat.le_of_ble_eq_true rfl, Nat.le_of_ble_eq_true rfl⟩ hP (fun _ h => h) rfl hl.1 rfl (Nat.le_of_ble_eq_true rfl) ⟨Nat.zero_le _, Nat.zero_le _⟩ dX8_uses_61 (fun bvz Nz H1 locs qzz hP1 hg1 hg2 hS => ?_)
        have hP : xP K (mW K o Nz B SS TT F) H1 := hP1
        generalize H1 = H at hP hS ⊢
        clear hg1 hg2 hP1
        obtain ⟨hvz, hNz⟩ := qzz
        subst hvz
        exact rI T (u := Nz) hr hk hK hP hS dX8_uses_64 (by subst hNz hN7; unfold sUse; (repeat' split) <;> first | (exfalso; omega) | rfl)
      · skip
        refine xv_bipush T dX8_uses_43 (by omega) ?_
        exact rI T (u := N) hr hk hK hP hS dX8_uses_45 (by skip; unfold sUse; (repeat' split) <;> first | (exfalso; omega) | rfl)
  · skip
    refine xv_if_ne T (by omega) (tgt := 12) dX8_uses_7 (by decide) (fun c8 => absurd c8 (by omega)) (fun _ => ?_)
    refine xv_iconst T dX8_uses_10 ?_
    exact rI T (u := N) hr hk hK hP hS dX8_uses_11 (by skip; unfold sUse; (repeat' split) <;> first | (exfalso; omega) | rfl)
set_option maxHeartbeats 4000000 in
set_option maxRecDepth 100000 in
theorem c_X8_brings (l : Launch) (K : KT) (o : Nat) (N B SS TT F : Int → Int) (lk gd un : Int) (r_lk : -2147483648 ≤ lk ∧ lk ≤ 2147483647) (r_gd : -2147483648 ≤ gd ∧ gd ≤ 2147483647) (r_un : -2147483648 ≤ un ∧ un ≤ 2147483647) (hI : Inv N) : CtI l yX8_brings cX8_brings 5 .int 3 66 K [.ref o, .int (iI lk), .int (iI gd), .int (iI un)] (mW K o N B SS TT F) (Blk o 5) (fun (z : Int) (u : Int → Int) => (z, u) = sBring N lk gd un) (fun u => mW K o u B SS TT F) := by
  refine CtI_of (by decide) (Nat.le_of_ble_eq_true rfl) ?_
  intro p e s m args below meth c T hr hk hP hK ls hl
  have T : CF p m c cX8_brings 5 s args RX8 := T
  have hS : va_S (Blk o 5) s.heap s.heap [] := va_S.rf
  have hl : lv_has ls 5 [(0, .ref o), (1, .int (iI lk)), (2, .int (iI gd)), (3, .int (iI un))] := hl
  obtain ⟨hI0, hIL, hIH, hIB, hID, hIC, hIG, hIZ⟩ := id hI
  have hR : InR N := ⟨hI0, hIB⟩
  obtain ⟨b0, b1, b2, b3, b4, b5, b6, b7, b8, b9⟩ := id hI0
  refine lv_aload_n T.1 T.2.1 dX8_brings_0 rfl (lv_at hl 0 rfl) ?_
  refine lv_iload_n T.1 T.2.1 dX8_brings_1 rfl (lv_at hl 1 rfl) ?_
  refine lv_iload_n T.1 T.2.1 dX8_brings_2 rfl (lv_at hl 2 rfl) ?_
  refine lv_iload_n T.1 T.2.1 dX8_brings_3 rfl (lv_at hl 3 rfl) ?_
  refine cI_V T hK hP hS 0 rfl rfl rfl (c_X8_isMove l K o N B SS TT F lk gd un (by omega) (by omega) (by omega) hI) iX8_isMove mw_4_31 ⟨Nat.le_of_ble_eq_true rfl, Nat.le_of_ble_eq_true rfl⟩ hP noA rfl hl.1 rfl (Nat.le_of_ble_eq_true rfl) ⟨Nat.zero_le _, Nat.zero_le _⟩ dX8_brings_4 (fun z1 _ H1 locs q2 hP1 hg1 hg2 hS => ?_)
  have hP := xP_kept hP hg2
  generalize H1 = H at hP hS ⊢
  clear hg1 hg2 hP1
  rcases q2 with ⟨rfl, q2⟩ | ⟨rfl, q2⟩
  · skip
    refine xv_if_ne T (by omega) (tgt := 12) dX8_brings_7 (by decide) (fun _ => ?_) (fun c3 => absurd c3 (by omega))
    refine xv_bipush T dX8_brings_12 (by omega) ?_
    refine xv_bipush T dX8_brings_14 (by omega) ?_
    refine lv_iload_n T.1 T.2.1 dX8_brings_16 rfl (lv_at hl 1 rfl) ?_
    refine xv_imul T dX8_brings_17 ?_
    refine xv_iadd T dX8_brings_18 ?_
    refine lv_iload_n T.1 T.2.1 dX8_brings_19 rfl (lv_at hl 2 rfl) ?_
    refine xv_iadd T dX8_brings_20 ?_
    refine lv_istore (lv' := [(4, .int (iI (24 + (8 * lk) + gd))), (0, .ref o), (1, .int (iI lk)), (2, .int (iI gd)), (3, .int (iI un))]) T.1 T.2.1 dX8_brings_21 hl (by decide) rfl (fun ls hl => ?_)
    refine lv_aload_n T.1 T.2.1 dX8_brings_23 rfl (lv_at hl 1 rfl) ?_
    refine g8_now T hK hP 0 rfl rfl mw_3_172 dX8_brings_24 ?_
    refine xv_iconst T dX8_brings_27 ?_
    refine xa_iald T hK hP 1 rfl rfl 0 (by omega) (by omega) (by decide) dX8_brings_28 ?_
    refine xv_iconst T dX8_brings_29 ?_
    refine xv_icmp_ne T (by omega) (tgt := 57) dX8_brings_30 (by decide) (fun c4 => ?_) (fun c4 => ?_)
    · skip
      refine xv_bipush T dX8_brings_57 (by omega) ?_
      exact rI T (u := N) hr hk hK hP hS dX8_brings_59 (by skip; unfold sBring; (repeat' split) <;> first | (exfalso; omega) | rfl)
    · skip
      refine lv_aload_n T.1 T.2.1 dX8_brings_33 rfl (lv_at hl 1 rfl) ?_
      refine g8_now T hK hP 0 rfl rfl mw_3_172 dX8_brings_34 ?_
      refine xv_bipush T dX8_brings_37 (by omega) ?_
      refine lv_iload_n T.1 T.2.1 dX8_brings_39 rfl (lv_at hl 2 rfl) ?_
      refine xv_iadd T dX8_brings_40 ?_
      refine xa_iald T hK hP 1 rfl rfl (14 + lk) (by omega) (by omega) (by decide) dX8_brings_41 ?_
      have f5 := hIL lk (by omega) (by omega)
      refine xv_iconst T dX8_brings_42 ?_
      refine xv_icmp_eq T (by omega) (tgt := 57) dX8_brings_43 (by decide) (fun c6 => ?_) (fun c6 => ?_)
      · skip
        refine xv_bipush T dX8_brings_57 (by omega) ?_
        exact rI T (u := N) hr hk hK hP hS dX8_brings_59 (by skip; unfold sBring; (repeat' split) <;> first | (exfalso; omega) | rfl)
      · skip
        refine lv_aload_n T.1 T.2.1 dX8_brings_46 rfl (lv_at hl 1 rfl) ?_
        refine g8_now T hK hP 0 rfl rfl mw_3_172 dX8_brings_47 ?_
        refine lv_iload T.1 T.2.1 dX8_brings_50 (lv_at hl 0 rfl) ?_
        refine xa_iald T hK hP 1 rfl rfl (24 + 8 * lk + gd) (by omega) (by omega) (by decide) dX8_brings_52 ?_
        have f7 := hIH lk gd (by omega) (by omega) (by omega) (by omega)
        refine lv_iload_n T.1 T.2.1 dX8_brings_53 rfl (lv_at hl 4 rfl) ?_
        refine xv_icmp_ge T (by omega) (tgt := 60) dX8_brings_54 (by decide) (fun c8 => ?_) (fun c8 => ?_)
        · skip
          refine lv_aload_n T.1 T.2.1 dX8_brings_60 rfl (lv_at hl 1 rfl) ?_
          refine xv_iconst T dX8_brings_61 ?_
          refine cI_V T hK hP hS 0 rfl rfl rfl (c_X8_hasSeals l K o N B SS TT F 1 (by omega) (by omega)) iX8_hasSeals mw_3_228 ⟨Nat.le_of_ble_eq_true rfl, Nat.le_of_ble_eq_true rfl⟩ hP noA rfl hl.1 rfl (Nat.le_of_ble_eq_true rfl) ⟨Nat.zero_le _, Nat.zero_le _⟩ dX8_brings_62 (fun z9 _ H1 locs q10 hP1 hg1 hg2 hS => ?_)
          have hP := xP_kept hP hg2
          generalize H1 = H at hP hS ⊢
          clear hg1 hg2 hP1
          rcases q10 with ⟨rfl, q10⟩ | ⟨rfl, q10⟩
          · skip
            refine xv_if_ne T (by omega) (tgt := 71) dX8_brings_65 (by decide) (fun _ => ?_) (fun c11 => absurd c11 (by omega))
            have fl := hIL lk (by omega) (by omega)
            have hrs := has_rest hI (l := lk) (g := gd) (by omega) (by omega)
            refine lv_aload_n T.1 T.2.1 dX8_brings_71 rfl (lv_at hl 1 rfl) ?_
            refine lv_iload_n T.1 T.2.1 dX8_brings_72 rfl (lv_at hl 2 rfl) ?_
            refine xv_iconst T dX8_brings_73 ?_
            refine cV_V T hK hP hS 0 rfl rfl rfl (c_X8_takesOff l K o N B SS TT F lk 2 (by omega) (by omega) (by omega)) iX8_takesOff mw_4_41 ⟨Nat.le_of_ble_eq_true rfl, Nat.le_of_ble_eq_true rfl⟩ hP (fun _ h => h) rfl hl.1 rfl (Nat.le_of_ble_eq_true rfl) ⟨Nat.zero_le _, Nat.zero_le _⟩ dX8_brings_74 (fun Na H1 locs qa hP1 hg1 hg2 hS => ?_)
            have hP : xP K (mW K o Na B SS TT F) H1 := hP1
            generalize H1 = H at hP hS ⊢
            clear hg1 hg2 hP1
            refine lv_aload_n T.1 T.2.1 dX8_brings_77 rfl (lv_at hl 1 rfl) ?_
            refine g8_now T hK hP 0 rfl rfl mw_3_172 dX8_brings_78 ?_
            refine lv_iload T.1 T.2.1 dX8_brings_81 (lv_at hl 0 rfl) ?_
            refine lv_dup2_11 T.1 T.2.1 dX8_brings_83 rfl rfl ?_
            refine xa_iald T hK hP 1 rfl rfl (24 + 8 * lk + gd) (by omega) (by omega) (by decide) dX8_brings_84 ?_
            refine xv_cv (b := N (24 + 8 * lk + gd)) (by rw [qa, offF_ne (by omega)]) ?_
            refine lv_iload_n T.1 T.2.1 dX8_brings_85 rfl (lv_at hl 4 rfl) ?_
            refine xv_isub T dX8_brings_86 ?_
            refine xa_iast T hK hP (m_D K o Na B SS TT F) hS 1 rfl rfl (by omega) (by decide) dX8_brings_87 (mu_N K o Na B SS TT F (N (24 + 8 * lk + gd) - un) (by omega)) (fun H locs hP hS => ?_)
            obtain ⟨Nb, hNb⟩ : ∃ M : Int → Int, M = uZ Na (24 + (8 * lk) + gd) (N (24 + 8 * lk + gd) - un) := ⟨_, rfl⟩
            have hP : xP K (mW K o Nb B SS TT F) H := by rw [hNb]; exact hP
            rw [show 24 + (8 * lk) + gd = 24 + 8 * lk + gd by omega] at hNb
            refine lv_aload_n T.1 T.2.1 dX8_brings_88 rfl (lv_at hl 1 rfl) ?_
            refine lv_iload_n T.1 T.2.1 dX8_brings_89 rfl (lv_at hl 2 rfl) ?_
            refine cV_V T hK hP hS 0 rfl rfl rfl (c_X8_seals l K o Nb B SS TT F lk (by omega) (by rw [hNb, uZ_ne (by omega), qa, offF_ne (by omega)]; omega)) iX8_seals mw_3_232 ⟨Nat.le_of_ble_eq_true rfl, Nat.le_of_ble_eq_true rfl⟩ hP (fun _ h => h) rfl hl.1 rfl (Nat.le_of_ble_eq_true rfl) ⟨Nat.zero_le _, Nat.zero_le _⟩ dX8_brings_90 (fun Nc H1 locs qc hP1 hg1 hg2 hS => ?_)
            have hP : xP K (mW K o Nc B SS TT F) H1 := hP1
            generalize H1 = H at hP hS ⊢
            clear hg1 hg2 hP1
            refine lv_aload_n T.1 T.2.1 dX8_brings_93 rfl (lv_at hl 1 rfl) ?_
            refine lv_iload_n T.1 T.2.1 dX8_brings_94 rfl (lv_at hl 3 rfl) ?_
            refine lv_iload_n T.1 T.2.1 dX8_brings_95 rfl (lv_at hl 4 rfl) ?_
            refine xv_iconst T dX8_brings_96 ?_
            refine cI_V T hK hP hS 0 rfl rfl rfl (c_X8_releases l K o Nc B SS TT F gd un 1 (by omega) (by omega) (by omega) (by rw [qc, hNb, qa, sealsF_rest (inR_has (offF_R hR (by omega) (by omega)) (by omega)) (by omega), rest_has gd (by omega) (by rw [offF_ne (by omega)]; omega), offF_rest hR (by omega) (by omega)]; omega) (by rw [qc, hNb, qa]; exact sealsF_R (inR_has (offF_R hR (by omega) (by omega)) (by omega)) (by omega) (by rw [uZ_ne (by omega), offF_ne (by omega)]; omega))) iX8_releases mw_4_81 ⟨Nat.le_of_ble_eq_true rfl, Nat.le_of_ble_eq_true rfl⟩ hP (fun _ h => h) rfl hl.1 rfl (Nat.le_of_ble_eq_true rfl) ⟨Nat.zero_le _, Nat.zero_le _⟩ dX8_brings_97 (fun bvz Nz H1 locs qzz hP1 hg1 hg2 hS => ?_)
            have hP : xP K (mW K o Nz B SS TT F) H1 := hP1
            generalize H1 = H at hP hS ⊢
            clear hg1 hg2 hP1
            obtain ⟨hvz, hNz⟩ := qzz
            subst hvz
            exact rI T (u := Nz) hr hk hK hP hS dX8_brings_100 (by subst hNz qc hNb qa; unfold sBring; (repeat' split) <;> first | (exfalso; omega) | rfl)
          · skip
            refine xv_if_ne T (by omega) (tgt := 71) dX8_brings_65 (by decide) (fun c14 => absurd c14 (by omega)) (fun _ => ?_)
            refine xv_bipush T dX8_brings_68 (by omega) ?_
            exact rI T (u := N) hr hk hK hP hS dX8_brings_70 (by skip; unfold sBring; (repeat' split) <;> first | (exfalso; omega) | rfl)
        · skip
          refine xv_bipush T dX8_brings_57 (by omega) ?_
          exact rI T (u := N) hr hk hK hP hS dX8_brings_59 (by skip; unfold sBring; (repeat' split) <;> first | (exfalso; omega) | rfl)
  · skip
    refine xv_if_ne T (by omega) (tgt := 12) dX8_brings_7 (by decide) (fun c15 => absurd c15 (by omega)) (fun _ => ?_)
    refine xv_iconst T dX8_brings_10 ?_
    exact rI T (u := N) hr hk hK hP hS dX8_brings_11 (by skip; unfold sBring; (repeat' split) <;> first | (exfalso; omega) | rfl)
set_option maxHeartbeats 4000000 in
set_option maxRecDepth 100000 in
theorem c_X8_smashes (l : Launch) (K : KT) (o : Nat) (N B SS TT F : Int → Int) (lk gd un wt : Int) (r_lk : -2147483648 ≤ lk ∧ lk ≤ 2147483647) (r_gd : -2147483648 ≤ gd ∧ gd ≤ 2147483647) (r_un : -2147483648 ≤ un ∧ un ≤ 2147483647) (r_wt : -2147483648 ≤ wt ∧ wt ≤ 2147483647) (hI : Inv N) : CtI l yX8_smashes cX8_smashes 6 .int 3 66 K [.ref o, .int (iI lk), .int (iI gd), .int (iI un), .int (iI wt)] (mW K o N B SS TT F) (Blk o 5) (fun (z : Int) (u : Int → Int) => (z, u) = sSmash N lk gd un wt) (fun u => mW K o u B SS TT F) := by
  refine CtI_of (by decide) (Nat.le_of_ble_eq_true rfl) ?_
  intro p e s m args below meth c T hr hk hP hK ls hl
  have T : CF p m c cX8_smashes 6 s args RX8 := T
  have hS : va_S (Blk o 5) s.heap s.heap [] := va_S.rf
  have hl : lv_has ls 6 [(0, .ref o), (1, .int (iI lk)), (2, .int (iI gd)), (3, .int (iI un)), (4, .int (iI wt))] := hl
  obtain ⟨hI0, hIL, hIH, hIB, hID, hIC, hIG, hIZ⟩ := id hI
  have hR : InR N := ⟨hI0, hIB⟩
  obtain ⟨b0, b1, b2, b3, b4, b5, b6, b7, b8, b9⟩ := id hI0
  refine lv_aload_n T.1 T.2.1 dX8_smashes_0 rfl (lv_at hl 0 rfl) ?_
  refine lv_iload_n T.1 T.2.1 dX8_smashes_1 rfl (lv_at hl 1 rfl) ?_
  refine lv_iload_n T.1 T.2.1 dX8_smashes_2 rfl (lv_at hl 2 rfl) ?_
  refine lv_iload_n T.1 T.2.1 dX8_smashes_3 rfl (lv_at hl 3 rfl) ?_
  refine cI_V T hK hP hS 0 rfl rfl rfl (c_X8_isMove l K o N B SS TT F lk gd un (by omega) (by omega) (by omega) hI) iX8_isMove mw_4_31 ⟨Nat.le_of_ble_eq_true rfl, Nat.le_of_ble_eq_true rfl⟩ hP noA rfl hl.1 rfl (Nat.le_of_ble_eq_true rfl) ⟨Nat.zero_le _, Nat.zero_le _⟩ dX8_smashes_4 (fun z1 _ H1 locs q2 hP1 hg1 hg2 hS => ?_)
  have hP := xP_kept hP hg2
  generalize H1 = H at hP hS ⊢
  clear hg1 hg2 hP1
  rcases q2 with ⟨rfl, q2⟩ | ⟨rfl, q2⟩
  · skip
    refine xv_if_eq T (by omega) (tgt := 21) dX8_smashes_7 (by decide) (fun c3 => absurd c3 (by omega)) (fun _ => ?_)
    refine lv_iload T.1 T.2.1 dX8_smashes_10 (lv_at hl 4 rfl) ?_
    refine xv_iconst T dX8_smashes_12 ?_
    refine xv_bipush T dX8_smashes_13 (by omega) ?_
    refine cI_S T hK hP hS (c_X8_in l K wt 0 9 (by omega) (by omega) (by omega)) iX8_in mw_4_12 ⟨Nat.le_of_ble_eq_true rfl, Nat.le_of_ble_eq_true rfl⟩ xP_nil noA rfl hl.1 rfl (Nat.le_of_ble_eq_true rfl) ⟨Nat.zero_le _, Nat.zero_le _⟩ dX8_smashes_15 (fun z4 _ H1 locs q5 hP1 hg1 hg2 hS => ?_)
    have hP := xP_kept hP hg2
    generalize H1 = H at hP hS ⊢
    clear hg1 hg2 hP1
    rcases q5 with ⟨rfl, q5⟩ | ⟨rfl, q5⟩
    · skip
      refine xv_if_ne T (by omega) (tgt := 23) dX8_smashes_18 (by decide) (fun _ => ?_) (fun c6 => absurd c6 (by omega))
      refine xv_bipush T dX8_smashes_23 (by omega) ?_
      refine lv_iload_n T.1 T.2.1 dX8_smashes_25 rfl (lv_at hl 1 rfl) ?_
      refine xv_imul T dX8_smashes_26 ?_
      refine lv_iload_n T.1 T.2.1 dX8_smashes_27 rfl (lv_at hl 2 rfl) ?_
      refine xv_iadd T dX8_smashes_28 ?_
      refine lv_istore (lv' := [(5, .int (iI (8 * lk + gd))), (0, .ref o), (1, .int (iI lk)), (2, .int (iI gd)), (3, .int (iI un)), (4, .int (iI wt))]) T.1 T.2.1 dX8_smashes_29 hl (by decide) rfl (fun ls hl => ?_)
      refine lv_aload_n T.1 T.2.1 dX8_smashes_31 rfl (lv_at hl 1 rfl) ?_
      refine g8_now T hK hP 0 rfl rfl mw_3_172 dX8_smashes_32 ?_
      refine xv_iconst T dX8_smashes_35 ?_
      refine xa_iald T hK hP 1 rfl rfl 0 (by omega) (by omega) (by decide) dX8_smashes_36 ?_
      refine xv_if_ne T (by omega) (tgt := 54) dX8_smashes_37 (by decide) (fun c7 => ?_) (fun c7 => ?_)
      · skip
        refine xv_bipush T dX8_smashes_54 (by omega) ?_
        exact rI T (u := N) hr hk hK hP hS dX8_smashes_56 (by skip; unfold sSmash; (repeat' split) <;> first | (exfalso; omega) | rfl)
      · skip
        refine lv_aload_n T.1 T.2.1 dX8_smashes_40 rfl (lv_at hl 1 rfl) ?_
        refine g8_now T hK hP 0 rfl rfl mw_3_172 dX8_smashes_41 ?_
        refine xv_bipush T dX8_smashes_44 (by omega) ?_
        refine lv_iload T.1 T.2.1 dX8_smashes_46 (lv_at hl 0 rfl) ?_
        refine xv_iadd T dX8_smashes_48 ?_
        refine xa_iald T hK hP 1 rfl rfl (24 + 8 * lk + gd) (by omega) (by omega) (by decide) dX8_smashes_49 ?_
        have f8 := hIH lk gd (by omega) (by omega) (by omega) (by omega)
        refine lv_iload_n T.1 T.2.1 dX8_smashes_50 rfl (lv_at hl 4 rfl) ?_
        refine xv_icmp_ge T (by omega) (tgt := 57) dX8_smashes_51 (by decide) (fun c9 => ?_) (fun c9 => ?_)
        · skip
          refine lv_aload_n T.1 T.2.1 dX8_smashes_57 rfl (lv_at hl 1 rfl) ?_
          refine g8_now T hK hP 0 rfl rfl mw_3_172 dX8_smashes_58 ?_
          refine xv_bipush T dX8_smashes_61 (by omega) ?_
          refine lv_iload T.1 T.2.1 dX8_smashes_63 (lv_at hl 0 rfl) ?_
          refine xv_iadd T dX8_smashes_65 ?_
          refine lv_dup2_11 T.1 T.2.1 dX8_smashes_66 rfl rfl ?_
          refine xa_iald T hK hP 1 rfl rfl (24 + 8 * lk + gd) (by omega) (by omega) (by decide) dX8_smashes_67 ?_
          refine lv_iload_n T.1 T.2.1 dX8_smashes_68 rfl (lv_at hl 4 rfl) ?_
          refine xv_isub T dX8_smashes_69 ?_
          refine xa_iast T hK hP (m_D K o N B SS TT F) hS 1 rfl rfl (by omega) (by decide) dX8_smashes_70 (mu_N K o N B SS TT F (N (24 + 8 * lk + gd) - un) (by omega)) (fun H locs hP hS => ?_)
          obtain ⟨N10, hN10⟩ : ∃ M : Int → Int, M = uZ N (24 + (8 * lk + gd)) (N (24 + 8 * lk + gd) - un) := ⟨_, rfl⟩
          have hP : xP K (mW K o N10 B SS TT F) H := by rw [hN10]; exact hP
          rw [show 24 + (8 * lk + gd) = 24 + 8 * lk + gd by omega] at hN10
          have hrs := has_rest hI (l := lk) (g := gd) (by omega) (by omega)
          refine lv_iload T.1 T.2.1 dX8_smashes_71 (lv_at hl 5 rfl) ?_
          refine xv_if_le T (by omega) (tgt := 84) dX8_smashes_73 (by decide) (fun c11 => ?_) (fun c11 => ?_)
          · skip
            refine lv_aload_n T.1 T.2.1 dX8_smashes_84 rfl (lv_at hl 1 rfl) ?_
            refine g8_now T hK hP 0 rfl rfl mw_3_172 dX8_smashes_85 ?_
            refine xv_bipush T dX8_smashes_88 (by omega) ?_
            refine lv_iload T.1 T.2.1 dX8_smashes_90 (lv_at hl 0 rfl) ?_
            refine xv_iadd T dX8_smashes_92 ?_
            refine lv_dup2_11 T.1 T.2.1 dX8_smashes_93 rfl rfl ?_
            refine xa_iald T hK hP 1 rfl rfl (64 + 8 * lk + gd) (by omega) (by omega) (by decide) dX8_smashes_94 ?_
            refine xv_cv (b := N (64 + 8 * lk + gd)) (by rw [hN10, uZ_ne (by omega)]) ?_
            refine lv_iload_n T.1 T.2.1 dX8_smashes_95 rfl (lv_at hl 4 rfl) ?_
            refine xv_iadd T dX8_smashes_96 ?_
            refine xa_iast T hK hP (m_D K o N10 B SS TT F) hS 1 rfl rfl (by omega) (by decide) dX8_smashes_97 (mu_N K o N10 B SS TT F (N (64 + 8 * lk + gd) + un) (by omega)) (fun H locs hP hS => ?_)
            obtain ⟨N12, hN12⟩ : ∃ M : Int → Int, M = uZ N10 (64 + (8 * lk + gd)) (N (64 + 8 * lk + gd) + un) := ⟨_, rfl⟩
            have hP : xP K (mW K o N12 B SS TT F) H := by rw [hN12]; exact hP
            rw [show 64 + (8 * lk + gd) = 64 + 8 * lk + gd by omega] at hN12
            refine xv_iconst T dX8_smashes_98 ?_
            exact rI T (u := N12) hr hk hK hP hS dX8_smashes_99 (by subst hN12 hN10; unfold sSmash; (repeat' split) <;> first | (exfalso; omega) | rfl)
          · skip
            refine lv_aload_n T.1 T.2.1 dX8_smashes_76 rfl (lv_at hl 1 rfl) ?_
            refine lv_iload_n T.1 T.2.1 dX8_smashes_77 rfl (lv_at hl 3 rfl) ?_
            refine lv_iload_n T.1 T.2.1 dX8_smashes_78 rfl (lv_at hl 4 rfl) ?_
            refine xv_iconst T dX8_smashes_79 ?_
            refine cI_V T hK hP hS 0 rfl rfl rfl (c_X8_releases l K o N10 B SS TT F gd un 2 (by omega) (by omega) (by omega) (by rw [hN10, rest_has gd (by omega) (by omega)]; omega) (by rw [hN10]; exact inR_has hR (by omega))) iX8_releases mw_4_81 ⟨Nat.le_of_ble_eq_true rfl, Nat.le_of_ble_eq_true rfl⟩ hP (fun _ h => h) rfl hl.1 rfl (Nat.le_of_ble_eq_true rfl) ⟨Nat.zero_le _, Nat.zero_le _⟩ dX8_smashes_80 (fun bvz Nz H1 locs qzz hP1 hg1 hg2 hS => ?_)
            have hP : xP K (mW K o Nz B SS TT F) H1 := hP1
            generalize H1 = H at hP hS ⊢
            clear hg1 hg2 hP1
            obtain ⟨hvz, hNz⟩ := qzz
            subst hvz
            exact rI T (u := Nz) hr hk hK hP hS dX8_smashes_83 (by subst hNz hN10; unfold sSmash; (repeat' split) <;> first | (exfalso; omega) | rfl)
        · skip
          refine xv_bipush T dX8_smashes_54 (by omega) ?_
          exact rI T (u := N) hr hk hK hP hS dX8_smashes_56 (by skip; unfold sSmash; (repeat' split) <;> first | (exfalso; omega) | rfl)
    · skip
      refine xv_if_ne T (by omega) (tgt := 23) dX8_smashes_18 (by decide) (fun c13 => absurd c13 (by omega)) (fun _ => ?_)
      refine xv_iconst T dX8_smashes_21 ?_
      exact rI T (u := N) hr hk hK hP hS dX8_smashes_22 (by skip; unfold sSmash; (repeat' split) <;> first | (exfalso; omega) | rfl)
  · skip
    refine xv_if_eq T (by omega) (tgt := 21) dX8_smashes_7 (by decide) (fun _ => ?_) (fun c14 => absurd c14 (by omega))
    refine xv_iconst T dX8_smashes_21 ?_
    exact rI T (u := N) hr hk hK hP hS dX8_smashes_22 (by skip; unfold sSmash; (repeat' split) <;> first | (exfalso; omega) | rfl)
set_option maxHeartbeats 4000000 in
set_option maxRecDepth 100000 in
theorem c_X8_tears (l : Launch) (K : KT) (o : Nat) (N B SS TT F : Int → Int) (lk : Int) (r_lk : -2147483648 ≤ lk ∧ lk ≤ 2147483647) (hI : Inv N) : CtI l yX8_tears cX8_tears 2 .int 2 43 K [.ref o, .int (iI lk)] (mW K o N B SS TT F) (Blk o 5) (fun (z : Int) (u : Int → Int) => (z, u) = sTear N lk) (fun u => mW K o u B SS TT F) := by
  refine CtI_of (by decide) (Nat.le_of_ble_eq_true rfl) ?_
  intro p e s m args below meth c T hr hk hP hK ls hl
  have T : CF p m c cX8_tears 2 s args RX8 := T
  have hS : va_S (Blk o 5) s.heap s.heap [] := va_S.rf
  have hl : lv_has ls 2 [(0, .ref o), (1, .int (iI lk))] := hl
  obtain ⟨hI0, hIL, hIH, hIB, hID, hIC, hIG, hIZ⟩ := id hI
  have hR : InR N := ⟨hI0, hIB⟩
  obtain ⟨b0, b1, b2, b3, b4, b5, b6, b7, b8, b9⟩ := id hI0
  refine lv_aload_n T.1 T.2.1 dX8_tears_0 rfl (lv_at hl 0 rfl) ?_
  refine lv_iload_n T.1 T.2.1 dX8_tears_1 rfl (lv_at hl 1 rfl) ?_
  refine cI_V T hK hP hS 0 rfl rfl rfl (c_X8_isLocker l K o N B SS TT F lk (by omega) hI) iX8_isLocker mw_4_35 ⟨Nat.le_of_ble_eq_true rfl, Nat.le_of_ble_eq_true rfl⟩ hP noA rfl hl.1 rfl (Nat.le_of_ble_eq_true rfl) ⟨Nat.zero_le _, Nat.zero_le _⟩ dX8_tears_2 (fun z1 _ H1 locs q2 hP1 hg1 hg2 hS => ?_)
  have hP := xP_kept hP hg2
  generalize H1 = H at hP hS ⊢
  clear hg1 hg2 hP1
  rcases q2 with ⟨rfl, q2⟩ | ⟨rfl, q2⟩
  · skip
    refine xv_if_ne T (by omega) (tgt := 10) dX8_tears_5 (by decide) (fun _ => ?_) (fun c3 => absurd c3 (by omega))
    refine lv_aload_n T.1 T.2.1 dX8_tears_10 rfl (lv_at hl 0 rfl) ?_
    refine g8_now T hK hP 0 rfl rfl mw_3_172 dX8_tears_11 ?_
    refine xv_bipush T dX8_tears_14 (by omega) ?_
    refine lv_iload_n T.1 T.2.1 dX8_tears_16 rfl (lv_at hl 1 rfl) ?_
    refine xv_iadd T dX8_tears_17 ?_
    refine xa_iald T hK hP 1 rfl rfl (14 + lk) (by omega) (by omega) (by decide) dX8_tears_18 ?_
    have f4 := hIL lk (by omega) (by omega)
    refine xv_iconst T dX8_tears_19 ?_
    refine xv_icmp_eq T (by omega) (tgt := 26) dX8_tears_20 (by decide) (fun c5 => ?_) (fun c5 => ?_)
    · skip
      refine lv_aload_n T.1 T.2.1 dX8_tears_26 rfl (lv_at hl 0 rfl) ?_
      refine g8_now T hK hP 0 rfl rfl mw_3_172 dX8_tears_27 ?_
      refine xv_bipush T dX8_tears_30 (by omega) ?_
      refine lv_iload_n T.1 T.2.1 dX8_tears_32 rfl (lv_at hl 1 rfl) ?_
      refine xv_iadd T dX8_tears_33 ?_
      refine xv_iconst T dX8_tears_34 ?_
      refine xa_iast T hK hP (m_D K o N B SS TT F) hS 1 rfl rfl (by omega) (by decide) dX8_tears_35 (mu_N K o N B SS TT F 2 (by omega)) (fun H locs hP hS => ?_)
      obtain ⟨N6, hN6⟩ : ∃ M : Int → Int, M = uZ N (14 + lk) 2 := ⟨_, rfl⟩
      have hP : xP K (mW K o N6 B SS TT F) H := by rw [hN6]; exact hP
      refine lv_aload_n T.1 T.2.1 dX8_tears_36 rfl (lv_at hl 0 rfl) ?_
      refine g8_now T hK hP 0 rfl rfl mw_3_172 dX8_tears_37 ?_
      refine xv_sipush T dX8_tears_40 (by omega) ?_
      refine lv_aload_n T.1 T.2.1 dX8_tears_43 rfl (lv_at hl 0 rfl) ?_
      refine g8_now T hK hP 0 rfl rfl mw_3_172 dX8_tears_44 ?_
      refine xv_bipush T dX8_tears_47 (by omega) ?_
      refine lv_iload_n T.1 T.2.1 dX8_tears_49 rfl (lv_at hl 1 rfl) ?_
      refine xv_iadd T dX8_tears_50 ?_
      refine xa_iald T hK hP 1 rfl rfl (19 + lk) (by omega) (by omega) (by decide) dX8_tears_51 ?_
      refine xv_cv (b := N (19 + lk)) (by rw [hN6, uZ_ne (by omega)]) ?_
      refine xv_iadd T dX8_tears_52 ?_
      refine xv_iconst T dX8_tears_53 ?_
      refine xa_iast T hK hP (m_D K o N6 B SS TT F) hS 1 rfl rfl (by omega) (by decide) dX8_tears_54 (mu_N K o N6 B SS TT F 3 (by omega)) (fun H locs hP hS => ?_)
      obtain ⟨N7, hN7⟩ : ∃ M : Int → Int, M = uZ N6 (854 + (N (19 + lk))) 3 := ⟨_, rfl⟩
      have hP : xP K (mW K o N7 B SS TT F) H := by rw [hN7]; exact hP
      rw [show 854 + (N (19 + lk)) = 854 + N (19 + lk) by omega] at hN7
      refine lv_aload_n T.1 T.2.1 dX8_tears_55 rfl (lv_at hl 0 rfl) ?_
      refine g8_now T hK hP 0 rfl rfl mw_3_172 dX8_tears_56 ?_
      refine xv_bipush T dX8_tears_59 (by omega) ?_
      refine lv_iload_n T.1 T.2.1 dX8_tears_61 rfl (lv_at hl 1 rfl) ?_
      refine xv_iadd T dX8_tears_62 ?_
      refine xa_iald T hK hP 1 rfl rfl (19 + lk) (by omega) (by omega) (by decide) dX8_tears_63 ?_
      refine xv_cv (b := N (19 + lk)) (by rw [hN7, uZ_ne (by omega), hN6, uZ_ne (by omega)]) ?_
      exact rI T (u := N7) hr hk hK hP hS dX8_tears_64 (by subst hN7 hN6; unfold sTear; (repeat' split) <;> first | (exfalso; omega) | rfl)
    · skip
      refine xv_bipush T dX8_tears_23 (by omega) ?_
      exact rI T (u := N) hr hk hK hP hS dX8_tears_25 (by skip; unfold sTear; (repeat' split) <;> first | (exfalso; omega) | rfl)
  · skip
    refine xv_if_ne T (by omega) (tgt := 10) dX8_tears_5 (by decide) (fun c8 => absurd c8 (by omega)) (fun _ => ?_)
    refine xv_iconst T dX8_tears_8 ?_
    exact rI T (u := N) hr hk hK hP hS dX8_tears_9 (by skip; unfold sTear; (repeat' split) <;> first | (exfalso; omega) | rfl)
end
section
def kpR (k : Int) : Prop := k < 10 ∨ (14 ≤ k ∧ k < 120) ∨ (152 ≤ k ∧ k < 272) ∨ 332 ≤ k
theorem byF_in {N : Int → Int} {g p u : Int} (h : ¬ u ≤ 0) (hb : 0 < N (272 + nxt N g p)) : 1 ≤ byF N g p u ∧ byF N g p u ≤ u ∧ byF N g p u ≤ N (272 + nxt N g p) := by
  unfold byF
  split <;> omega
theorem relF_all : ∀ (n : Nat) {N : Int → Int} {g u r : Int}, InR N → 0 ≤ g ∧ g < 8 → 0 ≤ r ∧ r < 4 → 0 ≤ u → u ≤ (n : Int) → u ≤ restF N g → InR (relF n N g u r).1 ∧ (∀ k, kpR k → (relF n N g u r).1 k = N k) ∧ restF (relF n N g u r).1 g = restF N g - u ∧ ∀ g2, g2 ≠ g → restF (relF n N g u r).1 g2 = restF N g2
  | 0, N, g, u, r, hR, hg, hr, h0, hn, hu => by
    rw [relF_0 (by omega)]
    exact ⟨hR, fun k _ => rfl, by show restF N g = restF N g - u; omega, fun g2 _ => rfl⟩
  | n + 1, N, g, u, r, hR, hg, hr, h0, hn, hu => by
    by_cases hu0 : u ≤ 0
    · rw [relF_0 hu0]
      exact ⟨hR, fun k _ => rfl, by show restF N g = restF N g - u; omega, fun g2 _ => rfl⟩
    · have hb := nx_pos (by omega) (nxt_is N g (-1))
      have hf := hR.2 _ hb.1.1 hb.1.2
      have hbd := hR.1
      obtain ⟨b0, b1, b2, b3, b4, b5, b6, b7, b8, b9⟩ := hbd
      have hby := byF_in hu0 hb.2.1
      have hgd : N (152 + nxt N g (-1)) = g := by omega
      have h1 := takeF_R (u := byF N g (-1) u) (r := r) hR hb.1 (by omega) hr
      have h2 := takeF_rest (u := byF N g (-1) u) (r := r) hR hb.1 hr
      rw [hgd] at h2
      obtain ⟨i1, i2, i3, i4⟩ := relF_all n h1 hg hr (u := u - byF N g (-1) u) (by omega) (by omega) (by omega)
      rw [relF_s hu0]
      refine ⟨i1, fun k hk => ?_, by rw [i3]; omega, fun g2 h3 => ?_⟩
      · unfold kpR at hk
        rw [i2 k hk]
        exact takeF_ne (by omega) (by omega) (by omega)
      · rw [i4 g2 h3]
        exact takeF_rest2 hR hb.1 hr (by rw [hgd]; exact h3)
/-- the missing units of the locker l are taxed, good by good -/
noncomputable def insF : Nat → (Int → Int) → Int → (Int → Int)
  | 0, N, _ => N
  | n + 1, N, l => uZ (relF ((insF n N l) (64 + 8 * l + (n : Int))).toNat (insF n N l) (n : Int) ((insF n N l) (64 + 8 * l + (n : Int))) 3).1 (64 + 8 * l + (n : Int)) 0
theorem insF_s {N : Int → Int} {l i : Int} (h : 0 ≤ i) : insF (i + 1).toNat N l = uZ (relF ((insF i.toNat N l) (64 + 8 * l + i)).toNat (insF i.toNat N l) i ((insF i.toNat N l) (64 + 8 * l + i)) 3).1 (64 + 8 * l + i) 0 := by
  rw [show (i + 1).toNat = i.toNat + 1 by omega]
  show uZ (relF ((insF i.toNat N l) (64 + 8 * l + ((i.toNat : Nat) : Int))).toNat (insF i.toNat N l) ((i.toNat : Nat) : Int) ((insF i.toNat N l) (64 + 8 * l + ((i.toNat : Nat) : Int))) 3).1 (64 + 8 * l + ((i.toNat : Nat) : Int)) 0 = _
  rw [Int.toNat_of_nonneg h]
def finF (N : Int → Int) (l : Int) : Int := if N (14 + l) = 2 then N 2 else 0
noncomputable def dueF (N : Int → Int) (l : Int) : Int := finF N l + sumZ (fun g => worA N g (N (64 + 8 * l + g))) (N 5).toNat
noncomputable def sInspect (N : Int → Int) (l : Int) : Int × (Int → Int) := if ¬ (0 ≤ l ∧ l < N 4) then (-1, N) else if N 0 ≠ 2 then (-2, N) else if ¬ N 7 + 1 ≤ 200 ∨ ¬ lI (dueF N l) ≤ lI 2147483647 then (-3, N) else (dueF N l, sealsF (insF (N 5).toNat (offF (uZ N 8 (N 8 + finF N l)) l 2) l) l)
def cntF (N : Int → Int) (h : Int) : Int := sumZ (fun k => if N (14 + k) = h then 1 else 0) (N 4).toNat
theorem cntF_in {N : Int → Int} (h : Int) (h4 : 0 ≤ N 4) : 0 ≤ cntF N h ∧ cntF N h ≤ N 4 := by
  constructor
  · exact sumZ_nonneg _ fun k a b => by split <;> omega
  · have h1 : cntF N h ≤ sumZ (fun _ => (1 : Int)) (N 4).toNat := sumZ_le _ fun k a b => by split <;> omega
    rw [sumZ_const] at h1
    omega
theorem cntF_all {N : Int → Int} {h : Int} (h4 : 0 ≤ N 4) (ha : ∀ l : Int, 0 ≤ l → l < N 4 → N (14 + l) = h) : cntF N h = N 4 := by
  have h1 : cntF N h = sumZ (fun _ => (1 : Int)) (N 4).toNat := sumZ_congr _ fun k a b => if_pos (ha k a (by omega))
  rw [h1, sumZ_const]
  omega
/-- the lockers 0 .. n-1 are opened, or sealed -/
def crF : Nat → (Int → Int) → Int → Int → (Int → Int)
  | 0, N, _, _ => N
  | n + 1, N, z, w => if z = 0 then uZ (offF (crF n N z w) (n : Int) 1) (14 + (n : Int)) 0 else if w = 0 then sealsF (crF n N z w) (n : Int) else crF n N z w
theorem crF_s {N : Int → Int} {z w i : Int} (h : 0 ≤ i) : crF (i + 1).toNat N z w = if z = 0 then uZ (offF (crF i.toNat N z w) i 1) (14 + i) 0 else if w = 0 then sealsF (crF i.toNat N z w) i else crF i.toNat N z w := by
  rw [show (i + 1).toNat = i.toNat + 1 by omega]
  show (if z = 0 then uZ (offF (crF i.toNat N z w) ((i.toNat : Nat) : Int) 1) (14 + ((i.toNat : Nat) : Int)) 0 else if w = 0 then sealsF (crF i.toNat N z w) ((i.toNat : Nat) : Int) else crF i.toNat N z w) = _
  rw [Int.toNat_of_nonneg h]
def howmF (N : Int → Int) (z : Int) : Int := if N 0 = 0 then cntF N 0 else if z = 0 then cntF N 1 else 0
def sCross (N : Int → Int) (z : Int) : Int × (Int → Int) := if ¬ (0 ≤ z ∧ z ≤ 2) then (-1, N) else if N 0 = z ∨ N 0 + z = 2 then (-2, N) else if N 0 = 0 ∧ ¬ N 7 + howmF N z ≤ 200 then (-3, N) else (howmF N z, crF (N 4).toNat (uZ N 0 z) z (N 0))
/-- the places where units of a good are looked for: missing ones, then those in lockers -/
def atF (k g : Int) : Int := if k < 5 then 64 + 8 * k + g else 24 + 8 * (k - 5) + g
def minF (a b : Int) : Int := if a ≤ b then a else b
def losF : Nat → (Int → Int) → Int → Int → (Int → Int) × Int
  | 0, N, _, u => (N, u)
  | n + 1, N, g, u => (uZ (losF n N g u).1 (atF (n : Int) g) ((losF n N g u).1 (atF (n : Int) g) - minF (losF n N g u).2 ((losF n N g u).1 (atF (n : Int) g))), (losF n N g u).2 - minF (losF n N g u).2 ((losF n N g u).1 (atF (n : Int) g)))
theorem losF_s {N : Int → Int} {g u i : Int} (h : 0 ≤ i) : losF (i + 1).toNat N g u = (uZ (losF i.toNat N g u).1 (atF i g) ((losF i.toNat N g u).1 (atF i g) - minF (losF i.toNat N g u).2 ((losF i.toNat N g u).1 (atF i g))), (losF i.toNat N g u).2 - minF (losF i.toNat N g u).2 ((losF i.toNat N g u).1 (atF i g))) := by
  rw [show (i + 1).toNat = i.toNat + 1 by omega]
  show (uZ (losF i.toNat N g u).1 (atF ((i.toNat : Nat) : Int) g) ((losF i.toNat N g u).1 (atF ((i.toNat : Nat) : Int) g) - minF (losF i.toNat N g u).2 ((losF i.toNat N g u).1 (atF ((i.toNat : Nat) : Int) g))), (losF i.toNat N g u).2 - minF (losF i.toNat N g u).2 ((losF i.toNat N g u).1 (atF ((i.toNat : Nat) : Int) g))) = _
  rw [Int.toNat_of_nonneg h]
theorem minF_of {a b z : Int} (h : z ≤ a ∧ z ≤ b ∧ (z = a ∨ z = b)) : z = minF a b := by
  unfold minF
  split <;> omega
/-- bonds that have run out before the day are taxed, one after another -/
noncomputable def roF : Nat → (Int → Int) → (Int → Int) × Int
  | 0, N => (N, 0)
  | n + 1, N => if nxt N (-1) (-1) < 0 ∨ N 1 ≤ N (392 + nxt N (-1) (-1)) then (N, 0) else ((roF n (losF 10 (takeF N (nxt N (-1) (-1)) (N (272 + nxt N (-1) (-1))) 3) (N (152 + nxt N (-1) (-1))) (N (272 + nxt N (-1) (-1)))).1).1, N (272 + nxt N (-1) (-1)) * N (332 + nxt N (-1) (-1)) + (roF n (losF 10 (takeF N (nxt N (-1) (-1)) (N (272 + nxt N (-1) (-1))) 3) (N (152 + nxt N (-1) (-1))) (N (272 + nxt N (-1) (-1)))).1).2)
theorem roF_0 {n : Nat} {N : Int → Int} (h : nxt N (-1) (-1) < 0 ∨ N 1 ≤ N (392 + nxt N (-1) (-1))) : roF n N = (N, 0) := by
  cases n with
  | zero => rfl
  | succ n => exact if_pos h
theorem roF_s {n : Nat} {N : Int → Int} (h : ¬ (nxt N (-1) (-1) < 0 ∨ N 1 ≤ N (392 + nxt N (-1) (-1)))) : roF (n + 1) N = ((roF n (losF 10 (takeF N (nxt N (-1) (-1)) (N (272 + nxt N (-1) (-1))) 3) (N (152 + nxt N (-1) (-1))) (N (272 + nxt N (-1) (-1)))).1).1, N (272 + nxt N (-1) (-1)) * N (332 + nxt N (-1) (-1)) + (roF n (losF 10 (takeF N (nxt N (-1) (-1)) (N (272 + nxt N (-1) (-1))) 3) (N (152 + nxt N (-1) (-1))) (N (272 + nxt N (-1) (-1)))).1).2) := if_neg h
/-- bonds that have units left -/
def livF (N : Int → Int) : Int := sumZ (fun b => if 0 < N (272 + b) then 1 else 0) (N 6).toNat
/-- days go by, one after another -/
noncomputable def dayF : Nat → (Int → Int) → (Int → Int) × Int
  | 0, N => (N, 0)
  | d + 1, N => ((roF 61 (uZ (dayF d N).1 1 ((dayF d N).1 1 + 1))).1, (dayF d N).2 + (roF 61 (uZ (dayF d N).1 1 ((dayF d N).1 1 + 1))).2)
theorem dayF_s {N : Int → Int} {i : Int} (h : 0 ≤ i) : dayF (i + 1).toNat N = ((roF 61 (uZ (dayF i.toNat N).1 1 ((dayF i.toNat N).1 1 + 1))).1, (dayF i.toNat N).2 + (roF 61 (uZ (dayF i.toNat N).1 1 ((dayF i.toNat N).1 1 + 1))).2) := by
  rw [show (i + 1).toNat = i.toNat + 1 by omega]
  rfl
noncomputable def sPass (N : Int → Int) (d : Int) : Int × (Int → Int) := if ¬ (1 ≤ d ∧ d ≤ 60) then (-1, N) else if 5000 < N 1 + d then (-3, N) else ((dayF d.toNat N).2, (dayF d.toNat N).1)
theorem livF_in {N : Int → Int} (h : 0 ≤ N 6) : 0 ≤ livF N ∧ livF N ≤ N 6 := by
  constructor
  · exact sumZ_nonneg _ fun k a b => by split <;> omega
  · have h1 : livF N ≤ sumZ (fun _ => (1 : Int)) (N 6).toNat := sumZ_le _ fun k a b => by split <;> omega
    rw [sumZ_const] at h1
    omega
theorem livF_eq {N M : Int → Int} (h6 : M 6 = N 6) (h : ∀ b : Int, 0 ≤ b → b < N 6 → M (272 + b) = N (272 + b)) : livF M = livF N := by
  unfold livF
  rw [h6]
  exact sumZ_congr _ fun k h1 h2 => by rw [h k h1 (by omega)]
theorem livF_take {N : Int → Int} {b r : Int} (h : InR N) (hb : 0 ≤ b ∧ b < N 6) (hr : 0 ≤ r ∧ r < 4) (hp : 0 < N (272 + b)) : livF (takeF N b (N (272 + b)) r) = livF N - 1 := by
  obtain ⟨h0, hB⟩ := h
  have ho := hB b hb.1 hb.2
  obtain ⟨b0, b1, b2, b3, b4, b5, b6, b7, b8, b9⟩ := h0
  unfold livF
  rw [takeF_ne (k := 6) (by omega) (by omega) (by omega)]
  rw [sumZ_one (f := fun k => if 0 < N (272 + k) then 1 else 0) (i := b) (d := -1) (N 6).toNat hb.1 (by omega) ?_ ?_]
  · omega
  · rw [takeF_at (by omega) hr (by omega), if_pos hp, if_neg (by omega)]
    rfl
  · intro k h1 h2 h3
    rw [takeF_ne (k := 272 + k) (by omega) (by omega) (by omega)]
theorem atF_in {k g : Int} (hk : 0 ≤ k ∧ k < 10) (hg : 0 ≤ g ∧ g < 8) : 24 ≤ atF k g ∧ atF k g < 104 := by
  unfold atF
  split <;> omega
theorem losF_ne : ∀ (n : Nat) {N : Int → Int} {g u k : Int}, n ≤ 10 → 0 ≤ g ∧ g < 8 → k < 24 ∨ 104 ≤ k → (losF n N g u).1 k = N k
  | 0, N, g, u, k, _, _, _ => rfl
  | n + 1, N, g, u, k, hn, hg, hk => by
    have ha := atF_in (k := (n : Int)) (by omega) hg
    show uZ (losF n N g u).1 (atF (n : Int) g) _ k = _
    rw [uZ_ne (by omega), losF_ne n (by omega) hg hk]
theorem losF_R {N : Int → Int} {g u : Int} (h : InR N) (hg : 0 ≤ g ∧ g < 8) : InR (losF 10 N g u).1 := by
  have h0 := h.1
  obtain ⟨b0, b1, b2, b3, b4, b5, b6, b7, b8, b9⟩ := h0
  exact inR_eq h (in0_of h.1 (fun k h1 h2 h3 => losF_ne 10 (by omega) hg (by omega)) (by rw [losF_ne 10 (by omega) hg (by omega)]; omega)) (losF_ne 10 (by omega) hg (by omega)) (losF_ne 10 (by omega) hg (by omega)) fun k h1 h2 => losF_ne 10 (by omega) hg (by omega)
/-- cells of lockers are not below 0, nor out of the way of an int -/
def InK (N : Int → Int) : Prop := ∀ l g : Int, 0 ≤ l → l < 5 → 0 ≤ g → g < 8 → (0 ≤ N (24 + 8 * l + g) ∧ N (24 + 8 * l + g) ≤ 600000) ∧ (0 ≤ N (64 + 8 * l + g) ∧ N (64 + 8 * l + g) ≤ 600000)
theorem inK_up {N : Int → Int} {i v : Int} (h : InK N) (hv : 0 ≤ v ∧ v ≤ 600000) : InK (uZ N i v) := by
  intro l g a b c d
  have := h l g a b c d
  unfold uZ
  constructor <;> split <;> omega
theorem inK_at {N : Int → Int} {k g : Int} (h : InK N) (hk : 0 ≤ k ∧ k < 10) (hg : 0 ≤ g ∧ g < 8) : 0 ≤ N (atF k g) ∧ N (atF k g) ≤ 600000 := by
  unfold atF
  split
  · exact (h k g (by omega) (by omega) hg.1 hg.2).2
  · exact (h (k - 5) g (by omega) (by omega) hg.1 hg.2).1
theorem losF_K : ∀ (n : Nat) {N : Int → Int} {g u : Int}, n ≤ 10 → 0 ≤ g ∧ g < 8 → 0 ≤ u → InK N → InK (losF n N g u).1 ∧ 0 ≤ (losF n N g u).2 ∧ (losF n N g u).2 ≤ u
  | 0, N, g, u, _, _, hu, h => ⟨h, hu, Int.le_refl u⟩
  | n + 1, N, g, u, hn, hg, hu, h => by
    obtain ⟨h1, h2, h3⟩ := losF_K n (by omega) hg hu h
    have ha := inK_at h1 (k := (n : Int)) (by omega) hg
    have hm : 0 ≤ minF (losF n N g u).2 ((losF n N g u).1 (atF (n : Int) g)) ∧ minF (losF n N g u).2 ((losF n N g u).1 (atF (n : Int) g)) ≤ (losF n N g u).2 ∧ minF (losF n N g u).2 ((losF n N g u).1 (atF (n : Int) g)) ≤ (losF n N g u).1 (atF (n : Int) g) := by
      unfold minF
      split <;> omega
    refine ⟨inK_up h1 (by omega), ?_, ?_⟩
    · show 0 ≤ (losF n N g u).2 - minF (losF n N g u).2 ((losF n N g u).1 (atF (n : Int) g))
      omega
    · show (losF n N g u).2 - minF (losF n N g u).2 ((losF n N g u).1 (atF (n : Int) g)) ≤ u
      omega
theorem inK_of {N M : Int → Int} (h : InK N) (e : ∀ k : Int, 24 ≤ k → k < 104 → M k = N k) : InK M := by
  intro l g a b c d
  rw [e (24 + 8 * l + g) (by omega) (by omega), e (64 + 8 * l + g) (by omega) (by omega)]
  exact h l g a b c d
theorem inK_inv {N : Int → Int} (h : Inv N) : InK N := by
  intro l g a b c d
  have := h.2.2.1 l g a b c d
  omega
theorem inR_day {N : Int → Int} {v : Int} (h : InR N) (hv : 0 ≤ v ∧ v ≤ 5000) : InR (uZ N 1 v) := by
  have h0 := h.1
  obtain ⟨b0, b1, b2, b3, b4, b5, b6, b7, b8, b9⟩ := h0
  refine inR_eq h ?_ (uZ_ne (by omega)) (uZ_ne (by omega)) fun k h1 h2 => uZ_ne (by omega)
  unfold In0
  rw [uZ_eq, uZ_ne (by omega), uZ_ne (by omega), uZ_ne (by omega), uZ_ne (by omega), uZ_ne (by omega), uZ_ne (by omega), uZ_ne (by omega), uZ_ne (by omega), uZ_ne (by omega)]
  omega
end
